set_option maxHeartbeats 4000000 in
set_option maxRecDepth 100000 in
theorem c_X2_divisor_s (l : Launch) (d u v : Nat) (hd : Dv d u v) (hu : u < 2 ^ 45) (hv2 : v < 2 ^ 45) (IH : ∀ d9, d = d9 + 1 → ∀ u v, Dv d9 u v → u < 2 ^ 45 → v < 2 ^ 45 → Met l yX2_divisor wsX2_divisor ({ frames := d9, cells := 0, slots := 0, locals := 24 * d9 }) (va_Pc [.long (lN u), .long (lN v)] (fun _ => True)) (rol (fun r => r = lN (Nat.gcd u v))) 0 0 (fun _ => False)) : Met l yX2_divisor wsX2_divisor ({ frames := d, cells := 0, slots := 0, locals := 24 * d }) (va_Pc [.long (lN u), .long (lN v)] (fun _ => True)) (rol (fun r => r = lN (Nat.gcd u v))) 0 0 (fun _ => False) := by
  refine Met.ofW (cc := cX2_divisor) (maxL := 4) (ret := (some .long)) (by decide +kernel) rfl ?_
  intro p e s m args below meth c9 s₁ B hml hv
  obtain ⟨rfl, -⟩ := hv
  have hx := B.exec
  have hb := B.bytes
  have hr := B.returns
  have hts := atoms_spec (ws := wsX2_divisor) B.pre
  have hown : s.vm.findClass RX2 = some m.cls := findClass_of_methodNamed B.named
  have hlocks := B.notSynchronized
  have hl := lv_entry ([.long (lN u), .long (lN v)]) (n := 4) (Nat.le_of_ble_eq_true rfl)
  rw [lg_entry_eq]
  generalize (lg_sl ([.long (lN u), .long (lN v)]) ++ List.replicate (4 - (lg_sl ([.long (lN u), .long (lN v)])).length) Slot.unset).toArray = ls at hl ⊢
  have hl : lv_has ls 4 [(0, .long (lN u)), (2, .long (lN v))] := hl
  refine lv_lload_n hx hb dX2_divisor_0 rfl (lv_at hl 1 rfl) ?_
  refine lv_lconst (v := 0) hx hb dX2_divisor_1 (by decide) ?_
  refine W.lcmp hx hb dX2_divisor_2 ?_
  refine lv_if_ne (tgt := 10) hx hb dX2_divisor_3 (by decide) (fun c_3 => ?_) (fun c_3 => ?_)
  · skip
    have c_3 := (lgc_ne _ _).mp c_3
    have hv0 : 0 < v := by
      rw [pk_lT (by omega), show (0 : Int64).toInt = 0 from rfl] at c_3; omega
    refine lv_lload_n hx hb dX2_divisor_10 rfl (lv_at hl 1 rfl) ?_
    refine lv_lload_n hx hb dX2_divisor_11 rfl (lv_at hl 0 rfl) ?_
    refine lv_lload_n hx hb dX2_divisor_12 rfl (lv_at hl 1 rfl) ?_
    refine lv_lrem hx hb dX2_divisor_13 (lN_ne0 hv0 (by omega)) ?_
    refine topL (pk_lRem (by omega) hv0 (by omega)) ?_
    obtain ⟨d9, rfl⟩ : ∃ d9, d = d9 + 1 := by
      cases d with
      | zero => exact hd.2.elim
      | succ d => exact ⟨d, rfl⟩
    have hd1 : Dv d9 v (u % v) := hd.resolve_left (by omega)
    have hm := Nat.mod_lt u hv0
    refine ro_lE (va_runS (As := [.long (lN v), .long (lN (u % v))]) (rest := []) ⟨hx, hb, hml, hown, hts⟩ (IH d9 rfl v (u % v) hd1 hv2 (by omega)) (va_cwS 2 hts gX2_divisor_X2_divisor rfl rfl rfl (by decide +kernel) ⟨Nat.le_refl (d9 + 1), (show 8 + (4 + 11) + 24 * d9 ≤ 24 * (d9 + 1) by omega)⟩) pre0 rfl rfl hl.1 rfl (lv_room (Nat.le_of_ble_eq_true rfl)) dX2_divisor_14 ⟨Nat.le_refl 0, Nat.le_refl 0⟩) ?_
    have hr9 : lN (Nat.gcd v (u % v)) = lN (Nat.gcd u v) := by rw [Nat.gcd_comm u v, Nat.gcd_rec v u, Nat.gcd_comm]
    exact W.lret (v := (lN (Nat.gcd v (u % v)))) hx hb hr (fun t9 ht hW => ⟨_, rfl, hr9, ht⟩) (fun q hq => absurd hq List.not_mem_nil) dX2_divisor_17
  · skip
    have c_3 := (lgc_eq _ _).mp c_3
    have hv0 : v = 0 := by
      rw [pk_lT (by omega), show (0 : Int64).toInt = 0 from rfl] at c_3; omega
    refine lv_lload_n hx hb dX2_divisor_6 rfl (lv_at hl 0 rfl) ?_
    refine lv_goto (tgt := 17) hx hb dX2_divisor_7 (by decide) ?_
    exact W.lret (v := (lN u)) hx hb hr (fun t9 ht hW => ⟨_, rfl, by rw [hv0, Nat.gcd_zero_right], ht⟩) (fun q hq => absurd hq List.not_mem_nil) dX2_divisor_17

set_option maxHeartbeats 4000000 in
theorem c_X2_divisor (l : Launch) : ∀ (d u v : Nat), Dv d u v → u < 2 ^ 45 → v < 2 ^ 45 → Met l yX2_divisor wsX2_divisor ({ frames := d, cells := 0, slots := 0, locals := 24 * d }) (va_Pc [.long (lN u), .long (lN v)] (fun _ => True)) (rol (fun r => r = lN (Nat.gcd u v))) 0 0 (fun _ => False) := by
  intro d
  induction d with
  | zero => exact fun u v hd hu hv => c_X2_divisor_s l 0 u v hd hu hv (fun d9 h => by omega)
  | succ d ih => exact fun u v hd hu hv => c_X2_divisor_s l (d + 1) u v hd hu hv (fun d9 h => by cases h; exact ih)

set_option maxHeartbeats 4000000 in
set_option maxRecDepth 100000 in
theorem c_X2_ratio (l : Launch) (D : va_G) (cI cJ cR : ClassId) (sz : Nat) (sm ma sa : Nat) (ra rs : Nat → Nat) (k st : Nat) (fi : Int32) (fB mM mP : Nat → Int32) (c : Nat) (t : Int32) (y : Nat) (fW fD : Nat → Int32) (fL : Nat → Int64) (La pp uu bb : Nat → Nat) (hL : LenOk k fB mM mP fL La pp uu bb) (hk8 : k ≤ 8) (jx jz : Nat) (hjx : jx < k) (hjz : jz < k) : Met l yX2_ratio wsX2_ratio ({ frames := 94, cells := 1, slots := 2, locals := 2268 }) (cPw D ([(sm, .inr (2, [.int (nI y), .int fi, .int (nI st), .int t, .ref ma, .ref sa])), (ma, .inl (cR, k, .inr (.inr (.inr (.inr (fr ra)))))), (sa, .inl (cR, c, .inr (.inr (.inr (.inr (fr rs))))))] ++ (RT cI ra rs fB mM mP fW fD k c)) sz (KM D cI cJ cR) [.ref sm, .int (nI jx), .int (nI jz)]) (wrr D ([(sm, .inr (2, [.int (nI y), .int fi, .int (nI st), .int t, .ref ma, .ref sa])), (ma, .inl (cR, k, .inr (.inr (.inr (.inr (fr ra)))))), (sa, .inl (cR, c, .inr (.inr (.inr (.inr (fr rs))))))] ++ (RT cI ra rs fB mM mP fW fD k c)) sz (fun a ws' => ws' = ([(sm, .inr (2, [.int (nI y), .int fi, .int (nI st), .int t, .ref ma, .ref sa])), (ma, .inl (cR, k, .inr (.inr (.inr (.inr (fr ra)))))), (sa, .inl (cR, c, .inr (.inr (.inr (.inr (fr rs)))))), (a, .inl (cJ, 2, .inr (.inl (rt2 (tp (fL jx) (fL jz)) (tp (fL jz) (fL jx))))))] ++ (RT cI ra rs fB mM mP fW fD k c)))) 1 2 (va_A ([(sm, .inr (2, [.int (nI y), .int fi, .int (nI st), .int t, .ref ma, .ref sa])), (ma, .inl (cR, k, .inr (.inr (.inr (.inr (fr ra)))))), (sa, .inl (cR, c, .inr (.inr (.inr (.inr (fr rs))))))] ++ (RT cI ra rs fB mM mP fW fD k c)) sz) := by
  refine Met.ofW (cc := cX2_ratio) (maxL := 9) (ret := (some (.array .long))) (by decide +kernel) rfl ?_
  intro p e s m args below meth c9 s₁ B hml hv
  obtain ⟨rfl, hsz, hP, hD0, hC⟩ := hv
  have hx := B.exec
  have hb := B.bytes
  have hr := B.returns
  have hts := atoms_spec (ws := wsX2_ratio) B.pre
  have hown : s.vm.findClass RX2 = some m.cls := findClass_of_methodNamed B.named
  have hlocks := B.notSynchronized
  have hK : va_K D vwCl [(cI, .int), (cJ, .long), (cR, .array .int)] s := hC
  subst hsz
  unfold wrr wB
  have hD := hD0.self (sz := s.heap.size)
  generalize hAe : va_A ([(sm, .inr (2, [.int (nI y), .int fi, .int (nI st), .int t, .ref ma, .ref sa])), (ma, .inl (cR, k, .inr (.inr (.inr (.inr (fr ra)))))), (sa, .inl (cR, c, .inr (.inr (.inr (.inr (fr rs))))))] ++ (RT cI ra rs fB mM mP fW fD k c)) s.heap.size = A at hD ⊢
  have hA : ∀ q : Nat, s.heap.size ≤ q → A q := fun q h => by rw [← hAe]; exact Or.inr h
  have hS : va_S A s.heap s.heap [] := va_S.rf
  have hl := lv_entry ([.ref sm, .int (nI jx), .int (nI jz)]) (n := 9) (Nat.le_of_ble_eq_true rfl)
  rw [lg_entry_eq]
  generalize (lg_sl ([.ref sm, .int (nI jx), .int (nI jz)]) ++ List.replicate (9 - (lg_sl ([.ref sm, .int (nI jx), .int (nI jz)])).length) Slot.unset).toArray = ls at hl ⊢
  have hl : lv_has ls 9 [(0, .ref sm), (1, .int (nI jx)), (2, .int (nI jz))] := hl
  have hiX2 : ∀ w ∈ u_ws RX2 TX2 6, w ∈ wsX2_ratio := by decide +kernel
  have hw15 : (Cond.fieldLink RX2 15 "OldMeasuresLaw$Sim" "measures" "[[I").before ([.ref sm, .int (nI jx), .int (nI jz)] : List Value).toArray s = true := hts _ (by decide +kernel)
  refine lv_lconst (v := 1) hx hb dX2_ratio_0 (by decide) ?_
  refine topL (y := lN 1) rfl ?_
  refine lv_lstore_n (lv' := [(3, .long (lN 1)), (0, .ref sm), (1, .int (nI jx)), (2, .int (nI jz))]) hx hb dX2_ratio_1 rfl hl (by decide) rfl (fun ls hl => ?_)
  refine lv_lconst (v := 1) hx hb dX2_ratio_2 (by decide) ?_
  refine topL (y := lN 1) rfl ?_
  refine lv_lstore (lv' := [(5, .long (lN 1)), (3, .long (lN 1)), (0, .ref sm), (1, .int (nI jx)), (2, .int (nI jz))]) hx hb dX2_ratio_3 hl (by decide) rfl (fun ls hl => ?_)
  refine lv_iload_n hx hb dX2_ratio_5 rfl (lv_at hl 3 rfl) ?_
  refine lv_istore (lv' := [(7, .int (nI jx)), (5, .long (lN 1)), (3, .long (lN 1)), (0, .ref sm), (1, .int (nI jx)), (2, .int (nI jz))]) hx hb dX2_ratio_6 hl (by decide) rfl (fun ls hl => ?_)
  have hx7 : jx ≤ 7 ∧ jz ≤ 7 := by omega
  refine loopR (σ := (Nat × Nat × Nat)) (I := fun i x ls => lv_has ls 9 [(0, .ref sm), (1, .int (nI jx)), (2, .int (nI jz)), (3, .long (lN x.2.1)), (5, .long (lN x.2.2)), (7, .int (nI x.1))] ∧ (x.1 < k ∧ x.1 + i ≤ 7) ∧ (x.2.1 * La x.1 = x.2.2 * La jx) ∧ (0 < x.2.1 ∧ x.2.1 ≤ 9 ^ i) ∧ (0 < x.2.2 ∧ x.2.2 ≤ 9 ^ i)) 7 ?_ 0 (jx, 1, 1) ls (by omega) ⟨lv_sub hl [3, 4, 5, 2, 1, 0] rfl, ⟨hjx, hx7.1⟩, rfl, ⟨(by show 0 < 1; decide), (by show 1 ≤ 9 ^ 0; decide)⟩, ⟨(by show 0 < 1; decide), (by show 1 ≤ 9 ^ 0; decide)⟩⟩
  intro i x ls hi hI kk
  obtain ⟨hl, f1, f2, f3, f4⟩ := hI
  refine lv_iload hx hb dX2_ratio_8 (lv_at hl 5 rfl) ?_
  refine lv_if_le (tgt := 55) hx hb dX2_ratio_10 (by decide) (fun c_10 => ?_) (fun c_10 => ?_)
  · skip
    simp only [Int32.le_iff_toInt_le] at c_10
    rw [nI_toInt (n := x.1) (by omega)] at c_10
    rw [(by decide : (0 : Int32).toInt = 0)] at c_10
    have e0 : x.1 = 0 := by omega
    have g1 : x.2.1 * La 0 = x.2.2 * La jx := by rw [← e0]; exact f2
    have g2 : 0 < x.2.1 ∧ x.2.1 ≤ 9 ^ 7 := ⟨f3.1, Nat.le_trans f3.2 (Nat.pow_le_pow_right (by decide) hi)⟩
    have g3 : 0 < x.2.2 ∧ x.2.2 ≤ 9 ^ 7 := ⟨f4.1, Nat.le_trans f4.2 (Nat.pow_le_pow_right (by decide) hi)⟩
    obtain ⟨T1, hT1⟩ : ∃ z, z = x.2.1 := ⟨_, rfl⟩
    obtain ⟨B1, hB1⟩ : ∃ z, z = x.2.2 := ⟨_, rfl⟩
    rw [← hT1, ← hB1] at hl
    rw [← hT1] at g2
    rw [← hB1] at g3
    rw [← hT1, ← hB1] at g1
    refine lv_iload_n hx hb dX2_ratio_55 rfl (lv_at hl 2 rfl) ?_
    refine lv_istore (lv' := [(7, .int (nI jz)), (0, .ref sm), (1, .int (nI jx)), (2, .int (nI jz)), (3, .long (lN T1)), (5, .long (lN B1))]) hx hb dX2_ratio_56 hl (by decide) rfl (fun ls hl => ?_)
    refine loopR (σ := (Nat × Nat × Nat)) (I := fun i x ls => lv_has ls 9 [(0, .ref sm), (1, .int (nI jx)), (2, .int (nI jz)), (3, .long (lN x.2.1)), (5, .long (lN x.2.2)), (7, .int (nI x.1))] ∧ (x.1 < k ∧ x.1 + i ≤ 7) ∧ (x.2.1 * La jz * La 0 = x.2.2 * La jx * La x.1) ∧ (0 < x.2.1 ∧ x.2.1 ≤ 9 ^ 7 * 9 ^ i) ∧ (0 < x.2.2 ∧ x.2.2 ≤ 9 ^ 7 * 9 ^ i)) 7 ?_ 0 (jz, T1, B1) ls (by omega) ⟨lv_sub hl [1, 2, 3, 4, 5, 0] rfl, ⟨hjz, hx7.2⟩, (by show T1 * La jz * La 0 = B1 * La jx * La jz; rw [Nat.mul_right_comm, g1]), ⟨g2.1, by simpa using g2.2⟩, ⟨g3.1, by simpa using g3.2⟩⟩
    intro i x ls hi hI kk
    obtain ⟨hl, f1, f2, f3, f4⟩ := hI
    refine lv_iload hx hb dX2_ratio_58 (lv_at hl 5 rfl) ?_
    refine lv_if_le (tgt := 105) hx hb dX2_ratio_60 (by decide) (fun c_60 => ?_) (fun c_60 => ?_)
    · skip
      simp only [Int32.le_iff_toInt_le] at c_60
      rw [nI_toInt (n := x.1) (by omega)] at c_60
      rw [(by decide : (0 : Int32).toInt = 0)] at c_60
      have e0 : x.1 = 0 := by omega
      obtain ⟨ex, hax, -⟩ := hL.1 jx hjx
      obtain ⟨ez, haz, -⟩ := hL.1 jz hjz
      have h00 := (hL.1 0 (by omega)).2.1
      have hbx := (hL.1 jx hjx).2.2
      have hbz := (hL.1 jz hjz).2.2
      have h99 := p9 hk8
      have g4 : x.2.1 * La jz = x.2.2 * La jx := Nat.eq_of_mul_eq_mul_right h00 (by rw [f2, e0])
      have g5 : x.2.1 < 2 ^ 45 := Nat.lt_of_le_of_lt (Nat.le_trans f3.2 (Nat.mul_le_mul_left _ (Nat.pow_le_pow_right (by decide) hi))) (by decide)
      have g6 : x.2.2 < 2 ^ 45 := Nat.lt_of_le_of_lt (Nat.le_trans f4.2 (Nat.mul_le_mul_left _ (Nat.pow_le_pow_right (by decide) hi))) (by decide)
      have hg0 : 0 < Nat.gcd x.2.1 x.2.2 := Nat.gcd_pos_of_pos_left _ f3.1
      have hg1 : Nat.gcd x.2.1 x.2.2 ≤ x.2.1 := Nat.gcd_le_left _ f3.1
      have e12 := tp_of f3.1 hax haz (by omega) (by omega) g4 f4.1
      rw [← ex, ← ez] at e12
      refine lv_lload_n hx hb dX2_ratio_105 rfl (lv_at hl 3 rfl) ?_
      refine lv_lload hx hb dX2_ratio_106 (lv_at hl 4 rfl) ?_
      refine ro_lE (va_runS (As := [.long (lN x.2.1), .long (lN x.2.2)]) (rest := []) ⟨hx, hb, hml, hown, hts⟩ (c_X2_divisor l 92 x.2.1 x.2.2 (Dv_all g5 g6) g5 g6) (va_cwS 2 hts gX2_ratio_X2_divisor rfl rfl rfl (by decide +kernel) ⟨Nat.le_of_ble_eq_true rfl, Nat.le_of_ble_eq_true rfl⟩) pre0 rfl rfl hl.1 rfl (lv_room (Nat.le_of_ble_eq_true rfl)) dX2_ratio_108 ⟨by decide, by decide⟩) ?_
      refine lv_lstore (lv' := [(7, .long (lN (Nat.gcd x.2.1 x.2.2))), (0, .ref sm), (1, .int (nI jx)), (2, .int (nI jz)), (3, .long (lN x.2.1)), (5, .long (lN x.2.2))]) hx hb dX2_ratio_111 hl (by decide) rfl (fun ls hl => ?_)
      refine lv_iconst (v := 2) hx hb dX2_ratio_113 (by decide) ?_
      refine xa_newaJ (N := 2) hx hb (hts (.arrayClass .long) (by decide +kernel)) hK 1 rfl hP hD hS hA (by decide) (by decide +kernel) (by decide) (by decide) (by decide) dX2_ratio_114 (fun q_114 H hP hD hS => ?_)
      have hP := hP.swap
      have hD := hD.swap
      have hP : va_P D vwCl ([(sm, .inr (2, [.int (nI y), .int fi, .int (nI st), .int t, .ref ma, .ref sa])), (ma, .inl (cR, k, .inr (.inr (.inr (.inr (fr ra)))))), (sa, .inl (cR, c, .inr (.inr (.inr (.inr (fr rs)))))), (q_114, .inl (cJ, 2, .inr (.inl (fun _ => (0 : Int64)))))] ++ (RT cI ra rs fB mM mP fW fD k c)) H := hP
      have hD : va_D A ([(sm, .inr (2, [.int (nI y), .int fi, .int (nI st), .int t, .ref ma, .ref sa])), (ma, .inl (cR, k, .inr (.inr (.inr (.inr (fr ra)))))), (sa, .inl (cR, c, .inr (.inr (.inr (.inr (fr rs)))))), (q_114, .inl (cJ, 2, .inr (.inl (fun _ => (0 : Int64)))))] ++ (RT cI ra rs fB mM mP fW fD k c)) := hD
      refine lv_dup hx hb dX2_ratio_116 rfl ?_
      refine lv_iconst (v := 0) hx hb dX2_ratio_117 (by decide) ?_
      refine lv_lload_n hx hb dX2_ratio_118 rfl (lv_at hl 4 rfl) ?_
      refine lv_lload hx hb dX2_ratio_119 (lv_at hl 0 rfl) ?_
      refine lv_ldiv hx hb dX2_ratio_121 (lN_ne0 hg0 (by omega)) ?_
      refine topL (pk_lDiv (by omega) hg0 (by omega)) ?_
      refine xa_last (j := 0) hx hb hK hP hD hS 3 1 rfl rfl (by decide) (by decide) dX2_ratio_122 (fun H locs hP hD hS => ?_)
      have hP : va_P D vwCl ([(sm, .inr (2, [.int (nI y), .int fi, .int (nI st), .int t, .ref ma, .ref sa])), (ma, .inl (cR, k, .inr (.inr (.inr (.inr (fr ra)))))), (sa, .inl (cR, c, .inr (.inr (.inr (.inr (fr rs)))))), (q_114, .inl (cJ, 2, .inr (.inl (vp_updL (fun _ => (0 : Int64)) 0 (lN (x.2.1 / Nat.gcd x.2.1 x.2.2))))))] ++ (RT cI ra rs fB mM mP fW fD k c)) H := hP
      have hD : va_D A ([(sm, .inr (2, [.int (nI y), .int fi, .int (nI st), .int t, .ref ma, .ref sa])), (ma, .inl (cR, k, .inr (.inr (.inr (.inr (fr ra)))))), (sa, .inl (cR, c, .inr (.inr (.inr (.inr (fr rs)))))), (q_114, .inl (cJ, 2, .inr (.inl (vp_updL (fun _ => (0 : Int64)) 0 (lN (x.2.1 / Nat.gcd x.2.1 x.2.2))))))] ++ (RT cI ra rs fB mM mP fW fD k c)) := hD
      refine lv_dup hx hb dX2_ratio_123 rfl ?_
      refine lv_iconst (v := 1) hx hb dX2_ratio_124 (by decide) ?_
      refine lv_lload hx hb dX2_ratio_125 (lv_at hl 5 rfl) ?_
      refine lv_lload hx hb dX2_ratio_127 (lv_at hl 0 rfl) ?_
      refine lv_ldiv hx hb dX2_ratio_129 (lN_ne0 hg0 (by omega)) ?_
      refine topL (pk_lDiv (by omega) hg0 (by omega)) ?_
      refine xa_last (j := 1) hx hb hK hP hD hS 3 1 rfl rfl (by decide) (by decide) dX2_ratio_130 (fun H locs hP hD hS => ?_)
      have hP : va_P D vwCl ([(sm, .inr (2, [.int (nI y), .int fi, .int (nI st), .int t, .ref ma, .ref sa])), (ma, .inl (cR, k, .inr (.inr (.inr (.inr (fr ra)))))), (sa, .inl (cR, c, .inr (.inr (.inr (.inr (fr rs)))))), (q_114, .inl (cJ, 2, .inr (.inl (vp_updL (vp_updL (fun _ => (0 : Int64)) 0 (lN (x.2.1 / Nat.gcd x.2.1 x.2.2))) 1 (lN (x.2.2 / Nat.gcd x.2.1 x.2.2))))))] ++ (RT cI ra rs fB mM mP fW fD k c)) H := hP
      have hD : va_D A ([(sm, .inr (2, [.int (nI y), .int fi, .int (nI st), .int t, .ref ma, .ref sa])), (ma, .inl (cR, k, .inr (.inr (.inr (.inr (fr ra)))))), (sa, .inl (cR, c, .inr (.inr (.inr (.inr (fr rs)))))), (q_114, .inl (cJ, 2, .inr (.inl (vp_updL (vp_updL (fun _ => (0 : Int64)) 0 (lN (x.2.1 / Nat.gcd x.2.1 x.2.2))) 1 (lN (x.2.2 / Nat.gcd x.2.1 x.2.2))))))] ++ (RT cI ra rs fB mM mP fW fD k c)) := hD
      rw [e12.1, e12.2] at hP hD
      have hP : va_P D vwCl ([(sm, .inr (2, [.int (nI y), .int fi, .int (nI st), .int t, .ref ma, .ref sa])), (ma, .inl (cR, k, .inr (.inr (.inr (.inr (fr ra)))))), (sa, .inl (cR, c, .inr (.inr (.inr (.inr (fr rs)))))), (q_114, .inl (cJ, 2, .inr (.inl (rt2 (tp (fL jx) (fL jz)) (tp (fL jz) (fL jx))))))] ++ (RT cI ra rs fB mM mP fW fD k c)) H := hP.toJ 3 rfl (fun j hj => rt2_of _ _ j hj)
      have hD : va_D A ([(sm, .inr (2, [.int (nI y), .int fi, .int (nI st), .int t, .ref ma, .ref sa])), (ma, .inl (cR, k, .inr (.inr (.inr (.inr (fr ra)))))), (sa, .inl (cR, c, .inr (.inr (.inr (.inr (fr rs)))))), (q_114, .inl (cJ, 2, .inr (.inl (rt2 (tp (fL jx) (fL jz)) (tp (fL jz) (fL jx))))))] ++ (RT cI ra rs fB mM mP fW fD k c)) := hD.set (p := 3) rfl
      exact W.aret hx hb hr (Or.inr ⟨_, rfl⟩) (Or.inr ⟨_, rfl⟩) (fun t9 ht hW => ⟨⟨([(sm, .inr (2, [.int (nI y), .int fi, .int (nI st), .int t, .ref ma, .ref sa])), (ma, .inl (cR, k, .inr (.inr (.inr (.inr (fr ra)))))), (sa, .inl (cR, c, .inr (.inr (.inr (.inr (fr rs)))))), (q_114, .inl (cJ, 2, .inr (.inl (rt2 (tp (fL jx) (fL jz)) (tp (fL jz) (fL jx))))))] ++ (RT cI ra rs fB mM mP fW fD k c)), q_114, rfl, trivial, rfl, by rw [ht]; exact hP, hD⟩, hS.F ht⟩) hS.2.2 dX2_ratio_131
    · skip
      simp only [Int32.le_iff_toInt_le] at c_60
      rw [nI_toInt (n := x.1) (by omega)] at c_60
      rw [(by decide : (0 : Int32).toInt = 0)] at c_60
      have hj0 : 0 < x.1 := by omega
      obtain ⟨a1, a2, a3, a4, a5, a6, a7, a8, -, -⟩ := hL.2.2 x.1 hj0 f1.1
      have e9 := hL.step hj0 f1.1
      refine lv_lload hx hb dX2_ratio_63 (lv_at hl 4 rfl) ?_
      refine lv_aload_n hx hb dX2_ratio_65 rfl (lv_at hl 0 rfl) ?_
      refine va_get (D := D) (ci := 2) (v := .ref ma) (C := RX2) (T := TX2) (N := 6) hx hb hts hiX2 hown hK hP 0 rfl rfl 4 (by decide) hw15 (fun _ h9 => h9) rfl dX2_ratio_66 ?_
      refine lv_iload hx hb dX2_ratio_69 (lv_at hl 5 rfl) ?_
      refine xr_ald (b := (ra (x.1))) hx hb hK hP 1 2 rfl rfl (j := x.1) (by omega) (by omega) rfl dX2_ratio_71 ?_
      refine lv_iconst (v := 1) hx hb dX2_ratio_72 (by decide) ?_
      refine xa_iald (j := 1) hx hb hK hP (3 + (x.1)) 0 (tl_at rfl (RT_m (by omega))) rfl (by decide) (by decide) dX2_ratio_73 ?_
      refine topI (y := (mM (x.1))) rfl ?_
      refine topI (y := nI (uu x.1)) a2 ?_
      refine lv_i2l (v := ((nI (uu x.1))).toInt64) hx hb dX2_ratio_74 rfl ?_
      refine topL (y := lN (uu x.1)) (nI_l (by omega)) ?_
      refine lv_lmul hx hb dX2_ratio_75 ?_
      refine topL (lN_mul _ _) ?_
      refine lv_lstore (lv' := [(5, .long (lN (x.2.2 * (uu x.1)))), (0, .ref sm), (1, .int (nI jx)), (2, .int (nI jz)), (3, .long (lN x.2.1)), (7, .int (nI x.1))]) hx hb dX2_ratio_76 hl (by decide) rfl (fun ls hl => ?_)
      refine lv_lload_n hx hb dX2_ratio_78 rfl (lv_at hl 4 rfl) ?_
      refine lv_aload_n hx hb dX2_ratio_79 rfl (lv_at hl 1 rfl) ?_
      refine va_get (D := D) (ci := 2) (v := .ref ma) (C := RX2) (T := TX2) (N := 6) hx hb hts hiX2 hown hK hP 0 rfl rfl 4 (by decide) hw15 (fun _ h9 => h9) rfl dX2_ratio_80 ?_
      refine lv_iload hx hb dX2_ratio_83 (lv_at hl 5 rfl) ?_
      refine xr_ald (b := (ra (x.1))) hx hb hK hP 1 2 rfl rfl (j := x.1) (by omega) (by omega) rfl dX2_ratio_85 ?_
      refine lv_iconst (v := 2) hx hb dX2_ratio_86 (by decide) ?_
      refine xa_iald (j := 2) hx hb hK hP (3 + (x.1)) 0 (tl_at rfl (RT_m (by omega))) rfl (by decide) (by decide) dX2_ratio_87 ?_
      refine topI (y := (mP (x.1))) rfl ?_
      refine topI (y := nI (pp x.1)) a1 ?_
      refine lv_i2l (v := ((nI (pp x.1))).toInt64) hx hb dX2_ratio_88 rfl ?_
      refine topL (y := lN (pp x.1)) (nI_l (by omega)) ?_
      refine lv_lmul hx hb dX2_ratio_89 ?_
      refine topL (lN_mul _ _) ?_
      refine lv_lstore_n (lv' := [(3, .long (lN (x.2.1 * (pp x.1)))), (5, .long (lN (x.2.2 * (uu x.1)))), (0, .ref sm), (1, .int (nI jx)), (2, .int (nI jz)), (7, .int (nI x.1))]) hx hb dX2_ratio_90 rfl hl (by decide) rfl (fun ls hl => ?_)
      refine lv_aload_n hx hb dX2_ratio_91 rfl (lv_at hl 2 rfl) ?_
      refine va_get (D := D) (ci := 2) (v := .ref ma) (C := RX2) (T := TX2) (N := 6) hx hb hts hiX2 hown hK hP 0 rfl rfl 4 (by decide) hw15 (fun _ h9 => h9) rfl dX2_ratio_92 ?_
      refine lv_iload hx hb dX2_ratio_95 (lv_at hl 5 rfl) ?_
      refine xr_ald (b := (ra (x.1))) hx hb hK hP 1 2 rfl rfl (j := x.1) (by omega) (by omega) rfl dX2_ratio_97 ?_
      refine lv_iconst (v := 0) hx hb dX2_ratio_98 (by decide) ?_
      refine xa_iald (j := 0) hx hb hK hP (3 + (x.1)) 0 (tl_at rfl (RT_m (by omega))) rfl (by decide) (by decide) dX2_ratio_99 ?_
      refine topI (y := (fB (x.1))) rfl ?_
      refine topI (y := nI (bb x.1)) a3 ?_
      refine lv_istore (lv' := [(7, .int (nI (bb x.1))), (3, .long (lN (x.2.1 * (pp x.1)))), (5, .long (lN (x.2.2 * (uu x.1)))), (0, .ref sm), (1, .int (nI jx)), (2, .int (nI jz))]) hx hb dX2_ratio_100 hl (by decide) rfl (fun ls hl => ?_)
      refine lv_goto (tgt := 58) hx hb dX2_ratio_102 (by decide) ?_
      exact kk (bb x.1, x.2.1 * pp x.1, x.2.2 * uu x.1) ls (by omega) ⟨lv_sub hl [3, 4, 5, 1, 2, 0] rfl, (by show bb x.1 < k ∧ bb x.1 + (i + 1) ≤ 7; omega), rt_s2 f2 e9, ⟨Nat.mul_pos f3.1 a5, by have h9 := Nat.mul_le_mul f3.2 a6; rw [Nat.mul_assoc] at h9; exact h9⟩, ⟨Nat.mul_pos f4.1 a7, by have h9 := Nat.mul_le_mul f4.2 a8; rw [Nat.mul_assoc] at h9; exact h9⟩⟩
  · skip
    simp only [Int32.le_iff_toInt_le] at c_10
    rw [nI_toInt (n := x.1) (by omega)] at c_10
    rw [(by decide : (0 : Int32).toInt = 0)] at c_10
    have hj0 : 0 < x.1 := by omega
    obtain ⟨a1, a2, a3, a4, a5, a6, a7, a8, -, -⟩ := hL.2.2 x.1 hj0 f1.1
    have e9 := hL.step hj0 f1.1
    refine lv_lload_n hx hb dX2_ratio_13 rfl (lv_at hl 3 rfl) ?_
    refine lv_aload_n hx hb dX2_ratio_14 rfl (lv_at hl 0 rfl) ?_
    refine va_get (D := D) (ci := 2) (v := .ref ma) (C := RX2) (T := TX2) (N := 6) hx hb hts hiX2 hown hK hP 0 rfl rfl 4 (by decide) hw15 (fun _ h9 => h9) rfl dX2_ratio_15 ?_
    refine lv_iload hx hb dX2_ratio_18 (lv_at hl 5 rfl) ?_
    refine xr_ald (b := (ra (x.1))) hx hb hK hP 1 2 rfl rfl (j := x.1) (by omega) (by omega) rfl dX2_ratio_20 ?_
    refine lv_iconst (v := 1) hx hb dX2_ratio_21 (by decide) ?_
    refine xa_iald (j := 1) hx hb hK hP (3 + (x.1)) 0 (tl_at rfl (RT_m (by omega))) rfl (by decide) (by decide) dX2_ratio_22 ?_
    refine topI (y := (mM (x.1))) rfl ?_
    refine topI (y := nI (uu x.1)) a2 ?_
    refine lv_i2l (v := ((nI (uu x.1))).toInt64) hx hb dX2_ratio_23 rfl ?_
    refine topL (y := lN (uu x.1)) (nI_l (by omega)) ?_
    refine lv_lmul hx hb dX2_ratio_24 ?_
    refine topL (lN_mul _ _) ?_
    refine lv_lstore_n (lv' := [(3, .long (lN (x.2.1 * (uu x.1)))), (0, .ref sm), (1, .int (nI jx)), (2, .int (nI jz)), (5, .long (lN x.2.2)), (7, .int (nI x.1))]) hx hb dX2_ratio_25 rfl hl (by decide) rfl (fun ls hl => ?_)
    refine lv_lload hx hb dX2_ratio_26 (lv_at hl 4 rfl) ?_
    refine lv_aload_n hx hb dX2_ratio_28 rfl (lv_at hl 1 rfl) ?_
    refine va_get (D := D) (ci := 2) (v := .ref ma) (C := RX2) (T := TX2) (N := 6) hx hb hts hiX2 hown hK hP 0 rfl rfl 4 (by decide) hw15 (fun _ h9 => h9) rfl dX2_ratio_29 ?_
    refine lv_iload hx hb dX2_ratio_32 (lv_at hl 5 rfl) ?_
    refine xr_ald (b := (ra (x.1))) hx hb hK hP 1 2 rfl rfl (j := x.1) (by omega) (by omega) rfl dX2_ratio_34 ?_
    refine lv_iconst (v := 2) hx hb dX2_ratio_35 (by decide) ?_
    refine xa_iald (j := 2) hx hb hK hP (3 + (x.1)) 0 (tl_at rfl (RT_m (by omega))) rfl (by decide) (by decide) dX2_ratio_36 ?_
    refine topI (y := (mP (x.1))) rfl ?_
    refine topI (y := nI (pp x.1)) a1 ?_
    refine lv_i2l (v := ((nI (pp x.1))).toInt64) hx hb dX2_ratio_37 rfl ?_
    refine topL (y := lN (pp x.1)) (nI_l (by omega)) ?_
    refine lv_lmul hx hb dX2_ratio_38 ?_
    refine topL (lN_mul _ _) ?_
    refine lv_lstore (lv' := [(5, .long (lN (x.2.2 * (pp x.1)))), (3, .long (lN (x.2.1 * (uu x.1)))), (0, .ref sm), (1, .int (nI jx)), (2, .int (nI jz)), (7, .int (nI x.1))]) hx hb dX2_ratio_39 hl (by decide) rfl (fun ls hl => ?_)
    refine lv_aload_n hx hb dX2_ratio_41 rfl (lv_at hl 2 rfl) ?_
    refine va_get (D := D) (ci := 2) (v := .ref ma) (C := RX2) (T := TX2) (N := 6) hx hb hts hiX2 hown hK hP 0 rfl rfl 4 (by decide) hw15 (fun _ h9 => h9) rfl dX2_ratio_42 ?_
    refine lv_iload hx hb dX2_ratio_45 (lv_at hl 5 rfl) ?_
    refine xr_ald (b := (ra (x.1))) hx hb hK hP 1 2 rfl rfl (j := x.1) (by omega) (by omega) rfl dX2_ratio_47 ?_
    refine lv_iconst (v := 0) hx hb dX2_ratio_48 (by decide) ?_
    refine xa_iald (j := 0) hx hb hK hP (3 + (x.1)) 0 (tl_at rfl (RT_m (by omega))) rfl (by decide) (by decide) dX2_ratio_49 ?_
    refine topI (y := (fB (x.1))) rfl ?_
    refine topI (y := nI (bb x.1)) a3 ?_
    refine lv_istore (lv' := [(7, .int (nI (bb x.1))), (5, .long (lN (x.2.2 * (pp x.1)))), (3, .long (lN (x.2.1 * (uu x.1)))), (0, .ref sm), (1, .int (nI jx)), (2, .int (nI jz))]) hx hb dX2_ratio_50 hl (by decide) rfl (fun ls hl => ?_)
    refine lv_goto (tgt := 8) hx hb dX2_ratio_52 (by decide) ?_
    exact kk (bb x.1, x.2.1 * uu x.1, x.2.2 * pp x.1) ls (by omega) ⟨lv_sub hl [3, 4, 5, 2, 1, 0] rfl, (by show bb x.1 < k ∧ bb x.1 + (i + 1) ≤ 7; omega), rt_s1 f2 e9, ⟨Nat.mul_pos f3.1 a7, by rw [Nat.pow_succ]; exact Nat.mul_le_mul f3.2 a8⟩, ⟨Nat.mul_pos f4.1 a5, by rw [Nat.pow_succ]; exact Nat.mul_le_mul f4.2 a6⟩⟩

set_option maxHeartbeats 4000000 in
set_option maxRecDepth 100000 in
theorem c_X2_isLonger (l : Launch) (D : va_G) (cI cJ cR : ClassId) (sz : Nat) (sm ma sa : Nat) (ra rs : Nat → Nat) (k st : Nat) (fi : Int32) (fB mM mP : Nat → Int32) (c : Nat) (t : Int32) (y : Nat) (fW fD : Nat → Int32) (fL : Nat → Int64) (La pp uu bb : Nat → Nat) (hL : LenOk k fB mM mP fL La pp uu bb) (hk8 : k ≤ 8) (jx jz : Nat) (hjx : jx < k) (hjz : jz < k) : Met l yX2_isLonger wsX2_isLonger ({ frames := 95, cells := 1, slots := 2, locals := 2298 }) (cPw D ([(sm, .inr (2, [.int (nI y), .int fi, .int (nI st), .int t, .ref ma, .ref sa])), (ma, .inl (cR, k, .inr (.inr (.inr (.inr (fr ra)))))), (sa, .inl (cR, c, .inr (.inr (.inr (.inr (fr rs))))))] ++ (RT cI ra rs fB mM mP fW fD k c)) sz (KM D cI cJ cR) [.ref sm, .int (nI jx), .int (nI jz)]) (wri D ([(sm, .inr (2, [.int (nI y), .int fi, .int (nI st), .int t, .ref ma, .ref sa])), (ma, .inl (cR, k, .inr (.inr (.inr (.inr (fr ra)))))), (sa, .inl (cR, c, .inr (.inr (.inr (.inr (fr rs))))))] ++ (RT cI ra rs fB mM mP fW fD k c)) sz (fun r ws' => r = bz ((fL jz).toInt < (fL jx).toInt) ∧ ws' = ([(sm, .inr (2, [.int (nI y), .int fi, .int (nI st), .int t, .ref ma, .ref sa])), (ma, .inl (cR, k, .inr (.inr (.inr (.inr (fr ra)))))), (sa, .inl (cR, c, .inr (.inr (.inr (.inr (fr rs))))))] ++ (RT cI ra rs fB mM mP fW fD k c)))) 1 2 (va_A ([(sm, .inr (2, [.int (nI y), .int fi, .int (nI st), .int t, .ref ma, .ref sa])), (ma, .inl (cR, k, .inr (.inr (.inr (.inr (fr ra)))))), (sa, .inl (cR, c, .inr (.inr (.inr (.inr (fr rs))))))] ++ (RT cI ra rs fB mM mP fW fD k c)) sz) := by
  refine Met.ofW (cc := cX2_isLonger) (maxL := 4) (ret := (some .boolean)) (by decide +kernel) rfl ?_
  intro p e s m args below meth c9 s₁ B hml hv
  obtain ⟨rfl, hsz, hP, hD0, hC⟩ := hv
  have hx := B.exec
  have hb := B.bytes
  have hr := B.returns
  have hts := atoms_spec (ws := wsX2_isLonger) B.pre
  have hown : s.vm.findClass RX2 = some m.cls := findClass_of_methodNamed B.named
  have hlocks := B.notSynchronized
  have hK : va_K D vwCl [(cI, .int), (cJ, .long), (cR, .array .int)] s := hC
  subst hsz
  unfold wri wB
  have hD := hD0.self (sz := s.heap.size)
  generalize hAe : va_A ([(sm, .inr (2, [.int (nI y), .int fi, .int (nI st), .int t, .ref ma, .ref sa])), (ma, .inl (cR, k, .inr (.inr (.inr (.inr (fr ra)))))), (sa, .inl (cR, c, .inr (.inr (.inr (.inr (fr rs))))))] ++ (RT cI ra rs fB mM mP fW fD k c)) s.heap.size = A at hD ⊢
  have hA : ∀ q : Nat, s.heap.size ≤ q → A q := fun q h => by rw [← hAe]; exact Or.inr h
  have hS : va_S A s.heap s.heap [] := va_S.rf
  have hl := lv_entry ([.ref sm, .int (nI jx), .int (nI jz)]) (n := 4) (Nat.le_of_ble_eq_true rfl)
  rw [lg_entry_eq]
  generalize (lg_sl ([.ref sm, .int (nI jx), .int (nI jz)]) ++ List.replicate (4 - (lg_sl ([.ref sm, .int (nI jx), .int (nI jz)])).length) Slot.unset).toArray = ls at hl ⊢
  have hl : lv_has ls 4 [(0, .ref sm), (1, .int (nI jx)), (2, .int (nI jz))] := hl
  refine lv_aload_n hx hb dX2_isLonger_0 rfl (lv_at hl 0 rfl) ?_
  refine lv_iload_n hx hb dX2_isLonger_1 rfl (lv_at hl 1 rfl) ?_
  refine lv_iload_n hx hb dX2_isLonger_2 rfl (lv_at hl 2 rfl) ?_
  have hFc := va_freeP (cx := [(sm, .inr (2, [.int (nI y), .int fi, .int (nI st), .int t, .ref ma, .ref sa])), (ma, .inl (cR, k, .inr (.inr (.inr (.inr (fr ra)))))), (sa, .inl (cR, c, .inr (.inr (.inr (.inr (fr rs))))))]) (pl := (RT cI ra rs fB mM mP fW fD k c)) hD hS hA [0, 1, 2] rfl
  refine xr_call (va_runV (As := [.int (nI jx), .int (nI jz)]) (rest := []) ⟨hx, hb, hml, hown, hts⟩ (c_X2_ratio l D cI cJ cR s.heap.size sm ma sa ra rs k st fi fB mM mP c t y fW fD fL La pp uu bb hL hk8 jx jz (by omega) (by omega)) (cwV 2 hts gX2_isLonger_X2_ratio rfl rfl rfl (by decide +kernel) ⟨Nat.le_of_ble_eq_true rfl, Nat.le_of_ble_eq_true rfl⟩) (preV_wr KM_ok (va_P.part (cx := [(sm, .inr (2, [.int (nI y), .int fi, .int (nI st), .int t, .ref ma, .ref sa])), (ma, .inl (cR, k, .inr (.inr (.inr (.inr (fr ra)))))), (sa, .inl (cR, c, .inr (.inr (.inr (.inr (fr rs))))))]) (pl := (RT cI ra rs fB mM mP fW fD k c)) hP [0, 1, 2] rfl) (va_D.part (cx := [(sm, .inr (2, [.int (nI y), .int fi, .int (nI st), .int t, .ref ma, .ref sa])), (ma, .inl (cR, k, .inr (.inr (.inr (.inr (fr ra)))))), (sa, .inl (cR, c, .inr (.inr (.inr (.inr (fr rs))))))]) (pl := (RT cI ra rs fB mM mP fW fD k c)) hD [0, 1, 2] (by decide) rfl) hK (va_recv hK hP (ci := 2) (q0 := 0) rfl rfl)) rfl rfl hl.1 rfl (lv_room (Nat.le_of_ble_eq_true rfl)) dX2_isLonger_3 ⟨by decide, by decide⟩) hS (fun q _ h => hFc q h) hFc (fun u r_3 t9 H1 locs ht hw9 hB hz1 hk1 hS => ?_)
  obtain rfl := hw9
  obtain ⟨hP1, hD1⟩ := hB
  rw [ht] at hP1
  obtain ⟨hP, hD⟩ := va_joinP (X := [(sm, .inr (2, [.int (nI y), .int fi, .int (nI st), .int t, .ref ma, .ref sa])), (ma, .inl (cR, k, .inr (.inr (.inr (.inr (fr ra)))))), (sa, .inl (cR, c, .inr (.inr (.inr (.inr (fr rs))))))]) (cx := [(sm, .inr (2, [.int (nI y), .int fi, .int (nI st), .int t, .ref ma, .ref sa])), (ma, .inl (cR, k, .inr (.inr (.inr (.inr (fr ra)))))), (sa, .inl (cR, c, .inr (.inr (.inr (.inr (fr rs))))))]) (wr := []) (rx := [(sm, .inr (2, [.int (nI y), .int fi, .int (nI st), .int t, .ref ma, .ref sa])), (ma, .inl (cR, k, .inr (.inr (.inr (.inr (fr ra)))))), (sa, .inl (cR, c, .inr (.inr (.inr (.inr (fr rs)))))), (r_3, .inl (cJ, 2, .inr (.inl (rt2 (tp (fL jx) (fL jz)) (tp (fL jz) (fL jx))))))]) (pl := (RT cI ra rs fB mM mP fW fD k c)) (pl1 := (RT cI ra rs fB mM mP fW fD k c)) hP hD [0, 1, 2] [] rfl rfl (by decide) (by decide) hk1 hFc hP1 hD1
  clear hz1 hk1 ht hFc
  generalize H1 = H at hP hS ⊢
  have hP : va_P D vwCl ([(sm, .inr (2, [.int (nI y), .int fi, .int (nI st), .int t, .ref ma, .ref sa])), (ma, .inl (cR, k, .inr (.inr (.inr (.inr (fr ra)))))), (sa, .inl (cR, c, .inr (.inr (.inr (.inr (fr rs)))))), (r_3, .inl (cJ, 2, .inr (.inl (rt2 (tp (fL jx) (fL jz)) (tp (fL jz) (fL jx))))))] ++ (RT cI ra rs fB mM mP fW fD k c)) H := hP
  have hD : va_D A ([(sm, .inr (2, [.int (nI y), .int fi, .int (nI st), .int t, .ref ma, .ref sa])), (ma, .inl (cR, k, .inr (.inr (.inr (.inr (fr ra)))))), (sa, .inl (cR, c, .inr (.inr (.inr (.inr (fr rs)))))), (r_3, .inl (cJ, 2, .inr (.inl (rt2 (tp (fL jx) (fL jz)) (tp (fL jz) (fL jx))))))] ++ (RT cI ra rs fB mM mP fW fD k c)) := hD
  refine lv_astore_n (lv' := [(3, .ref r_3), (0, .ref sm), (1, .int (nI jx)), (2, .int (nI jz))]) hx hb dX2_isLonger_6 rfl hl (by decide) rfl (fun ls hl => ?_)
  refine lv_aload_n hx hb dX2_isLonger_7 rfl (lv_at hl 0 rfl) ?_
  refine lv_iconst (v := 0) hx hb dX2_isLonger_8 (by decide) ?_
  refine xa_lald (j := 0) hx hb hK hP 3 1 rfl rfl (by decide) (by decide) dX2_isLonger_9 ?_
  refine topL (y := (tp (fL jx) (fL jz))) rfl ?_
  refine lv_aload_n hx hb dX2_isLonger_10 rfl (lv_at hl 0 rfl) ?_
  refine lv_iconst (v := 1) hx hb dX2_isLonger_11 (by decide) ?_
  refine xa_lald (j := 1) hx hb hK hP 3 1 rfl rfl (by decide) (by decide) dX2_isLonger_12 ?_
  refine topL (y := (tp (fL jz) (fL jx))) rfl ?_
  refine W.lcmp hx hb dX2_isLonger_13 ?_
  refine lv_if_le (tgt := 21) hx hb dX2_isLonger_14 (by decide) (fun c_14 => ?_) (fun c_14 => ?_)
  · skip
    have c_14 := (lgc_le _ _).mp c_14
    refine lv_iconst (v := 0) hx hb dX2_isLonger_21 (by decide) ?_
    have hP := va_P.part (cx := [(sm, .inr (2, [.int (nI y), .int fi, .int (nI st), .int t, .ref ma, .ref sa])), (ma, .inl (cR, k, .inr (.inr (.inr (.inr (fr ra)))))), (sa, .inl (cR, c, .inr (.inr (.inr (.inr (fr rs))))))]) (pl := (RT cI ra rs fB mM mP fW fD k c)) hP [0, 1, 2] rfl
    have hD := va_D.part (cx := [(sm, .inr (2, [.int (nI y), .int fi, .int (nI st), .int t, .ref ma, .ref sa])), (ma, .inl (cR, k, .inr (.inr (.inr (.inr (fr ra)))))), (sa, .inl (cR, c, .inr (.inr (.inr (.inr (fr rs))))))]) (pl := (RT cI ra rs fB mM mP fW fD k c)) hD [0, 1, 2] (by decide) rfl
    exact W.zret (v := 0) hx hb hr rfl (fun t9 ht hW => ⟨⟨0, ([(sm, .inr (2, [.int (nI y), .int fi, .int (nI st), .int t, .ref ma, .ref sa])), (ma, .inl (cR, k, .inr (.inr (.inr (.inr (fr ra)))))), (sa, .inl (cR, c, .inr (.inr (.inr (.inr (fr rs))))))] ++ (RT cI ra rs fB mM mP fW fD k c)), rfl, ⟨(bz_f (fun h9 => absurd ((tp_lt (hL.pos hk8 hjx) (hL.pos hk8 hjz)).mpr h9) (by omega))).symm, rfl⟩, by rw [ht]; exact hP, hD⟩, hS.F ht⟩) hS.2.2 dX2_isLonger_22
  · skip
    have c_14 := (not_congr (lgc_le _ _)).mp c_14
    refine lv_iconst (v := 1) hx hb dX2_isLonger_17 (by decide) ?_
    refine lv_goto (tgt := 22) hx hb dX2_isLonger_18 (by decide) ?_
    have hP := va_P.part (cx := [(sm, .inr (2, [.int (nI y), .int fi, .int (nI st), .int t, .ref ma, .ref sa])), (ma, .inl (cR, k, .inr (.inr (.inr (.inr (fr ra)))))), (sa, .inl (cR, c, .inr (.inr (.inr (.inr (fr rs))))))]) (pl := (RT cI ra rs fB mM mP fW fD k c)) hP [0, 1, 2] rfl
    have hD := va_D.part (cx := [(sm, .inr (2, [.int (nI y), .int fi, .int (nI st), .int t, .ref ma, .ref sa])), (ma, .inl (cR, k, .inr (.inr (.inr (.inr (fr ra)))))), (sa, .inl (cR, c, .inr (.inr (.inr (.inr (fr rs))))))]) (pl := (RT cI ra rs fB mM mP fW fD k c)) hD [0, 1, 2] (by decide) rfl
    exact W.zret (v := 1) hx hb hr rfl (fun t9 ht hW => ⟨⟨1, ([(sm, .inr (2, [.int (nI y), .int fi, .int (nI st), .int t, .ref ma, .ref sa])), (ma, .inl (cR, k, .inr (.inr (.inr (.inr (fr ra)))))), (sa, .inl (cR, c, .inr (.inr (.inr (.inr (fr rs))))))] ++ (RT cI ra rs fB mM mP fW fD k c)), rfl, ⟨(bz_t ((tp_lt (hL.pos hk8 hjx) (hL.pos hk8 hjz)).mp (by omega))).symm, rfl⟩, by rw [ht]; exact hP, hD⟩, hS.F ht⟩) hS.2.2 dX2_isLonger_22

set_option maxHeartbeats 4000000 in
set_option maxRecDepth 100000 in
theorem c_X2_isHonest (l : Launch) (D : va_G) (cI cJ cR : ClassId) (sm ma sa : Nat) (ra rs : Nat → Nat) (k st : Nat) (fi : Int32) (fB mM mP : Nat → Int32) (c : Nat) (t : Int32) (y : Nat) (fW fD : Nat → Int32) (j : Nat) (hj : j < c) (hD3 : -300 ≤ (fD j).toInt ∧ (fD j).toInt ≤ 300) (ht9 : 0 ≤ t.toInt ∧ t.toInt ≤ 100) : Met l yX2_isHonest wsX2_isHonest ({ frames := 0, cells := 0, slots := 0, locals := 0 }) (cP D ([(sm, .inr (2, [.int (nI y), .int fi, .int (nI st), .int t, .ref ma, .ref sa])), (ma, .inl (cR, k, .inr (.inr (.inr (.inr (fr ra)))))), (sa, .inl (cR, c, .inr (.inr (.inr (.inr (fr rs))))))] ++ (RT cI ra rs fB mM mP fW fD k c)) (KM D cI cJ cR) [.ref sm, .ref (rs j)]) (roi (fun r => r = bz ((absI (fD j)).toInt ≤ t.toInt))) 0 0 (fun _ => False) := by
  refine Met.ofW (cc := cX2_isHonest) (maxL := 2) (ret := (some .boolean)) (by decide +kernel) rfl ?_
  intro p e s m args below meth c9 s₁ B hml hv
  obtain ⟨rfl, hP, hC⟩ := hv
  have hx := B.exec
  have hb := B.bytes
  have hr := B.returns
  have hts := atoms_spec (ws := wsX2_isHonest) B.pre
  have hown : s.vm.findClass RX2 = some m.cls := findClass_of_methodNamed B.named
  have hlocks := B.notSynchronized
  have hK : va_K D vwCl [(cI, .int), (cJ, .long), (cR, .array .int)] s := hC
  have hl := lv_entry ([.ref sm, .ref (rs j)]) (n := 2) (Nat.le_of_ble_eq_true rfl)
  rw [lg_entry_eq]
  generalize (lg_sl ([.ref sm, .ref (rs j)]) ++ List.replicate (2 - (lg_sl ([.ref sm, .ref (rs j)])).length) Slot.unset).toArray = ls at hl ⊢
  have hl : lv_has ls 2 [(0, .ref sm), (1, .ref (rs j))] := hl
  have hiX2 : ∀ w ∈ u_ws RX2 TX2 6, w ∈ wsX2_isHonest := by decide +kernel
  have hw7 : (Cond.fieldLink RX2 7 "OldMeasuresLaw$Sim" "tolerance" "I").before ([.ref sm, .ref (rs j)] : List Value).toArray s = true := hts _ (by decide +kernel)
  refine lv_aload_n hx hb dX2_isHonest_0 rfl (lv_at hl 1 rfl) ?_
  refine lv_iconst (v := 1) hx hb dX2_isHonest_1 (by decide) ?_
  refine xa_iald (j := 1) hx hb hK hP (3 + (k + j)) 0 (tl_at rfl (RT_s (by omega))) rfl (by decide) (by decide) dX2_isHonest_2 ?_
  refine topI (y := (fD j)) rfl ?_
  refine lv_aload_n hx hb dX2_isHonest_3 rfl (lv_at hl 0 rfl) ?_
  refine va_get (D := D) (ci := 2) (v := .int t) (C := RX2) (T := TX2) (N := 6) hx hb hts hiX2 hown hK hP 0 rfl rfl 3 (by decide) hw7 (fun _ h9 => h9) rfl dX2_isHonest_4 ?_
  refine lv_icmp_gt (tgt := 25) hx hb dX2_isHonest_7 (by decide) (fun c_7 => ?_) (fun c_7 => ?_)
  · skip
    simp only [Int32.lt_iff_toInt_lt] at c_7
    refine lv_iconst (v := 0) hx hb dX2_isHonest_25 (by decide) ?_
    exact W.zret (v := 0) hx hb hr rfl (fun t9 ht hW => ⟨_, rfl, (bz_f (fun h9 => absurd ((tol_iff hD3 ht9).mpr h9) (by omega))).symm, ht⟩) (fun q hq => absurd hq List.not_mem_nil) dX2_isHonest_26
  · skip
    simp only [Int32.lt_iff_toInt_lt] at c_7
    refine lv_aload_n hx hb dX2_isHonest_10 rfl (lv_at hl 1 rfl) ?_
    refine lv_iconst (v := 1) hx hb dX2_isHonest_11 (by decide) ?_
    refine xa_iald (j := 1) hx hb hK hP (3 + (k + j)) 0 (tl_at rfl (RT_s (by omega))) rfl (by decide) (by decide) dX2_isHonest_12 ?_
    refine topI (y := (fD j)) rfl ?_
    refine lv_aload_n hx hb dX2_isHonest_13 rfl (lv_at hl 0 rfl) ?_
    refine va_get (D := D) (ci := 2) (v := .int t) (C := RX2) (T := TX2) (N := 6) hx hb hts hiX2 hown hK hP 0 rfl rfl 3 (by decide) hw7 (fun _ h9 => h9) rfl dX2_isHonest_14 ?_
    refine lv_ineg hx hb dX2_isHonest_17 ?_
    refine lv_icmp_lt (tgt := 25) hx hb dX2_isHonest_18 (by decide) (fun c_18 => ?_) (fun c_18 => ?_)
    · skip
      simp only [Int32.lt_iff_toInt_lt] at c_18
      refine lv_iconst (v := 0) hx hb dX2_isHonest_25 (by decide) ?_
      exact W.zret (v := 0) hx hb hr rfl (fun t9 ht hW => ⟨_, rfl, (bz_f (fun h9 => absurd ((tol_iff hD3 ht9).mpr h9) (by omega))).symm, ht⟩) (fun q hq => absurd hq List.not_mem_nil) dX2_isHonest_26
    · skip
      simp only [Int32.lt_iff_toInt_lt] at c_18
      refine lv_iconst (v := 1) hx hb dX2_isHonest_21 (by decide) ?_
      refine lv_goto (tgt := 26) hx hb dX2_isHonest_22 (by decide) ?_
      exact W.zret (v := 1) hx hb hr rfl (fun t9 ht hW => ⟨_, rfl, (bz_t ((tol_iff hD3 ht9).mp ⟨by omega, by omega⟩)).symm, ht⟩) (fun q hq => absurd hq List.not_mem_nil) dX2_isHonest_26
