set_option maxHeartbeats 4000000 in
set_option maxRecDepth 100000 in
theorem c_X2_with (l : Launch) (D : va_G) (cI cJ cR : ClassId) (sz : Nat) (xa n : Nat) (g : Nat → Nat) (T : va_W) (hT : ∀ j, j < n → ∃ (i : Nat) (z : vp_A), T[i]? = some (g j, .inl (cI, z))) (v nl : Nat) (fl : Nat → Int32) (hn : n ≤ 8) : Met l yX2_with wsX2_with ({ frames := 1, cells := 1, slots := 9, locals := 10 }) (cPw D ([(xa, .inl (cR, n, .inr (.inr (.inr (.inr (fr g)))))), (v, .inl (cI, nl, .inl fl))] ++ T) sz (KC D cI cJ cR) [.ref xa, .ref v]) (wrr D ([(xa, .inl (cR, n, .inr (.inr (.inr (.inr (fr g)))))), (v, .inl (cI, nl, .inl fl))] ++ T) sz (fun a ws' => ws' = ([(xa, .inl (cR, n, .inr (.inr (.inr (.inr (fr g)))))), (v, .inl (cI, nl, .inl fl)), (a, .inl (cR, (n + 1), .inr (.inr (.inr (.inr (fr (upN g n v)))))))] ++ T))) 1 9 (va_A ([(xa, .inl (cR, n, .inr (.inr (.inr (.inr (fr g)))))), (v, .inl (cI, nl, .inl fl))] ++ T) sz) := by
  refine Met.ofW (cc := cX2_with) (maxL := 4) (ret := (some (.array (.array .int)))) (by decide +kernel) rfl ?_
  intro p e s m args below meth c9 s₁ B hml hv
  obtain ⟨rfl, hsz, hP, hD0, hC⟩ := hv
  have hx := B.exec
  have hb := B.bytes
  have hr := B.returns
  have hts := atoms_spec (ws := wsX2_with) B.pre
  have hown : s.vm.findClass RX2 = some m.cls := findClass_of_methodNamed B.named
  have hlocks := B.notSynchronized
  have hK : va_K D vwCl [(cI, .int), (cJ, .long), (cR, .array .int)] s := hC.1
  subst hsz
  unfold wrr wB
  have hD := hD0.self (sz := s.heap.size)
  generalize hAe : va_A ([(xa, .inl (cR, n, .inr (.inr (.inr (.inr (fr g)))))), (v, .inl (cI, nl, .inl fl))] ++ T) s.heap.size = A at hD ⊢
  have hA : ∀ q : Nat, s.heap.size ≤ q → A q := fun q h => by rw [← hAe]; exact Or.inr h
  have hS : va_S A s.heap s.heap [] := va_S.rf
  have hl := lv_entry ([.ref xa, .ref v]) (n := 4) (Nat.le_of_ble_eq_true rfl)
  rw [lg_entry_eq]
  generalize (lg_sl ([.ref xa, .ref v]) ++ List.replicate (4 - (lg_sl ([.ref xa, .ref v])).length) Slot.unset).toArray = ls at hl ⊢
  have hl : lv_has ls 4 [(0, .ref xa), (1, .ref v)] := hl
  refine lv_aload_n hx hb dX2_with_0 rfl (lv_at hl 0 rfl) ?_
  refine va_alen (v := (nI n)) hx hb hK hP 0 2 rfl rfl rfl dX2_with_1 ?_
  refine lv_iconst (v := 1) hx hb dX2_with_2 (by decide) ?_
  refine lv_iadd hx hb dX2_with_3 ?_
  refine topI (nI_1 n) ?_
  refine xr_new (N := (n + 1)) hx hb hown (hts (.classLink RX2 13 "[I") (by decide +kernel)) hC.2.1 hK 2 rfl hP hD hS hA (by omega) (by decide) (Nat.le_trans (Nat.add_le_add_left (show _ ≤ 9 by omega) _) (Nat.le_of_ble_eq_true rfl)) dX2_with_4 (fun q_4 H hP hD hS => ?_)
  refine W.widen (k := 1) (n := 9) (by decide) (by omega) ?_
  have hP := hP.swap
  have hD := hD.swap
  have hP : va_P D vwCl ([(xa, .inl (cR, n, .inr (.inr (.inr (.inr (fr g)))))), (v, .inl (cI, nl, .inl fl)), (q_4, .inl (cR, (n + 1), .inr (.inr (.inr (.inr (fun _ => none))))))] ++ T) H := hP
  have hD : va_D A ([(xa, .inl (cR, n, .inr (.inr (.inr (.inr (fr g)))))), (v, .inl (cI, nl, .inl fl)), (q_4, .inl (cR, (n + 1), .inr (.inr (.inr (.inr (fun _ => none))))))] ++ T) := hD
  refine lv_astore_n (lv' := [(2, .ref q_4), (0, .ref xa), (1, .ref v)]) hx hb dX2_with_7 rfl hl (by decide) rfl (fun ls hl => ?_)
  refine lv_iconst (v := 0) hx hb dX2_with_8 (by decide) ?_
  refine lv_istore_n (lv' := [(3, .int 0), (2, .ref q_4), (0, .ref xa), (1, .ref v)]) hx hb dX2_with_9 rfl hl (by decide) rfl (fun ls hl => ?_)
  have hP : va_P D vwCl ([(xa, .inl (cR, n, .inr (.inr (.inr (.inr (fr g)))))), (v, .inl (cI, nl, .inl fl)), (q_4, .inl (cR, (n + 1), .inr (.inr (.inr (.inr (cpQ g 0))))))] ++ T) H := by rw [cpQ_0]; exact hP
  have hD : va_D A ([(xa, .inl (cR, n, .inr (.inr (.inr (.inr (fr g)))))), (v, .inl (cI, nl, .inl fl)), (q_4, .inl (cR, (n + 1), .inr (.inr (.inr (.inr (cpQ g 0))))))] ++ T) := by rw [cpQ_0]; exact hD
  refine loopW (σ := Unit) (I := fun i x H locs ls => lv_has ls 4 [(0, .ref xa), (1, .ref v), (2, .ref q_4), (3, .int (nI i))] ∧ va_P D vwCl ([(xa, .inl (cR, n, .inr (.inr (.inr (.inr (fr g)))))), (v, .inl (cI, nl, .inl fl)), (q_4, .inl (cR, (n + 1), .inr (.inr (.inr (.inr (cpQ g i))))))] ++ T) H ∧ va_D A ([(xa, .inl (cR, n, .inr (.inr (.inr (.inr (fr g)))))), (v, .inl (cI, nl, .inl fl)), (q_4, .inl (cR, (n + 1), .inr (.inr (.inr (.inr (cpQ g i))))))] ++ T) ∧ va_S A s.heap H locs) n ?_ 0 () _ _ ls (by omega) ⟨lv_sub hl [2, 3, 1, 0] rfl, hP, hD, hS⟩
  intro i x H locs ls hi hI kk
  obtain ⟨hl, hP, hD, hS⟩ := hI
  refine lv_iload_n hx hb dX2_with_10 rfl (lv_at hl 3 rfl) ?_
  refine lv_aload_n hx hb dX2_with_11 rfl (lv_at hl 0 rfl) ?_
  refine va_alen (v := (nI n)) hx hb hK hP 0 2 rfl rfl rfl dX2_with_12 ?_
  refine lv_icmp_ge (tgt := 28) hx hb dX2_with_13 (by decide) (fun c_13 => ?_) (fun c_13 => ?_)
  · skip
    simp only [Int32.le_iff_toInt_le] at c_13
    rw [nI_toInt (n := i) (by omega)] at c_13
    rw [nI_toInt (n := n) (by omega)] at c_13
    have e9 : n = i := by omega
    subst e9
    refine lv_aload_n hx hb dX2_with_28 rfl (lv_at hl 2 rfl) ?_
    refine lv_aload_n hx hb dX2_with_29 rfl (lv_at hl 0 rfl) ?_
    refine va_alen (v := (nI n)) hx hb hK hP 0 2 rfl rfl rfl dX2_with_30 ?_
    refine lv_aload_n hx hb dX2_with_31 rfl (lv_at hl 1 rfl) ?_
    refine xr_ast hx hb hK hC.2.1 hP hD hS 2 2 0 1 rfl rfl rfl rfl (j := n) (by omega) (by omega) dX2_with_32 (fun H locs hP hD hS => ?_)
    have hP : va_P D vwCl ([(xa, .inl (cR, n, .inr (.inr (.inr (.inr (fr g)))))), (v, .inl (cI, nl, .inl fl)), (q_4, .inl (cR, (n + 1), .inr (.inr (.inr (.inr (fr (upN g n v)))))))] ++ T) H := hP.toQ 2 rfl (cpQ_e g n v)
    have hD : va_D A ([(xa, .inl (cR, n, .inr (.inr (.inr (.inr (fr g)))))), (v, .inl (cI, nl, .inl fl)), (q_4, .inl (cR, (n + 1), .inr (.inr (.inr (.inr (fr (upN g n v)))))))] ++ T) := hD.set (p := 2) rfl
    refine lv_aload_n hx hb dX2_with_33 rfl (lv_at hl 2 rfl) ?_
    exact W.aret hx hb hr (Or.inr ⟨_, rfl⟩) (Or.inr ⟨_, rfl⟩) (fun t9 ht hW => ⟨⟨([(xa, .inl (cR, n, .inr (.inr (.inr (.inr (fr g)))))), (v, .inl (cI, nl, .inl fl)), (q_4, .inl (cR, (n + 1), .inr (.inr (.inr (.inr (fr (upN g n v)))))))] ++ T), q_4, rfl, trivial, rfl, by rw [ht]; exact hP, hD⟩, hS.F ht⟩) hS.2.2 dX2_with_34
  · skip
    simp only [Int32.le_iff_toInt_le] at c_13
    rw [nI_toInt (n := i) (by omega)] at c_13
    rw [nI_toInt (n := n) (by omega)] at c_13
    refine lv_aload_n hx hb dX2_with_16 rfl (lv_at hl 2 rfl) ?_
    refine lv_iload_n hx hb dX2_with_17 rfl (lv_at hl 3 rfl) ?_
    refine lv_aload_n hx hb dX2_with_18 rfl (lv_at hl 0 rfl) ?_
    refine lv_iload_n hx hb dX2_with_19 rfl (lv_at hl 3 rfl) ?_
    refine xr_ald (b := (g i)) hx hb hK hP 0 2 rfl rfl (j := i) (by omega) (by omega) rfl dX2_with_20 ?_
    obtain ⟨i9, z9, hz9⟩ := hT i (by omega)
    refine xr_ast hx hb hK hC.2.1 hP hD hS 2 2 0 (3 + i9) rfl rfl rfl (tl_at rfl hz9) (by omega) (by omega) dX2_with_21 (fun H locs hP hD hS => ?_)
    have hP : va_P D vwCl ([(xa, .inl (cR, n, .inr (.inr (.inr (.inr (fr g)))))), (v, .inl (cI, nl, .inl fl)), (q_4, .inl (cR, (n + 1), .inr (.inr (.inr (.inr (cpQ g (i + 1)))))))] ++ T) H := by rw [← cpQ_s]; exact hP
    have hD : va_D A ([(xa, .inl (cR, n, .inr (.inr (.inr (.inr (fr g)))))), (v, .inl (cI, nl, .inl fl)), (q_4, .inl (cR, (n + 1), .inr (.inr (.inr (.inr (cpQ g (i + 1)))))))] ++ T) := by rw [← cpQ_s]; exact hD
    refine lv_iinc (v := (nI (i + 1))) (lv' := [(3, .int (nI (i + 1))), (0, .ref xa), (1, .ref v), (2, .ref q_4)]) hx hb dX2_with_22 hl (k := 3) rfl (nI_inc i) (by decide) rfl (fun ls hl => ?_)
    refine lv_goto (tgt := 10) hx hb dX2_with_25 (by decide) ?_
    exact kk () _ _ ls (by omega) ⟨lv_sub hl [1, 2, 3, 0] rfl, hP, hD, hS⟩

set_option maxHeartbeats 4000000 in
set_option maxRecDepth 100000 in
theorem c_X2_init (l : Launch) (D : va_G) (cI cJ cR : ClassId) (sz : Nat) (h : Nat) : Met l yX2_init wsX2_init ({ frames := 1, cells := 3, slots := 4, locals := 12 }) (cPw D [(h, .inr (2, [.int 0, .int 0, .int 0, .int 0, .null, .null]))] sz (KC D cI cJ cR) [.ref h]) (wrv D [(h, .inr (2, [.int 0, .int 0, .int 0, .int 0, .null, .null]))] sz (fun ws' => ∃ ma sa r0 : Nat, ws' = ([(h, .inr (2, [.int (nI 0), .int 0, .int (nI 0), .int 10, .ref ma, .ref sa])), (ma, .inl (cR, 1, .inr (.inr (.inr (.inr (fr (fun _ => r0))))))), (sa, .inl (cR, 0, .inr (.inr (.inr (.inr (fr (fun _ => r0)))))))] ++ (RT cI (fun _ => r0) (fun _ => r0) (upd (fun _ => (0 : Int32)) 0 (-1)) (fun _ => (1 : Int32)) (fun _ => (1 : Int32)) (fun _ => (0 : Int32)) (fun _ => (0 : Int32)) 1 0)))) 3 4 (va_A [(h, .inr (2, [.int 0, .int 0, .int 0, .int 0, .null, .null]))] sz) := by
  refine Met.ofW (cc := cX2_init) (maxL := 1) (ret := none) (by decide +kernel) rfl ?_
  intro p e s m args below meth c9 s₁ B hml hv
  obtain ⟨rfl, hsz, hP, hD0, hC⟩ := hv
  have hx := B.exec
  have hb := B.bytes
  have hr := B.returns
  have hts := atoms_spec (ws := wsX2_init) B.pre
  have hown : s.vm.findClass RX2 = some m.cls := findClass_of_methodNamed B.named
  have hlocks := B.notSynchronized
  have hin : meth.name = "<init>" := (name_of_methodNamed B.named B.method).1
  have hK : va_K D vwCl [(cI, .int), (cJ, .long), (cR, .array .int)] s := hC.1
  subst hsz
  unfold wrv wB
  have hD := hD0.self (sz := s.heap.size)
  generalize hAe : va_A [(h, .inr (2, [.int 0, .int 0, .int 0, .int 0, .null, .null]))] s.heap.size = A at hD ⊢
  have hA : ∀ q : Nat, s.heap.size ≤ q → A q := fun q h => by rw [← hAe]; exact Or.inr h
  have hS : va_S A s.heap s.heap [] := va_S.rf
  have hl := lv_entry ([.ref h]) (n := 1) (Nat.le_of_ble_eq_true rfl)
  rw [lg_entry_eq]
  generalize (lg_sl ([.ref h]) ++ List.replicate (1 - (lg_sl ([.ref h])).length) Slot.unset).toArray = ls at hl ⊢
  have hl : lv_has ls 1 [(0, .ref h)] := hl
  have hiX2 : ∀ w ∈ u_ws RX2 TX2 6, w ∈ wsX2_init := by decide +kernel
  have hw7 : (Cond.fieldLink RX2 7 "OldMeasuresLaw$Sim" "tolerance" "I").before ([.ref h] : List Value).toArray s = true := hts _ (by decide +kernel)
  have hw15 : (Cond.fieldLink RX2 15 "OldMeasuresLaw$Sim" "measures" "[[I").before ([.ref h] : List Value).toArray s = true := hts _ (by decide +kernel)
  have hw19 : (Cond.fieldLink RX2 19 "OldMeasuresLaw$Sim" "stalls" "[[I").before ([.ref h] : List Value).toArray s = true := hts _ (by decide +kernel)
  refine lv_aload_n hx hb dX2_init_0 rfl (lv_at hl 0 rfl) ?_
  refine W.objInit hx hb hown (hts (.methodLink RX2 1 objectInit) (by decide +kernel)) (hts (.instanceMethod objectInit) (by decide +kernel)) (hts (.code objectInit ⟨#[0xb1]⟩ 1 none) (by decide +kernel)) rfl (by rw [hml]; exact hl.1) rfl dX2_init_1 (Nat.le_of_ble_eq_true rfl) (Nat.le_of_ble_eq_true rfl) ?_
  refine W.eq (g2 := F0 m 4 ls []) rfl ?_
  refine lv_aload_n hx hb dX2_init_4 rfl (lv_at hl 0 rfl) ?_
  refine lv_bipush (v := 10) hx hb dX2_init_5 (by decide) ?_
  refine va_put (D := D) (ci := 2) (v := .int 10) (ty := .int) (C := RX2) (T := TX2) (N := 6) hx hb hts hiX2 tyX2 tyX2_ok nmX2 hown hK hP hD hS 0 rfl rfl 3 (by decide) hw7 (fun _ h9 => h9) rfl (by decide +kernel) rfl rfl (Nat.le_of_ble_eq_true rfl) dX2_init_7 (fun H locs hP hD hS => ?_)
  have hP : va_P D vwCl [(h, .inr (2, [.int 0, .int 0, .int 0, .int 10, .null, .null]))] H := hP
  have hD : va_D A [(h, .inr (2, [.int 0, .int 0, .int 0, .int 10, .null, .null]))] := hD
  refine lv_aload_n hx hb dX2_init_10 rfl (lv_at hl 0 rfl) ?_
  refine lv_iconst (v := 1) hx hb dX2_init_11 (by decide) ?_
  refine topI (y := nI 1) rfl ?_
  refine xr_new (N := 1) hx hb hown (hts (.classLink RX2 13 "[I") (by decide +kernel)) hC.2.1 hK 2 rfl hP hD hS hA (by omega) (by decide) (Nat.le_trans (Nat.add_le_add_left (show _ ≤ 1 by omega) _) (Nat.le_of_ble_eq_true rfl)) dX2_init_12 (fun q_12 H hP hD hS => ?_)
  refine W.widen (k := 1) (n := 1) (by decide) (by omega) ?_
  have hP : va_P D vwCl [(h, .inr (2, [.int 0, .int 0, .int 0, .int 10, .null, .null])), (q_12, .inl (cR, 1, .inr (.inr (.inr (.inr (fun _ => none))))))] H := hP
  have hD : va_D A [(h, .inr (2, [.int 0, .int 0, .int 0, .int 10, .null, .null])), (q_12, .inl (cR, 1, .inr (.inr (.inr (.inr (fun _ => none))))))] := hD
  refine lv_dup hx hb dX2_init_15 rfl ?_
  refine lv_iconst (v := 0) hx hb dX2_init_16 (by decide) ?_
  refine topI (y := nI 0) rfl ?_
  refine lv_iconst (v := 3) hx hb dX2_init_17 (by decide) ?_
  refine xa_newaI (N := 3) hx hb (hts (.arrayClass .int) (by decide +kernel)) hK 0 rfl hP hD hS hA (by decide) (by decide +kernel) (by decide) (by decide) (by decide) dX2_init_18 (fun q_18 H hP hD hS => ?_)
  have hP : va_P D vwCl [(h, .inr (2, [.int 0, .int 0, .int 0, .int 10, .null, .null])), (q_12, .inl (cR, 1, .inr (.inr (.inr (.inr (fun _ => none)))))), (q_18, .inl (cI, 3, .inl (fun _ => (0 : Int32))))] H := hP
  have hD : va_D A [(h, .inr (2, [.int 0, .int 0, .int 0, .int 10, .null, .null])), (q_12, .inl (cR, 1, .inr (.inr (.inr (.inr (fun _ => none)))))), (q_18, .inl (cI, 3, .inl (fun _ => (0 : Int32))))] := hD
  refine lv_dup hx hb dX2_init_20 rfl ?_
  refine lv_iconst (v := 0) hx hb dX2_init_21 (by decide) ?_
  refine lv_iconst (v := (-1)) hx hb dX2_init_22 (by decide) ?_
  refine xa_iast (j := 0) hx hb hK hP hD hS 2 0 rfl rfl (by decide) (by decide) dX2_init_23 (fun H locs hP hD hS => ?_)
  have hP : va_P D vwCl [(h, .inr (2, [.int 0, .int 0, .int 0, .int 10, .null, .null])), (q_12, .inl (cR, 1, .inr (.inr (.inr (.inr (fun _ => none)))))), (q_18, .inl (cI, 3, .inl (upd (fun _ => (0 : Int32)) 0 (-1))))] H := hP
  have hD : va_D A [(h, .inr (2, [.int 0, .int 0, .int 0, .int 10, .null, .null])), (q_12, .inl (cR, 1, .inr (.inr (.inr (.inr (fun _ => none)))))), (q_18, .inl (cI, 3, .inl (upd (fun _ => (0 : Int32)) 0 (-1))))] := hD
  refine lv_dup hx hb dX2_init_24 rfl ?_
  refine lv_iconst (v := 1) hx hb dX2_init_25 (by decide) ?_
  refine lv_iconst (v := 1) hx hb dX2_init_26 (by decide) ?_
  refine xa_iast (j := 1) hx hb hK hP hD hS 2 0 rfl rfl (by decide) (by decide) dX2_init_27 (fun H locs hP hD hS => ?_)
  have hP : va_P D vwCl [(h, .inr (2, [.int 0, .int 0, .int 0, .int 10, .null, .null])), (q_12, .inl (cR, 1, .inr (.inr (.inr (.inr (fun _ => none)))))), (q_18, .inl (cI, 3, .inl (upd (upd (fun _ => (0 : Int32)) 0 (-1)) 1 1)))] H := hP
  have hD : va_D A [(h, .inr (2, [.int 0, .int 0, .int 0, .int 10, .null, .null])), (q_12, .inl (cR, 1, .inr (.inr (.inr (.inr (fun _ => none)))))), (q_18, .inl (cI, 3, .inl (upd (upd (fun _ => (0 : Int32)) 0 (-1)) 1 1)))] := hD
  refine lv_dup hx hb dX2_init_28 rfl ?_
  refine lv_iconst (v := 2) hx hb dX2_init_29 (by decide) ?_
  refine lv_iconst (v := 1) hx hb dX2_init_30 (by decide) ?_
  refine xa_iast (j := 2) hx hb hK hP hD hS 2 0 rfl rfl (by decide) (by decide) dX2_init_31 (fun H locs hP hD hS => ?_)
  have hP : va_P D vwCl [(h, .inr (2, [.int 0, .int 0, .int 0, .int 10, .null, .null])), (q_12, .inl (cR, 1, .inr (.inr (.inr (.inr (fun _ => none)))))), (q_18, .inl (cI, 3, .inl (upd (upd (upd (fun _ => (0 : Int32)) 0 (-1)) 1 1) 2 1)))] H := hP
  have hD : va_D A [(h, .inr (2, [.int 0, .int 0, .int 0, .int 10, .null, .null])), (q_12, .inl (cR, 1, .inr (.inr (.inr (.inr (fun _ => none)))))), (q_18, .inl (cI, 3, .inl (upd (upd (upd (fun _ => (0 : Int32)) 0 (-1)) 1 1) 2 1)))] := hD
  refine xr_ast hx hb hK hC.2.1 hP hD hS 1 2 0 2 rfl rfl rfl rfl (j := 0) (by omega) (by omega) dX2_init_32 (fun H locs hP hD hS => ?_)
  have hP : va_P D vwCl [(h, .inr (2, [.int 0, .int 0, .int 0, .int 10, .null, .null])), (q_12, .inl (cR, 1, .inr (.inr (.inr (.inr (fr (fun _ => q_18))))))), (q_18, .inl (cI, 3, .inl (upd (upd (upd (fun _ => (0 : Int32)) 0 (-1)) 1 1) 2 1)))] H := hP.toQ 1 rfl (fun j hj => by rw [show j = 0 by omega]; rfl)
  have hD : va_D A [(h, .inr (2, [.int 0, .int 0, .int 0, .int 10, .null, .null])), (q_12, .inl (cR, 1, .inr (.inr (.inr (.inr (fr (fun _ => q_18))))))), (q_18, .inl (cI, 3, .inl (upd (upd (upd (fun _ => (0 : Int32)) 0 (-1)) 1 1) 2 1)))] := hD.set (p := 1) rfl
  have hP : va_P D vwCl [(h, .inr (2, [.int 0, .int 0, .int 0, .int 10, .null, .null])), (q_12, .inl (cR, 1, .inr (.inr (.inr (.inr (fr (fun _ => q_18))))))), (q_18, .inl (cI, 3, .inl (m3 (upd (fun _ => (0 : Int32)) 0 (-1)) (fun _ => (1 : Int32)) (fun _ => (1 : Int32)) 0)))] H := hP.toI 2 rfl (fun j hj => by rcases (show j = 0 ∨ j = 1 ∨ j = 2 by omega) with rfl | rfl | rfl <;> rfl)
  have hD : va_D A [(h, .inr (2, [.int 0, .int 0, .int 0, .int 10, .null, .null])), (q_12, .inl (cR, 1, .inr (.inr (.inr (.inr (fr (fun _ => q_18))))))), (q_18, .inl (cI, 3, .inl (m3 (upd (fun _ => (0 : Int32)) 0 (-1)) (fun _ => (1 : Int32)) (fun _ => (1 : Int32)) 0)))] := hD.set (p := 2) rfl
  refine va_put (D := D) (ci := 2) (v := .ref q_12) (ty := .array (.array .int)) (C := RX2) (T := TX2) (N := 6) hx hb hts hiX2 tyX2 tyX2_ok nmX2 hown hK hP hD hS 0 rfl rfl 4 (by decide) hw15 (fun _ h9 => h9) rfl (by decide +kernel) rfl rfl (Nat.le_of_ble_eq_true rfl) dX2_init_33 (fun H locs hP hD hS => ?_)
  have hP : va_P D vwCl [(h, .inr (2, [.int 0, .int 0, .int 0, .int 10, .ref q_12, .null])), (q_12, .inl (cR, 1, .inr (.inr (.inr (.inr (fr (fun _ => q_18))))))), (q_18, .inl (cI, 3, .inl (m3 (upd (fun _ => (0 : Int32)) 0 (-1)) (fun _ => (1 : Int32)) (fun _ => (1 : Int32)) 0)))] H := hP
  have hD : va_D A [(h, .inr (2, [.int 0, .int 0, .int 0, .int 10, .ref q_12, .null])), (q_12, .inl (cR, 1, .inr (.inr (.inr (.inr (fr (fun _ => q_18))))))), (q_18, .inl (cI, 3, .inl (m3 (upd (fun _ => (0 : Int32)) 0 (-1)) (fun _ => (1 : Int32)) (fun _ => (1 : Int32)) 0)))] := hD
  refine lv_aload_n hx hb dX2_init_36 rfl (lv_at hl 0 rfl) ?_
  refine lv_iconst (v := 0) hx hb dX2_init_37 (by decide) ?_
  refine topI (y := nI 0) rfl ?_
  refine xr_new (N := 0) hx hb hown (hts (.classLink RX2 13 "[I") (by decide +kernel)) hC.2.1 hK 2 rfl hP hD hS hA (by omega) (by decide) (Nat.le_trans (Nat.add_le_add_left (show _ ≤ 0 by omega) _) (Nat.le_of_ble_eq_true rfl)) dX2_init_38 (fun q_38 H hP hD hS => ?_)
  refine W.widen (k := 3) (n := 4) (by decide) (by omega) ?_
  have hP : va_P D vwCl [(h, .inr (2, [.int 0, .int 0, .int 0, .int 10, .ref q_12, .null])), (q_12, .inl (cR, 1, .inr (.inr (.inr (.inr (fr (fun _ => q_18))))))), (q_18, .inl (cI, 3, .inl (m3 (upd (fun _ => (0 : Int32)) 0 (-1)) (fun _ => (1 : Int32)) (fun _ => (1 : Int32)) 0))), (q_38, .inl (cR, 0, .inr (.inr (.inr (.inr (fun _ => none))))))] H := hP
  have hD : va_D A [(h, .inr (2, [.int 0, .int 0, .int 0, .int 10, .ref q_12, .null])), (q_12, .inl (cR, 1, .inr (.inr (.inr (.inr (fr (fun _ => q_18))))))), (q_18, .inl (cI, 3, .inl (m3 (upd (fun _ => (0 : Int32)) 0 (-1)) (fun _ => (1 : Int32)) (fun _ => (1 : Int32)) 0))), (q_38, .inl (cR, 0, .inr (.inr (.inr (.inr (fun _ => none))))))] := hD
  refine va_put (D := D) (ci := 2) (v := .ref q_38) (ty := .array (.array .int)) (C := RX2) (T := TX2) (N := 6) hx hb hts hiX2 tyX2 tyX2_ok nmX2 hown hK hP hD hS 0 rfl rfl 5 (by decide) hw19 (fun _ h9 => h9) rfl (by decide +kernel) rfl rfl (Nat.le_of_ble_eq_true rfl) dX2_init_41 (fun H locs hP hD hS => ?_)
  have hP : va_P D vwCl [(h, .inr (2, [.int 0, .int 0, .int 0, .int 10, .ref q_12, .ref q_38])), (q_12, .inl (cR, 1, .inr (.inr (.inr (.inr (fr (fun _ => q_18))))))), (q_18, .inl (cI, 3, .inl (m3 (upd (fun _ => (0 : Int32)) 0 (-1)) (fun _ => (1 : Int32)) (fun _ => (1 : Int32)) 0))), (q_38, .inl (cR, 0, .inr (.inr (.inr (.inr (fun _ => none))))))] H := hP
  have hD : va_D A [(h, .inr (2, [.int 0, .int 0, .int 0, .int 10, .ref q_12, .ref q_38])), (q_12, .inl (cR, 1, .inr (.inr (.inr (.inr (fr (fun _ => q_18))))))), (q_18, .inl (cI, 3, .inl (m3 (upd (fun _ => (0 : Int32)) 0 (-1)) (fun _ => (1 : Int32)) (fun _ => (1 : Int32)) 0))), (q_38, .inl (cR, 0, .inr (.inr (.inr (.inr (fun _ => none))))))] := hD
  have hP : va_P D vwCl [(h, .inr (2, [.int 0, .int 0, .int 0, .int 10, .ref q_12, .ref q_38])), (q_12, .inl (cR, 1, .inr (.inr (.inr (.inr (fr (fun _ => q_18))))))), (q_18, .inl (cI, 3, .inl (m3 (upd (fun _ => (0 : Int32)) 0 (-1)) (fun _ => (1 : Int32)) (fun _ => (1 : Int32)) 0))), (q_38, .inl (cR, 0, .inr (.inr (.inr (.inr (fr (fun _ => q_18)))))))] H := hP.toQ 3 rfl (fun j hj => absurd hj (Nat.not_lt_zero j))
  have hD : va_D A [(h, .inr (2, [.int 0, .int 0, .int 0, .int 10, .ref q_12, .ref q_38])), (q_12, .inl (cR, 1, .inr (.inr (.inr (.inr (fr (fun _ => q_18))))))), (q_18, .inl (cI, 3, .inl (m3 (upd (fun _ => (0 : Int32)) 0 (-1)) (fun _ => (1 : Int32)) (fun _ => (1 : Int32)) 0))), (q_38, .inl (cR, 0, .inr (.inr (.inr (.inr (fr (fun _ => q_18)))))))] := hD.set (p := 3) rfl
  have hP := hP.sub (ws' := [(h, .inr (2, [.int 0, .int 0, .int 0, .int 10, .ref q_12, .ref q_38])), (q_12, .inl (cR, 1, .inr (.inr (.inr (.inr (fr (fun _ => q_18))))))), (q_38, .inl (cR, 0, .inr (.inr (.inr (.inr (fr (fun _ => q_18))))))), (q_18, .inl (cI, 3, .inl (m3 (upd (fun _ => (0 : Int32)) 0 (-1)) (fun _ => (1 : Int32)) (fun _ => (1 : Int32)) 0)))]) [0, 1, 3, 2] rfl
  have hD := hD.sub (ws' := [(h, .inr (2, [.int 0, .int 0, .int 0, .int 10, .ref q_12, .ref q_38])), (q_12, .inl (cR, 1, .inr (.inr (.inr (.inr (fr (fun _ => q_18))))))), (q_38, .inl (cR, 0, .inr (.inr (.inr (.inr (fr (fun _ => q_18))))))), (q_18, .inl (cI, 3, .inl (m3 (upd (fun _ => (0 : Int32)) 0 (-1)) (fun _ => (1 : Int32)) (fun _ => (1 : Int32)) 0)))]) [0, 1, 3, 2] (by decide) rfl
  exact W.vret hx hb hr (fun t9 ht hW => ⟨⟨[(h, .inr (2, [.int 0, .int 0, .int 0, .int 10, .ref q_12, .ref q_38])), (q_12, .inl (cR, 1, .inr (.inr (.inr (.inr (fr (fun _ => q_18))))))), (q_38, .inl (cR, 0, .inr (.inr (.inr (.inr (fr (fun _ => q_18))))))), (q_18, .inl (cI, 3, .inl (m3 (upd (fun _ => (0 : Int32)) 0 (-1)) (fun _ => (1 : Int32)) (fun _ => (1 : Int32)) 0)))], rfl, ⟨q_12, q_38, q_18, rfl⟩, by rw [ht]; exact hP, hD⟩, hS.F ht⟩) hS.2.2 dX2_init_44
