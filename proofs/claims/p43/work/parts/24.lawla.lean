set_option maxHeartbeats 4000000 in
set_option maxRecDepth 100000 in
theorem law_stalls (l : Launch) {p : Program} {e : Env} {s : State} {m : MethodId} {args : Array Value} {below : List Frame} {meth : Method} {c9 : Code} {Q : State → Prop} (C0 : LC p s m c9 args) (D : va_G) (cI cJ cR : ClassId) (hC : KC D cI cJ cR s s.heap) (A : Nat → Prop) (hA : ∀ q : Nat, s.heap.size ≤ q → A q) (cells slots : Nat) (hRc : cells ≤ 500000) (hRs : slots ≤ 5000000) (a : Nat → Nat) (sm ma sa : Nat) (ra rs : Nat → Nat) (k st : Nat) (fi : Int32) (fB fS fO mM mP : Nat → Int32) (fL : Nat → Int64) (c : Nat) (t : Int32) (y : Nat) (fW fD : Nat → Int32) (c2 t2 y2 : Int32) (gW gD : Nat → Int32) (hI : PI k st fB fS fO fL c t fW fD mM mP) (hy : y < 2 ^ 19) (n9 : Nat) (hn1 : 1 ≤ n9) (hn2 : n9 ≤ 200) (jx : Nat) (hjx : jx < k) (z3 z4 : Int32) (bs : Nat) (qd : Nat)
    (kk : ∀ (H : Heap) (locs : List Loc) (ls : Array Slot), lv_has ls 18 [(0, .ref bs), (1, .ref (a 0)), (2, .ref sm), (3, .int z3), (4, .int z4), (5, .int (nI k)), (6, .int (nI c)), (7, .int (nI n9)), (8, .int (nI jx)), (9, .int (mnA fD c)), (10, .int (mxA fD c)), (11, .ref qd)] → va_P D vwCl ([((a 0), .inr (1, [.ref (a 1), .ref (a 2), .ref (a 3), .ref (a 4), .ref (a 5), .ref (a 8), .int (nI k), .int (nI st), .int fi])), ((a 1), .inl (cI, 8, .inl fB)), ((a 2), .inl (cI, 8, .inl fS)), ((a 3), .inl (cJ, 8, .inr (.inl fL))), ((a 4), .inl (cI, 8, .inl fO)), ((a 5), .inr (0, [.ref (a 6), .ref (a 7), .int (nI c), .int t, .int (nI y)])), ((a 6), .inl (cI, 6, .inl fW)), ((a 7), .inl (cI, 6, .inl fD)), ((a 8), .inr (0, [.ref (a 9), .ref (a 10), .int c2, .int t2, .int y2])), ((a 9), .inl (cI, 6, .inl gW)), ((a 10), .inl (cI, 6, .inl gD)), (sm, .inr (2, [.int (nI y), .int fi, .int (nI st), .int t, .ref ma, .ref sa])), (ma, .inl (cR, k, .inr (.inr (.inr (.inr (fr ra)))))), (sa, .inl (cR, c, .inr (.inr (.inr (.inr (fr rs)))))), (qd, .inl (cI, c, .inl (cpF fD (fun _ => (0 : Int32)) c)))] ++ (RT cI ra rs fB mM mP fW fD k c)) H → va_D A ([((a 0), .inr (1, [.ref (a 1), .ref (a 2), .ref (a 3), .ref (a 4), .ref (a 5), .ref (a 8), .int (nI k), .int (nI st), .int fi])), ((a 1), .inl (cI, 8, .inl fB)), ((a 2), .inl (cI, 8, .inl fS)), ((a 3), .inl (cJ, 8, .inr (.inl fL))), ((a 4), .inl (cI, 8, .inl fO)), ((a 5), .inr (0, [.ref (a 6), .ref (a 7), .int (nI c), .int t, .int (nI y)])), ((a 6), .inl (cI, 6, .inl fW)), ((a 7), .inl (cI, 6, .inl fD)), ((a 8), .inr (0, [.ref (a 9), .ref (a 10), .int c2, .int t2, .int y2])), ((a 9), .inl (cI, 6, .inl gW)), ((a 10), .inl (cI, 6, .inl gD)), (sm, .inr (2, [.int (nI y), .int fi, .int (nI st), .int t, .ref ma, .ref sa])), (ma, .inl (cR, k, .inr (.inr (.inr (.inr (fr ra)))))), (sa, .inl (cR, c, .inr (.inr (.inr (.inr (fr rs)))))), (qd, .inl (cI, c, .inl (cpF fD (fun _ => (0 : Int32)) c)))] ++ (RT cI ra rs fB mM mP fW fD k c)) → va_S A s.heap H locs → W p l e room_1 s m args below meth c9 H locs cells slots Q (F0 m 678 ls []))
    (H : Heap) (locs : List Loc) (ls : Array Slot) (hl : lv_has ls 18 [(0, .ref bs), (1, .ref (a 0)), (2, .ref sm), (3, .int z3), (4, .int z4), (5, .int (nI k)), (6, .int (nI c)), (7, .int (nI n9)), (8, .int (nI jx)), (9, .int (mnA fD 0)), (10, .int (mxA fD 0)), (11, .ref qd), (12, .int 0)]) (hP : va_P D vwCl ([((a 0), .inr (1, [.ref (a 1), .ref (a 2), .ref (a 3), .ref (a 4), .ref (a 5), .ref (a 8), .int (nI k), .int (nI st), .int fi])), ((a 1), .inl (cI, 8, .inl fB)), ((a 2), .inl (cI, 8, .inl fS)), ((a 3), .inl (cJ, 8, .inr (.inl fL))), ((a 4), .inl (cI, 8, .inl fO)), ((a 5), .inr (0, [.ref (a 6), .ref (a 7), .int (nI c), .int t, .int (nI y)])), ((a 6), .inl (cI, 6, .inl fW)), ((a 7), .inl (cI, 6, .inl fD)), ((a 8), .inr (0, [.ref (a 9), .ref (a 10), .int c2, .int t2, .int y2])), ((a 9), .inl (cI, 6, .inl gW)), ((a 10), .inl (cI, 6, .inl gD)), (sm, .inr (2, [.int (nI y), .int fi, .int (nI st), .int t, .ref ma, .ref sa])), (ma, .inl (cR, k, .inr (.inr (.inr (.inr (fr ra)))))), (sa, .inl (cR, c, .inr (.inr (.inr (.inr (fr rs)))))), (qd, .inl (cI, c, .inl (cpF fD (fun _ => (0 : Int32)) 0)))] ++ (RT cI ra rs fB mM mP fW fD k c)) H) (hD : va_D A ([((a 0), .inr (1, [.ref (a 1), .ref (a 2), .ref (a 3), .ref (a 4), .ref (a 5), .ref (a 8), .int (nI k), .int (nI st), .int fi])), ((a 1), .inl (cI, 8, .inl fB)), ((a 2), .inl (cI, 8, .inl fS)), ((a 3), .inl (cJ, 8, .inr (.inl fL))), ((a 4), .inl (cI, 8, .inl fO)), ((a 5), .inr (0, [.ref (a 6), .ref (a 7), .int (nI c), .int t, .int (nI y)])), ((a 6), .inl (cI, 6, .inl fW)), ((a 7), .inl (cI, 6, .inl fD)), ((a 8), .inr (0, [.ref (a 9), .ref (a 10), .int c2, .int t2, .int y2])), ((a 9), .inl (cI, 6, .inl gW)), ((a 10), .inl (cI, 6, .inl gD)), (sm, .inr (2, [.int (nI y), .int fi, .int (nI st), .int t, .ref ma, .ref sa])), (ma, .inl (cR, k, .inr (.inr (.inr (.inr (fr ra)))))), (sa, .inl (cR, c, .inr (.inr (.inr (.inr (fr rs)))))), (qd, .inl (cI, c, .inl (cpF fD (fun _ => (0 : Int32)) 0)))] ++ (RT cI ra rs fB mM mP fW fD k c))) (hS : va_S A s.heap H locs) : W p l e room_1 s m args below meth c9 H locs cells slots Q (F0 m 468 ls []) := by
  obtain ⟨hx, hb, hml, hown, hts⟩ := C0
  have hK : va_K D vwCl [(cI, .int), (cJ, .long), (cR, .array .int)] s := hC.1
  obtain ⟨hLI, hB0, ht100, hW9⟩ := id hI
  have hM := hLI.1
  have hst2 := hLI.2.1
  have hc := hLI.2.2.2.1
  have ht0 := hLI.2.2.2.2.1
  have hD3 := hLI.2.2.2.2.2.1
  obtain ⟨La, pp, uu, bb, hL⟩ := hLI.2.2.2.2.2.2.2.1
  obtain ⟨g9, hg⟩ := hLI.2.2.2.2.2.2.2.2.1
  have hk8 : k ≤ 8 := hM.2.1
  have hk1 : 1 ≤ k := hM.1
  have ht9 : 0 ≤ t.toInt ∧ t.toInt ≤ 100 := ⟨ht0, ht100⟩
  have hlg := lgN_le fL (k - 1)
  have hsh := shN_le fL (k - 1)
  have h99 := p9 hk8
  obtain ⟨ej, hpj, hbj⟩ := hL.1 jx hjx
  have tj : (fL jx).toInt = (La jx : Int) := by rw [ej, pk_lT (by omega)]
  have hS : va_S A s.heap H locs := hS
  refine loopW (σ := Unit) (I := fun i x H locs ls => lv_has ls 18 [(0, .ref bs), (1, .ref (a 0)), (2, .ref sm), (3, .int z3), (4, .int z4), (5, .int (nI k)), (6, .int (nI c)), (7, .int (nI n9)), (8, .int (nI jx)), (9, .int (mnA fD i)), (10, .int (mxA fD i)), (11, .ref qd), (12, .int (nI i))] ∧ va_P D vwCl ([((a 0), .inr (1, [.ref (a 1), .ref (a 2), .ref (a 3), .ref (a 4), .ref (a 5), .ref (a 8), .int (nI k), .int (nI st), .int fi])), ((a 1), .inl (cI, 8, .inl fB)), ((a 2), .inl (cI, 8, .inl fS)), ((a 3), .inl (cJ, 8, .inr (.inl fL))), ((a 4), .inl (cI, 8, .inl fO)), ((a 5), .inr (0, [.ref (a 6), .ref (a 7), .int (nI c), .int t, .int (nI y)])), ((a 6), .inl (cI, 6, .inl fW)), ((a 7), .inl (cI, 6, .inl fD)), ((a 8), .inr (0, [.ref (a 9), .ref (a 10), .int c2, .int t2, .int y2])), ((a 9), .inl (cI, 6, .inl gW)), ((a 10), .inl (cI, 6, .inl gD)), (sm, .inr (2, [.int (nI y), .int fi, .int (nI st), .int t, .ref ma, .ref sa])), (ma, .inl (cR, k, .inr (.inr (.inr (.inr (fr ra)))))), (sa, .inl (cR, c, .inr (.inr (.inr (.inr (fr rs)))))), (qd, .inl (cI, c, .inl (cpF fD (fun _ => (0 : Int32)) i)))] ++ (RT cI ra rs fB mM mP fW fD k c)) H ∧ va_D A ([((a 0), .inr (1, [.ref (a 1), .ref (a 2), .ref (a 3), .ref (a 4), .ref (a 5), .ref (a 8), .int (nI k), .int (nI st), .int fi])), ((a 1), .inl (cI, 8, .inl fB)), ((a 2), .inl (cI, 8, .inl fS)), ((a 3), .inl (cJ, 8, .inr (.inl fL))), ((a 4), .inl (cI, 8, .inl fO)), ((a 5), .inr (0, [.ref (a 6), .ref (a 7), .int (nI c), .int t, .int (nI y)])), ((a 6), .inl (cI, 6, .inl fW)), ((a 7), .inl (cI, 6, .inl fD)), ((a 8), .inr (0, [.ref (a 9), .ref (a 10), .int c2, .int t2, .int y2])), ((a 9), .inl (cI, 6, .inl gW)), ((a 10), .inl (cI, 6, .inl gD)), (sm, .inr (2, [.int (nI y), .int fi, .int (nI st), .int t, .ref ma, .ref sa])), (ma, .inl (cR, k, .inr (.inr (.inr (.inr (fr ra)))))), (sa, .inl (cR, c, .inr (.inr (.inr (.inr (fr rs)))))), (qd, .inl (cI, c, .inl (cpF fD (fun _ => (0 : Int32)) i)))] ++ (RT cI ra rs fB mM mP fW fD k c)) ∧ va_S A s.heap H locs) c ?_ 0 () _ _ ls (by omega) ⟨lv_sub hl [0, 1, 2, 3, 4, 5, 6, 7, 8, 9, 10, 11, 12] rfl, hP, hD, hS⟩
  intro i x H locs ls hi hI k9
  obtain ⟨hl, hP, hD, hS⟩ := hI
  refine lv_iload hx hb dL_law_468 (lv_at hl 12 rfl) ?_
  refine lv_iload hx hb dL_law_470 (lv_at hl 6 rfl) ?_
  refine lv_icmp_ge (tgt := 678) hx hb dL_law_472 (by decide) (fun c_472 => ?_) (fun c_472 => ?_)
  · skip
    simp only [Int32.le_iff_toInt_le] at c_472
    rw [nI_toInt (n := i) (by omega)] at c_472
    rw [nI_toInt (n := c) (by omega)] at c_472
    have e9 : c = i := by omega
    subst e9
    exact kk H locs ls (lv_sub hl [0, 1, 2, 3, 4, 5, 6, 7, 8, 9, 10, 11] rfl) hP hD hS
  · skip
    simp only [Int32.le_iff_toInt_le] at c_472
    rw [nI_toInt (n := i) (by omega)] at c_472
    rw [nI_toInt (n := c) (by omega)] at c_472
    have hic : i < c := by omega
    have hd3 := hD3 i hic
    have hw9 := hW9 i hic
    have hls := ls_sign (n := n9) (hL.pos hk8 hjx) (hL.pos hk8 hst2) hn2 hd3
    have habs := abs300 hd3
    refine lv_aload hx hb dL_law_475 (lv_at hl 11 rfl) ?_
    refine lv_iload hx hb dL_law_477 (lv_at hl 12 rfl) ?_
    refine lv_aload_n hx hb dL_law_479 rfl (lv_at hl 1 rfl) ?_
    refine lv_iload hx hb dL_law_480 (lv_at hl 12 rfl) ?_
    refine ro_iE (va_runV (As := [.int (nI i)]) (rest := [.int (nI i), .ref qd]) ⟨hx, hb, hml, hown, hts⟩ (k_X1_driftOf l D cI cJ cR a k st fi fB fS fO fL c t y fW fD c2 t2 y2 gW gD hc i (by omega)) (cwV 1 hts gL_law_X1_driftOf rfl rfl rfl (by decide +kernel) ⟨Nat.le_of_ble_eq_true rfl, Nat.le_of_ble_eq_true rfl⟩) (preV_ro KC_ok (hP.sub (ws' := [((a 0), .inr (1, [.ref (a 1), .ref (a 2), .ref (a 3), .ref (a 4), .ref (a 5), .ref (a 8), .int (nI k), .int (nI st), .int fi])), ((a 1), .inl (cI, 8, .inl fB)), ((a 2), .inl (cI, 8, .inl fS)), ((a 3), .inl (cJ, 8, .inr (.inl fL))), ((a 4), .inl (cI, 8, .inl fO)), ((a 5), .inr (0, [.ref (a 6), .ref (a 7), .int (nI c), .int t, .int (nI y)])), ((a 6), .inl (cI, 6, .inl fW)), ((a 7), .inl (cI, 6, .inl fD)), ((a 8), .inr (0, [.ref (a 9), .ref (a 10), .int c2, .int t2, .int y2])), ((a 9), .inl (cI, 6, .inl gW)), ((a 10), .inl (cI, 6, .inl gD))]) [0, 1, 2, 3, 4, 5, 6, 7, 8, 9, 10] rfl) hC (va_recv hK hP (ci := 1) (q0 := 0) rfl rfl)) rfl rfl hl.1 rfl (lv_room (Nat.le_of_ble_eq_true rfl)) dL_law_482 ⟨show _ ≤ 791242 by omega, show _ ≤ 6727743 by omega⟩) ?_
    refine xa_iast hx hb hK hP hD hS 14 0 rfl rfl (by omega) (by omega) dL_law_485 (fun H locs hP hD hS => ?_)
    have hP : va_P D vwCl ([((a 0), .inr (1, [.ref (a 1), .ref (a 2), .ref (a 3), .ref (a 4), .ref (a 5), .ref (a 8), .int (nI k), .int (nI st), .int fi])), ((a 1), .inl (cI, 8, .inl fB)), ((a 2), .inl (cI, 8, .inl fS)), ((a 3), .inl (cJ, 8, .inr (.inl fL))), ((a 4), .inl (cI, 8, .inl fO)), ((a 5), .inr (0, [.ref (a 6), .ref (a 7), .int (nI c), .int t, .int (nI y)])), ((a 6), .inl (cI, 6, .inl fW)), ((a 7), .inl (cI, 6, .inl fD)), ((a 8), .inr (0, [.ref (a 9), .ref (a 10), .int c2, .int t2, .int y2])), ((a 9), .inl (cI, 6, .inl gW)), ((a 10), .inl (cI, 6, .inl gD)), (sm, .inr (2, [.int (nI y), .int fi, .int (nI st), .int t, .ref ma, .ref sa])), (ma, .inl (cR, k, .inr (.inr (.inr (.inr (fr ra)))))), (sa, .inl (cR, c, .inr (.inr (.inr (.inr (fr rs)))))), (qd, .inl (cI, c, .inl (upd (cpF fD (fun _ => (0 : Int32)) i) i (fD i))))] ++ (RT cI ra rs fB mM mP fW fD k c)) H := hP
    have hD : va_D A ([((a 0), .inr (1, [.ref (a 1), .ref (a 2), .ref (a 3), .ref (a 4), .ref (a 5), .ref (a 8), .int (nI k), .int (nI st), .int fi])), ((a 1), .inl (cI, 8, .inl fB)), ((a 2), .inl (cI, 8, .inl fS)), ((a 3), .inl (cJ, 8, .inr (.inl fL))), ((a 4), .inl (cI, 8, .inl fO)), ((a 5), .inr (0, [.ref (a 6), .ref (a 7), .int (nI c), .int t, .int (nI y)])), ((a 6), .inl (cI, 6, .inl fW)), ((a 7), .inl (cI, 6, .inl fD)), ((a 8), .inr (0, [.ref (a 9), .ref (a 10), .int c2, .int t2, .int y2])), ((a 9), .inl (cI, 6, .inl gW)), ((a 10), .inl (cI, 6, .inl gD)), (sm, .inr (2, [.int (nI y), .int fi, .int (nI st), .int t, .ref ma, .ref sa])), (ma, .inl (cR, k, .inr (.inr (.inr (.inr (fr ra)))))), (sa, .inl (cR, c, .inr (.inr (.inr (.inr (fr rs)))))), (qd, .inl (cI, c, .inl (upd (cpF fD (fun _ => (0 : Int32)) i) i (fD i))))] ++ (RT cI ra rs fB mM mP fW fD k c)) := hD
    have hP : va_P D vwCl ([((a 0), .inr (1, [.ref (a 1), .ref (a 2), .ref (a 3), .ref (a 4), .ref (a 5), .ref (a 8), .int (nI k), .int (nI st), .int fi])), ((a 1), .inl (cI, 8, .inl fB)), ((a 2), .inl (cI, 8, .inl fS)), ((a 3), .inl (cJ, 8, .inr (.inl fL))), ((a 4), .inl (cI, 8, .inl fO)), ((a 5), .inr (0, [.ref (a 6), .ref (a 7), .int (nI c), .int t, .int (nI y)])), ((a 6), .inl (cI, 6, .inl fW)), ((a 7), .inl (cI, 6, .inl fD)), ((a 8), .inr (0, [.ref (a 9), .ref (a 10), .int c2, .int t2, .int y2])), ((a 9), .inl (cI, 6, .inl gW)), ((a 10), .inl (cI, 6, .inl gD)), (sm, .inr (2, [.int (nI y), .int fi, .int (nI st), .int t, .ref ma, .ref sa])), (ma, .inl (cR, k, .inr (.inr (.inr (.inr (fr ra)))))), (sa, .inl (cR, c, .inr (.inr (.inr (.inr (fr rs)))))), (qd, .inl (cI, c, .inl (cpF fD (fun _ => (0 : Int32)) (i + 1))))] ++ (RT cI ra rs fB mM mP fW fD k c)) H := by rw [← cpF_s]; exact hP
    have hD : va_D A ([((a 0), .inr (1, [.ref (a 1), .ref (a 2), .ref (a 3), .ref (a 4), .ref (a 5), .ref (a 8), .int (nI k), .int (nI st), .int fi])), ((a 1), .inl (cI, 8, .inl fB)), ((a 2), .inl (cI, 8, .inl fS)), ((a 3), .inl (cJ, 8, .inr (.inl fL))), ((a 4), .inl (cI, 8, .inl fO)), ((a 5), .inr (0, [.ref (a 6), .ref (a 7), .int (nI c), .int t, .int (nI y)])), ((a 6), .inl (cI, 6, .inl fW)), ((a 7), .inl (cI, 6, .inl fD)), ((a 8), .inr (0, [.ref (a 9), .ref (a 10), .int c2, .int t2, .int y2])), ((a 9), .inl (cI, 6, .inl gW)), ((a 10), .inl (cI, 6, .inl gD)), (sm, .inr (2, [.int (nI y), .int fi, .int (nI st), .int t, .ref ma, .ref sa])), (ma, .inl (cR, k, .inr (.inr (.inr (.inr (fr ra)))))), (sa, .inl (cR, c, .inr (.inr (.inr (.inr (fr rs)))))), (qd, .inl (cI, c, .inl (cpF fD (fun _ => (0 : Int32)) (i + 1))))] ++ (RT cI ra rs fB mM mP fW fD k c)) := by rw [← cpF_s]; exact hD
    refine lv_iload hx hb dL_law_486 (lv_at hl 9 rfl) ?_
    refine lv_aload hx hb dL_law_488 (lv_at hl 11 rfl) ?_
    refine lv_iload hx hb dL_law_490 (lv_at hl 12 rfl) ?_
    refine xa_iald hx hb hK hP 14 0 rfl rfl (by omega) (by omega) dL_law_492 ?_
    refine topI (y := (fD i)) (cpF_in _ _ (Nat.lt_succ_self i)) ?_
    refine va_mabs hx hb (by rw [hml]; exact hl.1.symm) hown (hts (.methodLink RL 128 Lib.Math.abs.name) (by decide +kernel)) (hts (.static Lib.Math.abs.name) (by decide +kernel)) (hts (.initialized "java/lang/Math") (by decide +kernel)) (hts (.code Lib.Math.abs.name Lib.Math.abs.code 1 (some .int)) (by decide +kernel)) (by first | decide | exact Nat.le_of_ble_eq_true rfl) (by first | decide | exact Nat.le_of_ble_eq_true rfl) (show _ ≤ 791242 by omega) (show _ ≤ 6727743 by omega) dL_law_493 ?_
    refine topI (y := (absI (fD i))) rfl ?_
    refine va_mmin hx hb (by rw [hml]; exact hl.1.symm) hown (hts (.methodLink RL 133 Lib.Math.min.name) (by decide +kernel)) (hts (.static Lib.Math.min.name) (by decide +kernel)) (hts (.initialized "java/lang/Math") (by decide +kernel)) (hts (.code Lib.Math.min.name Lib.Math.min.code 2 (some .int)) (by decide +kernel)) (by first | decide | exact Nat.le_of_ble_eq_true rfl) (by first | decide | exact Nat.le_of_ble_eq_true rfl) (show _ ≤ 791242 by omega) (show _ ≤ 6727743 by omega) dL_law_496 ?_
    refine topI (y := (mnA fD (i + 1))) rfl ?_
    refine lv_istore (lv' := [(9, .int (mnA fD (i + 1))), (0, .ref bs), (1, .ref (a 0)), (2, .ref sm), (3, .int z3), (4, .int z4), (5, .int (nI k)), (6, .int (nI c)), (7, .int (nI n9)), (8, .int (nI jx)), (10, .int (mxA fD i)), (11, .ref qd), (12, .int (nI i))]) hx hb dL_law_499 hl (by decide) rfl (fun ls hl => ?_)
    refine lv_iload hx hb dL_law_501 (lv_at hl 10 rfl) ?_
    refine lv_aload hx hb dL_law_503 (lv_at hl 11 rfl) ?_
    refine lv_iload hx hb dL_law_505 (lv_at hl 12 rfl) ?_
    refine xa_iald hx hb hK hP 14 0 rfl rfl (by omega) (by omega) dL_law_507 ?_
    refine topI (y := (fD i)) (cpF_in _ _ (Nat.lt_succ_self i)) ?_
    refine va_mmax hx hb (by rw [hml]; exact hl.1.symm) hown (hts (.methodLink RL 136 Lib.Math.max.name) (by decide +kernel)) (hts (.static Lib.Math.max.name) (by decide +kernel)) (hts (.initialized "java/lang/Math") (by decide +kernel)) (hts (.code Lib.Math.max.name Lib.Math.max.code 2 (some .int)) (by decide +kernel)) (by first | decide | exact Nat.le_of_ble_eq_true rfl) (by first | decide | exact Nat.le_of_ble_eq_true rfl) (show _ ≤ 791242 by omega) (show _ ≤ 6727743 by omega) dL_law_508 ?_
    refine topI (y := (mxA fD (i + 1))) rfl ?_
    refine lv_istore (lv' := [(10, .int (mxA fD (i + 1))), (9, .int (mnA fD (i + 1))), (0, .ref bs), (1, .ref (a 0)), (2, .ref sm), (3, .int z3), (4, .int z4), (5, .int (nI k)), (6, .int (nI c)), (7, .int (nI n9)), (8, .int (nI jx)), (11, .ref qd), (12, .int (nI i))]) hx hb dL_law_511 hl (by decide) rfl (fun ls hl => ?_)
    refine lv_aload_n hx hb dL_law_513 rfl (lv_at hl 3 rfl) ?_
    refine lv_iload hx hb dL_law_514 (lv_at hl 12 rfl) ?_
    refine lv_iload hx hb dL_law_516 (lv_at hl 9 rfl) ?_
    refine lv_iload hx hb dL_law_518 (lv_at hl 10 rfl) ?_
    refine ro_lE (va_runV (As := [.int (nI i), .int (nI n9), .int (nI jx)]) (rest := []) ⟨hx, hb, hml, hown, hts⟩ (k_X1_getsAt l D cI cJ cR a k st fi fB fS fO fL c t y fW fD c2 t2 y2 gW gD hM hst2 hc i (by omega) (nI n9) (inR_of (by omega) (by omega) (by omega)) jx (by omega)) (cwV 3 hts gL_law_X1_getsAt rfl rfl rfl (by decide +kernel) ⟨Nat.le_of_ble_eq_true rfl, Nat.le_of_ble_eq_true rfl⟩) (preV_ro KC_ok (hP.sub (ws' := [((a 0), .inr (1, [.ref (a 1), .ref (a 2), .ref (a 3), .ref (a 4), .ref (a 5), .ref (a 8), .int (nI k), .int (nI st), .int fi])), ((a 1), .inl (cI, 8, .inl fB)), ((a 2), .inl (cI, 8, .inl fS)), ((a 3), .inl (cJ, 8, .inr (.inl fL))), ((a 4), .inl (cI, 8, .inl fO)), ((a 5), .inr (0, [.ref (a 6), .ref (a 7), .int (nI c), .int t, .int (nI y)])), ((a 6), .inl (cI, 6, .inl fW)), ((a 7), .inl (cI, 6, .inl fD)), ((a 8), .inr (0, [.ref (a 9), .ref (a 10), .int c2, .int t2, .int y2])), ((a 9), .inl (cI, 6, .inl gW)), ((a 10), .inl (cI, 6, .inl gD))]) [0, 1, 2, 3, 4, 5, 6, 7, 8, 9, 10] rfl) hC (va_recv hK hP (ci := 1) (q0 := 0) rfl rfl)) rfl rfl hl.1 rfl (lv_room (Nat.le_of_ble_eq_true rfl)) dL_law_520 ⟨show _ ≤ 791242 by omega, show _ ≤ 6727743 by omega⟩) ?_
    refine lv_lstore (lv' := [(13, .long (gvn (fL jx) (fL st) (nI n9) (fD i))), (10, .int (mxA fD (i + 1))), (9, .int (mnA fD (i + 1))), (0, .ref bs), (1, .ref (a 0)), (2, .ref sm), (3, .int z3), (4, .int z4), (5, .int (nI k)), (6, .int (nI c)), (7, .int (nI n9)), (8, .int (nI jx)), (11, .ref qd), (12, .int (nI i))]) hx hb dL_law_523 hl (by decide) rfl (fun ls hl => ?_)
    refine lv_aload_n hx hb dL_law_525 rfl (lv_at hl 4 rfl) ?_
    refine lv_iload hx hb dL_law_526 (lv_at hl 13 rfl) ?_
    refine lv_iload hx hb dL_law_528 (lv_at hl 10 rfl) ?_
    refine lv_iload hx hb dL_law_530 (lv_at hl 11 rfl) ?_
    refine ro_lE (va_runV (As := [.int (nI i), .int (nI n9), .int (nI jx)]) (rest := []) ⟨hx, hb, hml, hown, hts⟩ (k_X1_lossAt l D cI cJ cR a k st fi fB fS fO fL c t y fW fD c2 t2 y2 gW gD hM hst2 hc i (by omega) (nI n9) (inR_of (by omega) (by omega) (by omega)) jx (by omega)) (cwV 3 hts gL_law_X1_lossAt rfl rfl rfl (by decide +kernel) ⟨Nat.le_of_ble_eq_true rfl, Nat.le_of_ble_eq_true rfl⟩) (preV_ro KC_ok (hP.sub (ws' := [((a 0), .inr (1, [.ref (a 1), .ref (a 2), .ref (a 3), .ref (a 4), .ref (a 5), .ref (a 8), .int (nI k), .int (nI st), .int fi])), ((a 1), .inl (cI, 8, .inl fB)), ((a 2), .inl (cI, 8, .inl fS)), ((a 3), .inl (cJ, 8, .inr (.inl fL))), ((a 4), .inl (cI, 8, .inl fO)), ((a 5), .inr (0, [.ref (a 6), .ref (a 7), .int (nI c), .int t, .int (nI y)])), ((a 6), .inl (cI, 6, .inl fW)), ((a 7), .inl (cI, 6, .inl fD)), ((a 8), .inr (0, [.ref (a 9), .ref (a 10), .int c2, .int t2, .int y2])), ((a 9), .inl (cI, 6, .inl gW)), ((a 10), .inl (cI, 6, .inl gD))]) [0, 1, 2, 3, 4, 5, 6, 7, 8, 9, 10] rfl) hC (va_recv hK hP (ci := 1) (q0 := 0) rfl rfl)) rfl rfl hl.1 rfl (lv_room (Nat.le_of_ble_eq_true rfl)) dL_law_532 ⟨show _ ≤ 791242 by omega, show _ ≤ 6727743 by omega⟩) ?_
    refine lv_lstore (lv' := [(15, .long ((gvn (fL jx) (fL st) (nI n9) 0) - (gvn (fL jx) (fL st) (nI n9) (fD i)))), (13, .long (gvn (fL jx) (fL st) (nI n9) (fD i))), (10, .int (mxA fD (i + 1))), (9, .int (mnA fD (i + 1))), (0, .ref bs), (1, .ref (a 0)), (2, .ref sm), (3, .int z3), (4, .int z4), (5, .int (nI k)), (6, .int (nI c)), (7, .int (nI n9)), (8, .int (nI jx)), (11, .ref qd), (12, .int (nI i))]) hx hb dL_law_535 hl (by decide) rfl (fun ls hl => ?_)
    refine lv_aload hx hb dL_law_537 (lv_at hl 13 rfl) ?_
    refine lv_iload hx hb dL_law_539 (lv_at hl 14 rfl) ?_
    refine xa_iald hx hb hK hP 14 0 rfl rfl (by omega) (by omega) dL_law_541 ?_
    refine topI (y := (fD i)) (cpF_in _ _ (Nat.lt_succ_self i)) ?_
    refine lv_sipush (v := (-300)) hx hb dL_law_542 (by decide) ?_
    refine lv_icmp_lt (tgt := 670) hx hb dL_law_545 (by decide) (fun c_545 => by exfalso; simp only [Int32.lt_iff_toInt_lt] at c_545; rw [(by decide : (-300 : Int32).toInt = -300)] at c_545; omega) (fun c_545 => ?_)
    simp only [Int32.lt_iff_toInt_lt] at c_545
    rw [(by decide : (-300 : Int32).toInt = -300)] at c_545
    refine lv_aload hx hb dL_law_548 (lv_at hl 13 rfl) ?_
    refine lv_iload hx hb dL_law_550 (lv_at hl 14 rfl) ?_
    refine xa_iald hx hb hK hP 14 0 rfl rfl (by omega) (by omega) dL_law_552 ?_
    refine topI (y := (fD i)) (cpF_in _ _ (Nat.lt_succ_self i)) ?_
    refine lv_sipush (v := 300) hx hb dL_law_553 (by decide) ?_
    refine lv_icmp_gt (tgt := 670) hx hb dL_law_556 (by decide) (fun c_556 => by exfalso; simp only [Int32.lt_iff_toInt_lt] at c_556; rw [(by decide : (300 : Int32).toInt = 300)] at c_556; omega) (fun c_556 => ?_)
    simp only [Int32.lt_iff_toInt_lt] at c_556
    rw [(by decide : (300 : Int32).toInt = 300)] at c_556
    refine jnW (pc1 := 588) (st1 := []) (fun ls => lv_has ls 18 [(0, .ref bs), (1, .ref (a 0)), (2, .ref sm), (3, .int z3), (4, .int z4), (5, .int (nI k)), (6, .int (nI c)), (7, .int (nI n9)), (8, .int (nI jx)), (9, .int (mnA fD (i + 1))), (10, .int (mxA fD (i + 1))), (11, .ref qd), (12, .int (nI i)), (13, .long (gvn (fL jx) (fL st) (nI n9) (fD i))), (15, .long ((gvn (fL jx) (fL st) (nI n9) 0) - (gvn (fL jx) (fL st) (nI n9) (fD i))))]) ?_ ?_
    · skip
      intro ls hl
      refine lv_aload_n hx hb dL_law_588 rfl (lv_at hl 1 rfl) ?_
      refine lv_iload hx hb dL_law_589 (lv_at hl 12 rfl) ?_
      refine ro_iE (va_runV (As := [.int (nI i)]) (rest := []) ⟨hx, hb, hml, hown, hts⟩ (k_X1_wearOf l D cI cJ cR a k st fi fB fS fO fL c t y fW fD c2 t2 y2 gW gD hc i (by omega)) (cwV 1 hts gL_law_X1_wearOf rfl rfl rfl (by decide +kernel) ⟨Nat.le_of_ble_eq_true rfl, Nat.le_of_ble_eq_true rfl⟩) (preV_ro KC_ok (hP.sub (ws' := [((a 0), .inr (1, [.ref (a 1), .ref (a 2), .ref (a 3), .ref (a 4), .ref (a 5), .ref (a 8), .int (nI k), .int (nI st), .int fi])), ((a 1), .inl (cI, 8, .inl fB)), ((a 2), .inl (cI, 8, .inl fS)), ((a 3), .inl (cJ, 8, .inr (.inl fL))), ((a 4), .inl (cI, 8, .inl fO)), ((a 5), .inr (0, [.ref (a 6), .ref (a 7), .int (nI c), .int t, .int (nI y)])), ((a 6), .inl (cI, 6, .inl fW)), ((a 7), .inl (cI, 6, .inl fD)), ((a 8), .inr (0, [.ref (a 9), .ref (a 10), .int c2, .int t2, .int y2])), ((a 9), .inl (cI, 6, .inl gW)), ((a 10), .inl (cI, 6, .inl gD))]) [0, 1, 2, 3, 4, 5, 6, 7, 8, 9, 10] rfl) hC (va_recv hK hP (ci := 1) (q0 := 0) rfl rfl)) rfl rfl hl.1 rfl (lv_room (Nat.le_of_ble_eq_true rfl)) dL_law_591 ⟨show _ ≤ 791242 by omega, show _ ≤ 6727743 by omega⟩) ?_
      refine lv_bipush (v := (-9)) hx hb dL_law_594 (by decide) ?_
      refine lv_icmp_lt (tgt := 670) hx hb dL_law_596 (by decide) (fun c_596 => by exfalso; simp only [Int32.lt_iff_toInt_lt] at c_596; rw [(by decide : (-9 : Int32).toInt = -9)] at c_596; omega) (fun c_596 => ?_)
      simp only [Int32.lt_iff_toInt_lt] at c_596
      rw [(by decide : (-9 : Int32).toInt = -9)] at c_596
      refine lv_aload_n hx hb dL_law_599 rfl (lv_at hl 1 rfl) ?_
      refine lv_iload hx hb dL_law_600 (lv_at hl 12 rfl) ?_
      refine ro_iE (va_runV (As := [.int (nI i)]) (rest := []) ⟨hx, hb, hml, hown, hts⟩ (k_X1_wearOf l D cI cJ cR a k st fi fB fS fO fL c t y fW fD c2 t2 y2 gW gD hc i (by omega)) (cwV 1 hts gL_law_X1_wearOf rfl rfl rfl (by decide +kernel) ⟨Nat.le_of_ble_eq_true rfl, Nat.le_of_ble_eq_true rfl⟩) (preV_ro KC_ok (hP.sub (ws' := [((a 0), .inr (1, [.ref (a 1), .ref (a 2), .ref (a 3), .ref (a 4), .ref (a 5), .ref (a 8), .int (nI k), .int (nI st), .int fi])), ((a 1), .inl (cI, 8, .inl fB)), ((a 2), .inl (cI, 8, .inl fS)), ((a 3), .inl (cJ, 8, .inr (.inl fL))), ((a 4), .inl (cI, 8, .inl fO)), ((a 5), .inr (0, [.ref (a 6), .ref (a 7), .int (nI c), .int t, .int (nI y)])), ((a 6), .inl (cI, 6, .inl fW)), ((a 7), .inl (cI, 6, .inl fD)), ((a 8), .inr (0, [.ref (a 9), .ref (a 10), .int c2, .int t2, .int y2])), ((a 9), .inl (cI, 6, .inl gW)), ((a 10), .inl (cI, 6, .inl gD))]) [0, 1, 2, 3, 4, 5, 6, 7, 8, 9, 10] rfl) hC (va_recv hK hP (ci := 1) (q0 := 0) rfl rfl)) rfl rfl hl.1 rfl (lv_room (Nat.le_of_ble_eq_true rfl)) dL_law_602 ⟨show _ ≤ 791242 by omega, show _ ≤ 6727743 by omega⟩) ?_
      refine lv_bipush (v := 9) hx hb dL_law_605 (by decide) ?_
      refine lv_icmp_gt (tgt := 670) hx hb dL_law_607 (by decide) (fun c_607 => by exfalso; simp only [Int32.lt_iff_toInt_lt] at c_607; rw [(by decide : (9 : Int32).toInt = 9)] at c_607; omega) (fun c_607 => ?_)
      simp only [Int32.lt_iff_toInt_lt] at c_607
      rw [(by decide : (9 : Int32).toInt = 9)] at c_607
      refine lv_lload hx hb dL_law_610 (lv_at hl 13 rfl) ?_
      refine lv_lload hx hb dL_law_612 (lv_at hl 14 rfl) ?_
      refine lv_ladd hx hb dL_law_614 ?_
      refine topL (y := (gvn (fL jx) (fL st) (nI n9) 0)) (addsubL _ _) ?_
      refine lv_iload hx hb dL_law_615 (lv_at hl 7 rfl) ?_
      refine lv_i2l (v := ((nI n9)).toInt64) hx hb dL_law_617 rfl ?_
      refine lv_ldc2 (v := 1000) hx hb hown (hts (.constantLong RL 154 1000) (by decide +kernel)) dL_law_618 ?_
      refine lv_lmul hx hb dL_law_621 ?_
      refine lv_aload_n hx hb dL_law_622 rfl (lv_at hl 1 rfl) ?_
      refine lv_iload hx hb dL_law_623 (lv_at hl 8 rfl) ?_
      refine ro_lE (va_runV (As := [.int (nI jx)]) (rest := [.long (((nI n9)).toInt64 * 1000), .long (gvn (fL jx) (fL st) (nI n9) 0)]) ⟨hx, hb, hml, hown, hts⟩ (k_X1_lengthTop l D cI cJ cR a k st fi fB fS fO fL c t y fW fD c2 t2 y2 gW gD hM hst2 jx (by omega)) (cwV 1 hts gL_law_X1_lengthTop rfl rfl rfl (by decide +kernel) ⟨Nat.le_of_ble_eq_true rfl, Nat.le_of_ble_eq_true rfl⟩) (preV_ro KC_ok (hP.sub (ws' := [((a 0), .inr (1, [.ref (a 1), .ref (a 2), .ref (a 3), .ref (a 4), .ref (a 5), .ref (a 8), .int (nI k), .int (nI st), .int fi])), ((a 1), .inl (cI, 8, .inl fB)), ((a 2), .inl (cI, 8, .inl fS)), ((a 3), .inl (cJ, 8, .inr (.inl fL))), ((a 4), .inl (cI, 8, .inl fO)), ((a 5), .inr (0, [.ref (a 6), .ref (a 7), .int (nI c), .int t, .int (nI y)])), ((a 6), .inl (cI, 6, .inl fW)), ((a 7), .inl (cI, 6, .inl fD)), ((a 8), .inr (0, [.ref (a 9), .ref (a 10), .int c2, .int t2, .int y2])), ((a 9), .inl (cI, 6, .inl gW)), ((a 10), .inl (cI, 6, .inl gD))]) [0, 1, 2, 3, 4, 5, 6, 7, 8, 9, 10] rfl) hC (va_recv hK hP (ci := 1) (q0 := 0) rfl rfl)) rfl rfl hl.1 rfl (lv_room (Nat.le_of_ble_eq_true rfl)) dL_law_625 ⟨show _ ≤ 791242 by omega, show _ ≤ 6727743 by omega⟩) ?_
      refine lv_lmul hx hb dL_law_628 ?_
      refine lv_aload_n hx hb dL_law_629 rfl (lv_at hl 1 rfl) ?_
      refine lv_iload hx hb dL_law_630 (lv_at hl 8 rfl) ?_
      refine ro_lE (va_runV (As := [.int (nI jx)]) (rest := [.long ((((nI n9)).toInt64 * 1000) * (tp (fL jx) (fL st))), .long (gvn (fL jx) (fL st) (nI n9) 0)]) ⟨hx, hb, hml, hown, hts⟩ (k_X1_lengthBottom l D cI cJ cR a k st fi fB fS fO fL c t y fW fD c2 t2 y2 gW gD hM hst2 jx (by omega)) (cwV 1 hts gL_law_X1_lengthBottom rfl rfl rfl (by decide +kernel) ⟨Nat.le_of_ble_eq_true rfl, Nat.le_of_ble_eq_true rfl⟩) (preV_ro KC_ok (hP.sub (ws' := [((a 0), .inr (1, [.ref (a 1), .ref (a 2), .ref (a 3), .ref (a 4), .ref (a 5), .ref (a 8), .int (nI k), .int (nI st), .int fi])), ((a 1), .inl (cI, 8, .inl fB)), ((a 2), .inl (cI, 8, .inl fS)), ((a 3), .inl (cJ, 8, .inr (.inl fL))), ((a 4), .inl (cI, 8, .inl fO)), ((a 5), .inr (0, [.ref (a 6), .ref (a 7), .int (nI c), .int t, .int (nI y)])), ((a 6), .inl (cI, 6, .inl fW)), ((a 7), .inl (cI, 6, .inl fD)), ((a 8), .inr (0, [.ref (a 9), .ref (a 10), .int c2, .int t2, .int y2])), ((a 9), .inl (cI, 6, .inl gW)), ((a 10), .inl (cI, 6, .inl gD))]) [0, 1, 2, 3, 4, 5, 6, 7, 8, 9, 10] rfl) hC (va_recv hK hP (ci := 1) (q0 := 0) rfl rfl)) rfl rfl hl.1 rfl (lv_room (Nat.le_of_ble_eq_true rfl)) dL_law_632 ⟨show _ ≤ 791242 by omega, show _ ≤ 6727743 by omega⟩) ?_
      refine lv_ldiv hx hb dL_law_635 (ne0_of (tp_pos (hL.pos hk8 hst2) (hL.pos hk8 hjx))) ?_
      refine topL (y := (gvn (fL jx) (fL st) (nI n9) 0)) (sum_tp (hL.pos hk8 hjx) (hL.pos hk8 hst2) hn1 hn2) ?_
      refine W.lcmp hx hb dL_law_636 ?_
      refine lv_if_ne (tgt := 670) hx hb dL_law_637 (by decide) (fun c_637 => by exact absurd rfl ((lgc_ne _ _).mp c_637)) (fun c_637 => ?_)
      refine jnW (pc1 := 655) (st1 := []) (fun ls => lv_has ls 18 [(0, .ref bs), (1, .ref (a 0)), (2, .ref sm), (3, .int z3), (4, .int z4), (5, .int (nI k)), (6, .int (nI c)), (7, .int (nI n9)), (8, .int (nI jx)), (9, .int (mnA fD (i + 1))), (10, .int (mxA fD (i + 1))), (11, .ref qd), (12, .int (nI i)), (13, .long (gvn (fL jx) (fL st) (nI n9) (fD i))), (15, .long ((gvn (fL jx) (fL st) (nI n9) 0) - (gvn (fL jx) (fL st) (nI n9) (fD i))))]) ?_ ?_
      · skip
        intro ls hl
        refine lv_lload hx hb dL_law_655 (lv_at hl 14 rfl) ?_
        refine lv_lconst (v := 0) hx hb dL_law_657 (by decide) ?_
        refine W.lcmp hx hb dL_law_658 ?_
        refine lv_if_le (tgt := 672) hx hb dL_law_659 (by decide) (fun c_659 => ?_) (fun c_659 => ?_)
        · skip
          have c_659 := (lgc_le _ _).mp c_659
          refine lv_iinc (v := (nI (i + 1))) (lv' := [(12, .int (nI (i + 1))), (0, .ref bs), (1, .ref (a 0)), (2, .ref sm), (3, .int z3), (4, .int z4), (5, .int (nI k)), (6, .int (nI c)), (7, .int (nI n9)), (8, .int (nI jx)), (9, .int (mnA fD (i + 1))), (10, .int (mxA fD (i + 1))), (11, .ref qd), (13, .long (gvn (fL jx) (fL st) (nI n9) (fD i))), (15, .long ((gvn (fL jx) (fL st) (nI n9) 0) - (gvn (fL jx) (fL st) (nI n9) (fD i))))]) hx hb dL_law_672 hl (k := 12) rfl (nI_inc i) (by decide) rfl (fun ls hl => ?_)
          refine lv_goto (tgt := 468) hx hb dL_law_675 (by decide) ?_
          exact k9 () _ _ ls (by omega) ⟨lv_sub hl [1, 2, 3, 4, 5, 6, 7, 8, 9, 10, 11, 12, 0] rfl, hP, hD, hS⟩
        · skip
          have c_659 := (not_congr (lgc_le _ _)).mp c_659
          refine lv_aload hx hb dL_law_662 (lv_at hl 11 rfl) ?_
          refine lv_iload hx hb dL_law_664 (lv_at hl 12 rfl) ?_
          refine xa_iald hx hb hK hP 14 0 rfl rfl (by omega) (by omega) dL_law_666 ?_
          refine topI (y := (fD i)) (cpF_in _ _ (Nat.lt_succ_self i)) ?_
          refine lv_if_lt (tgt := 672) hx hb dL_law_667 (by decide) (fun c_667 => ?_) (fun c_667 => by exfalso; simp only [Int32.lt_iff_toInt_lt] at c_667; rw [(by decide : (0 : Int32).toInt = 0)] at c_667; have h9 := hls.2 (by omega); rw [show (0 : Int64).toInt = 0 from rfl] at c_659; omega)
          simp only [Int32.lt_iff_toInt_lt] at c_667
          rw [(by decide : (0 : Int32).toInt = 0)] at c_667
          refine lv_iinc (v := (nI (i + 1))) (lv' := [(12, .int (nI (i + 1))), (0, .ref bs), (1, .ref (a 0)), (2, .ref sm), (3, .int z3), (4, .int z4), (5, .int (nI k)), (6, .int (nI c)), (7, .int (nI n9)), (8, .int (nI jx)), (9, .int (mnA fD (i + 1))), (10, .int (mxA fD (i + 1))), (11, .ref qd), (13, .long (gvn (fL jx) (fL st) (nI n9) (fD i))), (15, .long ((gvn (fL jx) (fL st) (nI n9) 0) - (gvn (fL jx) (fL st) (nI n9) (fD i))))]) hx hb dL_law_672 hl (k := 12) rfl (nI_inc i) (by decide) rfl (fun ls hl => ?_)
          refine lv_goto (tgt := 468) hx hb dL_law_675 (by decide) ?_
          exact k9 () _ _ ls (by omega) ⟨lv_sub hl [1, 2, 3, 4, 5, 6, 7, 8, 9, 10, 11, 12, 0] rfl, hP, hD, hS⟩
      · skip
        intro k655
        refine lv_lload hx hb dL_law_640 (lv_at hl 14 rfl) ?_
        refine lv_lconst (v := 0) hx hb dL_law_642 (by decide) ?_
        refine W.lcmp hx hb dL_law_643 ?_
        refine lv_if_ge (tgt := 655) hx hb dL_law_644 (by decide) (fun c_644 => ?_) (fun c_644 => ?_)
        · skip
          have c_644 := (lgc_ge _ _).mp c_644
          exact k655 ls (lv_sub hl [0, 1, 2, 3, 4, 5, 6, 7, 8, 9, 10, 11, 12, 13, 14] rfl)
        · skip
          have c_644 := (not_congr (lgc_ge _ _)).mp c_644
          refine lv_aload hx hb dL_law_647 (lv_at hl 11 rfl) ?_
          refine lv_iload hx hb dL_law_649 (lv_at hl 12 rfl) ?_
          refine xa_iald hx hb hK hP 14 0 rfl rfl (by omega) (by omega) dL_law_651 ?_
          refine topI (y := (fD i)) (cpF_in _ _ (Nat.lt_succ_self i)) ?_
          refine lv_if_le (tgt := 670) hx hb dL_law_652 (by decide) (fun c_652 => by exfalso; simp only [Int32.le_iff_toInt_le] at c_652; rw [(by decide : (0 : Int32).toInt = 0)] at c_652; have h9 := hls.1 (by omega); rw [show (0 : Int64).toInt = 0 from rfl] at c_644; omega) (fun c_652 => ?_)
          simp only [Int32.le_iff_toInt_le] at c_652
          rw [(by decide : (0 : Int32).toInt = 0)] at c_652
          exact k655 ls (lv_sub hl [0, 1, 2, 3, 4, 5, 6, 7, 8, 9, 10, 11, 12, 13, 14] rfl)
    · skip
      intro k588
      refine lv_aload_n hx hb dL_law_559 rfl (lv_at hl 5 rfl) ?_
      refine lv_iload hx hb dL_law_560 (lv_at hl 14 rfl) ?_
      refine ro_iE (va_runV (As := [.int (nI i)]) (rest := []) ⟨hx, hb, hml, hown, hts⟩ (k_X1_isHonest l D cI cJ cR a k st fi fB fS fO fL c t y fW fD c2 t2 y2 gW gD hc i (by omega)) (cwV 1 hts gL_law_X1_isHonest rfl rfl rfl (by decide +kernel) ⟨Nat.le_of_ble_eq_true rfl, Nat.le_of_ble_eq_true rfl⟩) (preV_ro KC_ok (hP.sub (ws' := [((a 0), .inr (1, [.ref (a 1), .ref (a 2), .ref (a 3), .ref (a 4), .ref (a 5), .ref (a 8), .int (nI k), .int (nI st), .int fi])), ((a 1), .inl (cI, 8, .inl fB)), ((a 2), .inl (cI, 8, .inl fS)), ((a 3), .inl (cJ, 8, .inr (.inl fL))), ((a 4), .inl (cI, 8, .inl fO)), ((a 5), .inr (0, [.ref (a 6), .ref (a 7), .int (nI c), .int t, .int (nI y)])), ((a 6), .inl (cI, 6, .inl fW)), ((a 7), .inl (cI, 6, .inl fD)), ((a 8), .inr (0, [.ref (a 9), .ref (a 10), .int c2, .int t2, .int y2])), ((a 9), .inl (cI, 6, .inl gW)), ((a 10), .inl (cI, 6, .inl gD))]) [0, 1, 2, 3, 4, 5, 6, 7, 8, 9, 10] rfl) hC (va_recv hK hP (ci := 1) (q0 := 0) rfl rfl)) rfl rfl hl.1 rfl (lv_room (Nat.le_of_ble_eq_true rfl)) dL_law_562 ⟨show _ ≤ 791242 by omega, show _ ≤ 6727743 by omega⟩) ?_
      by_cases hQ : (absI (fD i)).toInt ≤ t.toInt
      · skip
        refine topI (y := 1) (bz_t hQ) ?_
        refine lv_aload hx hb dL_law_565 (lv_at hl 13 rfl) ?_
        refine lv_iload hx hb dL_law_567 (lv_at hl 14 rfl) ?_
        refine xa_iald hx hb hK hP 14 0 rfl rfl (by omega) (by omega) dL_law_569 ?_
        refine topI (y := (fD i)) (cpF_in _ _ (Nat.lt_succ_self i)) ?_
        refine va_mabs hx hb (by rw [hml]; exact hl.1.symm) hown (hts (.methodLink RL 128 Lib.Math.abs.name) (by decide +kernel)) (hts (.static Lib.Math.abs.name) (by decide +kernel)) (hts (.initialized "java/lang/Math") (by decide +kernel)) (hts (.code Lib.Math.abs.name Lib.Math.abs.code 1 (some .int)) (by decide +kernel)) (by first | decide | exact Nat.le_of_ble_eq_true rfl) (by first | decide | exact Nat.le_of_ble_eq_true rfl) (show _ ≤ 791242 by omega) (show _ ≤ 6727743 by omega) dL_law_570 ?_
        refine topI (y := (absI (fD i))) rfl ?_
        refine lv_aload_n hx hb dL_law_573 rfl (lv_at hl 5 rfl) ?_
        refine ro_iE (va_runV (As := []) (rest := [.int (absI (fD i)), .int 1]) ⟨hx, hb, hml, hown, hts⟩ (c_X1_tolerance l D cI cJ cR a k st fi fB fS fO fL c t y fW fD c2 t2 y2 gW gD) (cwV 0 hts gL_law_X1_tolerance rfl rfl rfl (by decide +kernel) ⟨Nat.le_of_ble_eq_true rfl, Nat.le_of_ble_eq_true rfl⟩) (preV_ro KC_ok (hP.sub (ws' := [((a 0), .inr (1, [.ref (a 1), .ref (a 2), .ref (a 3), .ref (a 4), .ref (a 5), .ref (a 8), .int (nI k), .int (nI st), .int fi])), ((a 1), .inl (cI, 8, .inl fB)), ((a 2), .inl (cI, 8, .inl fS)), ((a 3), .inl (cJ, 8, .inr (.inl fL))), ((a 4), .inl (cI, 8, .inl fO)), ((a 5), .inr (0, [.ref (a 6), .ref (a 7), .int (nI c), .int t, .int (nI y)])), ((a 6), .inl (cI, 6, .inl fW)), ((a 7), .inl (cI, 6, .inl fD)), ((a 8), .inr (0, [.ref (a 9), .ref (a 10), .int c2, .int t2, .int y2])), ((a 9), .inl (cI, 6, .inl gW)), ((a 10), .inl (cI, 6, .inl gD))]) [0, 1, 2, 3, 4, 5, 6, 7, 8, 9, 10] rfl) hC (va_recv hK hP (ci := 1) (q0 := 0) rfl rfl)) rfl rfl hl.1 rfl (lv_room (Nat.le_of_ble_eq_true rfl)) dL_law_574 ⟨show _ ≤ 791242 by omega, show _ ≤ 6727743 by omega⟩) ?_
        refine lv_icmp_gt (tgt := 584) hx hb dL_law_577 (by decide) (fun c_577 => by exfalso; simp only [Int32.lt_iff_toInt_lt] at c_577; omega) (fun c_577 => ?_)
        simp only [Int32.lt_iff_toInt_lt] at c_577
        refine lv_iconst (v := 1) hx hb dL_law_580 (by decide) ?_
        refine lv_goto (tgt := 585) hx hb dL_law_581 (by decide) ?_
        refine lv_icmp_ne (tgt := 670) hx hb dL_law_585 (by decide) (fun c_585 => by exact absurd rfl c_585) (fun c_585 => ?_)
        exact k588 ls (lv_sub hl [4, 5, 6, 7, 8, 9, 10, 11, 12, 3, 2, 13, 14, 1, 0] rfl)
      · skip
        refine topI (y := 0) (bz_f hQ) ?_
        refine lv_aload hx hb dL_law_565 (lv_at hl 13 rfl) ?_
        refine lv_iload hx hb dL_law_567 (lv_at hl 14 rfl) ?_
        refine xa_iald hx hb hK hP 14 0 rfl rfl (by omega) (by omega) dL_law_569 ?_
        refine topI (y := (fD i)) (cpF_in _ _ (Nat.lt_succ_self i)) ?_
        refine va_mabs hx hb (by rw [hml]; exact hl.1.symm) hown (hts (.methodLink RL 128 Lib.Math.abs.name) (by decide +kernel)) (hts (.static Lib.Math.abs.name) (by decide +kernel)) (hts (.initialized "java/lang/Math") (by decide +kernel)) (hts (.code Lib.Math.abs.name Lib.Math.abs.code 1 (some .int)) (by decide +kernel)) (by first | decide | exact Nat.le_of_ble_eq_true rfl) (by first | decide | exact Nat.le_of_ble_eq_true rfl) (show _ ≤ 791242 by omega) (show _ ≤ 6727743 by omega) dL_law_570 ?_
        refine topI (y := (absI (fD i))) rfl ?_
        refine lv_aload_n hx hb dL_law_573 rfl (lv_at hl 5 rfl) ?_
        refine ro_iE (va_runV (As := []) (rest := [.int (absI (fD i)), .int 0]) ⟨hx, hb, hml, hown, hts⟩ (c_X1_tolerance l D cI cJ cR a k st fi fB fS fO fL c t y fW fD c2 t2 y2 gW gD) (cwV 0 hts gL_law_X1_tolerance rfl rfl rfl (by decide +kernel) ⟨Nat.le_of_ble_eq_true rfl, Nat.le_of_ble_eq_true rfl⟩) (preV_ro KC_ok (hP.sub (ws' := [((a 0), .inr (1, [.ref (a 1), .ref (a 2), .ref (a 3), .ref (a 4), .ref (a 5), .ref (a 8), .int (nI k), .int (nI st), .int fi])), ((a 1), .inl (cI, 8, .inl fB)), ((a 2), .inl (cI, 8, .inl fS)), ((a 3), .inl (cJ, 8, .inr (.inl fL))), ((a 4), .inl (cI, 8, .inl fO)), ((a 5), .inr (0, [.ref (a 6), .ref (a 7), .int (nI c), .int t, .int (nI y)])), ((a 6), .inl (cI, 6, .inl fW)), ((a 7), .inl (cI, 6, .inl fD)), ((a 8), .inr (0, [.ref (a 9), .ref (a 10), .int c2, .int t2, .int y2])), ((a 9), .inl (cI, 6, .inl gW)), ((a 10), .inl (cI, 6, .inl gD))]) [0, 1, 2, 3, 4, 5, 6, 7, 8, 9, 10] rfl) hC (va_recv hK hP (ci := 1) (q0 := 0) rfl rfl)) rfl rfl hl.1 rfl (lv_room (Nat.le_of_ble_eq_true rfl)) dL_law_574 ⟨show _ ≤ 791242 by omega, show _ ≤ 6727743 by omega⟩) ?_
        refine lv_icmp_gt (tgt := 584) hx hb dL_law_577 (by decide) (fun c_577 => ?_) (fun c_577 => by exfalso; simp only [Int32.lt_iff_toInt_lt] at c_577; omega)
        simp only [Int32.lt_iff_toInt_lt] at c_577
        refine lv_iconst (v := 0) hx hb dL_law_584 (by decide) ?_
        refine lv_icmp_ne (tgt := 670) hx hb dL_law_585 (by decide) (fun c_585 => by exact absurd rfl c_585) (fun c_585 => ?_)
        exact k588 ls (lv_sub hl [4, 5, 6, 7, 8, 9, 10, 11, 12, 3, 2, 13, 14, 1, 0] rfl)
