set_option maxHeartbeats 4000000 in
set_option maxRecDepth 100000 in
theorem law_day (l : Launch) {p : Program} {e : Env} {s : State} {m : MethodId} {args : Array Value} {below : List Frame} {meth : Method} {c9 : Code} {Q : State → Prop} (C0 : LC p s m c9 args) (D : va_G) (cI cJ cR : ClassId) (hC : KC D cI cJ cR s s.heap) (A : Nat → Prop) (hA : ∀ q : Nat, s.heap.size ≤ q → A q) (cells slots : Nat) (hRc : cells ≤ 500000) (hRs : slots ≤ 5000000) (a : Nat → Nat) (sm ma sa : Nat) (ra rs : Nat → Nat) (k st : Nat) (fi : Int32) (fB fS fO mM mP : Nat → Int32) (fL : Nat → Int64) (c : Nat) (t : Int32) (y : Nat) (fW fD : Nat → Int32) (c2 t2 y2 : Int32) (gW gD : Nat → Int32) (hI : PI k st fB fS fO fL c t fW fD mM mP) (hy : y < 2 ^ 19) (qd : Nat) (z3 : Int32) (bs : Nat)
    (H : Heap) (locs : List Loc) (hP : va_P D vwCl ([((a 0), .inr (1, [.ref (a 1), .ref (a 2), .ref (a 3), .ref (a 4), .ref (a 5), .ref (a 8), .int (nI k), .int (nI st), .int (fi + dFine c t y fW fD)])), ((a 1), .inl (cI, 8, .inl fB)), ((a 2), .inl (cI, 8, .inl fS)), ((a 3), .inl (cJ, 8, .inr (.inl fL))), ((a 4), .inl (cI, 8, .inl fO)), ((a 5), .inr (0, [.ref (a 6), .ref (a 7), .int (nI c), .int t, .int (nI (y + 1))])), ((a 6), .inl (cI, 6, .inl fW)), ((a 7), .inl (cI, 6, .inl (dDr c t y fW fD))), ((a 8), .inr (0, [.ref (a 9), .ref (a 10), .int c2, .int t2, .int y2])), ((a 9), .inl (cI, 6, .inl gW)), ((a 10), .inl (cI, 6, .inl gD)), (sm, .inr (2, [.int (nI (y + 1)), .int (fi + dFine c t y fW fD), .int (nI st), .int t, .ref ma, .ref sa])), (ma, .inl (cR, k, .inr (.inr (.inr (.inr (fr ra)))))), (sa, .inl (cR, c, .inr (.inr (.inr (.inr (fr rs)))))), (qd, .inl (cI, c, .inl (cpF fD (fun _ => (0 : Int32)) c)))] ++ (RT cI ra rs fB mM mP fW (dDr c t y fW fD) k c)) H)
    (kk : ∀ ls : Array Slot, lv_has ls 18 [(0, .ref bs), (1, .ref (a 0)), (2, .ref sm), (3, .int z3), (6, .int (nI c)), (11, .ref qd), (12, .int (nI y)), (13, .int fi), (14, .int (dFine c t y fW fD))] → W p l e room_1 s m args below meth c9 H locs cells slots Q (F0 m 891 ls []))
    (ls : Array Slot) (hl : lv_has ls 18 [(0, .ref bs), (1, .ref (a 0)), (2, .ref sm), (3, .int z3), (6, .int (nI c)), (11, .ref qd), (12, .int (nI y)), (13, .int fi), (14, .int (dFine c t y fW fD)), (15, .int 0)]) : W p l e room_1 s m args below meth c9 H locs cells slots Q (F0 m 766 ls []) := by
  obtain ⟨hx, hb, hml, hown, hts⟩ := C0
  have hK : va_K D vwCl [(cI, .int), (cJ, .long), (cR, .array .int)] s := hC.1
  obtain ⟨hLI, hB0, ht100, hW9⟩ := id hI
  have hM := hLI.1
  have hst2 := hLI.2.1
  have hc := hLI.2.2.2.1
  have ht0 := hLI.2.2.2.2.1
  have hD3 := hLI.2.2.2.2.2.1
  obtain ⟨La, pp, uu, bb, hL⟩ := hLI.2.2.2.2.2.2.2.1
  obtain ⟨g9, hg⟩ := hLI.2.2.2.2.2.2.2.2.1
  have hk8 : k ≤ 8 := hM.2.1
  have hk1 : 1 ≤ k := hM.1
  have ht9 : 0 ≤ t.toInt ∧ t.toInt ≤ 100 := ⟨ht0, ht100⟩
  refine loopR (σ := Unit) (I := fun i u9 ls => lv_has ls 18 [(0, .ref bs), (1, .ref (a 0)), (2, .ref sm), (3, .int z3), (6, .int (nI c)), (11, .ref qd), (12, .int (nI y)), (13, .int fi), (14, .int (dFine c t y fW fD)), (15, .int (nI i))]) c ?_ 0 () ls (by omega) (lv_sub hl [0, 1, 2, 3, 4, 5, 6, 7, 8, 9] rfl)
  intro i u9 ls hi hI9 k9
  have hl := hI9
  refine lv_iload hx hb dL_law_766 (lv_at hl 9 rfl) ?_
  refine lv_iload hx hb dL_law_768 (lv_at hl 4 rfl) ?_
  refine lv_icmp_ge (tgt := 891) hx hb dL_law_770 (by decide) (fun c_770 => ?_) (fun c_770 => ?_)
  · skip
    simp only [Int32.le_iff_toInt_le] at c_770
    rw [nI_toInt (n := i) (by omega)] at c_770
    rw [nI_toInt (n := c) (by omega)] at c_770
    exact kk ls (lv_sub hl [0, 1, 2, 3, 4, 5, 6, 7, 8] rfl)
  · skip
    simp only [Int32.le_iff_toInt_le] at c_770
    rw [nI_toInt (n := i) (by omega)] at c_770
    rw [nI_toInt (n := c) (by omega)] at c_770
    have hic : i < c := by omega
    have hda := dDr_at (t := t) (y := y) (fW := fW) (fD := fD) hic
    have hm6 := Nat.mod_lt y (show 0 < c by omega)
    refine lv_sipush (v := (-300)) hx hb dL_law_773 (by decide) ?_
    refine lv_sipush (v := 300) hx hb dL_law_776 (by decide) ?_
    refine lv_aload hx hb dL_law_779 (lv_at hl 5 rfl) ?_
    refine lv_iload hx hb dL_law_781 (lv_at hl 9 rfl) ?_
    refine xa_iald hx hb hK hP 14 0 rfl rfl (by omega) (by omega) dL_law_783 ?_
    refine topI (y := (fD i)) (cpF_in _ _ hic) ?_
    refine lv_aload_n hx hb dL_law_784 rfl (lv_at hl 1 rfl) ?_
    refine lv_iload hx hb dL_law_785 (lv_at hl 9 rfl) ?_
    refine ro_iE (va_runV (As := [.int (nI i)]) (rest := [.int (fD i), .int 300, .int (-300)]) ⟨hx, hb, hml, hown, hts⟩ (k_X1_wearOf l D cI cJ cR a k st (fi + dFine c t y fW fD) fB fS fO fL c t (y + 1) fW (dDr c t y fW fD) c2 t2 y2 gW gD hc i (by omega)) (cwV 1 hts gL_law_X1_wearOf rfl rfl rfl (by decide +kernel) ⟨Nat.le_of_ble_eq_true rfl, Nat.le_of_ble_eq_true rfl⟩) (preV_ro KC_ok (hP.sub (ws' := [((a 0), .inr (1, [.ref (a 1), .ref (a 2), .ref (a 3), .ref (a 4), .ref (a 5), .ref (a 8), .int (nI k), .int (nI st), .int (fi + dFine c t y fW fD)])), ((a 1), .inl (cI, 8, .inl fB)), ((a 2), .inl (cI, 8, .inl fS)), ((a 3), .inl (cJ, 8, .inr (.inl fL))), ((a 4), .inl (cI, 8, .inl fO)), ((a 5), .inr (0, [.ref (a 6), .ref (a 7), .int (nI c), .int t, .int (nI (y + 1))])), ((a 6), .inl (cI, 6, .inl fW)), ((a 7), .inl (cI, 6, .inl (dDr c t y fW fD))), ((a 8), .inr (0, [.ref (a 9), .ref (a 10), .int c2, .int t2, .int y2])), ((a 9), .inl (cI, 6, .inl gW)), ((a 10), .inl (cI, 6, .inl gD))]) [0, 1, 2, 3, 4, 5, 6, 7, 8, 9, 10] rfl) hC (va_recv hK hP (ci := 1) (q0 := 0) rfl rfl)) rfl rfl hl.1 rfl (lv_room (Nat.le_of_ble_eq_true rfl)) dL_law_787 ⟨show _ ≤ 791242 by omega, show _ ≤ 6727743 by omega⟩) ?_
    refine lv_iadd hx hb dL_law_790 ?_
    refine va_mmin hx hb (by rw [hml]; exact hl.1.symm) hown (hts (.methodLink RL 133 Lib.Math.min.name) (by decide +kernel)) (hts (.static Lib.Math.min.name) (by decide +kernel)) (hts (.initialized "java/lang/Math") (by decide +kernel)) (hts (.code Lib.Math.min.name Lib.Math.min.code 2 (some .int)) (by decide +kernel)) (by first | decide | exact Nat.le_of_ble_eq_true rfl) (by first | decide | exact Nat.le_of_ble_eq_true rfl) (show _ ≤ 791242 by omega) (show _ ≤ 6727743 by omega) dL_law_791 ?_
    refine va_mmax hx hb (by rw [hml]; exact hl.1.symm) hown (hts (.methodLink RL 136 Lib.Math.max.name) (by decide +kernel)) (hts (.static Lib.Math.max.name) (by decide +kernel)) (hts (.initialized "java/lang/Math") (by decide +kernel)) (hts (.code Lib.Math.max.name Lib.Math.max.code 2 (some .int)) (by decide +kernel)) (by first | decide | exact Nat.le_of_ble_eq_true rfl) (by first | decide | exact Nat.le_of_ble_eq_true rfl) (show _ ≤ 791242 by omega) (show _ ≤ 6727743 by omega) dL_law_794 ?_
    refine topI (y := (hld (fD i + fW i))) rfl ?_
    refine lv_istore (lv' := [(16, .int (hld (fD i + fW i))), (0, .ref bs), (1, .ref (a 0)), (2, .ref sm), (3, .int z3), (6, .int (nI c)), (11, .ref qd), (12, .int (nI y)), (13, .int fi), (14, .int (dFine c t y fW fD)), (15, .int (nI i))]) hx hb dL_law_797 hl (by decide) rfl (fun ls hl => ?_)
    by_cases hq : y % c = i
    · skip
      have hfa := dFine_at (t := t) (y := y) (fW := fW) (fD := fD) hic hq
      by_cases ht8 : (absI (hld (fD i + fW i))).toInt ≤ t.toInt
      · skip
        have hdn : (dDr c t y fW fD) i = (hld (fD i + fW i)) := hda.trans (ic_f (fun z => z.2 ht8))
        have hfn : dFine c t y fW fD = 0 := hfa.trans (ic_t ht8)
        refine lv_iload hx hb dL_law_799 (lv_at hl 7 rfl) ?_
        refine lv_iload hx hb dL_law_801 (lv_at hl 5 rfl) ?_
        refine lv_irem hx hb dL_law_803 (nI_ne0 (by omega) (by omega)) ?_
        refine topI (y := (nI (y % c))) (pk_rem (by omega) (by omega) (by omega)) ?_
        refine lv_iload hx hb dL_law_804 (lv_at hl 10 rfl) ?_
        refine lv_icmp_ne (tgt := 825) hx hb dL_law_806 (by decide) (fun c_806 => by exfalso; simp only [ne_eq, ← Int32.toInt_inj, Decidable.not_not] at c_806; rw [nI_toInt (n := (y % c)) (by omega)] at c_806; rw [nI_toInt (n := i) (by omega)] at c_806; omega) (fun c_806 => ?_)
        simp only [ne_eq, ← Int32.toInt_inj, Decidable.not_not] at c_806
        rw [nI_toInt (n := (y % c)) (by omega)] at c_806
        rw [nI_toInt (n := i) (by omega)] at c_806
        refine lv_iload hx hb dL_law_809 (lv_at hl 0 rfl) ?_
        refine va_mabs hx hb (by rw [hml]; exact hl.1.symm) hown (hts (.methodLink RL 128 Lib.Math.abs.name) (by decide +kernel)) (hts (.static Lib.Math.abs.name) (by decide +kernel)) (hts (.initialized "java/lang/Math") (by decide +kernel)) (hts (.code Lib.Math.abs.name Lib.Math.abs.code 1 (some .int)) (by decide +kernel)) (by first | decide | exact Nat.le_of_ble_eq_true rfl) (by first | decide | exact Nat.le_of_ble_eq_true rfl) (show _ ≤ 791242 by omega) (show _ ≤ 6727743 by omega) dL_law_811 ?_
        refine topI (y := (absI (hld (fD i + fW i)))) rfl ?_
        refine lv_aload_n hx hb dL_law_814 rfl (lv_at hl 2 rfl) ?_
        refine ro_iE (va_runV (As := []) (rest := [.int (absI (hld (fD i + fW i)))]) ⟨hx, hb, hml, hown, hts⟩ (c_X1_tolerance l D cI cJ cR a k st (fi + dFine c t y fW fD) fB fS fO fL c t (y + 1) fW (dDr c t y fW fD) c2 t2 y2 gW gD) (cwV 0 hts gL_law_X1_tolerance rfl rfl rfl (by decide +kernel) ⟨Nat.le_of_ble_eq_true rfl, Nat.le_of_ble_eq_true rfl⟩) (preV_ro KC_ok (hP.sub (ws' := [((a 0), .inr (1, [.ref (a 1), .ref (a 2), .ref (a 3), .ref (a 4), .ref (a 5), .ref (a 8), .int (nI k), .int (nI st), .int (fi + dFine c t y fW fD)])), ((a 1), .inl (cI, 8, .inl fB)), ((a 2), .inl (cI, 8, .inl fS)), ((a 3), .inl (cJ, 8, .inr (.inl fL))), ((a 4), .inl (cI, 8, .inl fO)), ((a 5), .inr (0, [.ref (a 6), .ref (a 7), .int (nI c), .int t, .int (nI (y + 1))])), ((a 6), .inl (cI, 6, .inl fW)), ((a 7), .inl (cI, 6, .inl (dDr c t y fW fD))), ((a 8), .inr (0, [.ref (a 9), .ref (a 10), .int c2, .int t2, .int y2])), ((a 9), .inl (cI, 6, .inl gW)), ((a 10), .inl (cI, 6, .inl gD))]) [0, 1, 2, 3, 4, 5, 6, 7, 8, 9, 10] rfl) hC (va_recv hK hP (ci := 1) (q0 := 0) rfl rfl)) rfl rfl hl.1 rfl (lv_room (Nat.le_of_ble_eq_true rfl)) dL_law_815 ⟨show _ ≤ 791242 by omega, show _ ≤ 6727743 by omega⟩) ?_
        refine lv_icmp_le (tgt := 825) hx hb dL_law_818 (by decide) (fun c_818 => ?_) (fun c_818 => by exfalso; simp only [Int32.le_iff_toInt_le] at c_818; omega)
        simp only [Int32.le_iff_toInt_le] at c_818
        refine lv_iconst (v := 0) hx hb dL_law_825 (by decide) ?_
        refine lv_istore (lv' := [(17, .int 0), (16, .int (hld (fD i + fW i))), (0, .ref bs), (1, .ref (a 0)), (2, .ref sm), (3, .int z3), (6, .int (nI c)), (11, .ref qd), (12, .int (nI y)), (13, .int fi), (14, .int (dFine c t y fW fD)), (15, .int (nI i))]) hx hb dL_law_826 hl (by decide) rfl (fun ls hl => ?_)
        refine lv_aload_n hx hb dL_law_828 rfl (lv_at hl 3 rfl) ?_
        refine lv_iload hx hb dL_law_829 (lv_at hl 11 rfl) ?_
        refine ro_iE (va_runV (As := [.int (nI i)]) (rest := []) ⟨hx, hb, hml, hown, hts⟩ (k_X1_driftOf l D cI cJ cR a k st (fi + dFine c t y fW fD) fB fS fO fL c t (y + 1) fW (dDr c t y fW fD) c2 t2 y2 gW gD hc i (by omega)) (cwV 1 hts gL_law_X1_driftOf rfl rfl rfl (by decide +kernel) ⟨Nat.le_of_ble_eq_true rfl, Nat.le_of_ble_eq_true rfl⟩) (preV_ro KC_ok (hP.sub (ws' := [((a 0), .inr (1, [.ref (a 1), .ref (a 2), .ref (a 3), .ref (a 4), .ref (a 5), .ref (a 8), .int (nI k), .int (nI st), .int (fi + dFine c t y fW fD)])), ((a 1), .inl (cI, 8, .inl fB)), ((a 2), .inl (cI, 8, .inl fS)), ((a 3), .inl (cJ, 8, .inr (.inl fL))), ((a 4), .inl (cI, 8, .inl fO)), ((a 5), .inr (0, [.ref (a 6), .ref (a 7), .int (nI c), .int t, .int (nI (y + 1))])), ((a 6), .inl (cI, 6, .inl fW)), ((a 7), .inl (cI, 6, .inl (dDr c t y fW fD))), ((a 8), .inr (0, [.ref (a 9), .ref (a 10), .int c2, .int t2, .int y2])), ((a 9), .inl (cI, 6, .inl gW)), ((a 10), .inl (cI, 6, .inl gD))]) [0, 1, 2, 3, 4, 5, 6, 7, 8, 9, 10] rfl) hC (va_recv hK hP (ci := 1) (q0 := 0) rfl rfl)) rfl rfl hl.1 rfl (lv_room (Nat.le_of_ble_eq_true rfl)) dL_law_831 ⟨show _ ≤ 791242 by omega, show _ ≤ 6727743 by omega⟩) ?_
        refine topI (y := (hld (fD i + fW i))) hdn ?_
        refine lv_iload hx hb dL_law_834 (lv_at hl 0 rfl) ?_
        refine lv_if_eq (tgt := 843) hx hb dL_law_836 (by decide) (fun c_836 => ?_) (fun c_836 => by exact absurd c_836 (by decide))
        refine lv_iload hx hb dL_law_843 (lv_at hl 1 rfl) ?_
        refine lv_icmp_ne (tgt := 883) hx hb dL_law_845 (by decide) (fun c_845 => by exact absurd rfl c_845) (fun c_845 => ?_)
        refine lv_iload hx hb dL_law_848 (lv_at hl 0 rfl) ?_
        refine lv_if_eq (tgt := 863) hx hb dL_law_850 (by decide) (fun c_850 => ?_) (fun c_850 => by exact absurd c_850 (by decide))
        refine lv_iload hx hb dL_law_863 (lv_at hl 8 rfl) ?_
        refine lv_iload hx hb dL_law_865 (lv_at hl 6 rfl) ?_
        refine lv_irem hx hb dL_law_867 (nI_ne0 (by omega) (by omega)) ?_
        refine topI (y := (nI (y % c))) (pk_rem (by omega) (by omega) (by omega)) ?_
        refine lv_iload hx hb dL_law_868 (lv_at hl 11 rfl) ?_
        refine lv_icmp_ne (tgt := 885) hx hb dL_law_870 (by decide) (fun c_870 => by exfalso; simp only [ne_eq, ← Int32.toInt_inj, Decidable.not_not] at c_870; rw [nI_toInt (n := (y % c)) (by omega)] at c_870; rw [nI_toInt (n := i) (by omega)] at c_870; omega) (fun c_870 => ?_)
        simp only [ne_eq, ← Int32.toInt_inj, Decidable.not_not] at c_870
        rw [nI_toInt (n := (y % c)) (by omega)] at c_870
        rw [nI_toInt (n := i) (by omega)] at c_870
        refine lv_iload hx hb dL_law_873 (lv_at hl 0 rfl) ?_
        refine lv_if_ne (tgt := 885) hx hb dL_law_875 (by decide) (fun c_875 => by exact absurd c_875 (by decide)) (fun c_875 => ?_)
        refine lv_iload hx hb dL_law_878 (lv_at hl 10 rfl) ?_
        refine topI (y := 0) hfn ?_
        refine lv_if_eq (tgt := 885) hx hb dL_law_880 (by decide) (fun c_880 => ?_) (fun c_880 => by exact absurd c_880 (by decide))
        refine lv_iinc (v := (nI (i + 1))) (lv' := [(15, .int (nI (i + 1))), (17, .int 0), (16, .int (hld (fD i + fW i))), (0, .ref bs), (1, .ref (a 0)), (2, .ref sm), (3, .int z3), (6, .int (nI c)), (11, .ref qd), (12, .int (nI y)), (13, .int fi), (14, .int (dFine c t y fW fD))]) hx hb dL_law_885 hl (k := 11) rfl (nI_inc i) (by decide) rfl (fun ls hl => ?_)
        refine lv_goto (tgt := 766) hx hb dL_law_888 (by decide) ?_
        exact k9 () ls (by omega) (lv_sub hl [3, 4, 5, 6, 7, 8, 9, 10, 11, 0] rfl)
      · skip
        have hdn : (dDr c t y fW fD) i = 0 := hda.trans (ic_t ⟨hq, ht8⟩)
        have hfn : dFine c t y fW fD = absI (hld (fD i + fW i)) := hfa.trans (ic_f ht8)
        refine lv_iload hx hb dL_law_799 (lv_at hl 7 rfl) ?_
        refine lv_iload hx hb dL_law_801 (lv_at hl 5 rfl) ?_
        refine lv_irem hx hb dL_law_803 (nI_ne0 (by omega) (by omega)) ?_
        refine topI (y := (nI (y % c))) (pk_rem (by omega) (by omega) (by omega)) ?_
        refine lv_iload hx hb dL_law_804 (lv_at hl 10 rfl) ?_
        refine lv_icmp_ne (tgt := 825) hx hb dL_law_806 (by decide) (fun c_806 => by exfalso; simp only [ne_eq, ← Int32.toInt_inj, Decidable.not_not] at c_806; rw [nI_toInt (n := (y % c)) (by omega)] at c_806; rw [nI_toInt (n := i) (by omega)] at c_806; omega) (fun c_806 => ?_)
        simp only [ne_eq, ← Int32.toInt_inj, Decidable.not_not] at c_806
        rw [nI_toInt (n := (y % c)) (by omega)] at c_806
        rw [nI_toInt (n := i) (by omega)] at c_806
        refine lv_iload hx hb dL_law_809 (lv_at hl 0 rfl) ?_
        refine va_mabs hx hb (by rw [hml]; exact hl.1.symm) hown (hts (.methodLink RL 128 Lib.Math.abs.name) (by decide +kernel)) (hts (.static Lib.Math.abs.name) (by decide +kernel)) (hts (.initialized "java/lang/Math") (by decide +kernel)) (hts (.code Lib.Math.abs.name Lib.Math.abs.code 1 (some .int)) (by decide +kernel)) (by first | decide | exact Nat.le_of_ble_eq_true rfl) (by first | decide | exact Nat.le_of_ble_eq_true rfl) (show _ ≤ 791242 by omega) (show _ ≤ 6727743 by omega) dL_law_811 ?_
        refine topI (y := (absI (hld (fD i + fW i)))) rfl ?_
        refine lv_aload_n hx hb dL_law_814 rfl (lv_at hl 2 rfl) ?_
        refine ro_iE (va_runV (As := []) (rest := [.int (absI (hld (fD i + fW i)))]) ⟨hx, hb, hml, hown, hts⟩ (c_X1_tolerance l D cI cJ cR a k st (fi + dFine c t y fW fD) fB fS fO fL c t (y + 1) fW (dDr c t y fW fD) c2 t2 y2 gW gD) (cwV 0 hts gL_law_X1_tolerance rfl rfl rfl (by decide +kernel) ⟨Nat.le_of_ble_eq_true rfl, Nat.le_of_ble_eq_true rfl⟩) (preV_ro KC_ok (hP.sub (ws' := [((a 0), .inr (1, [.ref (a 1), .ref (a 2), .ref (a 3), .ref (a 4), .ref (a 5), .ref (a 8), .int (nI k), .int (nI st), .int (fi + dFine c t y fW fD)])), ((a 1), .inl (cI, 8, .inl fB)), ((a 2), .inl (cI, 8, .inl fS)), ((a 3), .inl (cJ, 8, .inr (.inl fL))), ((a 4), .inl (cI, 8, .inl fO)), ((a 5), .inr (0, [.ref (a 6), .ref (a 7), .int (nI c), .int t, .int (nI (y + 1))])), ((a 6), .inl (cI, 6, .inl fW)), ((a 7), .inl (cI, 6, .inl (dDr c t y fW fD))), ((a 8), .inr (0, [.ref (a 9), .ref (a 10), .int c2, .int t2, .int y2])), ((a 9), .inl (cI, 6, .inl gW)), ((a 10), .inl (cI, 6, .inl gD))]) [0, 1, 2, 3, 4, 5, 6, 7, 8, 9, 10] rfl) hC (va_recv hK hP (ci := 1) (q0 := 0) rfl rfl)) rfl rfl hl.1 rfl (lv_room (Nat.le_of_ble_eq_true rfl)) dL_law_815 ⟨show _ ≤ 791242 by omega, show _ ≤ 6727743 by omega⟩) ?_
        refine lv_icmp_le (tgt := 825) hx hb dL_law_818 (by decide) (fun c_818 => by exfalso; simp only [Int32.le_iff_toInt_le] at c_818; omega) (fun c_818 => ?_)
        simp only [Int32.le_iff_toInt_le] at c_818
        refine lv_iconst (v := 1) hx hb dL_law_821 (by decide) ?_
        refine lv_goto (tgt := 826) hx hb dL_law_822 (by decide) ?_
        refine lv_istore (lv' := [(17, .int 1), (16, .int (hld (fD i + fW i))), (0, .ref bs), (1, .ref (a 0)), (2, .ref sm), (3, .int z3), (6, .int (nI c)), (11, .ref qd), (12, .int (nI y)), (13, .int fi), (14, .int (dFine c t y fW fD)), (15, .int (nI i))]) hx hb dL_law_826 hl (by decide) rfl (fun ls hl => ?_)
        refine lv_aload_n hx hb dL_law_828 rfl (lv_at hl 3 rfl) ?_
        refine lv_iload hx hb dL_law_829 (lv_at hl 11 rfl) ?_
        refine ro_iE (va_runV (As := [.int (nI i)]) (rest := []) ⟨hx, hb, hml, hown, hts⟩ (k_X1_driftOf l D cI cJ cR a k st (fi + dFine c t y fW fD) fB fS fO fL c t (y + 1) fW (dDr c t y fW fD) c2 t2 y2 gW gD hc i (by omega)) (cwV 1 hts gL_law_X1_driftOf rfl rfl rfl (by decide +kernel) ⟨Nat.le_of_ble_eq_true rfl, Nat.le_of_ble_eq_true rfl⟩) (preV_ro KC_ok (hP.sub (ws' := [((a 0), .inr (1, [.ref (a 1), .ref (a 2), .ref (a 3), .ref (a 4), .ref (a 5), .ref (a 8), .int (nI k), .int (nI st), .int (fi + dFine c t y fW fD)])), ((a 1), .inl (cI, 8, .inl fB)), ((a 2), .inl (cI, 8, .inl fS)), ((a 3), .inl (cJ, 8, .inr (.inl fL))), ((a 4), .inl (cI, 8, .inl fO)), ((a 5), .inr (0, [.ref (a 6), .ref (a 7), .int (nI c), .int t, .int (nI (y + 1))])), ((a 6), .inl (cI, 6, .inl fW)), ((a 7), .inl (cI, 6, .inl (dDr c t y fW fD))), ((a 8), .inr (0, [.ref (a 9), .ref (a 10), .int c2, .int t2, .int y2])), ((a 9), .inl (cI, 6, .inl gW)), ((a 10), .inl (cI, 6, .inl gD))]) [0, 1, 2, 3, 4, 5, 6, 7, 8, 9, 10] rfl) hC (va_recv hK hP (ci := 1) (q0 := 0) rfl rfl)) rfl rfl hl.1 rfl (lv_room (Nat.le_of_ble_eq_true rfl)) dL_law_831 ⟨show _ ≤ 791242 by omega, show _ ≤ 6727743 by omega⟩) ?_
        refine topI (y := 0) hdn ?_
        refine lv_iload hx hb dL_law_834 (lv_at hl 0 rfl) ?_
        refine lv_if_eq (tgt := 843) hx hb dL_law_836 (by decide) (fun c_836 => by exact absurd c_836 (by decide)) (fun c_836 => ?_)
        refine lv_iconst (v := 0) hx hb dL_law_839 (by decide) ?_
        refine lv_goto (tgt := 845) hx hb dL_law_840 (by decide) ?_
        refine lv_icmp_ne (tgt := 883) hx hb dL_law_845 (by decide) (fun c_845 => by exact absurd rfl c_845) (fun c_845 => ?_)
        refine lv_iload hx hb dL_law_848 (lv_at hl 0 rfl) ?_
        refine lv_if_eq (tgt := 863) hx hb dL_law_850 (by decide) (fun c_850 => by exact absurd c_850 (by decide)) (fun c_850 => ?_)
        refine lv_iload hx hb dL_law_853 (lv_at hl 10 rfl) ?_
        refine topI (y := absI (hld (fD i + fW i))) hfn ?_
        refine lv_iload hx hb dL_law_855 (lv_at hl 1 rfl) ?_
        refine va_mabs hx hb (by rw [hml]; exact hl.1.symm) hown (hts (.methodLink RL 128 Lib.Math.abs.name) (by decide +kernel)) (hts (.static Lib.Math.abs.name) (by decide +kernel)) (hts (.initialized "java/lang/Math") (by decide +kernel)) (hts (.code Lib.Math.abs.name Lib.Math.abs.code 1 (some .int)) (by decide +kernel)) (by first | decide | exact Nat.le_of_ble_eq_true rfl) (by first | decide | exact Nat.le_of_ble_eq_true rfl) (show _ ≤ 791242 by omega) (show _ ≤ 6727743 by omega) dL_law_857 ?_
        refine topI (y := (absI (hld (fD i + fW i)))) rfl ?_
        refine lv_icmp_ne (tgt := 883) hx hb dL_law_860 (by decide) (fun c_860 => by exact absurd rfl c_860) (fun c_860 => ?_)
        refine lv_iload hx hb dL_law_863 (lv_at hl 8 rfl) ?_
        refine lv_iload hx hb dL_law_865 (lv_at hl 6 rfl) ?_
        refine lv_irem hx hb dL_law_867 (nI_ne0 (by omega) (by omega)) ?_
        refine topI (y := (nI (y % c))) (pk_rem (by omega) (by omega) (by omega)) ?_
        refine lv_iload hx hb dL_law_868 (lv_at hl 11 rfl) ?_
        refine lv_icmp_ne (tgt := 885) hx hb dL_law_870 (by decide) (fun c_870 => by exfalso; simp only [ne_eq, ← Int32.toInt_inj, Decidable.not_not] at c_870; rw [nI_toInt (n := (y % c)) (by omega)] at c_870; rw [nI_toInt (n := i) (by omega)] at c_870; omega) (fun c_870 => ?_)
        simp only [ne_eq, ← Int32.toInt_inj, Decidable.not_not] at c_870
        rw [nI_toInt (n := (y % c)) (by omega)] at c_870
        rw [nI_toInt (n := i) (by omega)] at c_870
        refine lv_iload hx hb dL_law_873 (lv_at hl 0 rfl) ?_
        refine lv_if_ne (tgt := 885) hx hb dL_law_875 (by decide) (fun c_875 => ?_) (fun c_875 => by exact absurd c_875 (by decide))
        refine lv_iinc (v := (nI (i + 1))) (lv' := [(15, .int (nI (i + 1))), (17, .int 1), (16, .int (hld (fD i + fW i))), (0, .ref bs), (1, .ref (a 0)), (2, .ref sm), (3, .int z3), (6, .int (nI c)), (11, .ref qd), (12, .int (nI y)), (13, .int fi), (14, .int (dFine c t y fW fD))]) hx hb dL_law_885 hl (k := 11) rfl (nI_inc i) (by decide) rfl (fun ls hl => ?_)
        refine lv_goto (tgt := 766) hx hb dL_law_888 (by decide) ?_
        exact k9 () ls (by omega) (lv_sub hl [3, 4, 5, 6, 7, 8, 9, 10, 11, 0] rfl)
    · skip
      have hdn : (dDr c t y fW fD) i = (hld (fD i + fW i)) := hda.trans (ic_f (fun z => hq z.1))
      refine lv_iload hx hb dL_law_799 (lv_at hl 7 rfl) ?_
      refine lv_iload hx hb dL_law_801 (lv_at hl 5 rfl) ?_
      refine lv_irem hx hb dL_law_803 (nI_ne0 (by omega) (by omega)) ?_
      refine topI (y := (nI (y % c))) (pk_rem (by omega) (by omega) (by omega)) ?_
      refine lv_iload hx hb dL_law_804 (lv_at hl 10 rfl) ?_
      refine lv_icmp_ne (tgt := 825) hx hb dL_law_806 (by decide) (fun c_806 => ?_) (fun c_806 => by exfalso; simp only [ne_eq, ← Int32.toInt_inj, Decidable.not_not] at c_806; rw [nI_toInt (n := (y % c)) (by omega)] at c_806; rw [nI_toInt (n := i) (by omega)] at c_806; omega)
      simp only [ne_eq, ← Int32.toInt_inj, Decidable.not_not] at c_806
      rw [nI_toInt (n := (y % c)) (by omega)] at c_806
      rw [nI_toInt (n := i) (by omega)] at c_806
      refine lv_iconst (v := 0) hx hb dL_law_825 (by decide) ?_
      refine lv_istore (lv' := [(17, .int 0), (16, .int (hld (fD i + fW i))), (0, .ref bs), (1, .ref (a 0)), (2, .ref sm), (3, .int z3), (6, .int (nI c)), (11, .ref qd), (12, .int (nI y)), (13, .int fi), (14, .int (dFine c t y fW fD)), (15, .int (nI i))]) hx hb dL_law_826 hl (by decide) rfl (fun ls hl => ?_)
      refine lv_aload_n hx hb dL_law_828 rfl (lv_at hl 3 rfl) ?_
      refine lv_iload hx hb dL_law_829 (lv_at hl 11 rfl) ?_
      refine ro_iE (va_runV (As := [.int (nI i)]) (rest := []) ⟨hx, hb, hml, hown, hts⟩ (k_X1_driftOf l D cI cJ cR a k st (fi + dFine c t y fW fD) fB fS fO fL c t (y + 1) fW (dDr c t y fW fD) c2 t2 y2 gW gD hc i (by omega)) (cwV 1 hts gL_law_X1_driftOf rfl rfl rfl (by decide +kernel) ⟨Nat.le_of_ble_eq_true rfl, Nat.le_of_ble_eq_true rfl⟩) (preV_ro KC_ok (hP.sub (ws' := [((a 0), .inr (1, [.ref (a 1), .ref (a 2), .ref (a 3), .ref (a 4), .ref (a 5), .ref (a 8), .int (nI k), .int (nI st), .int (fi + dFine c t y fW fD)])), ((a 1), .inl (cI, 8, .inl fB)), ((a 2), .inl (cI, 8, .inl fS)), ((a 3), .inl (cJ, 8, .inr (.inl fL))), ((a 4), .inl (cI, 8, .inl fO)), ((a 5), .inr (0, [.ref (a 6), .ref (a 7), .int (nI c), .int t, .int (nI (y + 1))])), ((a 6), .inl (cI, 6, .inl fW)), ((a 7), .inl (cI, 6, .inl (dDr c t y fW fD))), ((a 8), .inr (0, [.ref (a 9), .ref (a 10), .int c2, .int t2, .int y2])), ((a 9), .inl (cI, 6, .inl gW)), ((a 10), .inl (cI, 6, .inl gD))]) [0, 1, 2, 3, 4, 5, 6, 7, 8, 9, 10] rfl) hC (va_recv hK hP (ci := 1) (q0 := 0) rfl rfl)) rfl rfl hl.1 rfl (lv_room (Nat.le_of_ble_eq_true rfl)) dL_law_831 ⟨show _ ≤ 791242 by omega, show _ ≤ 6727743 by omega⟩) ?_
      refine topI (y := (hld (fD i + fW i))) hdn ?_
      refine lv_iload hx hb dL_law_834 (lv_at hl 0 rfl) ?_
      refine lv_if_eq (tgt := 843) hx hb dL_law_836 (by decide) (fun c_836 => ?_) (fun c_836 => by exact absurd c_836 (by decide))
      refine lv_iload hx hb dL_law_843 (lv_at hl 1 rfl) ?_
      refine lv_icmp_ne (tgt := 883) hx hb dL_law_845 (by decide) (fun c_845 => by exact absurd rfl c_845) (fun c_845 => ?_)
      refine lv_iload hx hb dL_law_848 (lv_at hl 0 rfl) ?_
      refine lv_if_eq (tgt := 863) hx hb dL_law_850 (by decide) (fun c_850 => ?_) (fun c_850 => by exact absurd c_850 (by decide))
      refine lv_iload hx hb dL_law_863 (lv_at hl 8 rfl) ?_
      refine lv_iload hx hb dL_law_865 (lv_at hl 6 rfl) ?_
      refine lv_irem hx hb dL_law_867 (nI_ne0 (by omega) (by omega)) ?_
      refine topI (y := (nI (y % c))) (pk_rem (by omega) (by omega) (by omega)) ?_
      refine lv_iload hx hb dL_law_868 (lv_at hl 11 rfl) ?_
      refine lv_icmp_ne (tgt := 885) hx hb dL_law_870 (by decide) (fun c_870 => ?_) (fun c_870 => by exfalso; simp only [ne_eq, ← Int32.toInt_inj, Decidable.not_not] at c_870; rw [nI_toInt (n := (y % c)) (by omega)] at c_870; rw [nI_toInt (n := i) (by omega)] at c_870; omega)
      simp only [ne_eq, ← Int32.toInt_inj, Decidable.not_not] at c_870
      rw [nI_toInt (n := (y % c)) (by omega)] at c_870
      rw [nI_toInt (n := i) (by omega)] at c_870
      refine lv_iinc (v := (nI (i + 1))) (lv' := [(15, .int (nI (i + 1))), (17, .int 0), (16, .int (hld (fD i + fW i))), (0, .ref bs), (1, .ref (a 0)), (2, .ref sm), (3, .int z3), (6, .int (nI c)), (11, .ref qd), (12, .int (nI y)), (13, .int fi), (14, .int (dFine c t y fW fD))]) hx hb dL_law_885 hl (k := 11) rfl (nI_inc i) (by decide) rfl (fun ls hl => ?_)
      refine lv_goto (tgt := 766) hx hb dL_law_888 (by decide) ?_
      exact k9 () ls (by omega) (lv_sub hl [3, 4, 5, 6, 7, 8, 9, 10, 11, 0] rfl)
