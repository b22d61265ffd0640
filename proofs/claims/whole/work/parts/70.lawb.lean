set_option maxHeartbeats 4000000 in
set_option maxRecDepth 100000 in
theorem law_loop (l : Launch) (hst : l.stackTraces = false) {p : Program} {e : Env} {s : State} {m : MethodId} {args : Array Value} {below : List Frame} {meth : Method} {c9 : Code} {Q : State → Prop} (C0 : LC p s m c9 args) (D : va_G) (cI cJ : ClassId) (A : Nat → Prop) (hA : ∀ q : Nat, s.heap.size ≤ q → A q) (hAn : ∀ q : Nat, q < s.heap.size → ¬ A q) (bs Ls : Nat) (xs : Nat → Int32) (hX : va_X bs Ls xs s s.heap) (hbl : bs < s.heap.size) (a b : Nat → Nat) (o : Nat) (hC : KN D cI cJ a s s.heap) (hLs : Ls ≤ 2048)
    (fin : ∀ (H : Heap) (locs : List Loc) (ls : Array Slot), va_S A s.heap H locs → W p l e room_1 s m args below meth c9 H locs 5000 20000 Q (F0 m 2219 ls [])) :
    ∀ (n i cells slots : Nat), Ls ≤ i + 4 * n → i ≤ 2048 → cells + 4 * n ≤ 4000 → slots + 28 * n ≤ 19000 → ∀ (k st : Nat) (fi : Int32) (fB fS fO : Nat → Int32) (fL : Nat → Int64) (c : Nat) (t : Int32) (y : Nat) (fW fD : Nat → Int32) (c2 t2 y2 : Int32) (gW gD : Nat → Int32) (th : Int32) (lf : Int64) (mM mP mK : Nat → Int32) (fo : Nat → Int64) (_ : LI k st fB fS fO fL c t fD mM mP) (_ : y + 60 * n ≤ 60000) (H : Heap) (locs : List Loc) (ls : Array Slot) (_ : lv_has ls 9 [(0, .ref bs), (1, .ref (a 0)), (2, .ref (b 0)), (3, .ref o), (4, .int (nI i))]) (_ : va_P D vwCl [((a 0), .inr (1, [.ref (a 1), .ref (a 2), .ref (a 3), .ref (a 4), .ref (a 5), .ref (a 8), .int (nI k), .int (nI st), .int fi])), ((a 1), .inl (cI, 8, .inl fB)), ((a 2), .inl (cI, 8, .inl fS)), ((a 3), .inl (cJ, 8, .inr (.inl fL))), ((a 4), .inl (cI, 8, .inl fO)), ((a 5), .inr (0, [.ref (a 6), .ref (a 7), .int (nI c), .int t, .int (nI y)])), ((a 6), .inl (cI, 6, .inl fW)), ((a 7), .inl (cI, 6, .inl fD)), ((a 8), .inr (0, [.ref (a 9), .ref (a 10), .int c2, .int t2, .int y2])), ((a 9), .inl (cI, 6, .inl gW)), ((a 10), .inl (cI, 6, .inl gD)), ((b 0), .inr (2, [.int th, .int (nI k), .ref (b 1), .ref (b 2), .ref (b 3), .ref (b 4), .ref (b 5), .int (nI st), .int (nI c), .ref (b 6), .int t, .ref (b 7), .ref (b 8), .long lf])), ((b 1), .inl (cI, 8, .inl fB)), ((b 2), .inl (cI, 8, .inl mM)), ((b 3), .inl (cI, 8, .inl mP)), ((b 4), .inl (cJ, 8, .inr (.inl fL))), ((b 5), .inl (cI, 8, .inl fO)), ((b 6), .inl (cI, 6, .inl fW)), ((b 7), .inl (cI, 8, .inl (nwF y fi fD))), ((b 8), .inl (cI, 8, .inl mK)), (o, .inl (cJ, 1, .inr (.inl fo)))] H) (_ : va_D A [((a 0), .inr (1, [.ref (a 1), .ref (a 2), .ref (a 3), .ref (a 4), .ref (a 5), .ref (a 8), .int (nI k), .int (nI st), .int fi])), ((a 1), .inl (cI, 8, .inl fB)), ((a 2), .inl (cI, 8, .inl fS)), ((a 3), .inl (cJ, 8, .inr (.inl fL))), ((a 4), .inl (cI, 8, .inl fO)), ((a 5), .inr (0, [.ref (a 6), .ref (a 7), .int (nI c), .int t, .int (nI y)])), ((a 6), .inl (cI, 6, .inl fW)), ((a 7), .inl (cI, 6, .inl fD)), ((a 8), .inr (0, [.ref (a 9), .ref (a 10), .int c2, .int t2, .int y2])), ((a 9), .inl (cI, 6, .inl gW)), ((a 10), .inl (cI, 6, .inl gD)), ((b 0), .inr (2, [.int th, .int (nI k), .ref (b 1), .ref (b 2), .ref (b 3), .ref (b 4), .ref (b 5), .int (nI st), .int (nI c), .ref (b 6), .int t, .ref (b 7), .ref (b 8), .long lf])), ((b 1), .inl (cI, 8, .inl fB)), ((b 2), .inl (cI, 8, .inl mM)), ((b 3), .inl (cI, 8, .inl mP)), ((b 4), .inl (cJ, 8, .inr (.inl fL))), ((b 5), .inl (cI, 8, .inl fO)), ((b 6), .inl (cI, 6, .inl fW)), ((b 7), .inl (cI, 8, .inl (nwF y fi fD))), ((b 8), .inl (cI, 8, .inl mK)), (o, .inl (cJ, 1, .inr (.inl fo)))]) (_ : va_S A s.heap H locs), W p l e room_1 s m args below meth c9 H locs cells slots Q (F0 m 23 ls []) := by
  intro n
  induction n using Nat.strongRecOn
  rename_i n ih
  intro i cells slots hn hi0 hce hsl k st fi fB fS fO fL c t y fW fD c2 t2 y2 gW gD th lf mM mP mK fo hI hy H locs ls hl hP hD hS
  obtain ⟨hx, hb, hml, hown, hts⟩ := id C0
  refine lv_iload hx hb dL_law_23 (lv_at hl 4 rfl) ?_
  refine lv_aload_n hx hb dL_law_25 rfl (lv_at hl 0 rfl) ?_
  refine va_slen hx hb hX hbl (hAn bs hbl) hS dL_law_26 ?_
  refine topI (y := nI Ls) rfl ?_
  refine lv_iconst (v := 4) hx hb dL_law_27 (by decide) ?_
  refine lv_isub hx hb dL_law_28 ?_
  refine lv_icmp_gt (tgt := 2219) hx hb dL_law_29 (by decide) (fun c_29 => ?_) (fun c_29 => ?_)
  · refine W.widen (k := 5000) (n := 20000) (by omega) (by omega) ?_
    exact fin H locs ls hS
  · rw [Int32.lt_iff_toInt_lt, nI_subI (a := Ls) (b := 4) (by omega) (by decide) (by decide), nI_toInt (n := i) (by omega), (by decide : (4 : Int32).toInt = 4)] at c_29
    have hi : i + 3 < Ls := by omega
    have hn1 : 1 ≤ n := by omega
    have hRc : cells + 4 ≤ room_1.cells := Nat.le_trans (show cells + 4 ≤ 4000 by omega) (Nat.le_of_ble_eq_true rfl)
    have hRs : slots + 28 ≤ room_1.slots := Nat.le_trans (show slots + 28 ≤ 19000 by omega) (Nat.le_of_ble_eq_true rfl)
    have hy26 : y < 2 ^ 26 := by omega
    obtain ⟨y0, hy0⟩ : ∃ y0, y0 = y := ⟨y, rfl⟩
    have hyb : y0 + 60 * n ≤ 60000 := by omega
    have kk : ∀ (k st : Nat) (fi : Int32) (fB fS fO : Nat → Int32) (fL : Nat → Int64) (c : Nat) (t : Int32) (y : Nat) (fW fD : Nat → Int32) (c2 t2 y2 : Int32) (gW gD : Nat → Int32) (th : Int32) (lf : Int64) (mM mP mK : Nat → Int32) (fo : Nat → Int64) (H : Heap) (locs : List Loc) (ls : Array Slot), LI k st fB fS fO fL c t fD mM mP → lv_has ls 9 [(0, .ref bs), (1, .ref (a 0)), (2, .ref (b 0)), (3, .ref o), (4, .int (nI i))] → va_P D vwCl [((a 0), .inr (1, [.ref (a 1), .ref (a 2), .ref (a 3), .ref (a 4), .ref (a 5), .ref (a 8), .int (nI k), .int (nI st), .int fi])), ((a 1), .inl (cI, 8, .inl fB)), ((a 2), .inl (cI, 8, .inl fS)), ((a 3), .inl (cJ, 8, .inr (.inl fL))), ((a 4), .inl (cI, 8, .inl fO)), ((a 5), .inr (0, [.ref (a 6), .ref (a 7), .int (nI c), .int t, .int (nI y)])), ((a 6), .inl (cI, 6, .inl fW)), ((a 7), .inl (cI, 6, .inl fD)), ((a 8), .inr (0, [.ref (a 9), .ref (a 10), .int c2, .int t2, .int y2])), ((a 9), .inl (cI, 6, .inl gW)), ((a 10), .inl (cI, 6, .inl gD)), ((b 0), .inr (2, [.int th, .int (nI k), .ref (b 1), .ref (b 2), .ref (b 3), .ref (b 4), .ref (b 5), .int (nI st), .int (nI c), .ref (b 6), .int t, .ref (b 7), .ref (b 8), .long lf])), ((b 1), .inl (cI, 8, .inl fB)), ((b 2), .inl (cI, 8, .inl mM)), ((b 3), .inl (cI, 8, .inl mP)), ((b 4), .inl (cJ, 8, .inr (.inl fL))), ((b 5), .inl (cI, 8, .inl fO)), ((b 6), .inl (cI, 6, .inl fW)), ((b 7), .inl (cI, 8, .inl (nwF y fi fD))), ((b 8), .inl (cI, 8, .inl mK)), (o, .inl (cJ, 1, .inr (.inl fo)))] H → va_D A [((a 0), .inr (1, [.ref (a 1), .ref (a 2), .ref (a 3), .ref (a 4), .ref (a 5), .ref (a 8), .int (nI k), .int (nI st), .int fi])), ((a 1), .inl (cI, 8, .inl fB)), ((a 2), .inl (cI, 8, .inl fS)), ((a 3), .inl (cJ, 8, .inr (.inl fL))), ((a 4), .inl (cI, 8, .inl fO)), ((a 5), .inr (0, [.ref (a 6), .ref (a 7), .int (nI c), .int t, .int (nI y)])), ((a 6), .inl (cI, 6, .inl fW)), ((a 7), .inl (cI, 6, .inl fD)), ((a 8), .inr (0, [.ref (a 9), .ref (a 10), .int c2, .int t2, .int y2])), ((a 9), .inl (cI, 6, .inl gW)), ((a 10), .inl (cI, 6, .inl gD)), ((b 0), .inr (2, [.int th, .int (nI k), .ref (b 1), .ref (b 2), .ref (b 3), .ref (b 4), .ref (b 5), .int (nI st), .int (nI c), .ref (b 6), .int t, .ref (b 7), .ref (b 8), .long lf])), ((b 1), .inl (cI, 8, .inl fB)), ((b 2), .inl (cI, 8, .inl mM)), ((b 3), .inl (cI, 8, .inl mP)), ((b 4), .inl (cJ, 8, .inr (.inl fL))), ((b 5), .inl (cI, 8, .inl fO)), ((b 6), .inl (cI, 6, .inl fW)), ((b 7), .inl (cI, 8, .inl (nwF y fi fD))), ((b 8), .inl (cI, 8, .inl mK)), (o, .inl (cJ, 1, .inr (.inl fo)))] → va_S A s.heap H locs → y ≤ y0 + 60 → W p l e room_1 s m args below meth c9 H locs (cells + 4) (slots + 28) Q (F0 m 2213 ls []) := by
      intro k st fi fB fS fO fL c t y fW fD c2 t2 y2 gW gD th lf mM mP mK fo H locs ls hI hl hP hD hS hyy
      refine lv_iinc (v := nI (i + 4)) (lv' := [(4, .int (nI (i + 4))), (0, .ref bs), (1, .ref (a 0)), (2, .ref (b 0)), (3, .ref o)]) hx hb dL_law_2213 hl (k := 4) rfl (nI_add i 4) (by decide) rfl (fun ls hl => ?_)
      refine lv_goto (tgt := 23) hx hb dL_law_2216 (by decide) ?_
      have hy60 : y + 60 * (n - 1) ≤ 60000 := by omega
      exact ih (n - 1) (by omega) (i + 4) (cells + 4) (slots + 28) (by omega) (by omega) (by omega) (by omega) k st fi fB fS fO fL c t y fW fD c2 t2 y2 gW gD th lf mM mP mK fo hI hy60 H locs ls (lv_sub hl [1, 2, 3, 4, 0] rfl) hP hD hS
    refine lv_aload_n hx hb dL_law_32 rfl (lv_at hl 0 rfl) ?_
    refine lv_iload hx hb dL_law_33 (lv_at hl 4 rfl) ?_
    refine va_sld hx hb hX hbl (hAn bs hbl) hS (vp_in_nI (by omega) (by omega)) dL_law_35 ?_
    refine lv_bipush (v := 63) hx hb dL_law_36 (by decide) ?_
    refine lv_iand hx hb dL_law_38 ?_
    generalize xs (nI i).toNatClampNeg &&& 63 = w
    by_cases hw : w.toInt < 0 ∨ 39 < w.toInt
    · refine lv_tableOut (tgt := 2213) hx hb dL_law_39 hw (by decide) ?_
      refine W.widen (k := cells + 4) (n := slots + 28) (by omega) (by omega) ?_
      exact kk k st fi fB fS fO fL c t y fW fD c2 t2 y2 gW gD th lf mM mP mK fo H locs ls hI hl hP hD hS (by omega)
    · obtain ⟨v, hv1, hv⟩ : ∃ v : Nat, v < 40 ∧ w.toInt = (v : Int) := ⟨w.toInt.toNat, by omega, by omega⟩
      have hw1 : ¬ w.toInt < 0 := fun h => hw (Or.inl h)
      have hw2 : ¬ 39 < w.toInt := fun h => hw (Or.inr h)
      match v, hv1, hv with
      | 0, _, hv =>
        refine lv_tableIn (off := 173) (tgt := 212) hx hb dL_law_39 hw1 hw2 (by rw [hv]; rfl) (by decide) ?_
        exact law_212 l hst C0 D cI cJ A hA hAn bs Ls xs hX hbl a b o hC i hi hLs cells slots hRc hRs k st fi fB fS fO fL c t y fW fD c2 t2 y2 gW gD th lf mM mP mK fo hI hy26 y0 hy0 kk H locs ls hl hP hD hS
      | 1, _, hv =>
        refine lv_tableIn (off := 253) (tgt := 292) hx hb dL_law_39 hw1 hw2 (by rw [hv]; rfl) (by decide) ?_
        exact law_292 l hst C0 D cI cJ A hA hAn bs Ls xs hX hbl a b o hC i hi hLs cells slots hRc hRs k st fi fB fS fO fL c t y fW fD c2 t2 y2 gW gD th lf mM mP mK fo hI hy26 y0 hy0 kk H locs ls hl hP hD hS
      | 2, _, hv =>
        refine lv_tableIn (off := 309) (tgt := 348) hx hb dL_law_39 hw1 hw2 (by rw [hv]; rfl) (by decide) ?_
        exact law_348 l hst C0 D cI cJ A hA hAn bs Ls xs hX hbl a b o hC i hi hLs cells slots hRc hRs k st fi fB fS fO fL c t y fW fD c2 t2 y2 gW gD th lf mM mP mK fo hI hy26 y0 hy0 kk H locs ls hl hP hD hS
      | 3, _, hv =>
        refine lv_tableIn (off := 365) (tgt := 404) hx hb dL_law_39 hw1 hw2 (by rw [hv]; rfl) (by decide) ?_
        exact law_404 l hst C0 D cI cJ A hA hAn bs Ls xs hX hbl a b o hC i hi hLs cells slots hRc hRs k st fi fB fS fO fL c t y fW fD c2 t2 y2 gW gD th lf mM mP mK fo hI hy26 y0 hy0 kk H locs ls hl hP hD hS
      | 4, _, hv =>
        refine lv_tableIn (off := 433) (tgt := 472) hx hb dL_law_39 hw1 hw2 (by rw [hv]; rfl) (by decide) ?_
        exact law_472 l hst C0 D cI cJ A hA hAn bs Ls xs hX hbl a b o hC i hi hLs cells slots hRc hRs k st fi fB fS fO fL c t y fW fD c2 t2 y2 gW gD th lf mM mP mK fo hI hy26 y0 hy0 kk H locs ls hl hP hD hS
      | 5, _, hv =>
        refine lv_tableIn (off := 489) (tgt := 528) hx hb dL_law_39 hw1 hw2 (by rw [hv]; rfl) (by decide) ?_
        exact law_528 l hst C0 D cI cJ A hA hAn bs Ls xs hX hbl a b o hC i hi hLs cells slots hRc hRs k st fi fB fS fO fL c t y fW fD c2 t2 y2 gW gD th lf mM mP mK fo hI hy26 y0 hy0 kk H locs ls hl hP hD hS
      | 6, _, hv =>
        refine lv_tableIn (off := 545) (tgt := 584) hx hb dL_law_39 hw1 hw2 (by rw [hv]; rfl) (by decide) ?_
        exact law_584 l hst C0 D cI cJ A hA hAn bs Ls xs hX hbl a b o hC i hi hLs cells slots hRc hRs k st fi fB fS fO fL c t y fW fD c2 t2 y2 gW gD th lf mM mP mK fo hI hy26 y0 hy0 kk H locs ls hl hP hD hS
      | 7, _, hv =>
        refine lv_tableIn (off := 601) (tgt := 640) hx hb dL_law_39 hw1 hw2 (by rw [hv]; rfl) (by decide) ?_
        exact law_640 l hst C0 D cI cJ A hA hAn bs Ls xs hX hbl a b o hC i hi hLs cells slots hRc hRs k st fi fB fS fO fL c t y fW fD c2 t2 y2 gW gD th lf mM mP mK fo hI hy26 y0 hy0 kk H locs ls hl hP hD hS
      | 8, _, hv =>
        refine lv_tableIn (off := 614) (tgt := 653) hx hb dL_law_39 hw1 hw2 (by rw [hv]; rfl) (by decide) ?_
        exact law_653 l hst C0 D cI cJ A hA hAn bs Ls xs hX hbl a b o hC i hi hLs cells slots hRc hRs k st fi fB fS fO fL c t y fW fD c2 t2 y2 gW gD th lf mM mP mK fo hI hy26 y0 hy0 kk H locs ls hl hP hD hS
      | 9, _, hv =>
        refine lv_tableIn (off := 627) (tgt := 666) hx hb dL_law_39 hw1 hw2 (by rw [hv]; rfl) (by decide) ?_
        exact law_666 l hst C0 D cI cJ A hA hAn bs Ls xs hX hbl a b o hC i hi hLs cells slots hRc hRs k st fi fB fS fO fL c t y fW fD c2 t2 y2 gW gD th lf mM mP mK fo hI hy26 y0 hy0 kk H locs ls hl hP hD hS
      | 10, _, hv =>
        refine lv_tableIn (off := 640) (tgt := 679) hx hb dL_law_39 hw1 hw2 (by rw [hv]; rfl) (by decide) ?_
        exact law_679 l hst C0 D cI cJ A hA hAn bs Ls xs hX hbl a b o hC i hi hLs cells slots hRc hRs k st fi fB fS fO fL c t y fW fD c2 t2 y2 gW gD th lf mM mP mK fo hI hy26 y0 hy0 kk H locs ls hl hP hD hS
      | 11, _, hv =>
        refine lv_tableIn (off := 653) (tgt := 692) hx hb dL_law_39 hw1 hw2 (by rw [hv]; rfl) (by decide) ?_
        exact law_692 l hst C0 D cI cJ A hA hAn bs Ls xs hX hbl a b o hC i hi hLs cells slots hRc hRs k st fi fB fS fO fL c t y fW fD c2 t2 y2 gW gD th lf mM mP mK fo hI hy26 y0 hy0 kk H locs ls hl hP hD hS
      | 12, _, hv =>
        refine lv_tableIn (off := 666) (tgt := 705) hx hb dL_law_39 hw1 hw2 (by rw [hv]; rfl) (by decide) ?_
        exact law_705 l hst C0 D cI cJ A hA hAn bs Ls xs hX hbl a b o hC i hi hLs cells slots hRc hRs k st fi fB fS fO fL c t y fW fD c2 t2 y2 gW gD th lf mM mP mK fo hI hy26 y0 hy0 kk H locs ls hl hP hD hS
      | 13, _, hv =>
        refine lv_tableIn (off := 679) (tgt := 718) hx hb dL_law_39 hw1 hw2 (by rw [hv]; rfl) (by decide) ?_
        exact law_718 l hst C0 D cI cJ A hA hAn bs Ls xs hX hbl a b o hC i hi hLs cells slots hRc hRs k st fi fB fS fO fL c t y fW fD c2 t2 y2 gW gD th lf mM mP mK fo hI hy26 y0 hy0 kk H locs ls hl hP hD hS
      | 14, _, hv =>
        refine lv_tableIn (off := 735) (tgt := 774) hx hb dL_law_39 hw1 hw2 (by rw [hv]; rfl) (by decide) ?_
        exact law_774 l hst C0 D cI cJ A hA hAn bs Ls xs hX hbl a b o hC i hi hLs cells slots hRc hRs k st fi fB fS fO fL c t y fW fD c2 t2 y2 gW gD th lf mM mP mK fo hI hy26 y0 hy0 kk H locs ls hl hP hD hS
      | 15, _, hv =>
        refine lv_tableIn (off := 791) (tgt := 830) hx hb dL_law_39 hw1 hw2 (by rw [hv]; rfl) (by decide) ?_
        exact law_830 l hst C0 D cI cJ A hA hAn bs Ls xs hX hbl a b o hC i hi hLs cells slots hRc hRs k st fi fB fS fO fL c t y fW fD c2 t2 y2 gW gD th lf mM mP mK fo hI hy26 y0 hy0 kk H locs ls hl hP hD hS
      | 16, _, hv =>
        refine lv_tableIn (off := 846) (tgt := 885) hx hb dL_law_39 hw1 hw2 (by rw [hv]; rfl) (by decide) ?_
        exact law_885 l hst C0 D cI cJ A hA hAn bs Ls xs hX hbl a b o hC i hi hLs cells slots hRc hRs k st fi fB fS fO fL c t y fW fD c2 t2 y2 gW gD th lf mM mP mK fo hI hy26 y0 hy0 kk H locs ls hl hP hD hS
      | 17, _, hv =>
        refine lv_tableIn (off := 901) (tgt := 940) hx hb dL_law_39 hw1 hw2 (by rw [hv]; rfl) (by decide) ?_
        exact law_940 l hst C0 D cI cJ A hA hAn bs Ls xs hX hbl a b o hC i hi hLs cells slots hRc hRs k st fi fB fS fO fL c t y fW fD c2 t2 y2 gW gD th lf mM mP mK fo hI hy26 y0 hy0 kk H locs ls hl hP hD hS
      | 18, _, hv =>
        refine lv_tableIn (off := 976) (tgt := 1015) hx hb dL_law_39 hw1 hw2 (by rw [hv]; rfl) (by decide) ?_
        exact law_1015 l hst C0 D cI cJ A hA hAn bs Ls xs hX hbl a b o hC i hi hLs cells slots hRc hRs k st fi fB fS fO fL c t y fW fD c2 t2 y2 gW gD th lf mM mP mK fo hI hy26 y0 hy0 kk H locs ls hl hP hD hS
      | 19, _, hv =>
        refine lv_tableIn (off := 989) (tgt := 1028) hx hb dL_law_39 hw1 hw2 (by rw [hv]; rfl) (by decide) ?_
        exact law_1028 l hst C0 D cI cJ A hA hAn bs Ls xs hX hbl a b o hC i hi hLs cells slots hRc hRs k st fi fB fS fO fL c t y fW fD c2 t2 y2 gW gD th lf mM mP mK fo hI hy26 y0 hy0 kk H locs ls hl hP hD hS
      | 20, _, hv =>
        refine lv_tableIn (off := 1002) (tgt := 1041) hx hb dL_law_39 hw1 hw2 (by rw [hv]; rfl) (by decide) ?_
        exact law_1041 l hst C0 D cI cJ A hA hAn bs Ls xs hX hbl a b o hC i hi hLs cells slots hRc hRs k st fi fB fS fO fL c t y fW fD c2 t2 y2 gW gD th lf mM mP mK fo hI hy26 y0 hy0 kk H locs ls hl hP hD hS
      | 21, _, hv =>
        refine lv_tableIn (off := 1069) (tgt := 1108) hx hb dL_law_39 hw1 hw2 (by rw [hv]; rfl) (by decide) ?_
        exact law_1108 l hst C0 D cI cJ A hA hAn bs Ls xs hX hbl a b o hC i hi hLs cells slots hRc hRs k st fi fB fS fO fL c t y fW fD c2 t2 y2 gW gD th lf mM mP mK fo hI hy26 y0 hy0 kk H locs ls hl hP hD hS
      | 22, _, hv =>
        refine lv_tableIn (off := 1148) (tgt := 1187) hx hb dL_law_39 hw1 hw2 (by rw [hv]; rfl) (by decide) ?_
        exact law_1187 l hst C0 D cI cJ A hA hAn bs Ls xs hX hbl a b o hC i hi hLs cells slots hRc hRs k st fi fB fS fO fL c t y fW fD c2 t2 y2 gW gD th lf mM mP mK fo hI hy26 y0 hy0 kk H locs ls hl hP hD hS
      | 23, _, hv =>
        refine lv_tableIn (off := 1235) (tgt := 1274) hx hb dL_law_39 hw1 hw2 (by rw [hv]; rfl) (by decide) ?_
        exact law_1274 l hst C0 D cI cJ A hA hAn bs Ls xs hX hbl a b o hC i hi hLs cells slots hRc hRs k st fi fB fS fO fL c t y fW fD c2 t2 y2 gW gD th lf mM mP mK fo hI hy26 y0 hy0 kk H locs ls hl hP hD hS
      | 24, _, hv =>
        refine lv_tableIn (off := 1314) (tgt := 1353) hx hb dL_law_39 hw1 hw2 (by rw [hv]; rfl) (by decide) ?_
        exact law_1353 l hst C0 D cI cJ A hA hAn bs Ls xs hX hbl a b o hC i hi hLs cells slots hRc hRs k st fi fB fS fO fL c t y fW fD c2 t2 y2 gW gD th lf mM mP mK fo hI hy26 y0 hy0 kk H locs ls hl hP hD hS
      | 25, _, hv =>
        refine lv_tableIn (off := 1381) (tgt := 1420) hx hb dL_law_39 hw1 hw2 (by rw [hv]; rfl) (by decide) ?_
        exact law_1420 l hst C0 D cI cJ A hA hAn bs Ls xs hX hbl a b o hC i hi hLs cells slots hRc hRs k st fi fB fS fO fL c t y fW fD c2 t2 y2 gW gD th lf mM mP mK fo hI hy26 y0 hy0 kk H locs ls hl hP hD hS
      | 26, _, hv =>
        refine lv_tableIn (off := 1456) (tgt := 1495) hx hb dL_law_39 hw1 hw2 (by rw [hv]; rfl) (by decide) ?_
        exact law_1495 l hst C0 D cI cJ A hA hAn bs Ls xs hX hbl a b o hC i hi hLs cells slots hRc hRs k st fi fB fS fO fL c t y fW fD c2 t2 y2 gW gD th lf mM mP mK fo hI hy26 y0 hy0 kk H locs ls hl hP hD hS
      | 27, _, hv =>
        refine lv_tableIn (off := 1524) (tgt := 1563) hx hb dL_law_39 hw1 hw2 (by rw [hv]; rfl) (by decide) ?_
        exact law_1563 l hst C0 D cI cJ A hA hAn bs Ls xs hX hbl a b o hC i hi hLs cells slots hRc hRs k st fi fB fS fO fL c t y fW fD c2 t2 y2 gW gD th lf mM mP mK fo hI hy26 y0 hy0 kk H locs ls hl hP hD hS
      | 28, _, hv =>
        refine lv_tableIn (off := 1580) (tgt := 1619) hx hb dL_law_39 hw1 hw2 (by rw [hv]; rfl) (by decide) ?_
        exact law_1619 l hst C0 D cI cJ A hA hAn bs Ls xs hX hbl a b o hC i hi hLs cells slots hRc hRs k st fi fB fS fO fL c t y fW fD c2 t2 y2 gW gD th lf mM mP mK fo hI hy26 y0 hy0 kk H locs ls hl hP hD hS
      | 29, _, hv =>
        refine lv_tableIn (off := 1636) (tgt := 1675) hx hb dL_law_39 hw1 hw2 (by rw [hv]; rfl) (by decide) ?_
        exact law_1675 l hst C0 D cI cJ A hA hAn bs Ls xs hX hbl a b o hC i hi hLs cells slots hRc hRs k st fi fB fS fO fL c t y fW fD c2 t2 y2 gW gD th lf mM mP mK fo hI hy26 y0 hy0 kk H locs ls hl hP hD hS
      | 30, _, hv =>
        refine lv_tableIn (off := 1699) (tgt := 1738) hx hb dL_law_39 hw1 hw2 (by rw [hv]; rfl) (by decide) ?_
        exact law_1738 l hst C0 D cI cJ A hA hAn bs Ls xs hX hbl a b o hC i hi hLs cells slots hRc hRs k st fi fB fS fO fL c t y fW fD c2 t2 y2 gW gD th lf mM mP mK fo hI hy26 y0 hy0 kk H locs ls hl hP hD hS
      | 31, _, hv =>
        refine lv_tableIn (off := 1778) (tgt := 1817) hx hb dL_law_39 hw1 hw2 (by rw [hv]; rfl) (by decide) ?_
        exact law_1817 l hst C0 D cI cJ A hA hAn bs Ls xs hX hbl a b o hC i hi hLs cells slots hRc hRs k st fi fB fS fO fL c t y fW fD c2 t2 y2 gW gD th lf mM mP mK fo hI hy26 y0 hy0 kk H locs ls hl hP hD hS
      | 32, _, hv =>
        refine lv_tableIn (off := 1857) (tgt := 1896) hx hb dL_law_39 hw1 hw2 (by rw [hv]; rfl) (by decide) ?_
        exact law_1896 l hst C0 D cI cJ A hA hAn bs Ls xs hX hbl a b o hC i hi hLs cells slots hRc hRs k st fi fB fS fO fL c t y fW fD c2 t2 y2 gW gD th lf mM mP mK fo hI hy26 y0 hy0 kk H locs ls hl hP hD hS
      | 33, _, hv =>
        refine lv_tableIn (off := 1870) (tgt := 1909) hx hb dL_law_39 hw1 hw2 (by rw [hv]; rfl) (by decide) ?_
        exact law_1909 l hst C0 D cI cJ A hA hAn bs Ls xs hX hbl a b o hC i hi hLs cells slots hRc hRs k st fi fB fS fO fL c t y fW fD c2 t2 y2 gW gD th lf mM mP mK fo hI hy26 y0 hy0 kk H locs ls hl hP hD hS
      | 34, _, hv =>
        refine lv_tableIn (off := 1883) (tgt := 1922) hx hb dL_law_39 hw1 hw2 (by rw [hv]; rfl) (by decide) ?_
        exact law_1922 l hst C0 D cI cJ A hA hAn bs Ls xs hX hbl a b o hC i hi hLs cells slots hRc hRs k st fi fB fS fO fL c t y fW fD c2 t2 y2 gW gD th lf mM mP mK fo hI hy26 y0 hy0 kk H locs ls hl hP hD hS
      | 35, _, hv =>
        refine lv_tableIn (off := 1951) (tgt := 1990) hx hb dL_law_39 hw1 hw2 (by rw [hv]; rfl) (by decide) ?_
        exact law_1990 l hst C0 D cI cJ A hA hAn bs Ls xs hX hbl a b o hC i hi hLs cells slots hRc hRs k st fi fB fS fO fL c t y fW fD c2 t2 y2 gW gD th lf mM mP mK fo hI hy26 y0 hy0 kk H locs ls hl hP hD hS
      | 36, _, hv =>
        refine lv_tableIn (off := 2007) (tgt := 2046) hx hb dL_law_39 hw1 hw2 (by rw [hv]; rfl) (by decide) ?_
        exact law_2046 l hst C0 D cI cJ A hA hAn bs Ls xs hX hbl a b o hC i hi hLs cells slots hRc hRs k st fi fB fS fO fL c t y fW fD c2 t2 y2 gW gD th lf mM mP mK fo hI hy26 y0 hy0 kk H locs ls hl hP hD hS
      | 37, _, hv =>
        refine lv_tableIn (off := 2063) (tgt := 2102) hx hb dL_law_39 hw1 hw2 (by rw [hv]; rfl) (by decide) ?_
        exact law_2102 l hst C0 D cI cJ A hA hAn bs Ls xs hX hbl a b o hC i hi hLs cells slots hRc hRs k st fi fB fS fO fL c t y fW fD c2 t2 y2 gW gD th lf mM mP mK fo hI hy26 y0 hy0 kk H locs ls hl hP hD hS
      | 38, _, hv =>
        refine lv_tableIn (off := 2119) (tgt := 2158) hx hb dL_law_39 hw1 hw2 (by rw [hv]; rfl) (by decide) ?_
        exact law_2158 l hst C0 D cI cJ A hA hAn bs Ls xs hX hbl a b o hC i hi hLs cells slots hRc hRs k st fi fB fS fO fL c t y fW fD c2 t2 y2 gW gD th lf mM mP mK fo hI hy26 y0 hy0 kk H locs ls hl hP hD hS
      | 39, _, hv =>
        refine lv_tableIn (off := 2160) (tgt := 2199) hx hb dL_law_39 hw1 hw2 (by rw [hv]; rfl) (by decide) ?_
        exact law_2199 l hst C0 D cI cJ A hA hAn bs Ls xs hX hbl a b o hC i hi hLs cells slots hRc hRs k st fi fB fS fO fL c t y fW fD c2 t2 y2 gW gD th lf mM mP mK fo hI hy26 y0 hy0 kk H locs ls hl hP hD hS
      | v + 40, hv1, _ => exact absurd hv1 (by omega)