set_option maxHeartbeats 4000000 in
set_option maxRecDepth 100000 in
theorem law_measures (l : Launch) {p : Program} {e : Env} {s : State} {m : MethodId} {args : Array Value} {below : List Frame} {meth : Method} {c9 : Code} {Q : State → Prop} (C0 : LC p s m c9 args) (D : va_G) (cI cJ cR : ClassId) (hC : KC D cI cJ cR s s.heap) (A : Nat → Prop) (hA : ∀ q : Nat, s.heap.size ≤ q → A q) (cells slots : Nat) (hRc : cells ≤ 500000) (hRs : slots ≤ 5000000) (a : Nat → Nat) (sm ma sa : Nat) (ra rs : Nat → Nat) (k st : Nat) (fi : Int32) (fB fS fO mM mP : Nat → Int32) (fL : Nat → Int64) (c : Nat) (t : Int32) (y : Nat) (fW fD : Nat → Int32) (c2 t2 y2 : Int32) (gW gD : Nat → Int32) (hI : PI k st fB fS fO fL c t fW fD mM mP) (hy : y < 2 ^ 19) (n9 : Nat) (hn1 : 1 ≤ n9) (hn2 : n9 ≤ 200) (jx : Nat) (hjx : jx < k) (z3 z4 : Int32) (bs : Nat)
    (H : Heap) (locs : List Loc) (hP : va_P D vwCl ([((a 0), .inr (1, [.ref (a 1), .ref (a 2), .ref (a 3), .ref (a 4), .ref (a 5), .ref (a 8), .int (nI k), .int (nI st), .int fi])), ((a 1), .inl (cI, 8, .inl fB)), ((a 2), .inl (cI, 8, .inl fS)), ((a 3), .inl (cJ, 8, .inr (.inl fL))), ((a 4), .inl (cI, 8, .inl fO)), ((a 5), .inr (0, [.ref (a 6), .ref (a 7), .int (nI c), .int t, .int (nI y)])), ((a 6), .inl (cI, 6, .inl fW)), ((a 7), .inl (cI, 6, .inl fD)), ((a 8), .inr (0, [.ref (a 9), .ref (a 10), .int c2, .int t2, .int y2])), ((a 9), .inl (cI, 6, .inl gW)), ((a 10), .inl (cI, 6, .inl gD)), (sm, .inr (2, [.int (nI y), .int fi, .int (nI st), .int t, .ref ma, .ref sa])), (ma, .inl (cR, k, .inr (.inr (.inr (.inr (fr ra)))))), (sa, .inl (cR, c, .inr (.inr (.inr (.inr (fr rs))))))] ++ (RT cI ra rs fB mM mP fW fD k c)) H)
    (kk : ∀ ls : Array Slot, lv_has ls 18 [(0, .ref bs), (1, .ref (a 0)), (2, .ref sm), (3, .int z3), (4, .int z4), (5, .int (nI k)), (6, .int (nI c)), (7, .int (nI n9)), (8, .int (nI jx))] → W p l e room_1 s m args below meth c9 H locs cells slots Q (F0 m 449 ls []))
    (ls : Array Slot) (hl : lv_has ls 18 [(0, .ref bs), (1, .ref (a 0)), (2, .ref sm), (3, .int z3), (4, .int z4), (5, .int (nI k)), (6, .int (nI c)), (7, .int (nI n9)), (8, .int (nI jx)), (9, .int 0)]) : W p l e room_1 s m args below meth c9 H locs cells slots Q (F0 m 129 ls []) := by
  obtain ⟨hx, hb, hml, hown, hts⟩ := C0
  have hK : va_K D vwCl [(cI, .int), (cJ, .long), (cR, .array .int)] s := hC.1
  obtain ⟨hLI, hB0, ht100, hW9⟩ := id hI
  have hM := hLI.1
  have hst2 := hLI.2.1
  have hc := hLI.2.2.2.1
  have ht0 := hLI.2.2.2.2.1
  have hD3 := hLI.2.2.2.2.2.1
  obtain ⟨La, pp, uu, bb, hL⟩ := hLI.2.2.2.2.2.2.2.1
  obtain ⟨g9, hg⟩ := hLI.2.2.2.2.2.2.2.2.1
  have hk8 : k ≤ 8 := hM.2.1
  have hk1 : 1 ≤ k := hM.1
  have ht9 : 0 ≤ t.toInt ∧ t.toInt ≤ 100 := ⟨ht0, ht100⟩
  have hlg := lgN_le fL (k - 1)
  have hsh := shN_le fL (k - 1)
  have h99 := p9 hk8
  obtain ⟨ej, hpj, hbj⟩ := hL.1 jx hjx
  have tj : (fL jx).toInt = (La jx : Int) := by rw [ej, pk_lT (by omega)]
  refine loopR (σ := Unit) (I := fun i u9 ls => lv_has ls 18 [(0, .ref bs), (1, .ref (a 0)), (2, .ref sm), (3, .int z3), (4, .int z4), (5, .int (nI k)), (6, .int (nI c)), (7, .int (nI n9)), (8, .int (nI jx)), (9, .int (nI i))]) k ?_ 0 () ls (by omega) (lv_sub hl [0, 1, 2, 3, 4, 5, 6, 7, 8, 9] rfl)
  intro i u9 ls hi hI9 k9
  have hl := hI9
  refine lv_iload hx hb dL_law_129 (lv_at hl 9 rfl) ?_
  refine lv_iload hx hb dL_law_131 (lv_at hl 5 rfl) ?_
  refine lv_icmp_ge (tgt := 449) hx hb dL_law_133 (by decide) (fun c_133 => ?_) (fun c_133 => ?_)
  · skip
    simp only [Int32.le_iff_toInt_le] at c_133
    rw [nI_toInt (n := i) (by omega)] at c_133
    rw [nI_toInt (n := k) (by omega)] at c_133
    exact kk ls (lv_sub hl [0, 1, 2, 3, 4, 5, 6, 7, 8] rfl)
  · skip
    simp only [Int32.le_iff_toInt_le] at c_133
    rw [nI_toInt (n := i) (by omega)] at c_133
    rw [nI_toInt (n := k) (by omega)] at c_133
    have hik : i < k := by omega
    obtain ⟨ei, hpi, hbi⟩ := hL.1 i hik
    have ti : (fL i).toInt = (La i : Int) := by rw [ei, pk_lT (by omega)]
    have hta := tN_r (hL.pos hk8 hik) (hL.pos hk8 hst2)
    have htb := tN_r (hL.pos hk8 hst2) (hL.pos hk8 hik)
    obtain ⟨T9, eT9⟩ : ∃ z, La jx * n9 / La i = z := ⟨_, rfl⟩
    have hT : T9 ≤ 956593800 := by rw [← eT9]; exact cv_r (v := La i) (show La jx ≤ 4782969 by omega) hn2
    obtain ⟨X9, eX9⟩ : ∃ z, La i * T9 / La jx = z := ⟨_, rfl⟩
    have hX9 : X9 ≤ n9 := by rw [← eX9, ← eT9]; exact cv_back hpj
    have hf0 : 0 < (La i / Nat.gcd (La i) (La jx)) := Nat.div_pos (Nat.gcd_le_left _ hpi) (Nat.gcd_pos_of_pos_left _ hpi)
    have hf1 : (La i / Nat.gcd (La i) (La jx)) ≤ La i := Nat.div_le_self _ _
    have hf2 := Nat.mod_lt n9 hf0
    refine lv_aload_n hx hb dL_law_136 rfl (lv_at hl 1 rfl) ?_
    refine lv_iload hx hb dL_law_137 (lv_at hl 9 rfl) ?_
    refine ro_lE (va_runV (As := [.int (nI i)]) (rest := []) ⟨hx, hb, hml, hown, hts⟩ (k_X1_lengthTop l D cI cJ cR a k st fi fB fS fO fL c t y fW fD c2 t2 y2 gW gD hM hst2 i (by omega)) (cwV 1 hts gL_law_X1_lengthTop rfl rfl rfl (by decide +kernel) ⟨Nat.le_of_ble_eq_true rfl, Nat.le_of_ble_eq_true rfl⟩) (preV_ro KC_ok (hP.sub (ws' := [((a 0), .inr (1, [.ref (a 1), .ref (a 2), .ref (a 3), .ref (a 4), .ref (a 5), .ref (a 8), .int (nI k), .int (nI st), .int fi])), ((a 1), .inl (cI, 8, .inl fB)), ((a 2), .inl (cI, 8, .inl fS)), ((a 3), .inl (cJ, 8, .inr (.inl fL))), ((a 4), .inl (cI, 8, .inl fO)), ((a 5), .inr (0, [.ref (a 6), .ref (a 7), .int (nI c), .int t, .int (nI y)])), ((a 6), .inl (cI, 6, .inl fW)), ((a 7), .inl (cI, 6, .inl fD)), ((a 8), .inr (0, [.ref (a 9), .ref (a 10), .int c2, .int t2, .int y2])), ((a 9), .inl (cI, 6, .inl gW)), ((a 10), .inl (cI, 6, .inl gD))]) [0, 1, 2, 3, 4, 5, 6, 7, 8, 9, 10] rfl) hC (va_recv hK hP (ci := 1) (q0 := 0) rfl rfl)) rfl rfl hl.1 rfl (lv_room (Nat.le_of_ble_eq_true rfl)) dL_law_139 ⟨show _ ≤ 791242 by omega, show _ ≤ 6727743 by omega⟩) ?_
    refine topL (y := (lN (tN (fL i) (fL st)))) rfl ?_
    refine lv_lstore (lv' := [(10, .long (lN (tN (fL i) (fL st)))), (0, .ref bs), (1, .ref (a 0)), (2, .ref sm), (3, .int z3), (4, .int z4), (5, .int (nI k)), (6, .int (nI c)), (7, .int (nI n9)), (8, .int (nI jx)), (9, .int (nI i))]) hx hb dL_law_142 hl (by decide) rfl (fun ls hl => ?_)
    refine lv_aload_n hx hb dL_law_144 rfl (lv_at hl 2 rfl) ?_
    refine lv_iload hx hb dL_law_145 (lv_at hl 10 rfl) ?_
    refine ro_lE (va_runV (As := [.int (nI i)]) (rest := []) ⟨hx, hb, hml, hown, hts⟩ (k_X1_lengthBottom l D cI cJ cR a k st fi fB fS fO fL c t y fW fD c2 t2 y2 gW gD hM hst2 i (by omega)) (cwV 1 hts gL_law_X1_lengthBottom rfl rfl rfl (by decide +kernel) ⟨Nat.le_of_ble_eq_true rfl, Nat.le_of_ble_eq_true rfl⟩) (preV_ro KC_ok (hP.sub (ws' := [((a 0), .inr (1, [.ref (a 1), .ref (a 2), .ref (a 3), .ref (a 4), .ref (a 5), .ref (a 8), .int (nI k), .int (nI st), .int fi])), ((a 1), .inl (cI, 8, .inl fB)), ((a 2), .inl (cI, 8, .inl fS)), ((a 3), .inl (cJ, 8, .inr (.inl fL))), ((a 4), .inl (cI, 8, .inl fO)), ((a 5), .inr (0, [.ref (a 6), .ref (a 7), .int (nI c), .int t, .int (nI y)])), ((a 6), .inl (cI, 6, .inl fW)), ((a 7), .inl (cI, 6, .inl fD)), ((a 8), .inr (0, [.ref (a 9), .ref (a 10), .int c2, .int t2, .int y2])), ((a 9), .inl (cI, 6, .inl gW)), ((a 10), .inl (cI, 6, .inl gD))]) [0, 1, 2, 3, 4, 5, 6, 7, 8, 9, 10] rfl) hC (va_recv hK hP (ci := 1) (q0 := 0) rfl rfl)) rfl rfl hl.1 rfl (lv_room (Nat.le_of_ble_eq_true rfl)) dL_law_147 ⟨show _ ≤ 791242 by omega, show _ ≤ 6727743 by omega⟩) ?_
    refine topL (y := (lN (tN (fL st) (fL i)))) rfl ?_
    refine lv_lstore (lv' := [(12, .long (lN (tN (fL st) (fL i)))), (10, .long (lN (tN (fL i) (fL st)))), (0, .ref bs), (1, .ref (a 0)), (2, .ref sm), (3, .int z3), (4, .int z4), (5, .int (nI k)), (6, .int (nI c)), (7, .int (nI n9)), (8, .int (nI jx)), (9, .int (nI i))]) hx hb dL_law_150 hl (by decide) rfl (fun ls hl => ?_)
    refine lv_aload_n hx hb dL_law_152 rfl (lv_at hl 3 rfl) ?_
    refine lv_iload hx hb dL_law_153 (lv_at hl 10 rfl) ?_
    refine lv_iload hx hb dL_law_155 (lv_at hl 11 rfl) ?_
    refine ro_iE (va_runV (As := [.int (nI jx), .int (nI i)]) (rest := []) ⟨hx, hb, hml, hown, hts⟩ (k_X1_isLonger l D cI cJ cR a k st fi fB fS fO fL c t y fW fD c2 t2 y2 gW gD hM hst2 jx (by omega) i (by omega)) (cwV 2 hts gL_law_X1_isLonger rfl rfl rfl (by decide +kernel) ⟨Nat.le_of_ble_eq_true rfl, Nat.le_of_ble_eq_true rfl⟩) (preV_ro KC_ok (hP.sub (ws' := [((a 0), .inr (1, [.ref (a 1), .ref (a 2), .ref (a 3), .ref (a 4), .ref (a 5), .ref (a 8), .int (nI k), .int (nI st), .int fi])), ((a 1), .inl (cI, 8, .inl fB)), ((a 2), .inl (cI, 8, .inl fS)), ((a 3), .inl (cJ, 8, .inr (.inl fL))), ((a 4), .inl (cI, 8, .inl fO)), ((a 5), .inr (0, [.ref (a 6), .ref (a 7), .int (nI c), .int t, .int (nI y)])), ((a 6), .inl (cI, 6, .inl fW)), ((a 7), .inl (cI, 6, .inl fD)), ((a 8), .inr (0, [.ref (a 9), .ref (a 10), .int c2, .int t2, .int y2])), ((a 9), .inl (cI, 6, .inl gW)), ((a 10), .inl (cI, 6, .inl gD))]) [0, 1, 2, 3, 4, 5, 6, 7, 8, 9, 10] rfl) hC (va_recv hK hP (ci := 1) (q0 := 0) rfl rfl)) rfl rfl hl.1 rfl (lv_room (Nat.le_of_ble_eq_true rfl)) dL_law_157 ⟨show _ ≤ 791242 by omega, show _ ≤ 6727743 by omega⟩) ?_
    refine lv_istore (lv' := [(14, .int (bz ((fL i).toInt < (fL jx).toInt))), (12, .long (lN (tN (fL st) (fL i)))), (10, .long (lN (tN (fL i) (fL st)))), (0, .ref bs), (1, .ref (a 0)), (2, .ref sm), (3, .int z3), (4, .int z4), (5, .int (nI k)), (6, .int (nI c)), (7, .int (nI n9)), (8, .int (nI jx)), (9, .int (nI i))]) hx hb dL_law_160 hl (by decide) rfl (fun ls hl => ?_)
    refine lv_aload_n hx hb dL_law_162 rfl (lv_at hl 4 rfl) ?_
    refine lv_iload hx hb dL_law_163 (lv_at hl 12 rfl) ?_
    refine lv_iload hx hb dL_law_165 (lv_at hl 11 rfl) ?_
    refine ro_iE (va_runV (As := [.int (nI i), .int (nI jx)]) (rest := []) ⟨hx, hb, hml, hown, hts⟩ (k_X1_isLonger l D cI cJ cR a k st fi fB fS fO fL c t y fW fD c2 t2 y2 gW gD hM hst2 i (by omega) jx (by omega)) (cwV 2 hts gL_law_X1_isLonger rfl rfl rfl (by decide +kernel) ⟨Nat.le_of_ble_eq_true rfl, Nat.le_of_ble_eq_true rfl⟩) (preV_ro KC_ok (hP.sub (ws' := [((a 0), .inr (1, [.ref (a 1), .ref (a 2), .ref (a 3), .ref (a 4), .ref (a 5), .ref (a 8), .int (nI k), .int (nI st), .int fi])), ((a 1), .inl (cI, 8, .inl fB)), ((a 2), .inl (cI, 8, .inl fS)), ((a 3), .inl (cJ, 8, .inr (.inl fL))), ((a 4), .inl (cI, 8, .inl fO)), ((a 5), .inr (0, [.ref (a 6), .ref (a 7), .int (nI c), .int t, .int (nI y)])), ((a 6), .inl (cI, 6, .inl fW)), ((a 7), .inl (cI, 6, .inl fD)), ((a 8), .inr (0, [.ref (a 9), .ref (a 10), .int c2, .int t2, .int y2])), ((a 9), .inl (cI, 6, .inl gW)), ((a 10), .inl (cI, 6, .inl gD))]) [0, 1, 2, 3, 4, 5, 6, 7, 8, 9, 10] rfl) hC (va_recv hK hP (ci := 1) (q0 := 0) rfl rfl)) rfl rfl hl.1 rfl (lv_room (Nat.le_of_ble_eq_true rfl)) dL_law_167 ⟨show _ ≤ 791242 by omega, show _ ≤ 6727743 by omega⟩) ?_
    refine lv_istore (lv' := [(15, .int (bz ((fL jx).toInt < (fL i).toInt))), (14, .int (bz ((fL i).toInt < (fL jx).toInt))), (12, .long (lN (tN (fL st) (fL i)))), (10, .long (lN (tN (fL i) (fL st)))), (0, .ref bs), (1, .ref (a 0)), (2, .ref sm), (3, .int z3), (4, .int z4), (5, .int (nI k)), (6, .int (nI c)), (7, .int (nI n9)), (8, .int (nI jx)), (9, .int (nI i))]) hx hb dL_law_170 hl (by decide) rfl (fun ls hl => ?_)
    refine lv_lload hx hb dL_law_172 (lv_at hl 3 rfl) ?_
    refine lv_lconst (v := 1) hx hb dL_law_174 (by decide) ?_
    refine W.lcmp hx hb dL_law_175 ?_
    refine lv_if_lt (tgt := 302) hx hb dL_law_176 (by decide) (fun c_176 => by exfalso; have c_176 := (lgc_lt _ _).mp c_176; rw [pk_lT (by omega), show (1 : Int64).toInt = 1 from rfl] at c_176; omega) (fun c_176 => ?_)
    have c_176 := (not_congr (lgc_lt _ _)).mp c_176
    refine lv_lload hx hb dL_law_179 (lv_at hl 2 rfl) ?_
    refine lv_lconst (v := 1) hx hb dL_law_181 (by decide) ?_
    refine W.lcmp hx hb dL_law_182 ?_
    refine lv_if_lt (tgt := 302) hx hb dL_law_183 (by decide) (fun c_183 => by exfalso; have c_183 := (lgc_lt _ _).mp c_183; rw [pk_lT (by omega), show (1 : Int64).toInt = 1 from rfl] at c_183; omega) (fun c_183 => ?_)
    have c_183 := (not_congr (lgc_lt _ _)).mp c_183
    refine lv_lload hx hb dL_law_186 (lv_at hl 3 rfl) ?_
    refine lv_lload hx hb dL_law_188 (lv_at hl 2 rfl) ?_
    refine ro_lE (va_runS (As := [.long (lN (tN (fL i) (fL st))), .long (lN (tN (fL st) (fL i)))]) (rest := []) ⟨hx, hb, hml, hown, hts⟩ (c_X2_divisor l 92 (tN (fL i) (fL st)) (tN (fL st) (fL i)) (Dv_all (by omega) (by omega)) (by omega) (by omega)) (va_cwS 2 hts gL_law_X2_divisor rfl rfl rfl (by decide +kernel) ⟨Nat.le_of_ble_eq_true rfl, Nat.le_of_ble_eq_true rfl⟩) pre0 rfl rfl hl.1 rfl (lv_room (Nat.le_of_ble_eq_true rfl)) dL_law_190 ⟨show _ ≤ 791242 by omega, show _ ≤ 6727743 by omega⟩) ?_
    refine topL (y := 1) (by rw [hta.2.2]; rfl) ?_
    refine lv_lconst (v := 1) hx hb dL_law_193 (by decide) ?_
    refine W.lcmp hx hb dL_law_194 ?_
    refine lv_if_ne (tgt := 302) hx hb dL_law_195 (by decide) (fun c_195 => by exact absurd rfl ((lgc_ne _ _).mp c_195)) (fun c_195 => ?_)
    refine jnW (pc1 := 208) (st1 := []) (fun ls => lv_has ls 18 [(0, .ref bs), (1, .ref (a 0)), (2, .ref sm), (3, .int z3), (4, .int z4), (5, .int (nI k)), (6, .int (nI c)), (7, .int (nI n9)), (8, .int (nI jx)), (9, .int (nI i)), (14, .int (bz ((fL i).toInt < (fL jx).toInt))), (15, .int (bz ((fL jx).toInt < (fL i).toInt)))]) ?_ ?_
    · skip
      intro ls hl
      refine lv_aload_n hx hb dL_law_208 rfl (lv_at hl 1 rfl) ?_
      refine lv_iload hx hb dL_law_209 (lv_at hl 9 rfl) ?_
      refine lv_aload_n hx hb dL_law_211 rfl (lv_at hl 1 rfl) ?_
      refine ro_iE (va_runV (As := []) (rest := [.int (nI i), .ref (a 0)]) ⟨hx, hb, hml, hown, hts⟩ (c_X1_longest l D cI cJ cR a k st fi fB fS fO fL c t y fW fD c2 t2 y2 gW gD) (cwV 0 hts gL_law_X1_longest rfl rfl rfl (by decide +kernel) ⟨Nat.le_of_ble_eq_true rfl, Nat.le_of_ble_eq_true rfl⟩) (preV_ro KC_ok (hP.sub (ws' := [((a 0), .inr (1, [.ref (a 1), .ref (a 2), .ref (a 3), .ref (a 4), .ref (a 5), .ref (a 8), .int (nI k), .int (nI st), .int fi])), ((a 1), .inl (cI, 8, .inl fB)), ((a 2), .inl (cI, 8, .inl fS)), ((a 3), .inl (cJ, 8, .inr (.inl fL))), ((a 4), .inl (cI, 8, .inl fO)), ((a 5), .inr (0, [.ref (a 6), .ref (a 7), .int (nI c), .int t, .int (nI y)])), ((a 6), .inl (cI, 6, .inl fW)), ((a 7), .inl (cI, 6, .inl fD)), ((a 8), .inr (0, [.ref (a 9), .ref (a 10), .int c2, .int t2, .int y2])), ((a 9), .inl (cI, 6, .inl gW)), ((a 10), .inl (cI, 6, .inl gD))]) [0, 1, 2, 3, 4, 5, 6, 7, 8, 9, 10] rfl) hC (va_recv hK hP (ci := 1) (q0 := 0) rfl rfl)) rfl rfl hl.1 rfl (lv_room (Nat.le_of_ble_eq_true rfl)) dL_law_212 ⟨show _ ≤ 791242 by omega, show _ ≤ 6727743 by omega⟩) ?_
      refine topI (y := (nI (lgN fL (k - 1)))) hLI.first ?_
      refine ro_iE (va_runV (As := [.int (nI i), .int (nI (lgN fL (k - 1)))]) (rest := []) ⟨hx, hb, hml, hown, hts⟩ (k_X1_isLonger l D cI cJ cR a k st fi fB fS fO fL c t y fW fD c2 t2 y2 gW gD hM hst2 i (by omega) (lgN fL (k - 1)) (by omega)) (cwV 2 hts gL_law_X1_isLonger rfl rfl rfl (by decide +kernel) ⟨Nat.le_of_ble_eq_true rfl, Nat.le_of_ble_eq_true rfl⟩) (preV_ro KC_ok (hP.sub (ws' := [((a 0), .inr (1, [.ref (a 1), .ref (a 2), .ref (a 3), .ref (a 4), .ref (a 5), .ref (a 8), .int (nI k), .int (nI st), .int fi])), ((a 1), .inl (cI, 8, .inl fB)), ((a 2), .inl (cI, 8, .inl fS)), ((a 3), .inl (cJ, 8, .inr (.inl fL))), ((a 4), .inl (cI, 8, .inl fO)), ((a 5), .inr (0, [.ref (a 6), .ref (a 7), .int (nI c), .int t, .int (nI y)])), ((a 6), .inl (cI, 6, .inl fW)), ((a 7), .inl (cI, 6, .inl fD)), ((a 8), .inr (0, [.ref (a 9), .ref (a 10), .int c2, .int t2, .int y2])), ((a 9), .inl (cI, 6, .inl gW)), ((a 10), .inl (cI, 6, .inl gD))]) [0, 1, 2, 3, 4, 5, 6, 7, 8, 9, 10] rfl) hC (va_recv hK hP (ci := 1) (q0 := 0) rfl rfl)) rfl rfl hl.1 rfl (lv_room (Nat.le_of_ble_eq_true rfl)) dL_law_215 ⟨show _ ≤ 791242 by omega, show _ ≤ 6727743 by omega⟩) ?_
      refine lv_if_ne (tgt := 302) hx hb dL_law_218 (by decide) (fun c_218 => by exfalso; have c_218 := bz_1 c_218; have h9 := lgN_max fL (k - 1) i (by omega); omega) (fun c_218 => ?_)
      have c_218 := bz_0 c_218
      refine lv_aload_n hx hb dL_law_221 rfl (lv_at hl 1 rfl) ?_
      refine lv_aload_n hx hb dL_law_222 rfl (lv_at hl 1 rfl) ?_
      refine ro_iE (va_runV (As := []) (rest := [.ref (a 0)]) ⟨hx, hb, hml, hown, hts⟩ (c_X1_shortest l D cI cJ cR a k st fi fB fS fO fL c t y fW fD c2 t2 y2 gW gD hM) (cwV 0 hts gL_law_X1_shortest rfl rfl rfl (by decide +kernel) ⟨Nat.le_of_ble_eq_true rfl, Nat.le_of_ble_eq_true rfl⟩) (preV_ro KC_ok (hP.sub (ws' := [((a 0), .inr (1, [.ref (a 1), .ref (a 2), .ref (a 3), .ref (a 4), .ref (a 5), .ref (a 8), .int (nI k), .int (nI st), .int fi])), ((a 1), .inl (cI, 8, .inl fB)), ((a 2), .inl (cI, 8, .inl fS)), ((a 3), .inl (cJ, 8, .inr (.inl fL))), ((a 4), .inl (cI, 8, .inl fO)), ((a 5), .inr (0, [.ref (a 6), .ref (a 7), .int (nI c), .int t, .int (nI y)])), ((a 6), .inl (cI, 6, .inl fW)), ((a 7), .inl (cI, 6, .inl fD)), ((a 8), .inr (0, [.ref (a 9), .ref (a 10), .int c2, .int t2, .int y2])), ((a 9), .inl (cI, 6, .inl gW)), ((a 10), .inl (cI, 6, .inl gD))]) [0, 1, 2, 3, 4, 5, 6, 7, 8, 9, 10] rfl) hC (va_recv hK hP (ci := 1) (q0 := 0) rfl rfl)) rfl rfl hl.1 rfl (lv_room (Nat.le_of_ble_eq_true rfl)) dL_law_223 ⟨show _ ≤ 791242 by omega, show _ ≤ 6727743 by omega⟩) ?_
      refine lv_iload hx hb dL_law_226 (lv_at hl 9 rfl) ?_
      refine ro_iE (va_runV (As := [.int (nI (shN fL (k - 1))), .int (nI i)]) (rest := []) ⟨hx, hb, hml, hown, hts⟩ (k_X1_isLonger l D cI cJ cR a k st fi fB fS fO fL c t y fW fD c2 t2 y2 gW gD hM hst2 (shN fL (k - 1)) (by omega) i (by omega)) (cwV 2 hts gL_law_X1_isLonger rfl rfl rfl (by decide +kernel) ⟨Nat.le_of_ble_eq_true rfl, Nat.le_of_ble_eq_true rfl⟩) (preV_ro KC_ok (hP.sub (ws' := [((a 0), .inr (1, [.ref (a 1), .ref (a 2), .ref (a 3), .ref (a 4), .ref (a 5), .ref (a 8), .int (nI k), .int (nI st), .int fi])), ((a 1), .inl (cI, 8, .inl fB)), ((a 2), .inl (cI, 8, .inl fS)), ((a 3), .inl (cJ, 8, .inr (.inl fL))), ((a 4), .inl (cI, 8, .inl fO)), ((a 5), .inr (0, [.ref (a 6), .ref (a 7), .int (nI c), .int t, .int (nI y)])), ((a 6), .inl (cI, 6, .inl fW)), ((a 7), .inl (cI, 6, .inl fD)), ((a 8), .inr (0, [.ref (a 9), .ref (a 10), .int c2, .int t2, .int y2])), ((a 9), .inl (cI, 6, .inl gW)), ((a 10), .inl (cI, 6, .inl gD))]) [0, 1, 2, 3, 4, 5, 6, 7, 8, 9, 10] rfl) hC (va_recv hK hP (ci := 1) (q0 := 0) rfl rfl)) rfl rfl hl.1 rfl (lv_room (Nat.le_of_ble_eq_true rfl)) dL_law_228 ⟨show _ ≤ 791242 by omega, show _ ≤ 6727743 by omega⟩) ?_
      refine lv_if_ne (tgt := 302) hx hb dL_law_231 (by decide) (fun c_231 => by exfalso; have c_231 := bz_1 c_231; have h9 := shN_min fL (k - 1) i (by omega); omega) (fun c_231 => ?_)
      have c_231 := bz_0 c_231
      refine jnW (pc1 := 304) (st1 := []) (fun ls => lv_has ls 18 [(0, .ref bs), (1, .ref (a 0)), (2, .ref sm), (3, .int z3), (4, .int z4), (5, .int (nI k)), (6, .int (nI c)), (7, .int (nI n9)), (8, .int (nI jx)), (9, .int (nI i)), (14, .int (bz ((fL i).toInt < (fL jx).toInt))), (15, .int (bz ((fL jx).toInt < (fL i).toInt)))]) ?_ ?_
      · skip
        intro ls hl
        refine lv_aload_n hx hb dL_law_304 rfl (lv_at hl 1 rfl) ?_
        refine lv_iload hx hb dL_law_305 (lv_at hl 7 rfl) ?_
        refine lv_iload hx hb dL_law_307 (lv_at hl 8 rfl) ?_
        refine lv_iload hx hb dL_law_309 (lv_at hl 9 rfl) ?_
        refine ro_lE (va_runV (As := [.int (nI n9), .int (nI jx), .int (nI i)]) (rest := []) ⟨hx, hb, hml, hown, hts⟩ (k_X1_convert l D cI cJ cR a k st fi fB fS fO fL c t y fW fD c2 t2 y2 gW gD hM hst2 (nI n9) (inR_of (by omega) (by omega) (by omega)) jx (by omega) i (by omega)) (cwV 3 hts gL_law_X1_convert rfl rfl rfl (by decide +kernel) ⟨Nat.le_of_ble_eq_true rfl, Nat.le_of_ble_eq_true rfl⟩) (preV_ro KC_ok (hP.sub (ws' := [((a 0), .inr (1, [.ref (a 1), .ref (a 2), .ref (a 3), .ref (a 4), .ref (a 5), .ref (a 8), .int (nI k), .int (nI st), .int fi])), ((a 1), .inl (cI, 8, .inl fB)), ((a 2), .inl (cI, 8, .inl fS)), ((a 3), .inl (cJ, 8, .inr (.inl fL))), ((a 4), .inl (cI, 8, .inl fO)), ((a 5), .inr (0, [.ref (a 6), .ref (a 7), .int (nI c), .int t, .int (nI y)])), ((a 6), .inl (cI, 6, .inl fW)), ((a 7), .inl (cI, 6, .inl fD)), ((a 8), .inr (0, [.ref (a 9), .ref (a 10), .int c2, .int t2, .int y2])), ((a 9), .inl (cI, 6, .inl gW)), ((a 10), .inl (cI, 6, .inl gD))]) [0, 1, 2, 3, 4, 5, 6, 7, 8, 9, 10] rfl) hC (va_recv hK hP (ci := 1) (q0 := 0) rfl rfl)) rfl rfl hl.1 rfl (lv_room (Nat.le_of_ble_eq_true rfl)) dL_law_311 ⟨show _ ≤ 791242 by omega, show _ ≤ 6727743 by omega⟩) ?_
        refine topL (y := (lN T9)) (by rw [ej, ei, ← eT9]; exact cv_lN (by omega) hpi (by omega) hn2) ?_
        refine lv_lstore (lv' := [(16, .long (lN T9)), (0, .ref bs), (1, .ref (a 0)), (2, .ref sm), (3, .int z3), (4, .int z4), (5, .int (nI k)), (6, .int (nI c)), (7, .int (nI n9)), (8, .int (nI jx)), (9, .int (nI i)), (14, .int (bz ((fL i).toInt < (fL jx).toInt))), (15, .int (bz ((fL jx).toInt < (fL i).toInt)))]) hx hb dL_law_314 hl (by decide) rfl (fun ls hl => ?_)
        refine lv_lload hx hb dL_law_316 (lv_at hl 0 rfl) ?_
        refine lv_lconst (v := 0) hx hb dL_law_318 (by decide) ?_
        refine W.lcmp hx hb dL_law_319 ?_
        refine lv_if_lt (tgt := 405) hx hb dL_law_320 (by decide) (fun c_320 => by exfalso; have c_320 := (lgc_lt _ _).mp c_320; rw [pk_lT (by omega), show (0 : Int64).toInt = 0 from rfl] at c_320; omega) (fun c_320 => ?_)
        have c_320 := (not_congr (lgc_lt _ _)).mp c_320
        refine jnW (pc1 := 337) (st1 := []) (fun ls => lv_has ls 18 [(0, .ref bs), (1, .ref (a 0)), (2, .ref sm), (3, .int z3), (4, .int z4), (5, .int (nI k)), (6, .int (nI c)), (7, .int (nI n9)), (8, .int (nI jx)), (9, .int (nI i)), (14, .int (bz ((fL i).toInt < (fL jx).toInt))), (15, .int (bz ((fL jx).toInt < (fL i).toInt))), (16, .long (lN T9))]) ?_ ?_
        · skip
          intro ls hl
          refine jnW (pc1 := 351) (st1 := []) (fun ls => lv_has ls 18 [(0, .ref bs), (1, .ref (a 0)), (2, .ref sm), (3, .int z3), (4, .int z4), (5, .int (nI k)), (6, .int (nI c)), (7, .int (nI n9)), (8, .int (nI jx)), (9, .int (nI i)), (14, .int (bz ((fL i).toInt < (fL jx).toInt))), (15, .int (bz ((fL jx).toInt < (fL i).toInt))), (16, .long (lN T9))]) ?_ ?_
          · skip
            intro ls hl
            refine jnW (pc1 := 370) (st1 := []) (fun ls => lv_has ls 18 [(0, .ref bs), (1, .ref (a 0)), (2, .ref sm), (3, .int z3), (4, .int z4), (5, .int (nI k)), (6, .int (nI c)), (7, .int (nI n9)), (8, .int (nI jx)), (9, .int (nI i)), (16, .long (lN T9))]) ?_ ?_
            · skip
              intro ls hl
              refine jnW (pc1 := 407) (st1 := []) (fun ls => lv_has ls 18 [(0, .ref bs), (1, .ref (a 0)), (2, .ref sm), (3, .int z3), (4, .int z4), (5, .int (nI k)), (6, .int (nI c)), (7, .int (nI n9)), (8, .int (nI jx)), (9, .int (nI i)), (16, .long (lN T9))]) ?_ ?_
              · skip
                intro ls hl
                refine lv_lload hx hb dL_law_407 (lv_at hl 10 rfl) ?_
                refine lv_lconst (v := 1) hx hb dL_law_409 (by decide) ?_
                refine W.lcmp hx hb dL_law_410 ?_
                refine lv_if_lt (tgt := 443) hx hb dL_law_411 (by decide) (fun c_411 => ?_) (fun c_411 => ?_)
                · skip
                  have c_411 := (lgc_lt _ _).mp c_411
                  refine lv_iinc (v := (nI (i + 1))) (lv' := [(9, .int (nI (i + 1))), (0, .ref bs), (1, .ref (a 0)), (2, .ref sm), (3, .int z3), (4, .int z4), (5, .int (nI k)), (6, .int (nI c)), (7, .int (nI n9)), (8, .int (nI jx)), (16, .long (lN T9))]) hx hb dL_law_443 hl (k := 9) rfl (nI_inc i) (by decide) rfl (fun ls hl => ?_)
                  refine lv_goto (tgt := 129) hx hb dL_law_446 (by decide) ?_
                  exact k9 () ls (by omega) (lv_sub hl [1, 2, 3, 4, 5, 6, 7, 8, 9, 0] rfl)
                · skip
                  have c_411 := (not_congr (lgc_lt _ _)).mp c_411
                  refine lv_lload hx hb dL_law_414 (lv_at hl 10 rfl) ?_
                  refine lv_ldc2 (v := 200) hx hb hown (hts (.constantLong RL 123 200) (by decide +kernel)) dL_law_416 ?_
                  refine W.lcmp hx hb dL_law_419 ?_
                  refine lv_if_gt (tgt := 443) hx hb dL_law_420 (by decide) (fun c_420 => ?_) (fun c_420 => ?_)
                  · skip
                    have c_420 := (lgc_gt _ _).mp c_420
                    refine lv_iinc (v := (nI (i + 1))) (lv' := [(9, .int (nI (i + 1))), (0, .ref bs), (1, .ref (a 0)), (2, .ref sm), (3, .int z3), (4, .int z4), (5, .int (nI k)), (6, .int (nI c)), (7, .int (nI n9)), (8, .int (nI jx)), (16, .long (lN T9))]) hx hb dL_law_443 hl (k := 9) rfl (nI_inc i) (by decide) rfl (fun ls hl => ?_)
                    refine lv_goto (tgt := 129) hx hb dL_law_446 (by decide) ?_
                    exact k9 () ls (by omega) (lv_sub hl [1, 2, 3, 4, 5, 6, 7, 8, 9, 0] rfl)
                  · skip
                    have c_420 := (not_congr (lgc_gt _ _)).mp c_420
                    have hT1 : 1 ≤ T9 ∧ T9 ≤ 200 := by
                      rw [pk_lT (by omega), show (1 : Int64).toInt = 1 from rfl] at c_411
                      rw [pk_lT (by omega), show (200 : Int64).toInt = 200 from rfl] at c_420
                      omega
                    refine lv_aload_n hx hb dL_law_423 rfl (lv_at hl 1 rfl) ?_
                    refine lv_lload hx hb dL_law_424 (lv_at hl 10 rfl) ?_
                    refine lv_l2i (v := (nI T9)) hx hb dL_law_426 (lN_i _) ?_
                    refine lv_iload hx hb dL_law_427 (lv_at hl 9 rfl) ?_
                    refine lv_iload hx hb dL_law_429 (lv_at hl 8 rfl) ?_
                    refine ro_lE (va_runV (As := [.int (nI T9), .int (nI i), .int (nI jx)]) (rest := []) ⟨hx, hb, hml, hown, hts⟩ (k_X1_convert l D cI cJ cR a k st fi fB fS fO fL c t y fW fD c2 t2 y2 gW gD hM hst2 (nI T9) (inR_of (by omega) (by omega) (by omega)) i (by omega) jx (by omega)) (cwV 3 hts gL_law_X1_convert rfl rfl rfl (by decide +kernel) ⟨Nat.le_of_ble_eq_true rfl, Nat.le_of_ble_eq_true rfl⟩) (preV_ro KC_ok (hP.sub (ws' := [((a 0), .inr (1, [.ref (a 1), .ref (a 2), .ref (a 3), .ref (a 4), .ref (a 5), .ref (a 8), .int (nI k), .int (nI st), .int fi])), ((a 1), .inl (cI, 8, .inl fB)), ((a 2), .inl (cI, 8, .inl fS)), ((a 3), .inl (cJ, 8, .inr (.inl fL))), ((a 4), .inl (cI, 8, .inl fO)), ((a 5), .inr (0, [.ref (a 6), .ref (a 7), .int (nI c), .int t, .int (nI y)])), ((a 6), .inl (cI, 6, .inl fW)), ((a 7), .inl (cI, 6, .inl fD)), ((a 8), .inr (0, [.ref (a 9), .ref (a 10), .int c2, .int t2, .int y2])), ((a 9), .inl (cI, 6, .inl gW)), ((a 10), .inl (cI, 6, .inl gD))]) [0, 1, 2, 3, 4, 5, 6, 7, 8, 9, 10] rfl) hC (va_recv hK hP (ci := 1) (q0 := 0) rfl rfl)) rfl rfl hl.1 rfl (lv_room (Nat.le_of_ble_eq_true rfl)) dL_law_431 ⟨show _ ≤ 791242 by omega, show _ ≤ 6727743 by omega⟩) ?_
                    refine topL (y := (lN X9)) (by rw [ei, ej, ← eX9]; exact cv_lN (by omega) hpj (by omega) (by omega)) ?_
                    refine lv_iload hx hb dL_law_434 (lv_at hl 7 rfl) ?_
                    refine lv_i2l (v := ((nI n9)).toInt64) hx hb dL_law_436 rfl ?_
                    refine topL (y := (lN n9)) (nI_l (by omega)) ?_
                    refine W.lcmp hx hb dL_law_437 ?_
                    refine lv_if_le (tgt := 443) hx hb dL_law_438 (by decide) (fun c_438 => ?_) (fun c_438 => by exfalso; have c_438 := (not_congr (lgc_le _ _)).mp c_438; apply c_438; rw [pk_lT (by omega), pk_lT (by omega)]; omega)
                    have c_438 := (lgc_le _ _).mp c_438
                    refine lv_iinc (v := (nI (i + 1))) (lv' := [(9, .int (nI (i + 1))), (0, .ref bs), (1, .ref (a 0)), (2, .ref sm), (3, .int z3), (4, .int z4), (5, .int (nI k)), (6, .int (nI c)), (7, .int (nI n9)), (8, .int (nI jx)), (16, .long (lN T9))]) hx hb dL_law_443 hl (k := 9) rfl (nI_inc i) (by decide) rfl (fun ls hl => ?_)
                    refine lv_goto (tgt := 129) hx hb dL_law_446 (by decide) ?_
                    exact k9 () ls (by omega) (lv_sub hl [1, 2, 3, 4, 5, 6, 7, 8, 9, 0] rfl)
              · skip
                intro k407
                refine lv_aload_n hx hb dL_law_370 rfl (lv_at hl 1 rfl) ?_
                refine lv_iload hx hb dL_law_371 (lv_at hl 7 rfl) ?_
                refine lv_iload hx hb dL_law_373 (lv_at hl 8 rfl) ?_
                refine lv_iload hx hb dL_law_375 (lv_at hl 9 rfl) ?_
                refine ro_iE (va_runV (As := [.int (nI n9), .int (nI jx), .int (nI i)]) (rest := []) ⟨hx, hb, hml, hown, hts⟩ (k_X1_isExact l D cI cJ cR a k st fi fB fS fO fL c t y fW fD c2 t2 y2 gW gD hM hst2 (nI n9) (inR_of (by omega) (by omega) (by omega)) jx (by omega) i (by omega)) (cwV 3 hts gL_law_X1_isExact rfl rfl rfl (by decide +kernel) ⟨Nat.le_of_ble_eq_true rfl, Nat.le_of_ble_eq_true rfl⟩) (preV_ro KC_ok (hP.sub (ws' := [((a 0), .inr (1, [.ref (a 1), .ref (a 2), .ref (a 3), .ref (a 4), .ref (a 5), .ref (a 8), .int (nI k), .int (nI st), .int fi])), ((a 1), .inl (cI, 8, .inl fB)), ((a 2), .inl (cI, 8, .inl fS)), ((a 3), .inl (cJ, 8, .inr (.inl fL))), ((a 4), .inl (cI, 8, .inl fO)), ((a 5), .inr (0, [.ref (a 6), .ref (a 7), .int (nI c), .int t, .int (nI y)])), ((a 6), .inl (cI, 6, .inl fW)), ((a 7), .inl (cI, 6, .inl fD)), ((a 8), .inr (0, [.ref (a 9), .ref (a 10), .int c2, .int t2, .int y2])), ((a 9), .inl (cI, 6, .inl gW)), ((a 10), .inl (cI, 6, .inl gD))]) [0, 1, 2, 3, 4, 5, 6, 7, 8, 9, 10] rfl) hC (va_recv hK hP (ci := 1) (q0 := 0) rfl rfl)) rfl rfl hl.1 rfl (lv_room (Nat.le_of_ble_eq_true rfl)) dL_law_377 ⟨show _ ≤ 791242 by omega, show _ ≤ 6727743 by omega⟩) ?_
                have hex := ex_lN (u := La jx) (v := La i) (n := n9) (by omega) hpi (by omega) hn2
                rw [← ej, ← ei] at hex
                by_cases hE : (jrem (fL jx * (nI n9).toInt64) (fL i)).toInt = (0 : Int64).toInt
                · skip
                  have hmod := hex.mp hE
                  refine topI (y := 1) (bz_t hE) ?_
                  refine lv_iload hx hb dL_law_380 (lv_at hl 7 rfl) ?_
                  refine lv_i2l (v := ((nI n9)).toInt64) hx hb dL_law_382 rfl ?_
                  refine topL (y := (lN n9)) (nI_l (by omega)) ?_
                  refine lv_aload_n hx hb dL_law_383 rfl (lv_at hl 1 rfl) ?_
                  refine lv_iload hx hb dL_law_384 (lv_at hl 8 rfl) ?_
                  refine lv_iload hx hb dL_law_386 (lv_at hl 9 rfl) ?_
                  refine ro_lE (va_runV (As := [.int (nI jx), .int (nI i)]) (rest := [.long (lN n9), .int 1]) ⟨hx, hb, hml, hown, hts⟩ (k_X1_fewestToMeet l D cI cJ cR a k st fi fB fS fO fL c t y fW fD c2 t2 y2 gW gD hM hst2 jx (by omega) i (by omega)) (cwV 2 hts gL_law_X1_fewestToMeet rfl rfl rfl (by decide +kernel) ⟨Nat.le_of_ble_eq_true rfl, Nat.le_of_ble_eq_true rfl⟩) (preV_ro KC_ok (hP.sub (ws' := [((a 0), .inr (1, [.ref (a 1), .ref (a 2), .ref (a 3), .ref (a 4), .ref (a 5), .ref (a 8), .int (nI k), .int (nI st), .int fi])), ((a 1), .inl (cI, 8, .inl fB)), ((a 2), .inl (cI, 8, .inl fS)), ((a 3), .inl (cJ, 8, .inr (.inl fL))), ((a 4), .inl (cI, 8, .inl fO)), ((a 5), .inr (0, [.ref (a 6), .ref (a 7), .int (nI c), .int t, .int (nI y)])), ((a 6), .inl (cI, 6, .inl fW)), ((a 7), .inl (cI, 6, .inl fD)), ((a 8), .inr (0, [.ref (a 9), .ref (a 10), .int c2, .int t2, .int y2])), ((a 9), .inl (cI, 6, .inl gW)), ((a 10), .inl (cI, 6, .inl gD))]) [0, 1, 2, 3, 4, 5, 6, 7, 8, 9, 10] rfl) hC (va_recv hK hP (ci := 1) (q0 := 0) rfl rfl)) rfl rfl hl.1 rfl (lv_room (Nat.le_of_ble_eq_true rfl)) dL_law_388 ⟨show _ ≤ 791242 by omega, show _ ≤ 6727743 by omega⟩) ?_
                  refine topL (y := (lN (La i / Nat.gcd (La i) (La jx)))) (by rw [ei, ej, tp_lN (by omega) (by omega)]) ?_
                  refine lv_lrem hx hb dL_law_391 (lN_ne0 hf0 (by omega)) ?_
                  refine topL (y := (lN (n9 % (La i / Nat.gcd (La i) (La jx))))) (pk_lRem (by omega) hf0 (by omega)) ?_
                  refine lv_lconst (v := 0) hx hb dL_law_392 (by decide) ?_
                  refine W.lcmp hx hb dL_law_393 ?_
                  refine lv_if_ne (tgt := 401) hx hb dL_law_394 (by decide) (fun c_394 => by exfalso; have c_394 := (lgc_ne _ _).mp c_394; apply c_394; rw [hmod]; rfl) (fun c_394 => ?_)
                  have c_394 := (lgc_eq _ _).mp c_394
                  refine lv_iconst (v := 1) hx hb dL_law_397 (by decide) ?_
                  refine lv_goto (tgt := 402) hx hb dL_law_398 (by decide) ?_
                  refine lv_icmp_eq (tgt := 407) hx hb dL_law_402 (by decide) (fun c_402 => ?_) (fun c_402 => by exact absurd rfl c_402)
                  exact k407 ls (lv_sub hl [0, 1, 2, 3, 4, 5, 6, 7, 8, 9, 10] rfl)
                · skip
                  have hmod := fun h9 => hE (hex.mpr h9)
                  refine topI (y := 0) (bz_f hE) ?_
                  refine lv_iload hx hb dL_law_380 (lv_at hl 7 rfl) ?_
                  refine lv_i2l (v := ((nI n9)).toInt64) hx hb dL_law_382 rfl ?_
                  refine topL (y := (lN n9)) (nI_l (by omega)) ?_
                  refine lv_aload_n hx hb dL_law_383 rfl (lv_at hl 1 rfl) ?_
                  refine lv_iload hx hb dL_law_384 (lv_at hl 8 rfl) ?_
                  refine lv_iload hx hb dL_law_386 (lv_at hl 9 rfl) ?_
                  refine ro_lE (va_runV (As := [.int (nI jx), .int (nI i)]) (rest := [.long (lN n9), .int 0]) ⟨hx, hb, hml, hown, hts⟩ (k_X1_fewestToMeet l D cI cJ cR a k st fi fB fS fO fL c t y fW fD c2 t2 y2 gW gD hM hst2 jx (by omega) i (by omega)) (cwV 2 hts gL_law_X1_fewestToMeet rfl rfl rfl (by decide +kernel) ⟨Nat.le_of_ble_eq_true rfl, Nat.le_of_ble_eq_true rfl⟩) (preV_ro KC_ok (hP.sub (ws' := [((a 0), .inr (1, [.ref (a 1), .ref (a 2), .ref (a 3), .ref (a 4), .ref (a 5), .ref (a 8), .int (nI k), .int (nI st), .int fi])), ((a 1), .inl (cI, 8, .inl fB)), ((a 2), .inl (cI, 8, .inl fS)), ((a 3), .inl (cJ, 8, .inr (.inl fL))), ((a 4), .inl (cI, 8, .inl fO)), ((a 5), .inr (0, [.ref (a 6), .ref (a 7), .int (nI c), .int t, .int (nI y)])), ((a 6), .inl (cI, 6, .inl fW)), ((a 7), .inl (cI, 6, .inl fD)), ((a 8), .inr (0, [.ref (a 9), .ref (a 10), .int c2, .int t2, .int y2])), ((a 9), .inl (cI, 6, .inl gW)), ((a 10), .inl (cI, 6, .inl gD))]) [0, 1, 2, 3, 4, 5, 6, 7, 8, 9, 10] rfl) hC (va_recv hK hP (ci := 1) (q0 := 0) rfl rfl)) rfl rfl hl.1 rfl (lv_room (Nat.le_of_ble_eq_true rfl)) dL_law_388 ⟨show _ ≤ 791242 by omega, show _ ≤ 6727743 by omega⟩) ?_
                  refine topL (y := (lN (La i / Nat.gcd (La i) (La jx)))) (by rw [ei, ej, tp_lN (by omega) (by omega)]) ?_
                  refine lv_lrem hx hb dL_law_391 (lN_ne0 hf0 (by omega)) ?_
                  refine topL (y := (lN (n9 % (La i / Nat.gcd (La i) (La jx))))) (pk_lRem (by omega) hf0 (by omega)) ?_
                  refine lv_lconst (v := 0) hx hb dL_law_392 (by decide) ?_
                  refine W.lcmp hx hb dL_law_393 ?_
                  refine lv_if_ne (tgt := 401) hx hb dL_law_394 (by decide) (fun c_394 => ?_) (fun c_394 => by exfalso; have c_394 := (lgc_eq _ _).mp c_394; rw [pk_lT (by omega), show (0 : Int64).toInt = 0 from rfl] at c_394; exact hmod (by omega))
                  have c_394 := (lgc_ne _ _).mp c_394
                  refine lv_iconst (v := 0) hx hb dL_law_401 (by decide) ?_
                  refine lv_icmp_eq (tgt := 407) hx hb dL_law_402 (by decide) (fun c_402 => ?_) (fun c_402 => by exact absurd rfl c_402)
                  exact k407 ls (lv_sub hl [0, 1, 2, 3, 4, 5, 6, 7, 8, 9, 10] rfl)
            · skip
              intro k370
              refine lv_iload hx hb dL_law_351 (lv_at hl 10 rfl) ?_
              refine lv_if_ne (tgt := 370) hx hb dL_law_353 (by decide) (fun c_353 => ?_) (fun c_353 => ?_)
              · skip
                have c_353 := bz_1 c_353
                exact k370 ls (lv_sub hl [0, 1, 2, 3, 4, 5, 6, 7, 8, 9, 12] rfl)
              · skip
                have c_353 := bz_0 c_353
                refine lv_iload hx hb dL_law_356 (lv_at hl 11 rfl) ?_
                refine lv_if_ne (tgt := 370) hx hb dL_law_358 (by decide) (fun c_358 => ?_) (fun c_358 => ?_)
                · skip
                  have c_358 := bz_1 c_358
                  exact k370 ls (lv_sub hl [0, 1, 2, 3, 4, 5, 6, 7, 8, 9, 12] rfl)
                · skip
                  have c_358 := bz_0 c_358
                  refine lv_lload hx hb dL_law_361 (lv_at hl 12 rfl) ?_
                  refine lv_iload hx hb dL_law_363 (lv_at hl 7 rfl) ?_
                  refine lv_i2l (v := ((nI n9)).toInt64) hx hb dL_law_365 rfl ?_
                  refine topL (y := (lN n9)) (nI_l (by omega)) ?_
                  refine W.lcmp hx hb dL_law_366 ?_
                  refine lv_if_ne (tgt := 405) hx hb dL_law_367 (by decide) (fun c_367 => by exfalso; have c_367 := (lgc_ne _ _).mp c_367; apply c_367; have h8 : n9 ≤ T9 := (by rw [← eT9]; exact cv_gt hpi (by omega)); have h9 : T9 ≤ n9 := (by rw [← eT9]; exact cv_lt (by omega)); rw [pk_lT (by omega), pk_lT (by omega)]; omega) (fun c_367 => ?_)
                  have c_367 := (lgc_eq _ _).mp c_367
                  exact k370 ls (lv_sub hl [0, 1, 2, 3, 4, 5, 6, 7, 8, 9, 12] rfl)
          · skip
            intro k351
            refine lv_iload hx hb dL_law_337 (lv_at hl 11 rfl) ?_
            refine lv_if_eq (tgt := 351) hx hb dL_law_339 (by decide) (fun c_339 => ?_) (fun c_339 => ?_)
            · skip
              have c_339 := bz_0 c_339
              exact k351 ls (lv_sub hl [0, 1, 2, 3, 4, 5, 6, 7, 8, 9, 10, 11, 12] rfl)
            · skip
              have c_339 := bz_1 c_339
              refine lv_lload hx hb dL_law_342 (lv_at hl 12 rfl) ?_
              refine lv_iload hx hb dL_law_344 (lv_at hl 7 rfl) ?_
              refine lv_i2l (v := ((nI n9)).toInt64) hx hb dL_law_346 rfl ?_
              refine topL (y := (lN n9)) (nI_l (by omega)) ?_
              refine W.lcmp hx hb dL_law_347 ?_
              refine lv_if_gt (tgt := 405) hx hb dL_law_348 (by decide) (fun c_348 => by exfalso; have c_348 := (lgc_gt _ _).mp c_348; have h9 : T9 ≤ n9 := (by rw [← eT9]; exact cv_lt (by omega)); rw [pk_lT (by omega), pk_lT (by omega)] at c_348; omega) (fun c_348 => ?_)
              have c_348 := (not_congr (lgc_gt _ _)).mp c_348
              exact k351 ls (lv_sub hl [0, 1, 2, 3, 4, 5, 6, 7, 8, 9, 10, 11, 12] rfl)
        · skip
          intro k337
          refine lv_iload hx hb dL_law_323 (lv_at hl 11 rfl) ?_
          refine lv_if_eq (tgt := 337) hx hb dL_law_325 (by decide) (fun c_325 => ?_) (fun c_325 => ?_)
          · skip
            have c_325 := bz_0 c_325
            exact k337 ls (lv_sub hl [1, 2, 3, 4, 5, 6, 7, 8, 9, 10, 11, 12, 0] rfl)
          · skip
            have c_325 := bz_1 c_325
            refine lv_lload hx hb dL_law_328 (lv_at hl 0 rfl) ?_
            refine lv_iload hx hb dL_law_330 (lv_at hl 8 rfl) ?_
            refine lv_i2l (v := ((nI n9)).toInt64) hx hb dL_law_332 rfl ?_
            refine topL (y := (lN n9)) (nI_l (by omega)) ?_
            refine W.lcmp hx hb dL_law_333 ?_
            refine lv_if_lt (tgt := 405) hx hb dL_law_334 (by decide) (fun c_334 => by exfalso; have c_334 := (lgc_lt _ _).mp c_334; have h9 : n9 ≤ T9 := (by rw [← eT9]; exact cv_gt hpi (by omega)); rw [pk_lT (by omega), pk_lT (by omega)] at c_334; omega) (fun c_334 => ?_)
            have c_334 := (not_congr (lgc_lt _ _)).mp c_334
            exact k337 ls (lv_sub hl [1, 2, 3, 4, 5, 6, 7, 8, 9, 10, 11, 12, 0] rfl)
      · skip
        intro k304
        refine lv_iload hx hb dL_law_234 (lv_at hl 9 rfl) ?_
        by_cases hi0 : i = 0
        · skip
          refine lv_if_le (tgt := 243) hx hb dL_law_236 (by decide) (fun c_236 => ?_) (fun c_236 => by exfalso; simp only [Int32.le_iff_toInt_le] at c_236; rw [nI_toInt (n := i) (by omega)] at c_236; rw [(by decide : (0 : Int32).toInt = 0)] at c_236; omega)
          simp only [Int32.le_iff_toInt_le] at c_236
          rw [nI_toInt (n := i) (by omega)] at c_236
          rw [(by decide : (0 : Int32).toInt = 0)] at c_236
          refine lv_iconst (v := 0) hx hb dL_law_243 (by decide) ?_
          refine lv_aload_n hx hb dL_law_244 rfl (lv_at hl 1 rfl) ?_
          refine lv_iload hx hb dL_law_245 (lv_at hl 9 rfl) ?_
          refine ro_iE (va_runV (As := [.int (nI i)]) (rest := [.int 0]) ⟨hx, hb, hml, hown, hts⟩ (k_X1_baseOf l D cI cJ cR a k st fi fB fS fO fL c t y fW fD c2 t2 y2 gW gD hk8 i (by omega)) (cwV 1 hts gL_law_X1_baseOf rfl rfl rfl (by decide +kernel) ⟨Nat.le_of_ble_eq_true rfl, Nat.le_of_ble_eq_true rfl⟩) (preV_ro KC_ok (hP.sub (ws' := [((a 0), .inr (1, [.ref (a 1), .ref (a 2), .ref (a 3), .ref (a 4), .ref (a 5), .ref (a 8), .int (nI k), .int (nI st), .int fi])), ((a 1), .inl (cI, 8, .inl fB)), ((a 2), .inl (cI, 8, .inl fS)), ((a 3), .inl (cJ, 8, .inr (.inl fL))), ((a 4), .inl (cI, 8, .inl fO)), ((a 5), .inr (0, [.ref (a 6), .ref (a 7), .int (nI c), .int t, .int (nI y)])), ((a 6), .inl (cI, 6, .inl fW)), ((a 7), .inl (cI, 6, .inl fD)), ((a 8), .inr (0, [.ref (a 9), .ref (a 10), .int c2, .int t2, .int y2])), ((a 9), .inl (cI, 6, .inl gW)), ((a 10), .inl (cI, 6, .inl gD))]) [0, 1, 2, 3, 4, 5, 6, 7, 8, 9, 10] rfl) hC (va_recv hK hP (ci := 1) (q0 := 0) rfl rfl)) rfl rfl hl.1 rfl (lv_room (Nat.le_of_ble_eq_true rfl)) dL_law_247 ⟨show _ ≤ 791242 by omega, show _ ≤ 6727743 by omega⟩) ?_
          refine topI (y := (-1)) (by rw [hi0]; exact hB0) ?_
          refine lv_if_lt (tgt := 257) hx hb dL_law_250 (by decide) (fun c_250 => ?_) (fun c_250 => by exact absurd c_250 (by decide))
          refine lv_iconst (v := 0) hx hb dL_law_257 (by decide) ?_
          refine lv_icmp_ne (tgt := 302) hx hb dL_law_258 (by decide) (fun c_258 => by exact absurd rfl c_258) (fun c_258 => ?_)
          refine lv_aload_n hx hb dL_law_261 rfl (lv_at hl 1 rfl) ?_
          refine lv_iload hx hb dL_law_262 (lv_at hl 9 rfl) ?_
          refine ro_iE (va_runV (As := [.int (nI i)]) (rest := []) ⟨hx, hb, hml, hown, hts⟩ (k_X1_baseOf l D cI cJ cR a k st fi fB fS fO fL c t y fW fD c2 t2 y2 gW gD hk8 i (by omega)) (cwV 1 hts gL_law_X1_baseOf rfl rfl rfl (by decide +kernel) ⟨Nat.le_of_ble_eq_true rfl, Nat.le_of_ble_eq_true rfl⟩) (preV_ro KC_ok (hP.sub (ws' := [((a 0), .inr (1, [.ref (a 1), .ref (a 2), .ref (a 3), .ref (a 4), .ref (a 5), .ref (a 8), .int (nI k), .int (nI st), .int fi])), ((a 1), .inl (cI, 8, .inl fB)), ((a 2), .inl (cI, 8, .inl fS)), ((a 3), .inl (cJ, 8, .inr (.inl fL))), ((a 4), .inl (cI, 8, .inl fO)), ((a 5), .inr (0, [.ref (a 6), .ref (a 7), .int (nI c), .int t, .int (nI y)])), ((a 6), .inl (cI, 6, .inl fW)), ((a 7), .inl (cI, 6, .inl fD)), ((a 8), .inr (0, [.ref (a 9), .ref (a 10), .int c2, .int t2, .int y2])), ((a 9), .inl (cI, 6, .inl gW)), ((a 10), .inl (cI, 6, .inl gD))]) [0, 1, 2, 3, 4, 5, 6, 7, 8, 9, 10] rfl) hC (va_recv hK hP (ci := 1) (q0 := 0) rfl rfl)) rfl rfl hl.1 rfl (lv_room (Nat.le_of_ble_eq_true rfl)) dL_law_264 ⟨show _ ≤ 791242 by omega, show _ ≤ 6727743 by omega⟩) ?_
          refine topI (y := (-1)) (by rw [hi0]; exact hB0) ?_
          refine lv_iload hx hb dL_law_267 (lv_at hl 9 rfl) ?_
          refine lv_icmp_ge (tgt := 302) hx hb dL_law_269 (by decide) (fun c_269 => by exfalso; simp only [Int32.le_iff_toInt_le] at c_269; rw [(by decide : (-1 : Int32).toInt = -1)] at c_269; rw [nI_toInt (n := i) (by omega)] at c_269; omega) (fun c_269 => ?_)
          simp only [Int32.le_iff_toInt_le] at c_269
          rw [(by decide : (-1 : Int32).toInt = -1)] at c_269
          rw [nI_toInt (n := i) (by omega)] at c_269
          refine lv_aload_n hx hb dL_law_272 rfl (lv_at hl 1 rfl) ?_
          refine lv_iload hx hb dL_law_273 (lv_at hl 9 rfl) ?_
          refine ro_iE (va_runV (As := [.int (nI i)]) (rest := []) ⟨hx, hb, hml, hown, hts⟩ (k_X1_stepsToEll l D cI cJ cR a k st fi fB fS fO fL c t y fW fD c2 t2 y2 gW gD hk8 i (by omega)) (cwV 1 hts gL_law_X1_stepsToEll rfl rfl rfl (by decide +kernel) ⟨Nat.le_of_ble_eq_true rfl, Nat.le_of_ble_eq_true rfl⟩) (preV_ro KC_ok (hP.sub (ws' := [((a 0), .inr (1, [.ref (a 1), .ref (a 2), .ref (a 3), .ref (a 4), .ref (a 5), .ref (a 8), .int (nI k), .int (nI st), .int fi])), ((a 1), .inl (cI, 8, .inl fB)), ((a 2), .inl (cI, 8, .inl fS)), ((a 3), .inl (cJ, 8, .inr (.inl fL))), ((a 4), .inl (cI, 8, .inl fO)), ((a 5), .inr (0, [.ref (a 6), .ref (a 7), .int (nI c), .int t, .int (nI y)])), ((a 6), .inl (cI, 6, .inl fW)), ((a 7), .inl (cI, 6, .inl fD)), ((a 8), .inr (0, [.ref (a 9), .ref (a 10), .int c2, .int t2, .int y2])), ((a 9), .inl (cI, 6, .inl gW)), ((a 10), .inl (cI, 6, .inl gD))]) [0, 1, 2, 3, 4, 5, 6, 7, 8, 9, 10] rfl) hC (va_recv hK hP (ci := 1) (q0 := 0) rfl rfl)) rfl rfl hl.1 rfl (lv_room (Nat.le_of_ble_eq_true rfl)) dL_law_275 ⟨show _ ≤ 791242 by omega, show _ ≤ 6727743 by omega⟩) ?_
          refine topI (y := 0) (by rw [hg.2.2 i hik, hi0, hg.1]; rfl) ?_
          refine lv_iload hx hb dL_law_278 (lv_at hl 9 rfl) ?_
          refine lv_if_ne (tgt := 287) hx hb dL_law_280 (by decide) (fun c_280 => by exfalso; simp only [ne_eq, ← Int32.toInt_inj, Decidable.not_not] at c_280; rw [nI_toInt (n := i) (by omega)] at c_280; rw [(by decide : (0 : Int32).toInt = 0)] at c_280; omega) (fun c_280 => ?_)
          simp only [ne_eq, ← Int32.toInt_inj, Decidable.not_not] at c_280
          rw [nI_toInt (n := i) (by omega)] at c_280
          rw [(by decide : (0 : Int32).toInt = 0)] at c_280
          refine lv_iconst (v := 0) hx hb dL_law_283 (by decide) ?_
          refine lv_goto (tgt := 299) hx hb dL_law_284 (by decide) ?_
          refine lv_icmp_eq (tgt := 304) hx hb dL_law_299 (by decide) (fun c_299 => ?_) (fun c_299 => by exact absurd rfl c_299)
          exact k304 ls (lv_sub hl [0, 1, 2, 3, 4, 5, 6, 7, 8, 9, 10, 11] rfl)
        · skip
          have hi1 : 0 < i := by omega
          obtain ⟨-, -, hbb, hbl, -⟩ := hL.2.2 i hi1 hik
          have hgs := hg.step hL hk8 hi1 hik
          refine lv_if_le (tgt := 243) hx hb dL_law_236 (by decide) (fun c_236 => by exfalso; simp only [Int32.le_iff_toInt_le] at c_236; rw [nI_toInt (n := i) (by omega)] at c_236; rw [(by decide : (0 : Int32).toInt = 0)] at c_236; omega) (fun c_236 => ?_)
          simp only [Int32.le_iff_toInt_le] at c_236
          rw [nI_toInt (n := i) (by omega)] at c_236
          rw [(by decide : (0 : Int32).toInt = 0)] at c_236
          refine lv_iconst (v := 1) hx hb dL_law_239 (by decide) ?_
          refine lv_goto (tgt := 244) hx hb dL_law_240 (by decide) ?_
          refine lv_aload_n hx hb dL_law_244 rfl (lv_at hl 1 rfl) ?_
          refine lv_iload hx hb dL_law_245 (lv_at hl 9 rfl) ?_
          refine ro_iE (va_runV (As := [.int (nI i)]) (rest := [.int 1]) ⟨hx, hb, hml, hown, hts⟩ (k_X1_baseOf l D cI cJ cR a k st fi fB fS fO fL c t y fW fD c2 t2 y2 gW gD hk8 i (by omega)) (cwV 1 hts gL_law_X1_baseOf rfl rfl rfl (by decide +kernel) ⟨Nat.le_of_ble_eq_true rfl, Nat.le_of_ble_eq_true rfl⟩) (preV_ro KC_ok (hP.sub (ws' := [((a 0), .inr (1, [.ref (a 1), .ref (a 2), .ref (a 3), .ref (a 4), .ref (a 5), .ref (a 8), .int (nI k), .int (nI st), .int fi])), ((a 1), .inl (cI, 8, .inl fB)), ((a 2), .inl (cI, 8, .inl fS)), ((a 3), .inl (cJ, 8, .inr (.inl fL))), ((a 4), .inl (cI, 8, .inl fO)), ((a 5), .inr (0, [.ref (a 6), .ref (a 7), .int (nI c), .int t, .int (nI y)])), ((a 6), .inl (cI, 6, .inl fW)), ((a 7), .inl (cI, 6, .inl fD)), ((a 8), .inr (0, [.ref (a 9), .ref (a 10), .int c2, .int t2, .int y2])), ((a 9), .inl (cI, 6, .inl gW)), ((a 10), .inl (cI, 6, .inl gD))]) [0, 1, 2, 3, 4, 5, 6, 7, 8, 9, 10] rfl) hC (va_recv hK hP (ci := 1) (q0 := 0) rfl rfl)) rfl rfl hl.1 rfl (lv_room (Nat.le_of_ble_eq_true rfl)) dL_law_247 ⟨show _ ≤ 791242 by omega, show _ ≤ 6727743 by omega⟩) ?_
          refine topI (y := (nI (bb i))) hbb ?_
          refine lv_if_lt (tgt := 257) hx hb dL_law_250 (by decide) (fun c_250 => by exfalso; simp only [Int32.lt_iff_toInt_lt] at c_250; rw [nI_toInt (n := (bb i)) (by omega)] at c_250; rw [(by decide : (0 : Int32).toInt = 0)] at c_250; omega) (fun c_250 => ?_)
          simp only [Int32.lt_iff_toInt_lt] at c_250
          rw [nI_toInt (n := (bb i)) (by omega)] at c_250
          rw [(by decide : (0 : Int32).toInt = 0)] at c_250
          refine lv_iconst (v := 1) hx hb dL_law_253 (by decide) ?_
          refine lv_goto (tgt := 258) hx hb dL_law_254 (by decide) ?_
          refine lv_icmp_ne (tgt := 302) hx hb dL_law_258 (by decide) (fun c_258 => by exact absurd rfl c_258) (fun c_258 => ?_)
          refine lv_aload_n hx hb dL_law_261 rfl (lv_at hl 1 rfl) ?_
          refine lv_iload hx hb dL_law_262 (lv_at hl 9 rfl) ?_
          refine ro_iE (va_runV (As := [.int (nI i)]) (rest := []) ⟨hx, hb, hml, hown, hts⟩ (k_X1_baseOf l D cI cJ cR a k st fi fB fS fO fL c t y fW fD c2 t2 y2 gW gD hk8 i (by omega)) (cwV 1 hts gL_law_X1_baseOf rfl rfl rfl (by decide +kernel) ⟨Nat.le_of_ble_eq_true rfl, Nat.le_of_ble_eq_true rfl⟩) (preV_ro KC_ok (hP.sub (ws' := [((a 0), .inr (1, [.ref (a 1), .ref (a 2), .ref (a 3), .ref (a 4), .ref (a 5), .ref (a 8), .int (nI k), .int (nI st), .int fi])), ((a 1), .inl (cI, 8, .inl fB)), ((a 2), .inl (cI, 8, .inl fS)), ((a 3), .inl (cJ, 8, .inr (.inl fL))), ((a 4), .inl (cI, 8, .inl fO)), ((a 5), .inr (0, [.ref (a 6), .ref (a 7), .int (nI c), .int t, .int (nI y)])), ((a 6), .inl (cI, 6, .inl fW)), ((a 7), .inl (cI, 6, .inl fD)), ((a 8), .inr (0, [.ref (a 9), .ref (a 10), .int c2, .int t2, .int y2])), ((a 9), .inl (cI, 6, .inl gW)), ((a 10), .inl (cI, 6, .inl gD))]) [0, 1, 2, 3, 4, 5, 6, 7, 8, 9, 10] rfl) hC (va_recv hK hP (ci := 1) (q0 := 0) rfl rfl)) rfl rfl hl.1 rfl (lv_room (Nat.le_of_ble_eq_true rfl)) dL_law_264 ⟨show _ ≤ 791242 by omega, show _ ≤ 6727743 by omega⟩) ?_
          refine topI (y := (nI (bb i))) hbb ?_
          refine lv_iload hx hb dL_law_267 (lv_at hl 9 rfl) ?_
          refine lv_icmp_ge (tgt := 302) hx hb dL_law_269 (by decide) (fun c_269 => by exfalso; simp only [Int32.le_iff_toInt_le] at c_269; rw [nI_toInt (n := (bb i)) (by omega)] at c_269; rw [nI_toInt (n := i) (by omega)] at c_269; omega) (fun c_269 => ?_)
          simp only [Int32.le_iff_toInt_le] at c_269
          rw [nI_toInt (n := (bb i)) (by omega)] at c_269
          rw [nI_toInt (n := i) (by omega)] at c_269
          refine lv_aload_n hx hb dL_law_272 rfl (lv_at hl 1 rfl) ?_
          refine lv_iload hx hb dL_law_273 (lv_at hl 9 rfl) ?_
          refine ro_iE (va_runV (As := [.int (nI i)]) (rest := []) ⟨hx, hb, hml, hown, hts⟩ (k_X1_stepsToEll l D cI cJ cR a k st fi fB fS fO fL c t y fW fD c2 t2 y2 gW gD hk8 i (by omega)) (cwV 1 hts gL_law_X1_stepsToEll rfl rfl rfl (by decide +kernel) ⟨Nat.le_of_ble_eq_true rfl, Nat.le_of_ble_eq_true rfl⟩) (preV_ro KC_ok (hP.sub (ws' := [((a 0), .inr (1, [.ref (a 1), .ref (a 2), .ref (a 3), .ref (a 4), .ref (a 5), .ref (a 8), .int (nI k), .int (nI st), .int fi])), ((a 1), .inl (cI, 8, .inl fB)), ((a 2), .inl (cI, 8, .inl fS)), ((a 3), .inl (cJ, 8, .inr (.inl fL))), ((a 4), .inl (cI, 8, .inl fO)), ((a 5), .inr (0, [.ref (a 6), .ref (a 7), .int (nI c), .int t, .int (nI y)])), ((a 6), .inl (cI, 6, .inl fW)), ((a 7), .inl (cI, 6, .inl fD)), ((a 8), .inr (0, [.ref (a 9), .ref (a 10), .int c2, .int t2, .int y2])), ((a 9), .inl (cI, 6, .inl gW)), ((a 10), .inl (cI, 6, .inl gD))]) [0, 1, 2, 3, 4, 5, 6, 7, 8, 9, 10] rfl) hC (va_recv hK hP (ci := 1) (q0 := 0) rfl rfl)) rfl rfl hl.1 rfl (lv_room (Nat.le_of_ble_eq_true rfl)) dL_law_275 ⟨show _ ≤ 791242 by omega, show _ ≤ 6727743 by omega⟩) ?_
          refine topI (y := (nI (g9 i))) (hg.2.2 i hik) ?_
          refine lv_iload hx hb dL_law_278 (lv_at hl 9 rfl) ?_
          refine lv_if_ne (tgt := 287) hx hb dL_law_280 (by decide) (fun c_280 => ?_) (fun c_280 => by exfalso; simp only [ne_eq, ← Int32.toInt_inj, Decidable.not_not] at c_280; rw [nI_toInt (n := i) (by omega)] at c_280; rw [(by decide : (0 : Int32).toInt = 0)] at c_280; omega)
          simp only [ne_eq, ← Int32.toInt_inj, Decidable.not_not] at c_280
          rw [nI_toInt (n := i) (by omega)] at c_280
          rw [(by decide : (0 : Int32).toInt = 0)] at c_280
          refine lv_iconst (v := 1) hx hb dL_law_287 (by decide) ?_
          refine lv_aload_n hx hb dL_law_288 rfl (lv_at hl 1 rfl) ?_
          refine lv_aload_n hx hb dL_law_289 rfl (lv_at hl 1 rfl) ?_
          refine lv_iload hx hb dL_law_290 (lv_at hl 9 rfl) ?_
          refine ro_iE (va_runV (As := [.int (nI i)]) (rest := [.ref (a 0), .int 1, .int (nI (g9 i))]) ⟨hx, hb, hml, hown, hts⟩ (k_X1_baseOf l D cI cJ cR a k st fi fB fS fO fL c t y fW fD c2 t2 y2 gW gD hk8 i (by omega)) (cwV 1 hts gL_law_X1_baseOf rfl rfl rfl (by decide +kernel) ⟨Nat.le_of_ble_eq_true rfl, Nat.le_of_ble_eq_true rfl⟩) (preV_ro KC_ok (hP.sub (ws' := [((a 0), .inr (1, [.ref (a 1), .ref (a 2), .ref (a 3), .ref (a 4), .ref (a 5), .ref (a 8), .int (nI k), .int (nI st), .int fi])), ((a 1), .inl (cI, 8, .inl fB)), ((a 2), .inl (cI, 8, .inl fS)), ((a 3), .inl (cJ, 8, .inr (.inl fL))), ((a 4), .inl (cI, 8, .inl fO)), ((a 5), .inr (0, [.ref (a 6), .ref (a 7), .int (nI c), .int t, .int (nI y)])), ((a 6), .inl (cI, 6, .inl fW)), ((a 7), .inl (cI, 6, .inl fD)), ((a 8), .inr (0, [.ref (a 9), .ref (a 10), .int c2, .int t2, .int y2])), ((a 9), .inl (cI, 6, .inl gW)), ((a 10), .inl (cI, 6, .inl gD))]) [0, 1, 2, 3, 4, 5, 6, 7, 8, 9, 10] rfl) hC (va_recv hK hP (ci := 1) (q0 := 0) rfl rfl)) rfl rfl hl.1 rfl (lv_room (Nat.le_of_ble_eq_true rfl)) dL_law_292 ⟨show _ ≤ 791242 by omega, show _ ≤ 6727743 by omega⟩) ?_
          refine topI (y := (nI (bb i))) hbb ?_
          refine ro_iE (va_runV (As := [.int (nI (bb i))]) (rest := [.int 1, .int (nI (g9 i))]) ⟨hx, hb, hml, hown, hts⟩ (k_X1_stepsToEll l D cI cJ cR a k st fi fB fS fO fL c t y fW fD c2 t2 y2 gW gD hk8 (bb i) (by omega)) (cwV 1 hts gL_law_X1_stepsToEll rfl rfl rfl (by decide +kernel) ⟨Nat.le_of_ble_eq_true rfl, Nat.le_of_ble_eq_true rfl⟩) (preV_ro KC_ok (hP.sub (ws' := [((a 0), .inr (1, [.ref (a 1), .ref (a 2), .ref (a 3), .ref (a 4), .ref (a 5), .ref (a 8), .int (nI k), .int (nI st), .int fi])), ((a 1), .inl (cI, 8, .inl fB)), ((a 2), .inl (cI, 8, .inl fS)), ((a 3), .inl (cJ, 8, .inr (.inl fL))), ((a 4), .inl (cI, 8, .inl fO)), ((a 5), .inr (0, [.ref (a 6), .ref (a 7), .int (nI c), .int t, .int (nI y)])), ((a 6), .inl (cI, 6, .inl fW)), ((a 7), .inl (cI, 6, .inl fD)), ((a 8), .inr (0, [.ref (a 9), .ref (a 10), .int c2, .int t2, .int y2])), ((a 9), .inl (cI, 6, .inl gW)), ((a 10), .inl (cI, 6, .inl gD))]) [0, 1, 2, 3, 4, 5, 6, 7, 8, 9, 10] rfl) hC (va_recv hK hP (ci := 1) (q0 := 0) rfl rfl)) rfl rfl hl.1 rfl (lv_room (Nat.le_of_ble_eq_true rfl)) dL_law_295 ⟨show _ ≤ 791242 by omega, show _ ≤ 6727743 by omega⟩) ?_
          refine topI (y := (nI (g9 (bb i)))) (hg.2.2 _ (by omega)) ?_
          refine lv_iadd hx hb dL_law_298 ?_
          refine topI (y := (nI (g9 i))) (by rw [hgs, Nat.add_comm]; exact nI_add 1 _) ?_
          refine lv_icmp_eq (tgt := 304) hx hb dL_law_299 (by decide) (fun c_299 => ?_) (fun c_299 => by exact absurd rfl c_299)
          exact k304 ls (lv_sub hl [0, 1, 2, 3, 4, 5, 6, 7, 8, 9, 10, 11] rfl)
    · skip
      intro k208
      refine lv_iload hx hb dL_law_198 (lv_at hl 1 rfl) ?_
      refine lv_if_eq (tgt := 208) hx hb dL_law_200 (by decide) (fun c_200 => ?_) (fun c_200 => ?_)
      · skip
        have c_200 := bz_0 c_200
        exact k208 ls (lv_sub hl [4, 5, 6, 7, 8, 9, 10, 11, 12, 13, 1, 0] rfl)
      · skip
        have c_200 := bz_1 c_200
        refine lv_iload hx hb dL_law_203 (lv_at hl 0 rfl) ?_
        refine lv_if_ne (tgt := 302) hx hb dL_law_205 (by decide) (fun c_205 => by exfalso; have c_205 := bz_1 c_205; omega) (fun c_205 => ?_)
        have c_205 := bz_0 c_205
        exact k208 ls (lv_sub hl [4, 5, 6, 7, 8, 9, 10, 11, 12, 13, 1, 0] rfl)
