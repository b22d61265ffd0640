set_option maxHeartbeats 4000000 in
set_option maxRecDepth 100000 in
theorem c_L_below (l : Launch) (v : Int32) (n : Nat) (hn : 0 < n) (hn2 : n < 2 ^ 31) : Met l yL_below wsL_below ({ frames := 0, cells := 0, slots := 0, locals := 0 }) (va_Pc [.int v, .int (nI n)] (fun _ => True)) (roi (fun r => r = nI (bw v % n))) 0 0 (fun _ => False) := by
  refine Met.ofW (cc := cL_below) (maxL := 2) (ret := (some .int)) (by decide +kernel) rfl ?_
  intro p e s m args below meth c9 s₁ B hml hv
  obtain ⟨rfl, -⟩ := hv
  have hx := B.exec
  have hb := B.bytes
  have hr := B.returns
  have hts := atoms_spec (ws := wsL_below) B.pre
  have hown : s.vm.findClass RL = some m.cls := findClass_of_methodNamed B.named
  have hlocks := B.notSynchronized
  have hl := lv_entry ([.int v, .int (nI n)]) (n := 2) (Nat.le_of_ble_eq_true rfl)
  rw [lg_entry_eq]
  generalize (lg_sl ([.int v, .int (nI n)]) ++ List.replicate (2 - (lg_sl ([.int v, .int (nI n)])).length) Slot.unset).toArray = ls at hl ⊢
  have hl : lv_has ls 2 [(0, .int v), (1, .int (nI n))] := hl
  refine lv_iload_n hx hb dL_below_0 rfl (lv_at hl 0 rfl) ?_
  refine lv_ldc (v := 2147483647) hx hb hown (hts (.constant RL 7 2147483647) (by decide +kernel)) dL_below_1 ?_
  refine lv_iand hx hb dL_below_3 ?_
  refine topI (bw_and v) ?_
  refine lv_iload_n hx hb dL_below_4 rfl (lv_at hl 1 rfl) ?_
  refine lv_irem hx hb dL_below_5 (nI_ne0 hn hn2) ?_
  refine topI (pk_rem (bw_lt v) hn hn2) ?_
  exact W.iret (v := (nI (bw v % n))) hx hb hr (fun t9 ht hW => ⟨_, rfl, rfl, ht⟩) (fun q hq => absurd hq List.not_mem_nil) dL_below_6

/-- a cell of the script, or a number of its place -/
def KX9 (bs Ls : Nat) (xs : Nat → Int32) : State → Heap → Prop := fun U H => va_X bs Ls xs U H
theorem KX9_ok {bs Ls : Nat} {xs : Nat → Int32} : KOk (KX9 bs Ls xs) := ⟨fun b U g mk q => va_X.moved (u := U) (U := U.calling g mk b) (Vm.Alike.refl U.vm) q, fun s U H hW q => va_X.moved hW.alike q⟩
theorem va_X.lt {bs Ls : Nat} {xs : Nat → Int32} {U : State} {H : Heap} (h : va_X bs Ls xs U H) : bs < H.size := by
  obtain ⟨scr, h1, -⟩ := h
  exact (Array.getElem?_eq_some_iff.mp h1).1
theorem va_X.at {bs Ls : Nat} {xs : Nat → Int32} {s : State} {A : Nat → Prop} {H0 H : Heap} {locs : List Loc} (h : va_X bs Ls xs s H0) (hbA : ¬ A bs) (hS : va_S A H0 H locs) : va_X bs Ls xs s H := h.kept (hS.2.1 bs h.lt hbA)

set_option maxHeartbeats 4000000 in
set_option maxRecDepth 100000 in
theorem c_L_cell (l : Launch) (D : va_G) (bs Ls : Nat) (xs : Nat → Int32) (hLs : Ls ≤ 300) (j : Nat) (hj : j < 100) : Met l yL_cell wsL_cell ({ frames := 0, cells := 0, slots := 0, locals := 0 }) (cP D [] (KX9 bs Ls xs) [.ref bs, .int (nI j)]) (roi (fun _ => True)) 0 0 (fun _ => False) := by
  refine Met.ofW (cc := cL_cell) (maxL := 2) (ret := (some .int)) (by decide +kernel) rfl ?_
  intro p e s m args below meth c9 s₁ B hml hv
  obtain ⟨rfl, hP, hX⟩ := hv
  have hX : va_X bs Ls xs s s.heap := hX
  have hx := B.exec
  have hb := B.bytes
  have hr := B.returns
  have hts := atoms_spec (ws := wsL_cell) B.pre
  have hown : s.vm.findClass RL = some m.cls := findClass_of_methodNamed B.named
  have hlocks := B.notSynchronized
  have hl := lv_entry ([.ref bs, .int (nI j)]) (n := 2) (Nat.le_of_ble_eq_true rfl)
  rw [lg_entry_eq]
  generalize (lg_sl ([.ref bs, .int (nI j)]) ++ List.replicate (2 - (lg_sl ([.ref bs, .int (nI j)])).length) Slot.unset).toArray = ls at hl ⊢
  have hl : lv_has ls 2 [(0, .ref bs), (1, .int (nI j))] := hl
  have hS : va_S (fun _ => False) s.heap s.heap [] := va_S.rf
  have fin : ∀ v : Int32, W p l e (headSpec wsL_cell { frames := 0, cells := 0, slots := 0, locals := 0 }).room s m ([.ref bs, .int (nI j)] : List Value).toArray below meth c9 s.heap [] 0 0 (MQ below (roi (fun _ => True)) ([.ref bs, .int (nI j)] : List Value).toArray s 0 0 (fun _ => False)) (F0 m 18 ls [.int v]) := fun v =>
    W.iret (v := v) hx hb hr (fun t9 ht hW => ⟨_, rfl, trivial, ht⟩) (fun q hq => absurd hq List.not_mem_nil) dL_cell_18
  refine lv_iload_n hx hb dL_cell_0 rfl (lv_at hl 1 rfl) ?_
  refine lv_aload_n hx hb dL_cell_1 rfl (lv_at hl 0 rfl) ?_
  refine va_slen hx hb hX hX.lt (fun h => h) hS dL_cell_2 ?_
  refine topI (y := nI Ls) rfl ?_
  refine lv_icmp_ge (tgt := 12) hx hb dL_cell_3 (by decide) (fun c_3 => ?_) (fun c_3 => ?_)
  · refine lv_ldc (v := 790386105) hx hb hown (hts (.constant RL 8 790386105) (by decide +kernel)) dL_cell_12 ?_
    refine lv_iload_n hx hb dL_cell_14 rfl (lv_at hl 1 rfl) ?_
    refine lv_iconst (v := 3) hx hb dL_cell_15 (by decide) ?_
    refine lv_iadd hx hb dL_cell_16 ?_
    refine lv_imul hx hb dL_cell_17 ?_
    exact fin _
  · rw [Int32.le_iff_toInt_le, nI_toInt (by omega), nI_toInt (by omega)] at c_3
    refine lv_aload_n hx hb dL_cell_6 rfl (lv_at hl 0 rfl) ?_
    refine lv_iload_n hx hb dL_cell_7 rfl (lv_at hl 1 rfl) ?_
    refine va_sld hx hb hX hX.lt (fun h => h) hS (vp_in_nI (by omega) (by omega)) dL_cell_8 ?_
    refine lv_goto (tgt := 18) hx hb dL_cell_9 (by decide) ?_
    exact fin _
