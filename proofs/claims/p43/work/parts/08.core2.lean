/-! CORE 2 (p43): rows of rows; worlds with rows in any number -/
section RR
variable {p : Program} {l : Launch} {e : Env} {R : Room} {s : State} {m : MethodId} {args : Array Value} {below : List Frame} {meth : Method} {c : Code} {H : Heap} {locs : List Loc} {cells slots : Nat} {Q : State → Prop}
variable {cc : ByteArray} {pc : Nat} {ls : Array Slot} {rest : List Value} {D : va_G} {cl : List vw_C} {A : Nat → Prop} {a : Nat} {tys : List (ClassId × FieldType)} {ws : va_W} {H0 : Heap}
/-- a row out of an array of rows -/
theorem xr_ald (hexec : p.tables.exec = Jvm.exec) (hb : c.code = cc) (hK : va_K D cl tys s) (hP : va_P D cl ws H) (q0 t0 : Nat) {cA : ClassId} {n : Nat} {f : Nat → Option Nat} (ha : ws[q0]? = some (a, .inl (cA, n, .inr (.inr (.inr (.inr f)))))) (ht : tys[t0]? = some (cA, .array .int)) {j b : Nat} (hj : j < n) (hn : n < 2 ^ 31) (hv : f j = some b) (hdg : decode cc pc = .ok (.aaload, 1))
    (kk : W p l e R s m args below meth c H locs cells slots Q (F0 m (pc + 1) ls (.ref b :: rest))) : W p l e R s m args below meth c H locs cells slots Q (F0 m pc ls (.int (nI j) :: .ref a :: rest)) := by
  have hin : vp_in (nI j) n := vp_in_nI hj hn
  have hlt : (nI j).toNatClampNeg < n := by rw [nI_clamp (Nat.lt_trans hj hn)]; exact hj
  refine W.aald (v := va_rf (f (nI j).toNatClampNeg)) (ty := .array .int) hexec hb (hP q0 _ ha) ((hK.2 t0 _ ht).1 n (fun j => va_rf (f j))) rfl (fun q => by cases q) (by show ¬ (nI j < 0 ∨ (arrV _ _ _).slots.size ≤ _); rw [arrV_size]; exact hin) (by show (arrV _ _ _).slots[_]? = _; rw [arrV_read _ _ hlt]) rfl rfl hdg ?_
  rw [nI_clamp (Nat.lt_trans hj hn), hv]
  exact kk
theorem va_assignS {cC : ClassId} : s.vm.assignable cC cC = true := by
  show Vm.assignableAux s.vm (255 + 1) cC cC = true
  rw [Vm.assignableAux, beq_self_eq_true, Bool.true_or]
/-- a row into an array of rows -/
theorem xr_ast (hexec : p.tables.exec = Jvm.exec) (hb : c.code = cc) (hK : va_K D cl tys s) (hO : AO s) (hP : va_P D cl ws H) (hD : va_D A ws) (hS : va_S A H0 H locs) (q0 t0 t1 qk : Nat) {cA cR : ClassId} {n v : Nat} {x : vp_A} {f : Nat → Option Nat} (ha : ws[q0]? = some (a, .inl (cR, n, .inr (.inr (.inr (.inr f)))))) (ht : tys[t0]? = some (cR, .array .int)) (ht1 : tys[t1]? = some (cA, .int)) (hv : ws[qk]? = some (v, .inl (cA, x))) {j : Nat} (hj : j < n) (hn : n < 2 ^ 31) (hdg : decode cc pc = .ok (.aastore, 1))
    (kk : ∀ (H1 : Heap) (locs1 : List Loc), va_P D cl (ws.set q0 (a, .inl (cR, n, .inr (.inr (.inr (.inr (va_up f j (some v)))))))) H1 → va_D A (ws.set q0 (a, .inl (cR, n, .inr (.inr (.inr (.inr (va_up f j (some v)))))))) → va_S A H0 H1 locs1 → W p l e R s m args below meth c H1 locs1 cells slots Q (F0 m (pc + 1) ls rest)) : W p l e R s m args below meth c H locs cells slots Q (F0 m pc ls (.ref v :: .int (nI j) :: .ref a :: rest)) := by
  have hcl : (nI j).toNatClampNeg = j := nI_clamp (Nat.lt_trans hj hn)
  have hin : vp_in (nI j) n := vp_in_nI hj hn
  have h0 : ¬ nI j < 0 := fun q => hin (Or.inl q)
  obtain ⟨comp, c1, k1, f1, -, f3, f4, f5⟩ := arrayOverA_spec hO
  have e5 : s.vm.findClass ("[" ++ (FieldType.array .int).toString) = some cR := (hK.2 t0 _ ht).2
  cases Option.some.inj (f5.symm.trans e5)
  have e6 : s.vm.findClass ("[" ++ FieldType.int.toString) = some cA := (hK.2 t1 _ ht1).2
  have e7 : ("[" ++ FieldType.int.toString) = (FieldType.array .int).toString := by decide +kernel
  rw [e7] at e6
  cases Option.some.inj (f1.symm.trans e6)
  obtain ⟨-, kC, hkC, -⟩ := (hK.2 t1 _ ht1).1 0 (fun _ => .null)
  have hcv : H[v]? = some (vp_cell cA x) := hP qk _ hv
  have hvc : (vp_cell cA x).cls = cA ∧ (vp_cell cA x).vm = .none := by
    obtain ⟨n1, g | g | g | g | g⟩ := x <;> exact ⟨rfl, rfl⟩
  refine W.aast hexec hb (hP q0 _ ha) (fun q h => by cases h) (fun h => by cases h) f3 f4 rfl hkC ⟨h0, by show _ < (arrV _ _ _).slots.size; rw [arrV_size, hcl]; exact hj⟩ hcv (fun q h => by rw [hvc.2] at h; cases h) (by rw [hvc.1]; exact hkC) (by rw [hvc.1]; exact va_assignS) rfl rfl hdg fun H1 e z oq => ?_
  refine kk H1 _ (hP.set hD ha ?_ oq) (hD.set ha) (hS.put z oq (hD.2 q0 _ ha))
  show H1[a]? = some (vp_cell _ _)
  rw [e]
  show some ((vp_cell cR (n, .inr (.inr (.inr (.inr f))))).setSlot (nI j).toNatClampNeg (.ref v)) = _
  rw [vp_cell_q, vp_cell_q, arrV_store, hcl]
  congr 2
  funext q
  by_cases hq : q = j
  · subst hq
    simp [updV, va_up, va_rf]
  · simp [updV, va_up, hq]
/-- a new array of rows -/
theorem xr_new (hexec : p.tables.exec = Jvm.exec) (hb : c.code = cc) {own : String} {index : Nat} (hown : s.vm.findClass own = some m.cls) (hclink : (Cond.classLink own index "[I").before args s = true) (hO : AO s) (hK : va_K D cl tys s) (t0 : Nat) {cR : ClassId} (ht : tys[t0]? = some (cR, .array .int)) (hP : va_P D cl ws H) (hD : va_D A ws) (hS : va_S A H0 H locs) (hA : ∀ q, H0.size ≤ q → A q)
    {N : Nat} (hN : N < 1000) (hcells : cells + 1 ≤ R.cells) (hslots : slots + N ≤ R.slots) (hdg : decode cc pc = .ok (.anewarray index, 3))
    (kk : ∀ (q : Nat) (H1 : Heap), va_P D cl (ws ++ [(q, .inl (cR, N, .inr (.inr (.inr (.inr (fun _ => none))))))]) H1 → va_D A (ws ++ [(q, .inl (cR, N, .inr (.inr (.inr (.inr (fun _ => none))))))]) → va_S A H0 H1 locs →
      W p l e R s m args below meth c H1 locs (cells + 1) (slots + N) Q (F0 m (pc + 3) ls (.ref q :: rest))) : W p l e R s m args below meth c H locs cells slots Q (F0 m pc ls (.int (nI N) :: rest)) := by
  have hcl : (nI N).toNatClampNeg = N := nI_clamp (by omega)
  have e7 : "[I" = (FieldType.array .int).toString := by decide +kernel
  rw [e7] at hclink
  refine W.anewA (t := .int) hexec hb hown hclink hO rfl hdg rfl (nI_pos (by omega)) (by rw [hcl]; omega) hcells (by rw [hcl]; exact hslots) fun cA kA comp f1 f2 f3 f4 => ?_
  rw [hcl]
  have e5 : s.vm.findClass ("[" ++ (FieldType.array .int).toString) = some cR := (hK.2 t0 _ ht).2
  cases Option.some.inj (f1.symm.trans e5)
  generalize hH1 : H.push ({ cls := cR, slots := Array.replicate N .null, vm := .none } : Cell) = H1
  have z1 : H1.size = H.size + 1 := by rw [← hH1, Array.size_push]
  have e1 : H1[H.size]? = some (arrV cR N (fun _ => .null)) := by rw [← hH1, Array.getElem?_push_size, ← arrV_new]
  have o1 : ∀ q : Nat, q < H.size → H1[q]? = H[q]? := fun q hq => by rw [← hH1, Array.getElem?_push, if_neg (Nat.ne_of_lt hq)]
  have hk : ∀ (k : Nat) (x : Nat × va_E), ws[k]? = some x → H1[x.1]? = H[x.1]? := fun k x hx => o1 x.1 ((hP k x hx).lt)
  refine kk H.size H1 ((hP.kept hk).app (fun k x hx => ?_)) (hD.push hP rfl (hA _ hS.1)) ⟨Nat.le_trans hS.1 (by omega), fun x h1 h2 => (o1 x (Nat.lt_of_lt_of_le h1 hS.1)).trans (hS.2.1 x h1 h2), hS.2.2⟩
  have hz : k < 1 := (List.getElem?_eq_some_iff.mp hx).1
  rw [show k = 0 by omega] at hx
  cases hx
  show H1[H.size]? = some (vp_cell _ _)
  rw [vp_cell_q]
  exact e1
/-- a call whose answer is a reference -/
theorem xr_call {st0 : List Value} {av : Array Value} {A0 : Nat → Prop} {wc : va_W} {sz mc ms : Nat} {post : Nat → va_W → Prop} {free : Addr → Prop} (hr : va_Run p l e R s m args below meth c H locs cells slots mc ms (F0 m pc ls st0) rest (wrr D wc sz post av) free) (hS : va_S A0 H0 H locs) (hA : ∀ q, q < H.size → va_A wc sz q → A0 q) (hf : ∀ q, free q → A0 q)
    (kk : ∀ (u : va_W) (ra : Nat) (t : State) (H1 : Heap) (locs1 : List Loc), t.heap = H1 → post ra u → wB D wc sz u t → H.size ≤ H1.size → (∀ q : Nat, q < H.size → ¬ va_A wc sz q → H1[q]? = H[q]?) → va_S A0 H0 H1 locs1 → W p l e R s m args below meth c H1 locs1 (cells + mc) (slots + ms) Q (F0 m (pc + 3) ls (.ref ra :: rest))) : W p l e R s m args below meth c H locs cells slots Q (F0 m pc ls st0) :=
  va_callr hr hS hA hf (fun u ra t H1 locs1 h1 _ _ h2 h3 h4 h5 => kk u ra t H1 locs1 h1 h2.1 h2.2 h3 h4 h5)
/-- a counting loop that makes cells -/
theorem loopA {σ : Type} {h : Nat} {st : List Value} (mc ms : Nat) (I : Nat → σ → Heap → List Loc → Array Slot → Prop) (N : Nat)
    (step : ∀ (i : Nat) (x : σ) (H : Heap) (locs : List Loc) (ls : Array Slot), i ≤ N → I i x H locs ls → (∀ (x' : σ) (H' : Heap) (locs' : List Loc) (ls' : Array Slot), i < N → I (i + 1) x' H' locs' ls' → W p l e R s m args below meth c H' locs' (cells + (i + 1) * mc) (slots + (i + 1) * ms) Q (F0 m h ls' st)) → W p l e R s m args below meth c H locs (cells + i * mc) (slots + i * ms) Q (F0 m h ls st)) :
    ∀ (x : σ) (H : Heap) (locs : List Loc) (ls : Array Slot), I 0 x H locs ls → W p l e R s m args below meth c H locs cells slots Q (F0 m h ls st) := by
  have key : ∀ (n i : Nat) (x : σ) (H : Heap) (locs : List Loc) (ls : Array Slot), i + n = N → I i x H locs ls → W p l e R s m args below meth c H locs (cells + i * mc) (slots + i * ms) Q (F0 m h ls st) := by
    intro n
    induction n with
    | zero => exact fun i x H locs ls hn hI => step i x H locs ls (by omega) hI (fun _ _ _ _ h => absurd h (by omega))
    | succ n ih => exact fun i x H locs ls hn hI => step i x H locs ls (by omega) hI (fun x' H' locs' ls' _ hI' => ih (i + 1) x' H' locs' ls' (by omega) hI')
  intro x H locs ls hI
  have h9 := key N 0 x H locs ls (by omega) hI
  simpa using h9
end RR
/-- a measure's row, a stall's row -/
def m3 (fB mM mP : Nat → Int32) (i : Nat) : Nat → Int32 := fun j => if j = 0 then fB i else if j = 1 then mM i else mP i
def s2 (fW fD : Nat → Int32) (i : Nat) : Nat → Int32 := fun j => if j = 0 then fW i else if j = 1 then fD i else 0
/-- the addresses of the first rows, as an array holds them -/
def fr (g : Nat → Nat) : Nat → Option Nat := fun i => some (g i)
def upN (g : Nat → Nat) (k v : Nat) : Nat → Nat := fun j => if j = k then v else g j
def RM (cI : ClassId) (ra : Nat → Nat) (fB mM mP : Nat → Int32) (k : Nat) : va_W := (List.range k).map (fun i => (ra i, .inl (cI, 3, .inl (m3 fB mM mP i))))
def RS (cI : ClassId) (rs : Nat → Nat) (fW fD : Nat → Int32) (c : Nat) : va_W := (List.range c).map (fun i => (rs i, .inl (cI, 2, .inl (s2 fW fD i))))
def RT (cI : ClassId) (ra rs : Nat → Nat) (fB mM mP fW fD : Nat → Int32) (k c : Nat) : va_W := RM cI ra fB mM mP k ++ RS cI rs fW fD c
section ROWS
variable {cI : ClassId} {ra rs : Nat → Nat} {fB mM mP fW fD : Nat → Int32} {k c : Nat} {X T : va_W}
theorem RM_len : (RM cI ra fB mM mP k).length = k := by simp [RM]
theorem RS_len : (RS cI rs fW fD c).length = c := by simp [RS]
theorem RM_at {i : Nat} (h : i < k) : (RM cI ra fB mM mP k)[i]? = some (ra i, .inl (cI, 3, .inl (m3 fB mM mP i))) := by simp [RM, h]
theorem RS_at {i : Nat} (h : i < c) : (RS cI rs fW fD c)[i]? = some (rs i, .inl (cI, 2, .inl (s2 fW fD i))) := by simp [RS, h]
theorem RT_m {i : Nat} (h : i < k) : (RT cI ra rs fB mM mP fW fD k c)[i]? = some (ra i, .inl (cI, 3, .inl (m3 fB mM mP i))) := by
  unfold RT
  rw [List.getElem?_append_left (by rw [RM_len]; exact h)]
  exact RM_at h
theorem RT_s {i : Nat} (h : i < c) : (RT cI ra rs fB mM mP fW fD k c)[k + i]? = some (rs i, .inl (cI, 2, .inl (s2 fW fD i))) := by
  unfold RT
  rw [List.getElem?_append_right (by rw [RM_len]; omega), RM_len, Nat.add_sub_cancel_left]
  exact RS_at h
theorem tl_at {n i : Nat} {q : Nat × va_E} (hX : X.length = n) (h : T[i]? = some q) : (X ++ T)[n + i]? = some q := by
  rw [List.getElem?_append_right (by omega), hX, Nat.add_sub_cancel_left]
  exact h
theorem tl_set {n i : Nat} {q : Nat × va_E} (hX : X.length = n) : (X ++ T).set (n + i) q = X ++ T.set i q := by
  rw [List.set_append_right _ _ (by omega), hX, Nat.add_sub_cancel_left]
theorem RS_set {i : Nat} (h : i < c) (gW gD : Nat → Int32) (hw : ∀ j, j ≠ i → gW j = fW j) (hd : ∀ j, j ≠ i → gD j = fD j) : (RS cI rs fW fD c).set i (rs i, .inl (cI, 2, .inl (s2 gW gD i))) = RS cI rs gW gD c := by
  apply List.ext_getElem?
  intro j
  by_cases hj : j = i
  · subst hj
    rw [List.getElem?_set_self (by rw [RS_len]; exact h), RS_at h]
  · rw [List.getElem?_set_ne (Ne.symm hj)]
    by_cases hjc : j < c
    · rw [RS_at hjc, RS_at hjc]
      have e : s2 fW fD j = s2 gW gD j := by unfold s2; rw [hw j hj, hd j hj]
      rw [e]
    · rw [List.getElem?_eq_none (by rw [RS_len]; omega), List.getElem?_eq_none (by rw [RS_len]; omega)]
theorem RT_set {n i : Nat} (hX : X.length = n) (h : i < c) (gW gD : Nat → Int32) {g : Nat → Int32} (hg : g = s2 gW gD i) (hw : ∀ j, j ≠ i → gW j = fW j) (hd : ∀ j, j ≠ i → gD j = fD j) : (X ++ RT cI ra rs fB mM mP fW fD k c).set (n + (k + i)) (rs i, .inl (cI, 2, .inl g)) = X ++ RT cI ra rs fB mM mP gW gD k c := by
  rw [tl_set hX, hg]
  unfold RT
  rw [tl_set RM_len, RS_set h gW gD hw hd]
theorem s2_w (i : Nat) (x : Int32) : upd (s2 fW fD i) 0 x = s2 (upd fW i x) fD i := by
  funext j
  unfold upd s2
  by_cases h : j = 0
  · rw [if_pos h, if_pos h]; exact (if_pos rfl).symm
  · rw [if_neg h, if_neg h, if_neg h]
theorem s2_v (i : Nat) (x : Int32) : upd (s2 fW fD i) 1 x = s2 fW (upd fD i x) i := by
  funext j
  unfold upd s2
  by_cases h : j = 0
  · subst h; rfl
  · rw [if_neg h]
    by_cases h1 : j = 1
    · rw [if_pos h1, if_neg h, if_pos h1]; exact (if_pos rfl).symm
    · rw [if_neg h1, if_neg h, if_neg h1]; exact (if_neg h1).symm
theorem s2_new (x y : Int32) (i : Nat) : upd (upd (fun _ => (0 : Int32)) 0 x) 1 y = s2 (upd fW i x) (upd fD i y) i := by
  funext j
  unfold upd s2
  by_cases h : j = 0
  · subst h; exact (if_pos rfl).symm
  · by_cases h1 : j = 1
    · rw [if_pos h1, if_neg h, if_pos h1]; exact (if_pos rfl).symm
    · rw [if_neg h1, if_neg h, if_neg h, if_neg h1]
/-- rows that agree -/
theorem RM_cg {ra2 : Nat → Nat} {B2 M2 P2 : Nat → Int32} (h : ∀ i, i < k → ra i = ra2 i ∧ fB i = B2 i ∧ mM i = M2 i ∧ mP i = P2 i) : RM cI ra fB mM mP k = RM cI ra2 B2 M2 P2 k := by
  unfold RM
  apply List.map_congr_left
  intro i hi
  obtain ⟨h1, h2, h3, h4⟩ := h i (List.mem_range.mp hi)
  have e : m3 fB mM mP i = m3 B2 M2 P2 i := by unfold m3; rw [h2, h3, h4]
  rw [h1, e]
theorem RS_cg {rs2 : Nat → Nat} {W2 D2 : Nat → Int32} (h : ∀ i, i < c → rs i = rs2 i ∧ fW i = W2 i ∧ fD i = D2 i) : RS cI rs fW fD c = RS cI rs2 W2 D2 c := by
  unfold RS
  apply List.map_congr_left
  intro i hi
  obtain ⟨h1, h2, h3⟩ := h i (List.mem_range.mp hi)
  have e : s2 fW fD i = s2 W2 D2 i := by unfold s2; rw [h2, h3]
  rw [h1, e]
end ROWS
theorem xv_eqQ {cA : ClassId} {n : Nat} {f g : Nat → Option Nat} (h : ∀ j, j < n → f j = g j) : vp_cell cA (n, .inr (.inr (.inr (.inr f)))) = vp_cell cA (n, .inr (.inr (.inr (.inr g)))) := by
  rw [vp_cell_q, vp_cell_q]
  unfold arrV
  congr 2
  funext j
  exact congrArg va_rf (h j.val j.isLt)
theorem va_P.toQ {D : va_G} {cl : List vw_C} {ws : va_W} {H : Heap} {a n : Nat} {cA : ClassId} {f g : Nat → Option Nat} (hP : va_P D cl ws H) (q : Nat) (ha : ws[q]? = some (a, .inl (cA, n, .inr (.inr (.inr (.inr f)))))) (h : ∀ j, j < n → f j = g j) : va_P D cl (ws.set q (a, .inl (cA, n, .inr (.inr (.inr (.inr g)))))) H := by
  have hl := (List.getElem?_eq_some_iff.mp ha).1
  intro k z hk
  by_cases hkq : k = q
  · subst hkq
    rw [List.getElem?_set_self hl] at hk
    cases hk
    have h1 := hP k _ ha
    show H[a]? = some (vp_cell cA (n, .inr (.inr (.inr (.inr g)))))
    rw [← xv_eqQ h]
    exact h1
  · rw [List.getElem?_set_ne (Ne.symm hkq)] at hk
    exact hP k z hk
/-- two new rows, the first and the last part -/
theorem RM_push {cI : ClassId} {ra : Nat → Nat} {fB mM mP : Nat → Int32} {k q : Nat} {b u v : Int32} : RM cI ra fB mM mP k ++ [(q, .inl (cI, 3, .inl (m3 (upd fB k b) (upd mM k u) (upd mP k v) k)))] = RM cI (upN ra k q) (upd fB k b) (upd mM k u) (upd mP k v) (k + 1) := by
  have h1 : RM cI ra fB mM mP k = RM cI (upN ra k q) (upd fB k b) (upd mM k u) (upd mP k v) k := RM_cg (fun i hi => by
    have hne : i ≠ k := by omega
    exact ⟨(if_neg hne).symm, (if_neg hne).symm, (if_neg hne).symm, (if_neg hne).symm⟩)
  rw [h1]
  unfold RM
  rw [List.range_succ, List.map_append]
  congr 1
  show _ = [(upN ra k q k, _)]
  rw [show upN ra k q k = q from if_pos rfl]
theorem RS_push {cI : ClassId} {rs : Nat → Nat} {fW fD : Nat → Int32} {c q : Nat} {x y : Int32} : RS cI rs fW fD c ++ [(q, .inl (cI, 2, .inl (s2 (upd fW c x) (upd fD c y) c)))] = RS cI (upN rs c q) (upd fW c x) (upd fD c y) (c + 1) := by
  have h1 : RS cI rs fW fD c = RS cI (upN rs c q) (upd fW c x) (upd fD c y) c := RS_cg (fun i hi => by
    have hne : i ≠ c := by omega
    exact ⟨(if_neg hne).symm, (if_neg hne).symm, (if_neg hne).symm⟩)
  rw [h1]
  unfold RS
  rw [List.range_succ, List.map_append]
  congr 1
  show _ = [(upN rs c q c, _)]
  rw [show upN rs c q c = q from if_pos rfl]
def mvf (a k z : Nat) : Nat := if z < a then z else if z < a + k then z + 1 else if z = a + k then a else z
theorem mvf_c (a k z : Nat) : (z < a ∧ mvf a k z = z) ∨ (a ≤ z ∧ z < a + k ∧ mvf a k z = z + 1) ∨ (z = a + k ∧ mvf a k z = a) ∨ (a + k < z ∧ mvf a k z = z) := by
  unfold mvf
  by_cases h1 : z < a
  · exact Or.inl ⟨h1, if_pos h1⟩
  · rw [if_neg h1]
    by_cases h2 : z < a + k
    · exact Or.inr (Or.inl ⟨by omega, h2, if_pos h2⟩)
    · rw [if_neg h2]
      by_cases h3 : z = a + k
      · exact Or.inr (Or.inr (Or.inl ⟨h3, if_pos h3⟩))
      · exact Or.inr (Or.inr (Or.inr ⟨by omega, if_neg h3⟩))
theorem mvf_inj {a k i j : Nat} (h : mvf a k i = mvf a k j) : i = j := by
  rcases mvf_c a k i with h1 | h1 | h1 | h1 <;> rcases mvf_c a k j with h2 | h2 | h2 | h2 <;> omega
theorem mv_at {X : va_W} {y0 : Nat × va_E} {cI : ClassId} {ra : Nat → Nat} {fB mM mP : Nat → Int32} {k z : Nat} {S : va_W} {y : Nat × va_E} (hz : (((X ++ RM cI ra fB mM mP k) ++ [y0]) ++ S)[z]? = some y) :
    (((X ++ [y0]) ++ RM cI ra fB mM mP k) ++ S)[mvf X.length k z]? = some y := by
  unfold mvf
  by_cases h1 : z < X.length
  · rw [if_pos h1]
    simp only [List.append_assoc] at hz ⊢
    rw [List.getElem?_append_left h1] at hz ⊢
    exact hz
  · rw [if_neg h1]
    by_cases h2 : z < X.length + k
    · rw [if_pos h2]
      rw [List.getElem?_append_left (by simp [RM_len] <;> omega), List.getElem?_append_left (by simp [RM_len] <;> omega), List.getElem?_append_right (by omega)] at hz
      rw [List.getElem?_append_left (by simp [RM_len] <;> omega), List.getElem?_append_right (by simp <;> omega)]
      rw [List.length_append, List.length_singleton, show z + 1 - (X.length + 1) = z - X.length by omega]
      exact hz
    · rw [if_neg h2]
      by_cases h3 : z = X.length + k
      · rw [if_pos h3]
        subst h3
        rw [List.getElem?_append_left (by simp [RM_len]), List.getElem?_append_right (by simp [RM_len]), List.length_append, RM_len, Nat.sub_self] at hz
        rw [List.getElem?_append_left (by simp), List.getElem?_append_left (by simp), List.getElem?_append_right (Nat.le_refl _), Nat.sub_self]
        exact hz
      · rw [if_neg h3]
        rw [List.getElem?_append_right (by simp [RM_len] <;> omega)] at hz ⊢
        have e : ((X ++ RM cI ra fB mM mP k) ++ [y0]).length = ((X ++ [y0]) ++ RM cI ra fB mM mP k).length := by simp [RM_len] <;> omega
        rw [← e]
        exact hz
/-- a measure's new row, fixed as yet, goes to its place in the tail -/
theorem RT_newM {D : va_G} {cl : List vw_C} {H : Heap} {A : Nat → Prop} {X : va_W} {cI : ClassId} {ra rs : Nat → Nat} {fB mM mP fW fD : Nat → Int32} {k c q : Nat} {b u v : Int32} (hP : va_P D cl ((X ++ [(q, .inl (cI, 3, .inl (m3 (upd fB k b) (upd mM k u) (upd mP k v) k)))]) ++ RT cI ra rs fB mM mP fW fD k c) H) (hD : va_D A ((X ++ [(q, .inl (cI, 3, .inl (m3 (upd fB k b) (upd mM k u) (upd mP k v) k)))]) ++ RT cI ra rs fB mM mP fW fD k c)) :
    va_P D cl (X ++ RT cI (upN ra k q) rs (upd fB k b) (upd mM k u) (upd mP k v) fW fD (k + 1) c) H ∧ va_D A (X ++ RT cI (upN ra k q) rs (upd fB k b) (upd mM k u) (upd mP k v) fW fD (k + 1) c) := by
  unfold RT at hP hD ⊢
  rw [← List.append_assoc] at hP hD ⊢
  rw [← RM_push]
  have hP2 : va_P D cl (((X ++ RM cI ra fB mM mP k) ++ [(q, .inl (cI, 3, .inl (m3 (upd fB k b) (upd mM k u) (upd mP k v) k)))]) ++ RS cI rs fW fD c) H := by
    have h1 := hP.by (ws' := ((X ++ RM cI ra fB mM mP k) ++ [(q, .inl (cI, 3, .inl (m3 (upd fB k b) (upd mM k u) (upd mP k v) k)))]) ++ RS cI rs fW fD c) (mvf X.length k) (fun z y hz => mv_at hz)
    exact h1
  have hD2 : va_D A (((X ++ RM cI ra fB mM mP k) ++ [(q, .inl (cI, 3, .inl (m3 (upd fB k b) (upd mM k u) (upd mP k v) k)))]) ++ RS cI rs fW fD c) := by
    exact hD.by (mvf X.length k) (fun z y hz => mv_at hz) (fun i j _ _ h => mvf_inj h)
  rw [List.append_assoc X] at hP2 hD2
  exact ⟨hP2, hD2⟩
theorem RT_newS {D : va_G} {cl : List vw_C} {H : Heap} {A : Nat → Prop} {X : va_W} {cI : ClassId} {ra rs : Nat → Nat} {fB mM mP fW fD : Nat → Int32} {k c q : Nat} {x y : Int32} (hP : va_P D cl ((X ++ [(q, .inl (cI, 2, .inl (s2 (upd fW c x) (upd fD c y) c)))]) ++ RT cI ra rs fB mM mP fW fD k c) H) (hD : va_D A ((X ++ [(q, .inl (cI, 2, .inl (s2 (upd fW c x) (upd fD c y) c)))]) ++ RT cI ra rs fB mM mP fW fD k c)) :
    va_P D cl (X ++ RT cI ra (upN rs c q) fB mM mP (upd fW c x) (upd fD c y) k (c + 1)) H ∧ va_D A (X ++ RT cI ra (upN rs c q) fB mM mP (upd fW c x) (upd fD c y) k (c + 1)) := by
  have hP1 := hP.swap
  have hD1 := hD.swap
  have e : (X ++ RT cI ra rs fB mM mP fW fD k c) ++ [(q, .inl (cI, 2, .inl (s2 (upd fW c x) (upd fD c y) c)))] = X ++ RT cI ra (upN rs c q) fB mM mP (upd fW c x) (upd fD c y) k (c + 1) := by
    unfold RT
    rw [← RS_push]
    simp only [List.append_assoc]
  rw [e] at hP1 hD1
  exact ⟨hP1, hD1⟩
