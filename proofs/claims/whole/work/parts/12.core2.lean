/-! CORE 2 -/
def rod (post : UInt64 → Prop) : Array Value → State → Outcome → State → Prop := fun _ st oc t => ∃ r : UInt64, oc = .returned (some (.double r)) ∧ post r ∧ t.heap = st.heap
def KI (D : va_G) (cI cJ : ClassId) : State → Heap → Prop := fun U _ => va_K D vwCl [(cI, .int), (cJ, .long)] U ∧ Nw U
theorem KI_ok {D : va_G} {cI cJ : ClassId} : KOk (KI D cI cJ) := ⟨fun a U g mk q => ⟨va_K.moved (u := U) (U := U.calling g mk a) (Vm.Alike.refl U.vm) q.1, q.2.same rfl⟩, fun s U H hW q => ⟨va_K.moved hW.alike q.1, q.2.warm hW⟩⟩
theorem newX0_ok : ∀ j, j < 5 → defaultValue (tyX0 j) = vp_V [.null, .null, .int 0, .int 0, .int 0] j := fun j hj => by rcases (show j = 0 ∨ j = 1 ∨ j = 2 ∨ j = 3 ∨ j = 4 by omega) with rfl | rfl | rfl | rfl | rfl <;> rfl
section CORE2
variable {p : Program} {l : Launch} {e : Env} {R : Room} {s : State} {m : MethodId} {args : Array Value} {below : List Frame} {meth : Method} {c : Code} {H : Heap} {locs : List Loc} {cells slots : Nat} {Q : State → Prop}
variable {pc : Nat} {ls : Array Slot} {rest st0 : List Value} {a : Array Value} {D : va_G} {ws : va_W} {cc : ByteArray} {A : Nat → Prop} {tys : List (ClassId × FieldType)} {H0 : Heap} {cl : List vw_C}
theorem ro_d {post : UInt64 → Prop} (hr : va_Run p l e R s m args below meth c H locs cells slots 0 0 (F0 m pc ls st0) rest (rod post a) (fun _ => False))
    (kk : ∀ r : UInt64, post r → W p l e R s m args below meth c H locs cells slots Q (F0 m (pc + 3) ls (.double r :: rest))) : W p l e R s m args below meth c H locs cells slots Q (F0 m pc ls st0) := by
  intro T hT X
  obtain ⟨v, st₀, t, T', L, h0, X', hL, e1, e2, ⟨r, hv, hp, hh⟩, st⟩ := hr T hT X
  cases hv
  obtain ⟨t2, a1, b1⟩ := kk r hp T' (by rw [e1, hh, h0]) (Stand.forget X' (fun q h => (hL q h).elim))
  exact ⟨t2, st t2 a1, b1⟩
theorem xa_newaI (hexec : p.tables.exec = Jvm.exec) (hb : c.code = cc) (harr : (Cond.arrayClass .int).before args s = true) (hK : va_K D cl tys s) (t0 : Nat) {cA : ClassId} (ht : tys[t0]? = some (cA, .int)) (hP : va_P D cl ws H) (hD : va_D A ws) (hS : va_S A H0 H locs) (hA : ∀ q, H0.size ≤ q → A q)
    {n : Int32} {N : Nat} (hn : ¬ n < 0) (hN : n.toNatClampNeg = N) (hbytes : N * 4 ≤ 536870912) (hcells : cells + 1 ≤ R.cells) (hslots : slots + N ≤ R.slots) (hdg : decode cc pc = .ok (.newarray .int, 2))
    (kk : ∀ (q : Nat) (H1 : Heap), va_P D cl (ws ++ [(q, .inl (cA, N, .inl (fun _ => (0 : Int32))))]) H1 → va_D A (ws ++ [(q, .inl (cA, N, .inl (fun _ => (0 : Int32))))]) → va_S A H0 H1 locs →
      W p l e R s m args below meth c H1 locs (cells + 1) (slots + N) Q (F0 m (pc + 2) ls (.ref q :: rest))) : W p l e R s m args below meth c H locs cells slots Q (F0 m pc ls (.int n :: rest)) := by
  refine va_newa (ty := .int) (atype := .int) (a0 := (N, .inl (fun _ => 0))) hexec hb harr rfl hK hP hD hS hA (fun cA => rfl) hn hN hbytes hcells hslots hdg (fun q cA' H1 hK' hP' hD' hS' => ?_)
  have e1 : s.vm.findClass ("[" ++ FieldType.int.toString) = some cA := (hK.2 t0 _ ht).2
  have e2 : s.vm.findClass ("[" ++ FieldType.int.toString) = some cA' := (hK'.2 tys.length (cA', .int) (by rw [List.getElem?_append_right (Nat.le_refl _), Nat.sub_self]; rfl)).2
  cases Option.some.inj (e1.symm.trans e2)
  exact kk q H1 hP' hD' hS'
theorem xa_newaJ (hexec : p.tables.exec = Jvm.exec) (hb : c.code = cc) (harr : (Cond.arrayClass .long).before args s = true) (hK : va_K D cl tys s) (t0 : Nat) {cA : ClassId} (ht : tys[t0]? = some (cA, .long)) (hP : va_P D cl ws H) (hD : va_D A ws) (hS : va_S A H0 H locs) (hA : ∀ q, H0.size ≤ q → A q)
    {n : Int32} {N : Nat} (hn : ¬ n < 0) (hN : n.toNatClampNeg = N) (hbytes : N * 8 ≤ 536870912) (hcells : cells + 1 ≤ R.cells) (hslots : slots + N ≤ R.slots) (hdg : decode cc pc = .ok (.newarray .long, 2))
    (kk : ∀ (q : Nat) (H1 : Heap), va_P D cl (ws ++ [(q, .inl (cA, N, .inr (.inl (fun _ => (0 : Int64)))))]) H1 → va_D A (ws ++ [(q, .inl (cA, N, .inr (.inl (fun _ => (0 : Int64)))))]) → va_S A H0 H1 locs →
      W p l e R s m args below meth c H1 locs (cells + 1) (slots + N) Q (F0 m (pc + 2) ls (.ref q :: rest))) : W p l e R s m args below meth c H locs cells slots Q (F0 m pc ls (.int n :: rest)) := by
  refine va_newa (ty := .long) (atype := .long) (a0 := (N, .inr (.inl (fun _ => 0)))) hexec hb harr rfl hK hP hD hS hA (fun cA => rfl) hn hN hbytes hcells hslots hdg (fun q cA' H1 hK' hP' hD' hS' => ?_)
  have e1 : s.vm.findClass ("[" ++ FieldType.long.toString) = some cA := (hK.2 t0 _ ht).2
  have e2 : s.vm.findClass ("[" ++ FieldType.long.toString) = some cA' := (hK'.2 tys.length (cA', .long) (by rw [List.getElem?_append_right (Nat.le_refl _), Nat.sub_self]; rfl)).2
  cases Option.some.inj (e1.symm.trans e2)
  exact kk q H1 hP' hD' hS'
end CORE2
/-- the sum of the first drifts; their mean -/
def smD (fD : Nat → Int32) : Nat → Int32
  | 0 => 0
  | i + 1 => smD fD i + fD i
noncomputable def mnD (c : Nat) (fD : Nat → Int32) : UInt64 := ic (c = 0) FP.dconst0 (FP.ddiv (FP.i2d (smD fD c)) (FP.i2d (nI c)))
set_option maxRecDepth 100000 in
theorem vf_chk : (List.range 3601).all (fun i => (List.range 6).all (fun j => decide (FP.ddiv (FP.i2d (Int32.ofInt ((i : Int) - 1800))) (FP.i2d (nI (j + 1))) &&& 0x7fffffffffffffff ≤ 0x7ff0000000000000))) = true := by decide +kernel
theorem vf_mean {x : Int32} {c : Nat} (h1 : -1800 ≤ x.toInt) (h2 : x.toInt ≤ 1800) (hc0 : ¬ c = 0) (hc : c ≤ 6) : vf_n64 (FP.ddiv (FP.i2d x) (FP.i2d (nI c))) := by
  have h3 := List.all_eq_true.mp vf_chk (x.toInt + 1800).toNat (List.mem_range.mpr (by omega))
  have h4 := List.all_eq_true.mp h3 (c - 1) (List.mem_range.mpr (by omega))
  have e : Int32.ofInt (((x.toInt + 1800).toNat : Int) - 1800) = x := by
    rw [show ((x.toInt + 1800).toNat : Int) - 1800 = x.toInt by omega]; exact fb_asI x
  rw [e, show c - 1 + 1 = c by omega] at h4
  have h5 := of_decide_eq_true h4
  exact h5
theorem smD_b {fD : Nat → Int32} {c : Nat} (hc : c ≤ 6) (h : ∀ j, j < c → -300 ≤ (fD j).toInt ∧ (fD j).toInt ≤ 300) : -1800 ≤ (smD fD c).toInt ∧ (smD fD c).toInt ≤ 1800 := by
  have key : ∀ i, i ≤ c → -(300 * (i : Int)) ≤ (smD fD i).toInt ∧ (smD fD i).toInt ≤ 300 * (i : Int) := by
    intro i
    induction i with
    | zero =>
      intro _
      show -(300 * ((0 : Nat) : Int)) ≤ (0 : Int32).toInt ∧ (0 : Int32).toInt ≤ 300 * ((0 : Nat) : Int)
      rw [t_0]
      omega
    | succ i ih =>
      intro hi
      have h1 := ih (by omega)
      have h2 := h i (by omega)
      have e : (smD fD i + fD i).toInt = (smD fD i).toInt + (fD i).toInt := fb_addI (by omega) (by omega)
      show -(300 * ((i + 1 : Nat) : Int)) ≤ (smD fD i + fD i).toInt ∧ (smD fD i + fD i).toInt ≤ 300 * ((i + 1 : Nat) : Int)
      rw [e]
      omega
  have := key c (Nat.le_refl c)
  omega
