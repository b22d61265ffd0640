/-! CORE: contexts, contracts that only read, contracts that write, calls of them -/
noncomputable def bz (P : Prop) : Int32 := @ite _ P (Classical.propDecidable P) 1 0
theorem bz_t {P : Prop} (h : P) : bz P = 1 := by unfold bz; exact if_pos h
theorem bz_f {P : Prop} (h : ¬ P) : bz P = 0 := by unfold bz; exact if_neg h
theorem bz_0 {P : Prop} : bz P = 0 → ¬ P := fun h p => by rw [bz_t p] at h; exact absurd h (by decide)
theorem bz_1 {P : Prop} : ¬ bz P = 0 → P := fun h => Classical.byContradiction fun n => h (bz_f n)
theorem bz_nar (P : Prop) : narrow .boolean (.int (bz P)) = .int (bz P) := by
  by_cases h : P
  · rw [bz_t h]; decide
  · rw [bz_f h]; decide
/-- a Prop by cases, as a number or another thing -/
noncomputable def ic {α : Type} (P : Prop) (x y : α) : α := @ite _ P (Classical.propDecidable P) x y
theorem ic_t {α : Type} {P : Prop} {x y : α} (h : P) : ic P x y = x := by unfold ic; exact if_pos h
theorem ic_f {α : Type} {P : Prop} {x y : α} (h : ¬ P) : ic P x y = y := by unfold ic; exact if_neg h
def inM (k : Nat) (x : Int32) : Prop := 0 ≤ x.toInt ∧ x.toInt < k
theorem inM_of {k : Nat} {x : Int32} (h : inM k x) (hk : k < 2 ^ 31) : ∃ j : Nat, j < k ∧ x = nI j := vp_in_of (vp_in_iff.mpr h) hk
theorem inM_nI {k j : Nat} (h : j < k) (hk : k < 2 ^ 31) : inM k (nI j) := vp_in_iff.mp (vp_in_nI h hk)
theorem t_0 : (0 : Int32).toInt = 0 := by decide
theorem nI_inc (i : Nat) : nI i + Int32.ofInt 1 = nI (i + 1) := nI_1 i
theorem nI_dec (i : Nat) : nI (i + 1) + Int32.ofInt (-1) = nI i := pk_m1 i
theorem fb_rng (x : Int32) : -2147483648 ≤ x.toInt ∧ x.toInt < 2147483648 := by
  have h1 := Int32.le_toInt x
  have h2 := Int32.toInt_lt x
  omega
theorem fb_bmod {z : Int} (h1 : -2147483648 ≤ z) (h2 : z < 2147483648) : z.bmod (2 ^ 32) = z := by
  rw [Int.bmod_eq_of_le (by omega) (by omega)]
theorem fb_addI {x y : Int32} (h1 : -2147483648 ≤ x.toInt + y.toInt) (h2 : x.toInt + y.toInt < 2147483648) : (x + y).toInt = x.toInt + y.toInt := by
  rw [Int32.toInt_add, fb_bmod h1 h2]
theorem fb_subI {x y : Int32} (h1 : -2147483648 ≤ x.toInt - y.toInt) (h2 : x.toInt - y.toInt < 2147483648) : (x - y).toInt = x.toInt - y.toInt := by
  rw [Int32.toInt_sub, fb_bmod h1 h2]
theorem fb_mulI {x y : Int32} (h1 : -2147483648 ≤ x.toInt * y.toInt) (h2 : x.toInt * y.toInt < 2147483648) : (x * y).toInt = x.toInt * y.toInt := by
  rw [Int32.toInt_mul, fb_bmod h1 h2]
theorem fb_negI {x : Int32} (h : x.toInt ≠ -2147483648) : (-x).toInt = -x.toInt := by
  have := fb_rng x
  rw [Int32.toInt_neg, fb_bmod (by omega) (by omega)]
theorem fb_ofI {z : Int} (h1 : -2147483648 ≤ z) (h2 : z < 2147483648) : (Int32.ofInt z).toInt = z := by
  rw [Int32.toInt_ofInt, fb_bmod h1 h2]
theorem fb_asI (x : Int32) : Int32.ofInt x.toInt = x := Int32.ofInt_toInt x
theorem fb_rngL (x : Int64) : -9223372036854775808 ≤ x.toInt ∧ x.toInt < 9223372036854775808 := by
  have h1 := Int64.le_toInt x
  have h2 := Int64.toInt_lt x
  omega
theorem fb_bmodL {z : Int} (h1 : -9223372036854775808 ≤ z) (h2 : z < 9223372036854775808) : z.bmod (2 ^ 64) = z := by
  rw [Int.bmod_eq_of_le (by omega) (by omega)]
theorem fb_addL {x y : Int64} (h1 : -9223372036854775808 ≤ x.toInt + y.toInt) (h2 : x.toInt + y.toInt < 9223372036854775808) : (x + y).toInt = x.toInt + y.toInt := by
  rw [Int64.toInt_add, fb_bmodL h1 h2]
theorem fb_subL {x y : Int64} (h1 : -9223372036854775808 ≤ x.toInt - y.toInt) (h2 : x.toInt - y.toInt < 9223372036854775808) : (x - y).toInt = x.toInt - y.toInt := by
  rw [Int64.toInt_sub, fb_bmodL h1 h2]
theorem fb_mulL {x y : Int64} (h1 : -9223372036854775808 ≤ x.toInt * y.toInt) (h2 : x.toInt * y.toInt < 9223372036854775808) : (x * y).toInt = x.toInt * y.toInt := by
  rw [Int64.toInt_mul, fb_bmodL h1 h2]
theorem nI_subI {a : Nat} {b : Int32} (ha : a < 2 ^ 30) (h1 : -1000000 ≤ b.toInt) (h2 : b.toInt ≤ 1000000) : (nI a - b).toInt = (a : Int) - b.toInt := by
  have e := nI_toInt (n := a) (by omega)
  rw [fb_subI (by omega) (by omega), e]
theorem lgc_all (x y : Int64) : (lg_cmp x y).toInt = if y.toInt < x.toInt then 1 else if x.toInt = y.toInt then 0 else -1 := by
  unfold lg_cmp
  simp only [gt_iff_lt, Int64.lt_iff_toInt_lt, ← Int64.toInt_inj]
  split
  · rfl
  · split <;> rfl
theorem lgc_lt (x y : Int64) : lg_cmp x y < 0 ↔ x.toInt < y.toInt := by
  rw [Int32.lt_iff_toInt_lt, lgc_all, t_0]
  split
  · omega
  · split <;> omega
theorem lgc_ge (x y : Int64) : 0 ≤ lg_cmp x y ↔ y.toInt ≤ x.toInt := by
  rw [Int32.le_iff_toInt_le, lgc_all, t_0]
  split
  · omega
  · split <;> omega
theorem lgc_gt (x y : Int64) : 0 < lg_cmp x y ↔ y.toInt < x.toInt := by
  rw [Int32.lt_iff_toInt_lt, lgc_all, t_0]
  split
  · omega
  · split <;> omega
theorem lgc_le (x y : Int64) : lg_cmp x y ≤ 0 ↔ x.toInt ≤ y.toInt := by
  rw [Int32.le_iff_toInt_le, lgc_all, t_0]
  split
  · omega
  · split <;> omega
theorem lgc_eq (x y : Int64) : lg_cmp x y = 0 ↔ x.toInt = y.toInt := by
  rw [← Int32.toInt_inj, lgc_all, t_0]
  split
  · omega
  · split <;> omega
theorem lgc_ne (x y : Int64) : lg_cmp x y ≠ 0 ↔ x.toInt ≠ y.toInt := not_congr (lgc_eq x y)
/-- the words of the nests -/
def Nw (U : State) : Prop :=
  va_Nw (.fieldLinkNest RX1 69 "OldMeasures$Stalls" "count" "I" RX1) U ∧
  va_Nw (.fieldLinkNest RX1 74 "OldMeasures$Stalls" "wears" "[I" RX1) U ∧
  va_Nw (.fieldLinkNest RX1 77 "OldMeasures$Stalls" "drifts" "[I" RX1) U ∧
  va_Nw (.fieldLinkNest RX1 85 "OldMeasures$Stalls" "tolerance" "I" RX1) U ∧
  va_Nw (.fieldLinkNest RX1 98 "OldMeasures$Stalls" "day" "I" RX1) U ∧
  va_Nw (.methodLinkNest RX1 25 yX0_init RX1) U ∧
  va_Nw (.methodLinkNest RX1 91 yX0_coinsPaidIn RX1) U ∧
  va_Nw (.methodLinkNest RX1 118 yX0_isTolerated RX1) U ∧
  va_Nw (.methodLinkNest RL 63 yX2_init RL) U
theorem Nw.warm {s U : State} (hW : s.WarmedH U.vm) (h : Nw s) : Nw U := by
  obtain ⟨h1, h2, h3, h4, h5, h6, h7, h8, h9⟩ := h
  exact ⟨h1.warmF hW, h2.warmF hW, h3.warmF hW, h4.warmF hW, h5.warmF hW, h6.warmM hW, h7.warmM hW, h8.warmM hW, h9.warmM hW⟩
theorem Nw.same {s U : State} (hv : s.vm = U.vm) (h : Nw s) : Nw U := by
  obtain ⟨h1, h2, h3, h4, h5, h6, h7, h8, h9⟩ := h
  exact ⟨h1.same rfl hv, h2.same rfl hv, h3.same rfl hv, h4.same rfl hv, h5.same rfl hv, h6.same rfl hv, h7.same rfl hv, h8.same rfl hv, h9.same rfl hv⟩
/-- arrays over int[] stand in the tables -/
def AO (U : State) : Prop := (Cond.arrayOver (.array .int)).before #[] U = true
theorem AO.moved {u U : State} (hvm : u.vm.Alike U.vm) (h : AO u) : AO U := by
  obtain ⟨comp, c, k, h1, h2, h3, h4, h5⟩ := arrayOverA_spec h
  obtain ⟨k', hk', he⟩ := hvm.2.2 _ _ h3
  have hi : (U.vm.classes.findIdx? fun (x : Class) => match x.kind with | .array component _ => component == comp | _ => false) = some c := by
    rw [hvm.findIdx?_eq _ (fun _ => rfl)]
    exact h2
  have hkind : k'.kind = .array comp (.array .int) := by rw [he]; exact h4
  have f1 : U.vm.findClass (FieldType.array .int).toString = some comp := by rw [hvm.findClass]; exact h1
  have f2 : U.vm.findClass ("[" ++ (FieldType.array .int).toString) = some c := by rw [hvm.findClass]; exact h5
  unfold AO Cond.before Cond.holds
  simp only [Cond.value]
  rw [f1, Option.bind_some]
  refine (congrArg (fun o : Option Nat => (o.bind (fun c => (U.vm.classes[c]?).map fun (k : Class) => match k.kind with | .array _ ty => decide (ty = FieldType.array .int) && decide (U.vm.findClass ("[" ++ (FieldType.array .int).toString) = some c) | _ => false) == some true)) hi).trans ?_
  simp [hk', hkind, f2]
abbrev tyL (cI cJ cR : ClassId) : List (ClassId × FieldType) := [(cI, .int), (cJ, .long), (cR, .array .int)]
def KM (D : va_G) (cI cJ cR : ClassId) : State → Heap → Prop := fun U _ => va_K D vwCl (tyL cI cJ cR) U
def KC (D : va_G) (cI cJ cR : ClassId) : State → Heap → Prop := fun U _ => va_K D vwCl (tyL cI cJ cR) U ∧ AO U ∧ Nw U
def K0 : State → Heap → Prop := fun _ _ => True
def KOk (K : State → Heap → Prop) : Prop := (∀ (a : Array Value) (U : State) (g : JFrame) (mk : MethodId), K U U.heap → K (U.calling g mk a) U.heap) ∧ ∀ (s U : State) (H : Heap), s.WarmedH U.vm → K s H → K U H
theorem K0_ok : KOk K0 := ⟨fun _ _ _ _ _ => trivial, fun _ _ _ _ _ => trivial⟩
theorem KM_ok {D : va_G} {cI cJ cR : ClassId} : KOk (KM D cI cJ cR) := ⟨fun a U g mk q => va_K.moved (u := U) (U := U.calling g mk a) (Vm.Alike.refl U.vm) q, fun s U H hW q => va_K.moved hW.alike q⟩
theorem KC_ok {D : va_G} {cI cJ cR : ClassId} : KOk (KC D cI cJ cR) := ⟨fun b U g mk q => ⟨va_K.moved (u := U) (U := U.calling g mk b) (Vm.Alike.refl U.vm) q.1, q.2.1.moved (U := U.calling g mk b) (Vm.Alike.refl U.vm), q.2.2.same rfl⟩, fun s U H hW q => ⟨va_K.moved hW.alike q.1, q.2.1.moved hW.alike, q.2.2.warm hW⟩⟩
/-- starts: a contract that only reads; one that writes -/
def cP (D : va_G) (ws : va_W) (K : State → Heap → Prop) (av : List Value) : Array Value → State → Prop := va_Pc av (fun U => va_P D vwCl ws U.heap ∧ K U U.heap)
def cPw (D : va_G) (ws : va_W) (sz : Nat) (K : State → Heap → Prop) (av : List Value) : Array Value → State → Prop := va_Pc av (fun U => U.heap.size = sz ∧ va_P D vwCl ws U.heap ∧ va_D (fun _ => True) ws ∧ K U U.heap)
/-- ends -/
def roi (post : Int32 → Prop) : Array Value → State → Outcome → State → Prop := fun _ st oc t => ∃ r : Int32, oc = .returned (some (.int r)) ∧ post r ∧ t.heap = st.heap
def rol (post : Int64 → Prop) : Array Value → State → Outcome → State → Prop := fun _ st oc t => ∃ r : Int64, oc = .returned (some (.long r)) ∧ post r ∧ t.heap = st.heap
def rov (post : Prop) : Array Value → State → Outcome → State → Prop := fun _ st oc t => oc = .returned none ∧ post ∧ t.heap = st.heap
def wB (D : va_G) (ws : va_W) (sz : Nat) : va_W → State → Prop := fun ws' t => va_P D vwCl ws' t.heap ∧ va_D (va_A ws sz) ws'
def wri (D : va_G) (ws : va_W) (sz : Nat) (post : Int32 → va_W → Prop) : Array Value → State → Outcome → State → Prop := va_Qi post (wB D ws sz) (va_A ws sz)
def wrl (D : va_G) (ws : va_W) (sz : Nat) (post : Int64 → va_W → Prop) : Array Value → State → Outcome → State → Prop := va_Ql post (wB D ws sz) (va_A ws sz)
def wrv (D : va_G) (ws : va_W) (sz : Nat) (post : va_W → Prop) : Array Value → State → Outcome → State → Prop := va_Qv post (wB D ws sz) (va_A ws sz)
/-- .. an answer that is a reference -/
def wrr (D : va_G) (ws : va_W) (sz : Nat) (post : Nat → va_W → Prop) : Array Value → State → Outcome → State → Prop := va_Qr (fun _ : va_W => True) (fun ws' a t => post a ws' ∧ wB D ws sz ws' t) (va_A ws sz)
def rod (post : UInt64 → Prop) : Array Value → State → Outcome → State → Prop := fun _ st oc t => ∃ r : UInt64, oc = .returned (some (.double r)) ∧ post r ∧ t.heap = st.heap
/-- a method of a class some of whose other methods have rows of their own (Math) -/
theorem MetF_ofW {l : Launch} {y : MethodName} {ws ws' : List Cond} {rm : Room} {Pc : Array Value → State → Prop} {Qc : Array Value → State → Outcome → State → Prop} {mc ms : Nat} {free : Addr → Prop} {cc : ByteArray} {maxL : Nat} {ret : Option FieldType}
    (hy : plainFor y = true) (hw : ws = Cond.code y cc maxL ret :: ws')
    (body : ∀ p e s m args below meth c s₁, BodyLoose p l y (headSpec ws rm) cc maxL ret e s m args below meth c s₁ → c.maxLocals = maxL → Pc args s →
      W p l e (headSpec ws rm).room s m args below meth c s.heap [] 0 0 (MQ below Qc args s mc ms free) (entryFrame m args maxL)) : Met l y ws rm Pc Qc mc ms free := by
  refine MetFree.of_bodySF (code := cc) (maxLocals := maxL) (ret := ret) hy ?_ ?_
  · intro args s m h hn
    obtain ⟨meth, c, h1, h2, h3, h4, h5, h6, -, -⟩ := Cond.code_spec hn (atoms_spec (ws := ws) h _ (by rw [hw]; exact List.mem_cons_self))
    exact ⟨meth, c, h1, h2, h3, h4, h5, h6⟩
  · intro p e s m args below meth c s₁ B hml hP _
    have hh0 : s₁.heap = s.heap := by rw [B.state]; rfl
    obtain ⟨t, a1, o, b1, b2, b3⟩ := body p e s m args below meth c s₁ B hml hP s₁ hh0 (Stand.of_body B)
    exact ⟨t, o, a1, b1, b2, ⟨b3.1, b3.2⟩⟩
section CORE
variable {p : Program} {l : Launch} {e : Env} {R : Room} {s : State} {m : MethodId} {args : Array Value} {below : List Frame} {meth : Method} {c : Code} {H : Heap} {locs : List Loc} {cells slots : Nat} {Q : State → Prop}
variable {pc : Nat} {ls : Array Slot} {rest st0 : List Value} {a : Array Value} {mc ms : Nat} {D : va_G} {K : State → Heap → Prop} {av : List Value} {ws wc : va_W}
theorem pre0 : PreS s H (va_Pc av (fun _ => True)) av := ⟨fun _ _ _ _ q => q, fun _ _ _ => ⟨rfl, trivial⟩⟩
theorem preS_ro (hk : KOk K) (hP : va_P D vwCl wc H) (hK : K s H) : PreS s H (cP D wc K av) av :=
  ⟨fun a U g mk q => ⟨q.1, q.2.1, hk.1 a U g mk q.2.2⟩, fun U hU hW => ⟨rfl, by rw [hU]; exact hP, by rw [hU]; exact hk.2 s U H hW hK⟩⟩
theorem preV_ro {C : String} {b : Addr} (hk : KOk K) (hP : va_P D vwCl wc H) (hK : K s H) (hr : ∃ cell : Cell, H[b]? = some cell ∧ cell.vm.isStatics = false ∧ s.vm.findClass C = some cell.cls) : PreV s H C b (cP D wc K (.ref b :: av)) av :=
  ⟨fun a U g mk q => ⟨q.1, q.2.1, hk.1 a U g mk q.2.2⟩, hr, fun U hU hW => ⟨rfl, by rw [hU]; exact hP, by rw [hU]; exact hk.2 s U H hW hK⟩⟩
theorem preV_wr {C : String} {b : Addr} {A : Nat → Prop} (hk : KOk K) (hP : va_P D vwCl wc H) (hD : va_D A wc) (hK : K s H) (hr : ∃ cell : Cell, H[b]? = some cell ∧ cell.vm.isStatics = false ∧ s.vm.findClass C = some cell.cls) : PreV s H C b (cPw D wc H.size K (.ref b :: av)) av :=
  ⟨fun a U g mk q => ⟨q.1, q.2.1, q.2.2.1, q.2.2.2.1, hk.1 a U g mk q.2.2.2.2⟩, hr, fun U hU hW => ⟨rfl, by rw [hU], by rw [hU]; exact hP, hD.weaken (fun _ _ _ _ => trivial), by rw [hU]; exact hk.2 s U H hW hK⟩⟩
theorem preS_wr {A : Nat → Prop} (hk : KOk K) (hP : va_P D vwCl wc H) (hD : va_D A wc) (hK : K s H) : PreS s H (cPw D wc H.size K av) av :=
  ⟨fun a U g mk q => ⟨q.1, q.2.1, q.2.2.1, q.2.2.2.1, hk.1 a U g mk q.2.2.2.2⟩, fun U hU hW => ⟨rfl, by rw [hU], by rw [hU]; exact hP, hD.weaken (fun _ _ _ _ => trivial), by rw [hU]; exact hk.2 s U H hW hK⟩⟩
theorem ro_i {post : Int32 → Prop} (hr : va_Run p l e R s m args below meth c H locs cells slots 0 0 (F0 m pc ls st0) rest (roi post a) (fun _ => False))
    (kk : ∀ r : Int32, post r → W p l e R s m args below meth c H locs cells slots Q (F0 m (pc + 3) ls (.int r :: rest))) : W p l e R s m args below meth c H locs cells slots Q (F0 m pc ls st0) := by
  intro T hT X
  obtain ⟨v, st₀, t, T', L, h0, X', hL, e1, e2, ⟨r, hv, hp, hh⟩, st⟩ := hr T hT X
  cases hv
  obtain ⟨t2, a1, b1⟩ := kk r hp T' (by rw [e1, hh, h0]) (Stand.forget X' (fun q h => (hL q h).elim))
  exact ⟨t2, st t2 a1, b1⟩
theorem ro_l {post : Int64 → Prop} (hr : va_Run p l e R s m args below meth c H locs cells slots 0 0 (F0 m pc ls st0) rest (rol post a) (fun _ => False))
    (kk : ∀ r : Int64, post r → W p l e R s m args below meth c H locs cells slots Q (F0 m (pc + 3) ls (.long r :: rest))) : W p l e R s m args below meth c H locs cells slots Q (F0 m pc ls st0) := by
  intro T hT X
  obtain ⟨v, st₀, t, T', L, h0, X', hL, e1, e2, ⟨r, hv, hp, hh⟩, st⟩ := hr T hT X
  cases hv
  obtain ⟨t2, a1, b1⟩ := kk r hp T' (by rw [e1, hh, h0]) (Stand.forget X' (fun q h => (hL q h).elim))
  exact ⟨t2, st t2 a1, b1⟩
theorem ro_iE {x : Int32} (hr : va_Run p l e R s m args below meth c H locs cells slots 0 0 (F0 m pc ls st0) rest (roi (fun r => r = x) a) (fun _ => False))
    (kk : W p l e R s m args below meth c H locs cells slots Q (F0 m (pc + 3) ls (.int x :: rest))) : W p l e R s m args below meth c H locs cells slots Q (F0 m pc ls st0) := ro_i hr (fun _ h => h ▸ kk)
theorem ro_lE {x : Int64} (hr : va_Run p l e R s m args below meth c H locs cells slots 0 0 (F0 m pc ls st0) rest (rol (fun r => r = x) a) (fun _ => False))
    (kk : W p l e R s m args below meth c H locs cells slots Q (F0 m (pc + 3) ls (.long x :: rest))) : W p l e R s m args below meth c H locs cells slots Q (F0 m pc ls st0) := ro_l hr (fun _ h => h ▸ kk)
theorem ro_v {post : Prop} (hr : va_Run p l e R s m args below meth c H locs cells slots 0 0 (F0 m pc ls st0) rest (rov post a) (fun _ => False))
    (kk : post → W p l e R s m args below meth c H locs cells slots Q (F0 m (pc + 3) ls rest)) : W p l e R s m args below meth c H locs cells slots Q (F0 m pc ls st0) := by
  intro T hT X
  obtain ⟨v, st₀, t, T', L, h0, X', hL, e1, e2, ⟨hv, hp, hh⟩, st⟩ := hr T hT X
  cases hv
  obtain ⟨t2, a1, b1⟩ := kk hp T' (by rw [e1, hh, h0]) (Stand.forget X' (fun q h => (hL q h).elim))
  exact ⟨t2, st t2 a1, b1⟩
/-- a counting loop over a changing heap -/
theorem loopW {σ : Type} {h : Nat} {st : List Value} (I : Nat → σ → Heap → List Loc → Array Slot → Prop) (N : Nat)
    (step : ∀ (i : Nat) (x : σ) (H : Heap) (locs : List Loc) (ls : Array Slot), i ≤ N → I i x H locs ls → (∀ (x' : σ) (H' : Heap) (locs' : List Loc) (ls' : Array Slot), i < N → I (i + 1) x' H' locs' ls' → W p l e R s m args below meth c H' locs' cells slots Q (F0 m h ls' st)) → W p l e R s m args below meth c H locs cells slots Q (F0 m h ls st)) :
    ∀ (i : Nat) (x : σ) (H : Heap) (locs : List Loc) (ls : Array Slot), i ≤ N → I i x H locs ls → W p l e R s m args below meth c H locs cells slots Q (F0 m h ls st) := by
  have key : ∀ (n i : Nat) (x : σ) (H : Heap) (locs : List Loc) (ls : Array Slot), i + n = N → I i x H locs ls → W p l e R s m args below meth c H locs cells slots Q (F0 m h ls st) := by
    intro n
    induction n with
    | zero => exact fun i x H locs ls hn hI => step i x H locs ls (by omega) hI (fun _ _ _ _ h => absurd h (by omega))
    | succ n ih => exact fun i x H locs ls hn hI => step i x H locs ls (by omega) hI (fun x' H' locs' ls' _ hI' => ih (i + 1) x' H' locs' ls' (by omega) hI')
  exact fun i x H locs ls hi hI => key (N - i) i x H locs ls (by omega) hI
/-- .. over a heap that stays -/
theorem loopR {σ : Type} {h : Nat} {st : List Value} (I : Nat → σ → Array Slot → Prop) (N : Nat)
    (step : ∀ (i : Nat) (x : σ) (ls : Array Slot), i ≤ N → I i x ls → (∀ (x' : σ) (ls' : Array Slot), i < N → I (i + 1) x' ls' → W p l e R s m args below meth c H locs cells slots Q (F0 m h ls' st)) → W p l e R s m args below meth c H locs cells slots Q (F0 m h ls st)) :
    ∀ (i : Nat) (x : σ) (ls : Array Slot), i ≤ N → I i x ls → W p l e R s m args below meth c H locs cells slots Q (F0 m h ls st) := by
  intro i x ls hi hI
  exact loopW (I := fun i x H' locs' ls => H' = H ∧ locs' = locs ∧ I i x ls) N (fun i x H' locs' ls hi hI kk => by
    obtain ⟨rfl, rfl, hI⟩ := hI
    exact step i x ls hi hI (fun x' ls' h1 h2 => kk x' _ _ ls' h1 ⟨rfl, rfl, h2⟩)) i x H locs ls hi ⟨rfl, rfl, hI⟩
variable {cc : ByteArray} {A : Nat → Prop} {tys : List (ClassId × FieldType)} {H0 : Heap} {ad : Nat} {cl : List vw_C}
theorem xa_iald (hexec : p.tables.exec = Jvm.exec) (hb : c.code = cc) (hK : va_K D cl tys s) (hP : va_P D cl ws H) (q0 t0 : Nat) {cA : ClassId} {n : Nat} {f : Nat → Int32} (ha : ws[q0]? = some (ad, .inl (cA, n, .inl f))) (ht : tys[t0]? = some (cA, .int)) {j : Nat} (hj : j < n) (hn : n < 2 ^ 31) (hdg : decode cc pc = .ok (.iaload, 1))
    (kk : W p l e R s m args below meth c H locs cells slots Q (F0 m (pc + 1) ls (.int (f j) :: rest))) : W p l e R s m args below meth c H locs cells slots Q (F0 m pc ls (.int (nI j) :: .ref ad :: rest)) :=
  va_iald hexec hb hK hP q0 t0 ha ht (vp_in_nI hj hn) hdg (by rw [nI_clamp (Nat.lt_trans hj hn)]; exact kk)
theorem xa_lald (hexec : p.tables.exec = Jvm.exec) (hb : c.code = cc) (hK : va_K D cl tys s) (hP : va_P D cl ws H) (q0 t0 : Nat) {cA : ClassId} {n : Nat} {f : Nat → Int64} (ha : ws[q0]? = some (ad, .inl (cA, n, .inr (.inl f)))) (ht : tys[t0]? = some (cA, .long)) {j : Nat} (hj : j < n) (hn : n < 2 ^ 31) (hdg : decode cc pc = .ok (.laload, 1))
    (kk : W p l e R s m args below meth c H locs cells slots Q (F0 m (pc + 1) ls (.long (f j) :: rest))) : W p l e R s m args below meth c H locs cells slots Q (F0 m pc ls (.int (nI j) :: .ref ad :: rest)) :=
  va_lald hexec hb hK hP q0 t0 ha ht (vp_in_nI hj hn) hdg (by rw [nI_clamp (Nat.lt_trans hj hn)]; exact kk)
theorem xa_iast (hexec : p.tables.exec = Jvm.exec) (hb : c.code = cc) (hK : va_K D cl tys s) (hP : va_P D cl ws H) (hD : va_D A ws) (hS : va_S A H0 H locs) (q0 t0 : Nat) {cA : ClassId} {n : Nat} {f : Nat → Int32} (ha : ws[q0]? = some (ad, .inl (cA, n, .inl f))) (ht : tys[t0]? = some (cA, .int)) {j : Nat} {x : Int32} (hj : j < n) (hn : n < 2 ^ 31) (hdg : decode cc pc = .ok (.iastore, 1))
    (kk : ∀ (H1 : Heap) (locs1 : List Loc), va_P D cl (ws.set q0 (ad, .inl (cA, n, .inl (upd f j x)))) H1 → va_D A (ws.set q0 (ad, .inl (cA, n, .inl (upd f j x)))) → va_S A H0 H1 locs1 → W p l e R s m args below meth c H1 locs1 cells slots Q (F0 m (pc + 1) ls rest)) : W p l e R s m args below meth c H locs cells slots Q (F0 m pc ls (.int x :: .int (nI j) :: .ref ad :: rest)) :=
  va_iast hexec hb hK hP hD hS q0 t0 ha ht (vp_in_nI hj hn) hdg (by rw [nI_clamp (Nat.lt_trans hj hn)]; exact kk)
theorem xa_last (hexec : p.tables.exec = Jvm.exec) (hb : c.code = cc) (hK : va_K D cl tys s) (hP : va_P D cl ws H) (hD : va_D A ws) (hS : va_S A H0 H locs) (q0 t0 : Nat) {cA : ClassId} {n : Nat} {f : Nat → Int64} (ha : ws[q0]? = some (ad, .inl (cA, n, .inr (.inl f)))) (ht : tys[t0]? = some (cA, .long)) {j : Nat} {x : Int64} (hj : j < n) (hn : n < 2 ^ 31) (hdg : decode cc pc = .ok (.lastore, 1))
    (kk : ∀ (H1 : Heap) (locs1 : List Loc), va_P D cl (ws.set q0 (ad, .inl (cA, n, .inr (.inl (vp_updL f j x))))) H1 → va_D A (ws.set q0 (ad, .inl (cA, n, .inr (.inl (vp_updL f j x))))) → va_S A H0 H1 locs1 → W p l e R s m args below meth c H1 locs1 cells slots Q (F0 m (pc + 1) ls rest)) : W p l e R s m args below meth c H locs cells slots Q (F0 m pc ls (.long x :: .int (nI j) :: .ref ad :: rest)) :=
  va_last hexec hb hK hP hD hS q0 t0 ha ht (vp_in_nI hj hn) hdg (by rw [nI_clamp (Nat.lt_trans hj hn)]; exact kk)
theorem topI {x y : Int32} (h : x = y) (k : W p l e R s m args below meth c H locs cells slots Q (F0 m pc ls (.int y :: rest))) : W p l e R s m args below meth c H locs cells slots Q (F0 m pc ls (.int x :: rest)) := h ▸ k
theorem topL {x y : Int64} (h : x = y) (k : W p l e R s m args below meth c H locs cells slots Q (F0 m pc ls (.long y :: rest))) : W p l e R s m args below meth c H locs cells slots Q (F0 m pc ls (.long x :: rest)) := h ▸ k
end CORE
theorem xv_eqI {cA : ClassId} {n : Nat} {f g : Nat → Int32} (h : ∀ j, j < n → f j = g j) : vp_cell cA (n, .inl f) = vp_cell cA (n, .inl g) := by
  rw [vp_cell_i, vp_cell_i]
  unfold arrV
  congr 2
  funext j
  exact congrArg Value.int (h j.val j.isLt)
theorem va_P.toI {D : va_G} {cl : List vw_C} {ws : va_W} {H : Heap} {a n : Nat} {cA : ClassId} {f g : Nat → Int32} (hP : va_P D cl ws H) (q : Nat) (ha : ws[q]? = some (a, .inl (cA, n, .inl f))) (h : ∀ j, j < n → f j = g j) : va_P D cl (ws.set q (a, .inl (cA, n, .inl g))) H := by
  have hl := (List.getElem?_eq_some_iff.mp ha).1
  intro k z hk
  by_cases hkq : k = q
  · subst hkq
    rw [List.getElem?_set_self hl] at hk
    cases hk
    have h1 := hP k _ ha
    show H[a]? = some (vp_cell cA (n, .inl g))
    rw [← xv_eqI h]
    exact h1
  · rw [List.getElem?_set_ne (Ne.symm hkq)] at hk
    exact hP k z hk
theorem fb_xorI (a b : Nat) : nI a ^^^ nI b = nI (a ^^^ b) := by
  apply Int32.toBitVec_inj.1
  show BitVec.ofNat 32 a ^^^ BitVec.ofNat 32 b = BitVec.ofNat 32 (a ^^^ b)
  apply BitVec.eq_of_getLsbD_eq
  intro i hi
  simp [hi]
theorem xor_nn {u v : Nat} (hu : u < 2 ^ 31) (hv : v < 2 ^ 31) : 0 ≤ (nI u ^^^ nI v).toInt := by
  rw [fb_xorI, nI_toInt (Nat.xor_lt_two_pow hu hv)]
  omega
def inR (lo hi : Int) (x : Int32) : Prop := lo ≤ x.toInt ∧ x.toInt ≤ hi
theorem inM_iff {k : Nat} {x : Int32} (hk : k ≤ 8) : ¬ (x.toInt < (0 : Int32).toInt ∨ (nI k - 1).toInt < x.toInt) ↔ inM k x := by
  rw [nI_subI (by omega) (by decide) (by decide), t_0]
  have e1 : (1 : Int32).toInt = 1 := rfl
  unfold inM
  omega
def absI (x : Int32) : Int32 := if 0 ≤ x then x else 0 - x
/-! what the methods reckon -/
/-- the length of the measure at a rank -/
def lnA (fL : Nat → Int64) (fO : Nat → Int32) (i : Nat) : Int64 := fL (fO i).toNatClampNeg
def MOk (k : Nat) (fL : Nat → Int64) (fO : Nat → Int32) : Prop := 1 ≤ k ∧ k ≤ 8 ∧ (∀ j, j < k → 0 < (fL j).toInt ∧ (fL j).toInt ≤ 4782969) ∧ ∀ i, i < k → inM k (fO i)
theorem inM_le {k n : Nat} {x : Int32} (h : inM k x) (hk : k ≤ n) : inM n x := ⟨h.1, by have := h.2; omega⟩
theorem inM_clamp {k : Nat} {x : Int32} (h : inM k x) : x.toNatClampNeg < k := by
  have e : x.toNatClampNeg = x.toInt.toNat := rfl
  have h1 := h.1
  have h2 := h.2
  rw [e]
  omega
theorem inM_eq {k : Nat} {x : Int32} (h : inM k x) : x = nI x.toNatClampNeg := by
  have e : x.toNatClampNeg = x.toInt.toNat := rfl
  have h1 := h.1
  have h3 := Int32.toInt_lt x
  refine Int32.toInt_inj.mp ?_
  rw [e, nI_toInt (by omega)]
  omega
theorem MOk.at {k : Nat} {fL : Nat → Int64} {fO : Nat → Int32} (h : MOk k fL fO) {i : Nat} (hi : i < k) : inM 8 (fO i) := inM_le (h.2.2.2 i hi) h.2.1
theorem MOk.pos {k : Nat} {fL : Nat → Int64} {fO : Nat → Int32} (h : MOk k fL fO) {i : Nat} (hi : i < k) : 0 < (lnA fL fO i).toInt := (h.2.2.1 _ (inM_clamp (h.2.2.2 i hi))).1
/-- a long by its number -/
theorem lN_of {x : Int64} {b : Nat} (h0 : 0 < x.toInt) (h1 : x.toInt ≤ b) : ∃ n : Nat, 0 < n ∧ n ≤ b ∧ x = lN n := by
  obtain ⟨n, hn, rfl⟩ := pk_lOf (x := x) (by rw [Int64.lt_iff_toInt_lt]; have : (0 : Int64).toInt = 0 := rfl; omega)
  rw [pk_lT hn] at h0 h1
  exact ⟨n, by omega, by omega, rfl⟩
theorem lN_ne0 {n : Nat} (h0 : 0 < n) (h : n < 2 ^ 63) : ¬ lN n = 0 := fun h1 => by
  have h2 := pk_lT h
  rw [h1] at h2
  have h3 : (0 : Int64).toInt = 0 := rfl
  omega
/-- a length's top in another's: both without a common divisor -/
def tp (x y : Int64) : Int64 := lN (x.toInt.toNat / Nat.gcd x.toInt.toNat y.toInt.toNat)
theorem tp_lN {u v : Nat} (hu : u < 2 ^ 63) (hv : v < 2 ^ 63) : tp (lN u) (lN v) = lN (u / Nat.gcd u v) := by
  unfold tp
  rw [pk_lT hu, pk_lT hv]
  rfl
def jrem (x y : Int64) : Int64 := x - x / y * y
/-- what is left behind the first ranks; how many pieces were taken in them -/
def lfT (g : Nat → Int64) (x : Int64) : Nat → Int64
  | 0 => x
  | i + 1 => jrem (lfT g x i) (g i)
def tkT (g : Nat → Int64) (x : Int64) : Nat → Int64
  | 0 => 0
  | i + 1 => tkT g x i + lfT g x i / g i
/-- the order holds each measure once -/
def MPm (k : Nat) (fO : Nat → Int32) : Prop := (∀ i j, i < k → j < k → fO i = fO j → i = j) ∧ ∀ x, x < k → ∃ i, i < k ∧ fO i = nI x
/-- pieces of one measure, if all are told -/
noncomputable def spO (g : Nat → Int64) (x : Int64) (fO : Nat → Int32) (z : Int32) : Nat → Int64
  | 0 => 0
  | i + 1 => ic (fO i = z) (spO g x fO z i + lfT g x i / g i) (spO g x fO z i)
/-- the first measure by rank that goes into x without a rest; d if there is none -/
noncomputable def bst (g : Nat → Int64) (x : Int64) (fO : Nat → Int32) (d : Int32) : Nat → Nat → Int32
  | 0, _ => d
  | n + 1, i => ic ((jrem x (g i)).toInt = (0 : Int64).toInt) (fO i) (bst g x fO d n (i + 1))
theorem spO_at {g : Nat → Int64} {x : Int64} {fO : Nat → Int32} {z : Int32} {k i : Nat} (hinj : ∀ i j, i < k → j < k → fO i = fO j → i = j) (hi : i < k) (e : fO i = z) : spO g x fO z k = lfT g x i / g i := by
  have key : ∀ n, n ≤ k → spO g x fO z n = if i < n then lfT g x i / g i else 0 := by
    intro n
    induction n with
    | zero => intro _; rw [if_neg (by omega)]; rfl
    | succ n ih =>
      intro hn
      unfold spO
      rw [ih (by omega)]
      by_cases h : fO n = z
      · have e2 : n = i := hinj n i (by omega) hi (h.trans e.symm)
        subst e2
        rw [ic_t h, if_neg (by omega), if_pos (by omega), Int64.zero_add]
      · rw [ic_f h]
        have : n ≠ i := fun q => h (by rw [q]; exact e)
        by_cases h2 : i < n
        · rw [if_pos h2, if_pos (by omega)]
        · rw [if_neg h2, if_neg (by omega)]
  rw [key k (Nat.le_refl k), if_pos hi]
/-- the shortest of the first, by number -/
noncomputable def shN (fL : Nat → Int64) : Nat → Nat
  | 0 => 0
  | i + 1 => ic ((fL (i + 1)).toInt < (fL (shN fL i)).toInt) (i + 1) (shN fL i)
theorem shN_le (fL : Nat → Int64) (i : Nat) : shN fL i ≤ i := by
  induction i with
  | zero => exact Nat.le_refl 0
  | succ i ih =>
    unfold shN
    by_cases h : (fL (i + 1)).toInt < (fL (shN fL i)).toInt
    · rw [ic_t h]; exact Nat.le_refl _
    · rw [ic_f h]; omega
/-- the stall whose drift is nearest to 0; with the greatest -/
noncomputable def bhN (fD : Nat → Int32) : Nat → Int32
  | 0 => -1
  | i + 1 => ic (bhN fD i = -1 ∨ (absI (fD i)).toInt < (absI (fD (bhN fD i).toNatClampNeg)).toInt) (nI i) (bhN fD i)
noncomputable def bhV (fD : Nat → Int32) (i : Nat) : Int32 := ic (bhN fD i = -1) 301 (absI (fD (bhN fD i).toNatClampNeg))
theorem bhV_0 (fD : Nat → Int32) : bhV fD 0 = 301 := ic_t rfl
theorem nI_nm1 {i : Nat} (h : i < 2 ^ 31) : ¬ nI i = -1 := fun q => by
  have h1 := nI_toInt h
  rw [q] at h1
  have h2 : (-1 : Int32).toInt = -1 := rfl
  omega
theorem bh_no {fD : Nat → Int32} {i : Nat} (h3 : (absI (fD i)).toInt ≤ 300) (h : (bhV fD i).toInt ≤ (absI (fD i)).toInt) : bhN fD (i + 1) = bhN fD i ∧ bhV fD (i + 1) = bhV fD i := by
  have e1 : (301 : Int32).toInt = 301 := rfl
  have hn : ¬ (bhN fD i = -1 ∨ (absI (fD i)).toInt < (absI (fD (bhN fD i).toNatClampNeg)).toInt) := by
    intro q
    unfold bhV at h
    by_cases q1 : bhN fD i = -1
    · rw [ic_t q1, e1] at h; omega
    · rw [ic_f q1] at h
      rcases q with q | q
      · exact q1 q
      · omega
  have e : bhN fD (i + 1) = bhN fD i := ic_f hn
  exact ⟨e, by unfold bhV; rw [e]⟩
theorem bh_yes {fD : Nat → Int32} {i : Nat} (hi : i < 2 ^ 31) (h : ¬ (bhV fD i).toInt ≤ (absI (fD i)).toInt) : bhN fD (i + 1) = nI i ∧ bhV fD (i + 1) = absI (fD i) := by
  have hy : bhN fD i = -1 ∨ (absI (fD i)).toInt < (absI (fD (bhN fD i).toNatClampNeg)).toInt := by
    unfold bhV at h
    by_cases q1 : bhN fD i = -1
    · exact Or.inl q1
    · rw [ic_f q1] at h; exact Or.inr (by omega)
  have e : bhN fD (i + 1) = nI i := ic_t hy
  exact ⟨e, by unfold bhV; rw [e, ic_f (nI_nm1 hi), nI_clamp hi]⟩
noncomputable def bgN (fD : Nat → Int32) : Nat → Int32
  | 0 => -1
  | i + 1 => ic (bgN fD i = -1 ∨ (fD (bgN fD i).toNatClampNeg).toInt < (fD i).toInt) (nI i) (bgN fD i)
/-- the newest measure put in its rank -/
noncomputable def insO (fL : Nat → Int64) (w : Int64) (v : Int32) : Nat → (Nat → Int32) → (Nat → Int32)
  | 0, o => upd o 0 v
  | r + 1, o => ic ((fL (o r).toNatClampNeg).toInt < w.toInt) (insO fL w v r (upd o (r + 1) (o r))) (upd o (r + 1) v)
def rfU (fL : Nat → Int64) (q : Int64) (i : Nat) : Nat → Int64 := fun j => if j < i then fL j * q else fL j
theorem rfU_0 (fL : Nat → Int64) (q : Int64) : rfU fL q 0 = fL := by funext j; simp [rfU]
theorem rfU_s (fL : Nat → Int64) (q : Int64) (i : Nat) : vp_updL (rfU fL q i) i (rfU fL q i i * q) = rfU fL q (i + 1) := by
  funext j
  simp only [vp_updL, rfU, Nat.lt_irrefl, if_false]
  by_cases h : j = i
  · subst h; simp
  · by_cases h2 : j < i
    · rw [if_neg h, if_pos h2, if_pos (by omega)]
    · rw [if_neg h, if_neg h2, if_neg (by omega)]
theorem eu_step {i a b : Nat} (hb : 0 < b) (ha2 : a < 2 ^ 40) (hb2 : b < 2 ^ 40) (h : i = 0 ∨ (b < a ∧ a * b * 2 ^ (i - 1) < 2 ^ 80)) : a % b < b ∧ b * (a % b) * 2 ^ i < 2 ^ 80 := by
  have hm : a % b < b := Nat.mod_lt _ hb
  refine ⟨hm, ?_⟩
  rcases h with rfl | ⟨h1, h2⟩
  · have h3 : b * (a % b) < 2 ^ 40 * 2 ^ 40 := Nat.mul_lt_mul'' hb2 (Nat.lt_trans hm hb2)
    simpa using h3
  · have h4 : 2 * (a % b) ≤ a := by
      have h5 := Nat.div_add_mod a b
      have h6 : 1 ≤ a / b := (Nat.le_div_iff_mul_le hb).mpr (by omega)
      have h7 : b * 1 ≤ b * (a / b) := Nat.mul_le_mul_left b h6
      omega
    cases i with
    | zero =>
      have h8 : b * (a % b) ≤ a * b := by
        rw [Nat.mul_comm a b]; exact Nat.mul_le_mul_left b (by omega)
      simp at h2 ⊢
      omega
    | succ n =>
      have e : b * (a % b) * 2 ^ (n + 1) = b * (2 * (a % b)) * 2 ^ n := by
        rw [Nat.pow_succ]
        simp only [Nat.mul_assoc, Nat.mul_comm, Nat.mul_left_comm]
      rw [e]
      have h9 : b * (2 * (a % b)) * 2 ^ n ≤ a * b * 2 ^ n := Nat.mul_le_mul_right _ (by rw [Nat.mul_comm a b]; exact Nat.mul_le_mul_left b h4)
      exact Nat.lt_of_le_of_lt h9 h2
theorem eu_end {a b : Nat} (ha : 0 < a) (h : a * b * 2 ^ 99 < 2 ^ 80) : b = 0 := by
  rcases Nat.eq_zero_or_pos b with h0 | h0
  · exact h0
  · have h1 : 1 ≤ a * b := Nat.mul_pos ha h0
    have h2 : 1 * 2 ^ 99 ≤ a * b * 2 ^ 99 := Nat.mul_le_mul_right _ h1
    omega
def hld (x : Int32) : Int32 := if (-300) < (if x < 300 then x else 300) then (if x < 300 then x else 300) else (-300)
def hdD (fW fD : Nat → Int32) (i : Nat) : Nat → Int32 := fun j => if j < i then hld (fD j + fW j) else fD j
theorem hdD_0 (fW fD : Nat → Int32) : hdD fW fD 0 = fD := by funext j; simp [hdD]
theorem hdD_s (fW fD : Nat → Int32) (i : Nat) : upd (hdD fW fD i) i (hld (hdD fW fD i i + fW i)) = hdD fW fD (i + 1) := by
  funext j
  simp only [upd, hdD, Nat.lt_irrefl, if_false]
  by_cases h : j = i
  · subst h; simp
  · by_cases h2 : j < i
    · rw [if_neg h, if_pos h2, if_pos (by omega)]
    · rw [if_neg h, if_neg h2, if_neg (by omega)]
noncomputable def bgV (fD : Nat → Int32) (i : Nat) : Int32 := ic (bgN fD i = -1) (-301) (fD (bgN fD i).toNatClampNeg)
theorem bgV_0 (fD : Nat → Int32) : bgV fD 0 = -301 := ic_t rfl
theorem bg_no {fD : Nat → Int32} {i : Nat} (h3 : -300 ≤ (fD i).toInt) (h : (fD i).toInt ≤ (bgV fD i).toInt) : bgN fD (i + 1) = bgN fD i ∧ bgV fD (i + 1) = bgV fD i := by
  have e1 : (-301 : Int32).toInt = -301 := rfl
  have hn : ¬ (bgN fD i = -1 ∨ (fD (bgN fD i).toNatClampNeg).toInt < (fD i).toInt) := by
    intro q
    unfold bgV at h
    by_cases q1 : bgN fD i = -1
    · rw [ic_t q1, e1] at h; omega
    · rw [ic_f q1] at h
      rcases q with q | q
      · exact q1 q
      · omega
  have e : bgN fD (i + 1) = bgN fD i := ic_f hn
  exact ⟨e, by unfold bgV; rw [e]⟩
theorem bg_yes {fD : Nat → Int32} {i : Nat} (hi : i < 2 ^ 31) (h : ¬ (fD i).toInt ≤ (bgV fD i).toInt) : bgN fD (i + 1) = nI i ∧ bgV fD (i + 1) = fD i := by
  have hy : bgN fD i = -1 ∨ (fD (bgN fD i).toNatClampNeg).toInt < (fD i).toInt := by
    unfold bgV at h
    by_cases q1 : bgN fD i = -1
    · exact Or.inl q1
    · rw [ic_f q1] at h; exact Or.inr (by omega)
  have e : bgN fD (i + 1) = nI i := ic_t hy
  exact ⟨e, by unfold bgV; rw [e, ic_f (nI_nm1 hi), nI_clamp hi]⟩
theorem absI_toInt {x : Int32} (h1 : -1000000 ≤ x.toInt) (h2 : x.toInt ≤ 1000000) : (absI x).toInt = if 0 ≤ x.toInt then x.toInt else -x.toInt := by
  unfold absI
  have e : 0 ≤ x ↔ 0 ≤ x.toInt := by rw [Int32.le_iff_toInt_le, t_0]
  by_cases h : 0 ≤ x.toInt
  · rw [if_pos h, if_pos (e.mpr h)]
  · rw [if_neg h, if_neg (fun q => h (e.mp q)), fb_subI (by rw [t_0]; omega) (by rw [t_0]; omega), t_0]; omega
theorem abs300 {x : Int32} (h : -300 ≤ x.toInt ∧ x.toInt ≤ 300) : (absI x).toInt ≤ 300 := by
  rw [absI_toInt (by omega) (by omega)]
  split <;> omega
/-- what one gets: so many of the length L, in the standard S, with the drift d -/
def gvn (L S : Int64) (w d : Int32) : Int64 := L * w.toInt64 * (1000 + d).toInt64 / S
theorem inR_n {x : Int32} {hi : Int} (h : inR 1 hi x) (h2 : hi ≤ 1000) : ∃ n : Nat, 1 ≤ n ∧ (n : Int) ≤ hi ∧ x = nI n := by
  obtain ⟨h0, h1⟩ := h
  obtain ⟨n, hn, rfl⟩ := nI_of (x := x) (by rw [Int32.lt_iff_toInt_lt, t_0]; omega)
  rw [nI_toInt hn] at h0 h1
  exact ⟨n, by omega, h1, rfl⟩
/-- no fine in the day's end: D1 the drifts behind their wear -/
def dNo (c y : Nat) (t : Int32) (D1 : Nat → Int32) : Prop := c = 0 ∨ (absI (D1 (y % c))).toInt ≤ t.toInt
noncomputable def dFine (c : Nat) (t : Int32) (y : Nat) (fW fD : Nat → Int32) : Int32 := ic (dNo c y t (hdD fW fD c)) 0 (absI (hdD fW fD c (y % c)))
noncomputable def dDr (c : Nat) (t : Int32) (y : Nat) (fW fD : Nat → Int32) : Nat → Int32 := ic (dNo c y t (hdD fW fD c)) (hdD fW fD c) (upd (hdD fW fD c) (y % c) 0)
theorem ic_or {α : Type} {A P : Prop} {x y : α} (h : ¬ A) : ic (A ∨ P) x y = ic P x y := by
  by_cases hp : P
  · rw [ic_t (Or.inr hp), ic_t hp]
  · rw [ic_f (fun z => z.elim h hp), ic_f hp]
theorem dFine_n {c : Nat} {t : Int32} {y : Nat} {fW fD : Nat → Int32} (h : c = 0) : dFine c t y fW fD = 0 := ic_t (Or.inl h)
theorem dFine_j {c : Nat} {t : Int32} {y : Nat} {fW fD : Nat → Int32} (h : ¬ c = 0) : dFine c t y fW fD = ic ((absI (hdD fW fD c (y % c))).toInt ≤ t.toInt) 0 (absI (hdD fW fD c (y % c))) := ic_or h
theorem dDr_n {c : Nat} {t : Int32} {y : Nat} {fW fD : Nat → Int32} (h : c = 0) : dDr c t y fW fD = hdD fW fD c := ic_t (Or.inl h)
theorem dDr_j {c : Nat} {t : Int32} {y : Nat} {fW fD : Nat → Int32} (h : ¬ c = 0) : dDr c t y fW fD = ic ((absI (hdD fW fD c (y % c))).toInt ≤ t.toInt) (hdD fW fD c) (upd (hdD fW fD c) (y % c) 0) := ic_or h
noncomputable def dIt (c : Nat) (t : Int32) (y : Nat) (fW fD : Nat → Int32) : Nat → Nat → Int32
  | 0 => fD
  | n + 1 => dDr c t (y + n) fW (dIt c t y fW fD n)
noncomputable def dSm (c : Nat) (t : Int32) (y : Nat) (fW fD : Nat → Int32) : Nat → Int32
  | 0 => 0
  | n + 1 => dSm c t y fW fD n + dFine c t (y + n) fW (dIt c t y fW fD n)
theorem dFine_pos {c : Nat} {t : Int32} {y : Nat} {fW fD : Nat → Int32} (h0 : ¬ c = 0) (ht : 0 ≤ t.toInt) : 0 < (dFine c t y fW fD).toInt ↔ ¬ (absI (hdD fW fD c (y % c))).toInt ≤ t.toInt := by
  rw [dFine_j h0]
  by_cases h : (absI (hdD fW fD c (y % c))).toInt ≤ t.toInt
  · rw [ic_t h, t_0]; omega
  · rw [ic_f h]; omega
def cpF (f g : Nat → Int32) (i : Nat) : Nat → Int32 := fun j => if j < i then f j else g j
theorem cpF_0 (f g : Nat → Int32) : cpF f g 0 = g := by funext j; simp [cpF]
theorem cpF_s (f g : Nat → Int32) (i : Nat) : upd (cpF f g i) i (f i) = cpF f g (i + 1) := by
  funext j
  simp only [upd, cpF]
  by_cases h : j = i
  · subst h; simp
  · by_cases h2 : j < i
    · rw [if_neg h, if_pos h2, if_pos (by omega)]
    · rw [if_neg h, if_neg h2, if_neg (by omega)]
theorem cpF_in (f g : Nat → Int32) {i j : Nat} (h : j < i) : cpF f g i j = f j := if_pos h

theorem newX1_ok : ∀ j, j < 9 → defaultValue (tyX1 j) = vp_V [.null, .null, .null, .null, .null, .null, .int 0, .int 0, .int 0] j := fun j hj => by rcases (show j = 0 ∨ j = 1 ∨ j = 2 ∨ j = 3 ∨ j = 4 ∨ j = 5 ∨ j = 6 ∨ j = 7 ∨ j = 8 by omega) with rfl | rfl | rfl | rfl | rfl | rfl | rfl | rfl | rfl <;> rfl
theorem newX2_ok : ∀ j, j < 6 → defaultValue (tyX2 j) = vp_V [.int 0, .int 0, .int 0, .int 0, .null, .null] j := fun j hj => by rcases (show j = 0 ∨ j = 1 ∨ j = 2 ∨ j = 3 ∨ j = 4 ∨ j = 5 by omega) with rfl | rfl | rfl | rfl | rfl | rfl <;> rfl
theorem newX0_ok : ∀ j, j < 5 → defaultValue (tyX0 j) = vp_V [.null, .null, .int 0, .int 0, .int 0] j := fun j hj => by rcases (show j = 0 ∨ j = 1 ∨ j = 2 ∨ j = 3 ∨ j = 4 by omega) with rfl | rfl | rfl | rfl | rfl <;> rfl
section CORE2
variable {p : Program} {l : Launch} {e : Env} {R : Room} {s : State} {m : MethodId} {args : Array Value} {below : List Frame} {meth : Method} {c : Code} {H : Heap} {locs : List Loc} {cells slots : Nat} {Q : State → Prop}
variable {pc : Nat} {ls : Array Slot} {rest st0 : List Value} {a : Array Value} {D : va_G} {ws : va_W} {cc : ByteArray} {A : Nat → Prop} {tys : List (ClassId × FieldType)} {H0 : Heap} {cl : List vw_C}
theorem ro_d {post : UInt64 → Prop} (hr : va_Run p l e R s m args below meth c H locs cells slots 0 0 (F0 m pc ls st0) rest (rod post a) (fun _ => False))
    (kk : ∀ r : UInt64, post r → W p l e R s m args below meth c H locs cells slots Q (F0 m (pc + 3) ls (.double r :: rest))) : W p l e R s m args below meth c H locs cells slots Q (F0 m pc ls st0) := by
  intro T hT X
  obtain ⟨v, st₀, t, T', L, h0, X', hL, e1, e2, ⟨r, hv, hp, hh⟩, st⟩ := hr T hT X
  cases hv
  obtain ⟨t2, a1, b1⟩ := kk r hp T' (by rw [e1, hh, h0]) (Stand.forget X' (fun q h => (hL q h).elim))
  exact ⟨t2, st t2 a1, b1⟩
theorem xa_newaI (hexec : p.tables.exec = Jvm.exec) (hb : c.code = cc) (harr : (Cond.arrayClass .int).before args s = true) (hK : va_K D cl tys s) (t0 : Nat) {cA : ClassId} (ht : tys[t0]? = some (cA, .int)) (hP : va_P D cl ws H) (hD : va_D A ws) (hS : va_S A H0 H locs) (hA : ∀ q, H0.size ≤ q → A q)
    {n : Int32} {N : Nat} (hn : ¬ n < 0) (hN : n.toNatClampNeg = N) (hbytes : N * 4 ≤ 536870912) (hcells : cells + 1 ≤ R.cells) (hslots : slots + N ≤ R.slots) (hdg : decode cc pc = .ok (.newarray .int, 2))
    (kk : ∀ (q : Nat) (H1 : Heap), va_P D cl (ws ++ [(q, .inl (cA, N, .inl (fun _ => (0 : Int32))))]) H1 → va_D A (ws ++ [(q, .inl (cA, N, .inl (fun _ => (0 : Int32))))]) → va_S A H0 H1 locs →
      W p l e R s m args below meth c H1 locs (cells + 1) (slots + N) Q (F0 m (pc + 2) ls (.ref q :: rest))) : W p l e R s m args below meth c H locs cells slots Q (F0 m pc ls (.int n :: rest)) := by
  refine va_newa (ty := .int) (atype := .int) (a0 := (N, .inl (fun _ => 0))) hexec hb harr rfl hK hP hD hS hA (fun cA => rfl) hn hN hbytes hcells hslots hdg (fun q cA' H1 hK' hP' hD' hS' => ?_)
  have e1 : s.vm.findClass ("[" ++ FieldType.int.toString) = some cA := (hK.2 t0 _ ht).2
  have e2 : s.vm.findClass ("[" ++ FieldType.int.toString) = some cA' := (hK'.2 tys.length (cA', .int) (by rw [List.getElem?_append_right (Nat.le_refl _), Nat.sub_self]; rfl)).2
  cases Option.some.inj (e1.symm.trans e2)
  exact kk q H1 hP' hD' hS'
theorem xa_newaJ (hexec : p.tables.exec = Jvm.exec) (hb : c.code = cc) (harr : (Cond.arrayClass .long).before args s = true) (hK : va_K D cl tys s) (t0 : Nat) {cA : ClassId} (ht : tys[t0]? = some (cA, .long)) (hP : va_P D cl ws H) (hD : va_D A ws) (hS : va_S A H0 H locs) (hA : ∀ q, H0.size ≤ q → A q)
    {n : Int32} {N : Nat} (hn : ¬ n < 0) (hN : n.toNatClampNeg = N) (hbytes : N * 8 ≤ 536870912) (hcells : cells + 1 ≤ R.cells) (hslots : slots + N ≤ R.slots) (hdg : decode cc pc = .ok (.newarray .long, 2))
    (kk : ∀ (q : Nat) (H1 : Heap), va_P D cl (ws ++ [(q, .inl (cA, N, .inr (.inl (fun _ => (0 : Int64)))))]) H1 → va_D A (ws ++ [(q, .inl (cA, N, .inr (.inl (fun _ => (0 : Int64)))))]) → va_S A H0 H1 locs →
      W p l e R s m args below meth c H1 locs (cells + 1) (slots + N) Q (F0 m (pc + 2) ls (.ref q :: rest))) : W p l e R s m args below meth c H locs cells slots Q (F0 m pc ls (.int n :: rest)) := by
  refine va_newa (ty := .long) (atype := .long) (a0 := (N, .inr (.inl (fun _ => 0)))) hexec hb harr rfl hK hP hD hS hA (fun cA => rfl) hn hN hbytes hcells hslots hdg (fun q cA' H1 hK' hP' hD' hS' => ?_)
  have e1 : s.vm.findClass ("[" ++ FieldType.long.toString) = some cA := (hK.2 t0 _ ht).2
  have e2 : s.vm.findClass ("[" ++ FieldType.long.toString) = some cA' := (hK'.2 tys.length (cA', .long) (by rw [List.getElem?_append_right (Nat.le_refl _), Nat.sub_self]; rfl)).2
  cases Option.some.inj (e1.symm.trans e2)
  exact kk q H1 hP' hD' hS'
end CORE2
/-- the sum of the first drifts; their mean -/
def smD (fD : Nat → Int32) : Nat → Int32
  | 0 => 0
  | i + 1 => smD fD i + fD i
noncomputable def mnD (c : Nat) (fD : Nat → Int32) : UInt64 := ic (c = 0) FP.dconst0 (FP.ddiv (FP.i2d (smD fD c)) (FP.i2d (nI c)))
set_option maxRecDepth 100000 in
theorem vf_chk : (List.range 3601).all (fun i => (List.range 6).all (fun j => decide (FP.ddiv (FP.i2d (Int32.ofInt ((i : Int) - 1800))) (FP.i2d (nI (j + 1))) &&& 0x7fffffffffffffff ≤ 0x7ff0000000000000))) = true := by decide +kernel
theorem vf_mean {x : Int32} {c : Nat} (h1 : -1800 ≤ x.toInt) (h2 : x.toInt ≤ 1800) (hc0 : ¬ c = 0) (hc : c ≤ 6) : vf_n64 (FP.ddiv (FP.i2d x) (FP.i2d (nI c))) := by
  have h3 := List.all_eq_true.mp vf_chk (x.toInt + 1800).toNat (List.mem_range.mpr (by omega))
  have h4 := List.all_eq_true.mp h3 (c - 1) (List.mem_range.mpr (by omega))
  have e : Int32.ofInt (((x.toInt + 1800).toNat : Int) - 1800) = x := by
    rw [show ((x.toInt + 1800).toNat : Int) - 1800 = x.toInt by omega]; exact fb_asI x
  rw [e, show c - 1 + 1 = c by omega] at h4
  have h5 := of_decide_eq_true h4
  exact h5
theorem smD_b {fD : Nat → Int32} {c : Nat} (hc : c ≤ 6) (h : ∀ j, j < c → -300 ≤ (fD j).toInt ∧ (fD j).toInt ≤ 300) : -1800 ≤ (smD fD c).toInt ∧ (smD fD c).toInt ≤ 1800 := by
  have key : ∀ i, i ≤ c → -(300 * (i : Int)) ≤ (smD fD i).toInt ∧ (smD fD i).toInt ≤ 300 * (i : Int) := by
    intro i
    induction i with
    | zero =>
      intro _
      show -(300 * ((0 : Nat) : Int)) ≤ (0 : Int32).toInt ∧ (0 : Int32).toInt ≤ 300 * ((0 : Nat) : Int)
      rw [t_0]
      omega
    | succ i ih =>
      intro hi
      have h1 := ih (by omega)
      have h2 := h i (by omega)
      have e : (smD fD i + fD i).toInt = (smD fD i).toInt + (fD i).toInt := fb_addI (by omega) (by omega)
      show -(300 * ((i + 1 : Nat) : Int)) ≤ (smD fD i + fD i).toInt ∧ (smD fD i + fD i).toInt ≤ 300 * ((i + 1 : Nat) : Int)
      rw [e]
      omega
  have := key c (Nat.le_refl c)
  omega
