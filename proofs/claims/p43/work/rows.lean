section
-- ===== PART A: goes FIRST, ahead of the names: the tables' words, and 'selects' of the private methods out of them =====
/-- a private method of a class that the tables say can be made, by its rows of tables_1 -/
def lw_okq (q : MethodName × Nat) : Prop := (q.1.cls ≠ "java/lang/invoke/MethodHandle" ∧ q.1.cls ≠ "java/lang/invoke/VarHandle") ∧ Cond.instantiable q.1.cls q.2 ∈ tables_1 ∧ Cond.privateMethod q.1 ∈ tables_1 ∧ Cond.instanceMethod q.1 ∈ tables_1
theorem lw_p0 : lw_okq (⟨"java/lang/Throwable", "fillInStackTrace", "(I)Ljava/lang/Throwable;"⟩, 6) := ⟨⟨by decide +kernel, by decide +kernel⟩, List.mem_of_getElem? (i := 125) (by decide +kernel), List.mem_of_getElem? (i := 123) (by decide +kernel), List.mem_of_getElem? (i := 124) (by decide +kernel)⟩
theorem lw_p1 : lw_okq (⟨"OldMeasures$Stalls", "coinsPaidIn", "(I)I"⟩, 5) := ⟨⟨by decide +kernel, by decide +kernel⟩, List.mem_of_getElem? (i := 20) (by decide +kernel), List.mem_of_getElem? (i := 155) (by decide +kernel), List.mem_of_getElem? (i := 156) (by decide +kernel)⟩
theorem lw_p2 : lw_okq (⟨"OldMeasures$Stalls", "coinsPaidNextDay", "()I"⟩, 5) := ⟨⟨by decide +kernel, by decide +kernel⟩, List.mem_of_getElem? (i := 20) (by decide +kernel), List.mem_of_getElem? (i := 159) (by decide +kernel), List.mem_of_getElem? (i := 160) (by decide +kernel)⟩
theorem lw_p3 : lw_okq (⟨"OldMeasures$Stalls", "visited", "()I"⟩, 5) := ⟨⟨by decide +kernel, by decide +kernel⟩, List.mem_of_getElem? (i := 20) (by decide +kernel), List.mem_of_getElem? (i := 172) (by decide +kernel), List.mem_of_getElem? (i := 173) (by decide +kernel)⟩
theorem lw_p4 : lw_okq (⟨"OldMeasures$Stalls", "finedAt", "(I)I"⟩, 5) := ⟨⟨by decide +kernel, by decide +kernel⟩, List.mem_of_getElem? (i := 20) (by decide +kernel), List.mem_of_getElem? (i := 179) (by decide +kernel), List.mem_of_getElem? (i := 180) (by decide +kernel)⟩
theorem lw_p5 : lw_okq (⟨"OldMeasures$Stalls", "isTolerated", "(I)Z"⟩, 5) := ⟨⟨by decide +kernel, by decide +kernel⟩, List.mem_of_getElem? (i := 20) (by decide +kernel), List.mem_of_getElem? (i := 183) (by decide +kernel), List.mem_of_getElem? (i := 184) (by decide +kernel)⟩
theorem lw_p6 : lw_okq (⟨"OldMeasures", "needMeasure", "(I)V"⟩, 9) := ⟨⟨by decide +kernel, by decide +kernel⟩, List.mem_of_getElem? (i := 12) (by decide +kernel), List.mem_of_getElem? (i := 218) (by decide +kernel), List.mem_of_getElem? (i := 219) (by decide +kernel)⟩
theorem lw_p7 : lw_okq (⟨"OldMeasures", "needStall", "(I)V"⟩, 9) := ⟨⟨by decide +kernel, by decide +kernel⟩, List.mem_of_getElem? (i := 12) (by decide +kernel), List.mem_of_getElem? (i := 294) (by decide +kernel), List.mem_of_getElem? (i := 295) (by decide +kernel)⟩
theorem lw_p8 : lw_okq (⟨"OldMeasures", "givenWith", "(III)J"⟩, 9) := ⟨⟨by decide +kernel, by decide +kernel⟩, List.mem_of_getElem? (i := 12) (by decide +kernel), List.mem_of_getElem? (i := 312) (by decide +kernel), List.mem_of_getElem? (i := 313) (by decide +kernel)⟩
theorem lw_p9 : lw_okq (⟨"OldMeasures", "refineUnit", "(I)V"⟩, 9) := ⟨⟨by decide +kernel, by decide +kernel⟩, List.mem_of_getElem? (i := 12) (by decide +kernel), List.mem_of_getElem? (i := 416) (by decide +kernel), List.mem_of_getElem? (i := 417) (by decide +kernel)⟩
theorem lw_p10 : lw_okq (⟨"OldMeasures", "rankLast", "()V"⟩, 9) := ⟨⟨by decide +kernel, by decide +kernel⟩, List.mem_of_getElem? (i := 12) (by decide +kernel), List.mem_of_getElem? (i := 420) (by decide +kernel), List.mem_of_getElem? (i := 421) (by decide +kernel)⟩
theorem lw_p11 : lw_okq (⟨"OldMeasures", "lengthAt", "(I)J"⟩, 9) := ⟨⟨by decide +kernel, by decide +kernel⟩, List.mem_of_getElem? (i := 12) (by decide +kernel), List.mem_of_getElem? (i := 424) (by decide +kernel), List.mem_of_getElem? (i := 425) (by decide +kernel)⟩
def lw_privs_1 : List (MethodName × Nat) := [(⟨"java/lang/Throwable", "fillInStackTrace", "(I)Ljava/lang/Throwable;"⟩, 6), (⟨"OldMeasures$Stalls", "coinsPaidIn", "(I)I"⟩, 5), (⟨"OldMeasures$Stalls", "coinsPaidNextDay", "()I"⟩, 5), (⟨"OldMeasures$Stalls", "visited", "()I"⟩, 5), (⟨"OldMeasures$Stalls", "finedAt", "(I)I"⟩, 5), (⟨"OldMeasures$Stalls", "isTolerated", "(I)Z"⟩, 5), (⟨"OldMeasures", "needMeasure", "(I)V"⟩, 9), (⟨"OldMeasures", "needStall", "(I)V"⟩, 9), (⟨"OldMeasures", "givenWith", "(III)J"⟩, 9), (⟨"OldMeasures", "refineUnit", "(I)V"⟩, 9), (⟨"OldMeasures", "rankLast", "()V"⟩, 9), (⟨"OldMeasures", "lengthAt", "(I)J"⟩, 9)]
theorem lw_r1 : ∀ q ∈ lw_privs_1, lw_okq q := List.forall_mem_cons.mpr ⟨lw_p0, List.forall_mem_cons.mpr ⟨lw_p1, List.forall_mem_cons.mpr ⟨lw_p2, List.forall_mem_cons.mpr ⟨lw_p3, List.forall_mem_cons.mpr ⟨lw_p4, List.forall_mem_cons.mpr ⟨lw_p5, List.forall_mem_cons.mpr ⟨lw_p6, List.forall_mem_cons.mpr ⟨lw_p7, List.forall_mem_cons.mpr ⟨lw_p8, List.forall_mem_cons.mpr ⟨lw_p9, List.forall_mem_cons.mpr ⟨lw_p10, List.forall_mem_cons.mpr ⟨lw_p11, fun _ h => absurd h List.not_mem_nil⟩⟩⟩⟩⟩⟩⟩⟩⟩⟩⟩⟩
def lw_privs : List (MethodName × Nat) := lw_privs_1
def lw_tbl : List Cond := k2_sels lw_privs ++ tables_1
theorem lw_privs_ok : ∀ q ∈ lw_privs, lw_okq q := lw_r1
/-- the streams that the claim lets the run draw from -/
abbrev lw_cs : List Choice := [Jvm.Choice.named "NaN.bits"]
theorem lw_bits : nanBits ∈ lw_cs := by first | decide | exact List.mem_cons_self | simp [lw_cs, nanBits]
/-! ===== BEGIN words of one list among another's, by their places ===== -/
theorem goodIn_r {big : List Cond} (ws : List Cond) (ps : List Nat) (hp : ws = ps.filterMap (fun i => big[i]?)) (h : ws.all goodWord = true) : GoodIn big ws := by
  intro w hw
  have h1 := List.all_eq_true.mp h w hw
  rw [hp] at hw
  obtain ⟨i, -, hi⟩ := List.mem_filterMap.mp hw
  have hm : w ∈ big := by first | exact List.mem_of_getElem? hi | exact List.getElem?_mem hi
  exact ⟨hm, good_of_word h1⟩
theorem goodIn_app {big a b : List Cond} (ha : GoodIn big a) (hb : GoodIn big b) : GoodIn big (a ++ b) := fun w h => (List.mem_append.mp h).elim (ha w) (hb w)
theorem goodIn_ca {big a b : List Cond} {c : Cond} (ha : GoodIn big (c :: a)) (hb : GoodIn big b) : GoodIn big (c :: (a ++ b)) := fun w h => (List.mem_cons.mp h).elim (fun e => ha w (List.mem_cons.mpr (Or.inl e))) (fun h => (List.mem_append.mp h).elim (fun h => ha w (List.mem_cons.mpr (Or.inr h))) (hb w))
theorem goodIn_sub {big ws : List Cond} (hm : ∀ w ∈ ws, w ∈ big) (h : ws.all goodWord = true) : GoodIn big ws := fun w hw => ⟨hm w hw, good_of_word (List.all_eq_true.mp h w hw)⟩
/-! ===== END ===== -/

/-! ===== BEGIN exceptions that leave a method, and their catching by the caller (launches without stack traces) ===== -/
section VXA
/-! The laws vx_back, vx_callV, vx_callS, vx_callSW, vx_throw0, vx_throwS follow proofs of the library, with one case more: JvmDerived/Free/Laws.lean (Back.of_free), Shelf42/LK1.lean (callV, callS), Shelf/KitTraced.lean (throwNew0V, throwNewS). -/
/-- where a method has thrown q: the class by its name, the cell, what was written, the world -/
def vx_T (XC : String → State → State → Prop) (st : State) (q : Addr) (t : State) (mc ms : Nat) (free : Addr → Prop) : Prop :=
  ∃ (E : String) (ce : Cell) (L : List Loc), XC E st t ∧ t.heap[q]? = some ce ∧ ce.vm = .none ∧ st.vm.findClass E = some ce.cls ∧ st.WarmedH t.vm ∧ st.sameButNew ({ t with vm := st.vm } : State) L mc ms ∧ ∀ z ∈ L, free z.base
def vx_Q (Qc : Array Value → State → Outcome → State → Prop) (XC : String → State → State → Prop) (mc ms : Nat) (free : Addr → Prop) : Array Value → State → Outcome → State → Prop := fun a st o t =>
  (Qc a st o t ∧ ∃ L, FrameEnd st o t L mc ms ∧ ∀ q ∈ L, free q.base) ∨ ∃ q, o = .threw q ∧ vx_T XC st q t mc ms free
/-- a callee that returns or throws -/
def vx_Met (l : Launch) (y : MethodName) (ws : List Cond) (rm : Room) (Pc : Array Value → State → Prop) (Qc : Array Value → State → Outcome → State → Prop) (XC : String → State → State → Prop) (mc ms : Nat) (free : Addr → Prop) : Prop :=
  MetFree l y (headSpec ws rm) Pc (fun _ _ _ _ _ => True) (vx_Q Qc XC mc ms free)
def vx_Post (XC : String → State → State → Prop) (mc ms : Nat) (free : Addr → Prop) : Pt → Array Value → Addr → Pt → Prop := fun A a q B =>
  ∃ (g : JFrame) (mk : MethodId) (t : State) (L : List Loc) (E : String) (ce : Cell), B.U.heap = t.heap ∧ B.U.vm = t.vm ∧ XC E (A.U.calling g mk a) t ∧ t.heap[q]? = some ce ∧ ce.vm = .none ∧ A.U.vm.findClass E = some ce.cls ∧ B.locs = A.locs ++ L ∧ (∀ z ∈ L, free z.base) ∧ B.cells = A.cells + mc ∧ B.slots = A.slots + ms
def vx_Back (l : Launch) (R : Room) (p : Program) (e : Env) (below : List Frame) (s : State) (sargs : Array Value) (y : MethodName) (len W9 : Nat)
    (Pre : Pt → Array Value → Prop) (Post : Pt → Array Value → Option Value → Pt → Prop) (PostX : Pt → Array Value → Addr → Pt → Prop) : Prop :=
  ∀ (m : MethodId) (meth : Method) (c : Code) (A : Pt) (g : JFrame) (ig : Instr) (mk : MethodId) (a : Array Value),
    Stand p l e R s m sargs below meth c A.U A.locs A.cells A.slots → g.method = m → g.locals.size = c.maxLocals → decode c.code g.pc = .ok (ig, len) →
    2 * g.monitorRoom + (g.stack.map fun v => v.category).sum ≤ W9 → A.U.methodNamed? y = some mk → Pre A a →
    (∃ (v : Option Value) (B : Pt), Stand p l e R s m sargs below meth c B.U B.locs B.cells B.slots ∧ Post A a v B ∧
      Steps p.tables e below (doInvoke e (A.U.setTop g) [] mk a).1 (B.U.setTop { g with pc := g.pc + len, stack := v.toList ++ g.stack })) ∨
    (∃ (q : Addr) (B : Pt), Stand p l e R s m sargs below meth c B.U B.locs B.cells B.slots ∧ PostX A a q B ∧
      Steps p.tables e below (doInvoke e (A.U.setTop g) [] mk a).1 ((B.U.setTop g).pushFrame (.throwing q)))
section Payer
variable {l : Launch} {R : Room} {p : Program} {e : Env} {below : List Frame} {s : State} {sargs : Array Value} {y : MethodName} {len W9 : Nat}
theorem vx_back {ws : List Cond} {rm : Room} {Pc : Array Value → State → Prop} {Qc : Array Value → State → Outcome → State → Prop} {XC : String → State → State → Prop} {mc ms : Nat} {free : Addr → Prop} {bytes : ByteArray} {maxL : Nat} {ret : Option FieldType}
    (hM : vx_Met l y ws rm Pc Qc XC mc ms free) (hblind : FrameBlind Pc) (hrc : rm.cells = mc) (hrs : rm.slots = ms)
    (hframes : rm.frames + 1 ≤ R.frames) (hlocals : W9 + (maxL + 11) + rm.locals ≤ R.locals)
    (hws : ∀ w ∈ ws, ∀ a' U, s.WarmedH U.vm → w.before a' U = true) (hcode : Cond.code y bytes maxL ret ∈ ws) (hinit : ∀ a' U, s.WarmedH U.vm → (Cond.initialized y.cls).before a' U = true) :
    vx_Back l R p e below s sargs y len W9 (PreOf R mc ms Pc) (PostOf Qc mc ms free) (vx_Post XC mc ms free) := by
  intro m meth c A g ig mk a X hg hsize hdg hW hn hp
  have h1 : (headSpec ws rm).pre.before a A.U = true := atoms_intro fun w hw => hws w hw _ _ X.warmed
  have h2 : (Cond.code y bytes maxL ret).before a A.U = true := hws _ hcode _ _ X.warmed
  have h3 : (Cond.initialized y.cls).before a A.U = true := hinit _ _ X.warmed
  have h4 : A.cells + (headSpec ws rm).room.cells ≤ R.cells := by rw [show (headSpec ws rm).room.cells = mc from hrc]; exact hp.1
  have h5 : A.slots + (headSpec ws rm).room.slots ≤ R.slots := by rw [show (headSpec ws rm).room.slots = ms from hrs]; exact hp.2.1
  have hPc : Pc a (A.U.calling g mk a) := hblind _ _ _ _ hp.2.2
  obtain ⟨U, Ls, c0, s0⟩ := A
  dsimp only [Pt.U, Pt.locs, Pt.cells, Pt.slots] at h1 h2 h3 h4 h5 X hn hPc ⊢
  obtain ⟨methY, cY, hmY, hcY, -, hlY, -, -, -, -⟩ := Cond.code_spec hn h2
  obtain ⟨kY, hkY, -⟩ := className_of_methodNamed hn
  have hinitY : kY.init = .initialized := Cond.initialized_spec (findClass_of_methodNamed hn) hkY h3
  have h : At U g.method c below := by rw [hg]; exact X.here
  have hlocals9 : W9 + (maxL + 11) + (headSpec ws rm).room.locals ≤ R.locals := hlocals
  have happ : (headSpec ws rm).appliesLoose y e.platform (U.calling g mk a) = true :=
    Spec.appliesLoose_calling (g := g) h hdg hn hkY hinitY
      (X.room_calling (g := g) (R' := (headSpec ws rm).room) hsize hmY hcY hframes (by rw [hlY]; omega) h4 h5) h1
  obtain ⟨mid, hmid⟩ := h.above
  have hfr : (U.setTop g).frames = (.java g :: mid) ++ below := by rw [State.frames_setTop' g h.top, hmid]; rfl
  obtain ⟨o, s₂, hsteps, -, hend, hq⟩ := Steps.callFree hM p X.admits X.cas X.clock (acts := []) hfr happ hPc trivial
  have hq' : vx_Q Qc XC mc ms free a (U.calling g mk a) o s₂ := hq
  rw [State.frames_setTop' g h.top] at hend
  obtain ⟨g₀, hg0⟩ := Option.isSome_iff_exists.mp h.top
  obtain ⟨r, hr⟩ := State.topJava?_eq_some.mp hg0
  have hr' : (({ U with heap := s₂.heap, slotsUsed := s₂.slotsUsed } : State).setVm s₂.vm).frames = .java g₀ :: r := hr
  rcases hq' with ⟨hqc, L, hfe, hL⟩ | ⟨q, rfl, E, ce, L, hx, hce, hcv, hcl, hW₂, hsm, hL⟩
  · obtain ⟨⟨v, rfl⟩, hW₂, e2, q2, q3, q4, q5, q6⟩ := id hfe
    have e3 : s₂ = ({ (U.calling g mk a).setFrames s₂.frames with heap := s₂.heap, slotsUsed := s₂.slotsUsed } : State).setVm s₂.vm := by
      have : s₂ = ({ s₂ with vm := (U.calling g mk a).vm } : State).setVm s₂.vm := rfl
      rw [e2] at this
      exact this
    obtain ⟨c₂, i₂, len₂, hc₂, hd₂, hf₂⟩ := hend
    have hW' : U.WarmedH s₂.vm := hW₂
    have hcc : c₂ = c := by
      have h1 : s₂.code? g.method = U.code? g.method := by
        rw [State.code?_eq, State.code?_eq, hW'.alike.method?]
      exact Option.some.inj (hc₂.symm.trans (h1.trans h.code))
    subst hcc
    have hlen : len₂ = len := by rw [hdg] at hd₂; cases hd₂; rfl
    subst hlen
    have hs₂ : s₂ = (({ U with heap := s₂.heap, slotsUsed := s₂.slotsUsed } : State).setVm s₂.vm).setTop { g with pc := g.pc + len₂, stack := v.toList ++ g.stack } := by
      refine e3.trans ?_
      rw [hf₂, State.calling_eq h.top, State.setFrames_setFrames, State.setTop_of_frames _ hr', hr]
      rfl
    have hsame : U.sameButNew ({ U with heap := s₂.heap, slotsUsed := s₂.slotsUsed } : State) L mc ms := by
      refine ⟨?_, q2, q3, q4, q5, q6⟩
      obtain ⟨t, ht, -⟩ := State.frames_cons hr
      show ({ U with heap := s₂.heap, slotsUsed := s₂.slotsUsed } : State) = { U.setFrames U.frames with heap := s₂.heap, slotsUsed := s₂.slotsUsed }
      rw [State.setFrames_self ht]
    subst hg
    refine Or.inl ⟨v, ⟨(({ U with heap := s₂.heap, slotsUsed := s₂.slotsUsed } : State).setVm s₂.vm), Ls ++ L, c0 + mc, s0 + ms⟩,
      ⟨X.admits, X.cas, X.clock, X.frames, X.room, X.hears, X.method, X.code, (X.here.setHeapUsed s₂.heap s₂.slotsUsed).setVm hW'.alike, X.tail, State.WarmedH.trans X.warmed hW', X.limits, X.bytes, X.same.trans (hsame.setVm s.vm)⟩,
      ⟨g, mk, s₂, L, rfl, rfl, hqc, rfl, hL, rfl, rfl⟩, ?_⟩
    show Steps p.tables e below _ ((({ U with heap := s₂.heap, slotsUsed := s₂.slotsUsed } : State).setVm s₂.vm).setTop { g with pc := g.pc + len₂, stack := v.toList ++ g.stack })
    rw [← hs₂]
    exact hsteps
  · obtain ⟨e2, q2, q3, q4, q5, q6⟩ := id hsm
    have e3 : s₂ = ({ (U.calling g mk a).setFrames s₂.frames with heap := s₂.heap, slotsUsed := s₂.slotsUsed } : State).setVm s₂.vm := by
      have : s₂ = ({ s₂ with vm := (U.calling g mk a).vm } : State).setVm s₂.vm := rfl
      rw [e2] at this
      exact this
    have hf₂ : s₂.frames = .throwing q :: .java g :: U.frames.tail := hend
    have hW' : U.WarmedH s₂.vm := hW₂
    have hs₂ : s₂ = ((({ U with heap := s₂.heap, slotsUsed := s₂.slotsUsed } : State).setVm s₂.vm).setTop g).pushFrame (.throwing q) := by
      refine e3.trans ?_
      rw [hf₂, State.calling_eq h.top, State.setFrames_setFrames, State.pushFrame, State.frames_setTop _ hr', State.setTop_of_frames _ hr', State.setFrames_setFrames, hr]
      rfl
    have hsame : U.sameButNew ({ U with heap := s₂.heap, slotsUsed := s₂.slotsUsed } : State) L mc ms := by
      refine ⟨?_, q2, q3, q4, q5, q6⟩
      obtain ⟨t, ht, -⟩ := State.frames_cons hr
      show ({ U with heap := s₂.heap, slotsUsed := s₂.slotsUsed } : State) = { U.setFrames U.frames with heap := s₂.heap, slotsUsed := s₂.slotsUsed }
      rw [State.setFrames_self ht]
    subst hg
    refine Or.inr ⟨q, ⟨(({ U with heap := s₂.heap, slotsUsed := s₂.slotsUsed } : State).setVm s₂.vm), Ls ++ L, c0 + mc, s0 + ms⟩,
      ⟨X.admits, X.cas, X.clock, X.frames, X.room, X.hears, X.method, X.code, (X.here.setHeapUsed s₂.heap s₂.slotsUsed).setVm hW'.alike, X.tail, State.WarmedH.trans X.warmed hW', X.limits, X.bytes, X.same.trans (hsame.setVm s.vm)⟩,
      ⟨g, mk, s₂, L, E, ce, rfl, rfl, hx, hce, hcv, hcl, rfl, hL, rfl, rfl⟩, ?_⟩
    show Steps p.tables e below _ (((({ U with heap := s₂.heap, slotsUsed := s₂.slotsUsed } : State).setVm s₂.vm).setTop g).pushFrame (.throwing q))
    rw [← hs₂]
    exact hsteps
end Payer
section Calls
variable {p : Program} {l : Launch} {e : Env} {R : Room} {s : State} {m : MethodId} {args : Array Value} {below : List Frame} {meth : Method} {c : Code} {T : State} {locs : List Loc} {cells slots : Nat}
theorem vx_callV (X : Stand p l e R s m args below meth c T locs cells slots) (hexec : p.tables.exec = Jvm.exec) {own C : String} {index : Nat} {y : MethodName} {bytes : ByteArray} {maxL : Nat} {ret : Option FieldType}
    (hown : s.vm.findClass own = some m.cls) (hlink : (Cond.methodLink own index y).before args s = true) (hinst : (Cond.instanceMethod y).before args s = true) (hsel : (Cond.selects C y y).before args s = true)
    (hcode : (Cond.code y bytes maxL ret).before args s = true) (hy : y.cls ≠ "java/lang/invoke/MethodHandle" ∧ y.cls ≠ "java/lang/invoke/VarHandle")
    {W9 : Nat} {Pre : Pt → Array Value → Prop} {Post : Pt → Array Value → Option Value → Pt → Prop} {PostX : Pt → Array Value → Addr → Pt → Prop} (hK : vx_Back l R p e below s args y 3 W9 Pre Post PostX)
    {b : Addr} {cellB : Cell} (hcell : T.heap[b]? = some cellB) (hobj : cellB.vm.isStatics = false) (hcls : s.vm.findClass C = some cellB.cls)
    {g : JFrame} (hg : g.method = m) (hsize : g.locals.size = c.maxLocals) {argsL rest : List Value} (hlen : ∀ sig, parseMethodDescriptor y.desc = some sig → argsL.length = sig.parameters.length)
    (hstack : g.stack = argsL.reverse ++ .ref b :: rest) (hW : 2 * g.monitorRoom + (rest.map fun v => v.category).sum ≤ W9) (hdg : decode c.code g.pc = .ok (.invokevirtual index, 3))
    (hpre : ∀ vm₁, s.WarmedH vm₁ → Pre ⟨T.setVm vm₁, locs, cells, slots⟩ (Value.ref b :: argsL).toArray) :
    (∃ (v : Option Value) (vm₁ : Vm) (B : Pt), s.WarmedH vm₁ ∧ Stand p l e R s m args below meth c B.U B.locs B.cells B.slots ∧ Post ⟨T.setVm vm₁, locs, cells, slots⟩ (Value.ref b :: argsL).toArray v B ∧
      ∀ target, Steps p.tables e below (B.U.setTop { g with pc := g.pc + 3, stack := v.toList ++ rest }) target → Steps p.tables e below (T.setTop g) target) ∨
    (∃ (q : Addr) (vm₁ : Vm) (B : Pt), s.WarmedH vm₁ ∧ Stand p l e R s m args below meth c B.U B.locs B.cells B.slots ∧ PostX ⟨T.setVm vm₁, locs, cells, slots⟩ (Value.ref b :: argsL).toArray q B ∧
      Steps p.tables e below (T.setTop g) ((B.U.setTop { g with stack := rest }).pushFrame (.throwing q))) := by
  obtain ⟨mk, methM, hnamed, hmethM, hstM, habM⟩ := Cond.instanceMethod_spec hinst
  obtain ⟨methM', cM, hmethM', -, -, -, -, -, -, hsigM⟩ := Cond.code_spec hnamed hcode
  cases hmethM.symm.trans hmethM'
  obtain ⟨c2, r2, m2, q1, q2, q3, q4, kP, hkP, hkPi⟩ := Cond.selects_spec hsel
  cases hcls.symm.trans q1
  cases (State.methodFound?_of_named hnamed hy).symm.trans q2
  cases hnamed.symm.trans q3
  have hselP : selectMethod e.platform s.vm cellB.cls mk = .method mk := by rw [Launch.admits_selectMethod X.admits]; exact q4
  obtain ⟨vm₁, X₁, hstep₁⟩ := X.invokevirtual hexec hown hlink hnamed hmethM hstM hkP hkPi hy (a := b) (cell := cellB) hcell
    (fun z h => by rw [h] at hobj; cases hobj) hselP hmethM habM hkP hkPi (g := g) hg (argsL := argsL) (rest := rest) (hlen _ hsigM) hstack hdg
  rcases hK m meth c ⟨T.setVm vm₁, locs, cells, slots⟩ { g with stack := rest } (.invokevirtual index) mk (Value.ref b :: argsL).toArray X₁ hg hsize hdg hW (X₁.named hnamed) (hpre vm₁ X₁.warmed) with ⟨v, B, X', hpost, hsteps⟩ | ⟨q, B, X', hpost, hsteps⟩
  · exact Or.inl ⟨v, vm₁, B, X₁.warmed, X', hpost, fun target h => hstep₁ _ fun acts => by rw [doInvoke_state]; exact hsteps.trans h⟩
  · exact Or.inr ⟨q, vm₁, B, X₁.warmed, X', hpost, hstep₁ _ fun acts => by rw [doInvoke_state]; exact hsteps⟩
theorem vx_callS (X : Stand p l e R s m args below meth c T locs cells slots) (hexec : p.tables.exec = Jvm.exec) {own : String} {index : Nat} {y : MethodName} {bytes : ByteArray} {maxL : Nat} {ret : Option FieldType}
    (hown : s.vm.findClass own = some m.cls) (hlink : (Cond.methodLink own index y).before args s = true) (hstat : (Cond.static y).before args s = true) (hinit : (Cond.initialized y.cls).before args s = true)
    (hcode : (Cond.code y bytes maxL ret).before args s = true) (hy : y.cls ≠ "java/lang/invoke/MethodHandle" ∧ y.cls ≠ "java/lang/invoke/VarHandle")
    {W9 : Nat} {Pre : Pt → Array Value → Prop} {Post : Pt → Array Value → Option Value → Pt → Prop} {PostX : Pt → Array Value → Addr → Pt → Prop} (hK : vx_Back l R p e below s args y 3 W9 Pre Post PostX)
    {g : JFrame} (hg : g.method = m) (hsize : g.locals.size = c.maxLocals) {argsL rest : List Value} (hlen : ∀ sig, parseMethodDescriptor y.desc = some sig → argsL.length = sig.parameters.length)
    (hstack : g.stack = argsL.reverse ++ rest) (hW : 2 * g.monitorRoom + (rest.map fun v => v.category).sum ≤ W9) (hdg : decode c.code g.pc = .ok (.invokestatic index, 3))
    (hpre : ∀ vm₁, s.WarmedH vm₁ → Pre ⟨T.setVm vm₁, locs, cells, slots⟩ argsL.toArray) :
    (∃ (v : Option Value) (vm₁ : Vm) (B : Pt), s.WarmedH vm₁ ∧ Stand p l e R s m args below meth c B.U B.locs B.cells B.slots ∧ Post ⟨T.setVm vm₁, locs, cells, slots⟩ argsL.toArray v B ∧
      ∀ target, Steps p.tables e below (B.U.setTop { g with pc := g.pc + 3, stack := v.toList ++ rest }) target → Steps p.tables e below (T.setTop g) target) ∨
    (∃ (q : Addr) (vm₁ : Vm) (B : Pt), s.WarmedH vm₁ ∧ Stand p l e R s m args below meth c B.U B.locs B.cells B.slots ∧ PostX ⟨T.setVm vm₁, locs, cells, slots⟩ argsL.toArray q B ∧
      Steps p.tables e below (T.setTop g) ((B.U.setTop { g with stack := rest }).pushFrame (.throwing q))) := by
  obtain ⟨mk, hnamed⟩ := Cond.code_named hcode
  obtain ⟨methM, cM, hmethM, -, -, -, -, -, -, hsigM⟩ := Cond.code_spec hnamed hcode
  have hstatic : methM.isStatic = true := Cond.static_spec hnamed hmethM hstat
  obtain ⟨kP, hkP, -⟩ := className_of_methodNamed hnamed
  have hinitP : kP.init = .initialized := Cond.initialized_spec (findClass_of_methodNamed hnamed) hkP hinit
  obtain ⟨vm₁, X₁, hstep₁⟩ := X.invokestatic hexec hown hlink hnamed hmethM hstatic hkP hinitP hy (g := g) hg (argsL := argsL) (rest := rest) (hlen _ hsigM) hstack hdg
  rcases hK m meth c ⟨T.setVm vm₁, locs, cells, slots⟩ { g with stack := rest } (.invokestatic index) mk argsL.toArray X₁ hg hsize hdg hW (X₁.named hnamed) (hpre vm₁ X₁.warmed) with ⟨v, B, X', hpost, hsteps⟩ | ⟨q, B, X', hpost, hsteps⟩
  · exact Or.inl ⟨v, vm₁, B, X₁.warmed, X', hpost, fun target h => hstep₁ _ fun acts => by rw [doInvoke_state]; exact hsteps.trans h⟩
  · exact Or.inr ⟨q, vm₁, B, X₁.warmed, X', hpost, hstep₁ _ fun acts => by rw [doInvoke_state]; exact hsteps⟩
end Calls
theorem vx_cls {s : State} {T : State} {vm₁ : Vm} {E : String} {k : ClassId} (hW : s.WarmedH vm₁) (h : (T.setVm vm₁).vm.findClass E = some k) : s.vm.findClass E = some k := by
  have h1 : vm₁.findClass E = some k := h
  rw [hW.alike.findClass] at h1
  exact h1
/-- the method's frame g, with q thrown over it -/
def vx_W (p : Program) (l : Launch) (e : Env) (R : Room) (s : State) (m : MethodId) (args : Array Value) (below : List Frame) (meth : Method) (c : Code) (H : Heap) (locs : List Loc) (cells slots : Nat) (Q : State → Prop) (g : JFrame) (q : Addr) : Prop :=
  ∀ T : State, T.heap = H → Stand p l e R s m args below meth c T locs cells slots → ∃ t, Steps p.tables e below ((T.setTop g).pushFrame (.throwing q)) t ∧ Q t
def vx_Run (p : Program) (l : Launch) (e : Env) (R : Room) (s : State) (m : MethodId) (args : Array Value) (below : List Frame) (meth : Method) (c : Code) (H : Heap) (locs : List Loc) (cells slots mc ms : Nat) (g : JFrame) (rest : List Value) (Qa : State → Outcome → State → Prop) (XC : String → State → State → Prop) (free : Addr → Prop) : Prop :=
  ∀ T : State, T.heap = H → Stand p l e R s m args below meth c T locs cells slots →
    (∃ (v : Option Value) (st₀ t T' : State) (L : List Loc), st₀.heap = H ∧ Stand p l e R s m args below meth c T' (locs ++ L) (cells + mc) (slots + ms) ∧ (∀ q ∈ L, free q.base) ∧ T'.heap = t.heap ∧ T'.vm = t.vm ∧ Qa st₀ (.returned v) t ∧
      Goes p e below T g T' { g with pc := g.pc + 3, stack := v.toList ++ rest }) ∨
    (∃ (q : Addr) (st₀ t T' : State) (L : List Loc) (E : String) (ce : Cell), st₀.heap = H ∧ Stand p l e R s m args below meth c T' (locs ++ L) (cells + mc) (slots + ms) ∧ (∀ z ∈ L, free z.base) ∧ T'.heap = t.heap ∧ T'.vm = t.vm ∧ XC E st₀ t ∧ t.heap[q]? = some ce ∧ ce.vm = .none ∧ s.vm.findClass E = some ce.cls ∧
      Steps p.tables e below (T.setTop g) ((T'.setTop { g with stack := rest }).pushFrame (.throwing q)))
def vx_X {S : Type} (px : S → Prop) (B : String → S → State → Prop) (A : Nat → Prop) : String → State → State → Prop := fun E st t => ∃ u : S, px u ∧ B E u t ∧ va_F A st t
section Runs
variable {p : Program} {l : Launch} {e : Env} {R : Room} {s : State} {m : MethodId} {args : Array Value} {below : List Frame} {meth : Method} {c : Code} {H : Heap} {locs : List Loc} {cells slots : Nat}
variable {y : MethodName} {bytes cc : ByteArray} {maxL nL mc ms n index : Nat} {ret : Option FieldType} {ws : List Cond} {rm : Room} {Pc : Array Value → State → Prop} {Qc : Array Value → State → Outcome → State → Prop} {XC : String → State → State → Prop} {free : Addr → Prop} {Ts : List Cond} {own C : String} {b : Addr} {As rest : List Value} {g : JFrame}
theorem vx_callBack (cb : CallB R s args own index y bytes maxL ret ws rm mc ms n) (hM : vx_Met l y ws rm Pc Qc XC mc ms free) (hbl : FrameBlind Pc) : vx_Back l R p e below s args y 3 8 (PreOf R mc ms Pc) (PostOf Qc mc ms free) (vx_Post XC mc ms free) := by
  obtain ⟨hrc, hrs, hfr, hlo, hws, hcw, -, hini, -⟩ := cb
  exact vx_back (bytes := bytes) (maxL := maxL) (ret := ret) hM hbl hrc hrs hfr hlo hws hcw (fun a' U hW => word_at hW (Or.inl (by first | rfl | simp [Cond.onTables, Cond.keeps, Cond.steady])) hini)
theorem vx_runV (S : CallFix p m c cc nL s args Ts own) (hM : vx_Met l y ws rm Pc Qc XC mc ms free) (cw : CallW R s args own C index y bytes maxL ret ws rm mc ms n) (hp : PreV s H C b Pc As)
    (hg : g.method = m) (hn : As.length = n) (hsize : g.locals.size = nL) (hstack : g.stack = As.reverse ++ .ref b :: rest) (hW : 2 * g.monitorRoom + (rest.map fun v => v.category).sum ≤ 8) (hdg : decode cc g.pc = .ok (.invokevirtual index, 3)) (hf : cells + mc ≤ R.cells ∧ slots + ms ≤ R.slots) :
    vx_Run p l e R s m args below meth c H locs cells slots mc ms g rest (Qc (Value.ref b :: As).toArray) XC free := by
  have hK : vx_Back l R p e below s args y 3 8 (PreOf R mc ms Pc) (PostOf Qc mc ms free) (vx_Post XC mc ms free) := vx_callBack cw.1 hM hp.1
  obtain ⟨⟨-, -, -, -, -, -, hcode, -, hy, hlen, hl⟩, hin, hse⟩ := cw
  obtain ⟨hx, hb, hml, ho, -⟩ := S
  obtain ⟨-, ⟨cellB, hcB, hoB, hclB⟩, hPc⟩ := hp
  intro T hT X
  rcases vx_callV X hx (C := C) (bytes := bytes) (maxL := maxL) (ret := ret) ho hl hin hse hcode hy hK (by rw [hT]; exact hcB) hoB hclB hg (hsize.trans hml.symm) (argsL := As) (rest := rest) (fun sig h => hn.trans (hlen sig h)) hstack hW (by rw [hb]; exact hdg)
    (fun vm₁ hW₁ => ⟨hf.1, hf.2, hPc (T.setVm vm₁) hT hW₁⟩) with ⟨v, vm₁, ⟨U', l2, c2, s2⟩, hW₁, X', ⟨g', mk, t, L, e1, e2, hq, h1, hL, h2, h3⟩, st⟩ | ⟨q, vm₁, ⟨U', l2, c2, s2⟩, hW₁, X', ⟨g', mk, t, L, E, ce, e1, e2, hq, hce, hcv, hcl, h1, hL, h2, h3⟩, st⟩
  · dsimp only [Pt.U, Pt.locs, Pt.cells, Pt.slots] at X' e1 e2 h1 h2 h3 st
    subst h1; subst h2; subst h3
    exact Or.inl ⟨v, (T.setVm vm₁).calling g' mk (Value.ref b :: As).toArray, t, U', L, hT, X', hL, e1, e2, hq, st⟩
  · dsimp only [Pt.U, Pt.locs, Pt.cells, Pt.slots] at X' e1 e2 h1 h2 h3 st hcl
    subst h1; subst h2; subst h3
    exact Or.inr ⟨q, (T.setVm vm₁).calling g' mk (Value.ref b :: As).toArray, t, U', L, E, ce, hT, X', hL, e1, e2, hq, hce, hcv, vx_cls hW₁ hcl, st⟩
theorem vx_runS (S : CallFix p m c cc nL s args Ts own) (hM : vx_Met l y ws rm Pc Qc XC mc ms free) (cw : CallB R s args own index y bytes maxL ret ws rm mc ms n ∧ (Cond.static y).before args s = true) (hp : PreS s H Pc As)
    (hg : g.method = m) (hn : As.length = n) (hsize : g.locals.size = nL) (hstack : g.stack = As.reverse ++ rest) (hW : 2 * g.monitorRoom + (rest.map fun v => v.category).sum ≤ 8) (hdg : decode cc g.pc = .ok (.invokestatic index, 3)) (hf : cells + mc ≤ R.cells ∧ slots + ms ≤ R.slots) :
    vx_Run p l e R s m args below meth c H locs cells slots mc ms g rest (Qc As.toArray) XC free := by
  have hK : vx_Back l R p e below s args y 3 8 (PreOf R mc ms Pc) (PostOf Qc mc ms free) (vx_Post XC mc ms free) := vx_callBack cw.1 hM hp.1
  obtain ⟨⟨-, -, -, -, -, -, hcode, hini, hy, hlen, hl⟩, hstt⟩ := cw
  obtain ⟨hx, hb, hml, ho, -⟩ := S
  intro T hT X
  rcases vx_callS X hx (bytes := bytes) (maxL := maxL) (ret := ret) ho hl hstt hini hcode hy hK hg (hsize.trans hml.symm) (argsL := As) (rest := rest) (fun sig h => hn.trans (hlen sig h)) hstack hW (by rw [hb]; exact hdg)
    (fun vm₁ hW₁ => ⟨hf.1, hf.2, hp.2 (T.setVm vm₁) hT hW₁⟩) with ⟨v, vm₁, ⟨U', l2, c2, s2⟩, hW₁, X', ⟨g', mk, t, L, e1, e2, hq, h1, hL, h2, h3⟩, st⟩ | ⟨q, vm₁, ⟨U', l2, c2, s2⟩, hW₁, X', ⟨g', mk, t, L, E, ce, e1, e2, hq, hce, hcv, hcl, h1, hL, h2, h3⟩, st⟩
  · dsimp only [Pt.U, Pt.locs, Pt.cells, Pt.slots] at X' e1 e2 h1 h2 h3 st
    subst h1; subst h2; subst h3
    exact Or.inl ⟨v, (T.setVm vm₁).calling g' mk As.toArray, t, U', L, hT, X', hL, e1, e2, hq, st⟩
  · dsimp only [Pt.U, Pt.locs, Pt.cells, Pt.slots] at X' e1 e2 h1 h2 h3 st hcl
    subst h1; subst h2; subst h3
    exact Or.inr ⟨q, (T.setVm vm₁).calling g' mk As.toArray, t, U', L, E, ce, hT, X', hL, e1, e2, hq, hce, hcv, vx_cls hW₁ hcl, st⟩
end Runs
section Rows
variable {p : Program} {l : Launch} {e : Env} {R : Room} {s : State} {m : MethodId} {args : Array Value} {below : List Frame} {meth : Method} {c : Code} {H : Heap} {locs : List Loc} {cells slots : Nat} {Q : State → Prop}
variable {mc ms : Nat} {free : Addr → Prop} {A0 A1 : Nat → Prop} {H0 : Heap} {a : Array Value} {pc : Nat} {ls : Array Slot} {st0 rest : List Value}
theorem vx_keep {st₀ t T' : State} {L : List Loc} (h0 : st₀.heap = H) (e1 : T'.heap = t.heap) (hS : va_S A0 H0 H locs) (hA : ∀ q, q < H.size → A1 q → A0 q) (hf : ∀ q, free q → A0 q) (hL : ∀ q ∈ L, free q.base) (hF : va_F A1 st₀ t) :
    H.size ≤ T'.heap.size ∧ (∀ q : Nat, q < H.size → ¬ A1 q → T'.heap[q]? = H[q]?) ∧ va_S A0 H0 T'.heap (locs ++ L) := by
  obtain ⟨hz, hk⟩ := hF
  rw [h0] at hz hk
  exact ⟨by rw [e1]; exact hz, fun q h1 h2 => by rw [e1]; exact hk q h1 h2,
    ⟨Nat.le_trans hS.1 (by rw [e1]; exact hz), fun q h1 h2 => by rw [e1, hk q (Nat.lt_of_lt_of_le h1 hS.1) (fun z => h2 (hA q (Nat.lt_of_lt_of_le h1 hS.1) z))]; exact hS.2.1 q h1 h2, fun q hq => by
      rcases List.mem_append.mp hq with h | h
      · exact hS.2.2 q h
      · exact hf _ (hL q h)⟩⟩
theorem vx_calli {S SX : Type} {post : Int32 → S → Prop} {px : SX → Prop} {B : S → State → Prop} {BX : String → SX → State → Prop} {AX : Nat → Prop} (hr : vx_Run p l e R s m args below meth c H locs cells slots mc ms (F0 m pc ls st0) rest (va_Qi post B A1 a) (vx_X px BX AX) free) (hS : va_S A0 H0 H locs) (hA : ∀ q, q < H.size → A1 q → A0 q) (hf : ∀ q, free q → A0 q) (hAX : ∀ q, q < H.size → AX q → A0 q)
    (kx : ∀ (E : String) (ce : Cell) (q9 : Addr) (u : SX) (t : State) (H1 : Heap) (locs1 : List Loc), t.heap = H1 → s.vm.Alike t.vm → px u → BX E u t → H.size ≤ H1.size → (∀ q : Nat, q < H.size → ¬ AX q → H1[q]? = H[q]?) → va_S A0 H0 H1 locs1 → H1[q9]? = some ce → ce.vm = .none → s.vm.findClass E = some ce.cls → vx_W p l e R s m args below meth c H1 locs1 (cells + mc) (slots + ms) Q (F0 m pc ls rest) q9)
    (kk : ∀ (r : Int32) (u : S) (t : State) (H1 : Heap) (locs1 : List Loc), t.heap = H1 → s.vm.Alike t.vm → post r u → B u t → H.size ≤ H1.size → (∀ q : Nat, q < H.size → ¬ A1 q → H1[q]? = H[q]?) → va_S A0 H0 H1 locs1 → W p l e R s m args below meth c H1 locs1 (cells + mc) (slots + ms) Q (F0 m (pc + 3) ls (.int r :: rest))) : W p l e R s m args below meth c H locs cells slots Q (F0 m pc ls st0) := by
  intro T hT X
  rcases hr T hT X with ⟨v, st₀, t, T', L, h0, X', hL, e1, e2, ⟨⟨r, u, hv, hp, hb⟩, hF⟩, st⟩ | ⟨q, st₀, t, T', L, E, ce, h0, X', hL, e1, e2, ⟨u, hp, hb, hF⟩, hce, hcv, hcl, st⟩
  · cases hv
    obtain ⟨k1, k2, k3⟩ := vx_keep h0 e1 hS hA hf hL hF
    obtain ⟨t2, a1, b1⟩ := kk r u t T'.heap (locs ++ L) e1.symm (by rw [← e2]; exact X'.warmed.alike) hp hb k1 k2 k3 T' rfl X'
    exact ⟨t2, st t2 a1, b1⟩
  · obtain ⟨k1, k2, k3⟩ := vx_keep h0 e1 hS hAX hf hL hF
    obtain ⟨t2, a1, b1⟩ := kx E ce q u t T'.heap (locs ++ L) e1.symm (by rw [← e2]; exact X'.warmed.alike) hp hb k1 k2 k3 (by rw [e1]; exact hce) hcv hcl T' rfl X'
    exact ⟨t2, st.trans a1, b1⟩
theorem vx_calll {S SX : Type} {post : Int64 → S → Prop} {px : SX → Prop} {B : S → State → Prop} {BX : String → SX → State → Prop} {AX : Nat → Prop} (hr : vx_Run p l e R s m args below meth c H locs cells slots mc ms (F0 m pc ls st0) rest (va_Ql post B A1 a) (vx_X px BX AX) free) (hS : va_S A0 H0 H locs) (hA : ∀ q, q < H.size → A1 q → A0 q) (hf : ∀ q, free q → A0 q) (hAX : ∀ q, q < H.size → AX q → A0 q)
    (kx : ∀ (E : String) (ce : Cell) (q9 : Addr) (u : SX) (t : State) (H1 : Heap) (locs1 : List Loc), t.heap = H1 → s.vm.Alike t.vm → px u → BX E u t → H.size ≤ H1.size → (∀ q : Nat, q < H.size → ¬ AX q → H1[q]? = H[q]?) → va_S A0 H0 H1 locs1 → H1[q9]? = some ce → ce.vm = .none → s.vm.findClass E = some ce.cls → vx_W p l e R s m args below meth c H1 locs1 (cells + mc) (slots + ms) Q (F0 m pc ls rest) q9)
    (kk : ∀ (r : Int64) (u : S) (t : State) (H1 : Heap) (locs1 : List Loc), t.heap = H1 → s.vm.Alike t.vm → post r u → B u t → H.size ≤ H1.size → (∀ q : Nat, q < H.size → ¬ A1 q → H1[q]? = H[q]?) → va_S A0 H0 H1 locs1 → W p l e R s m args below meth c H1 locs1 (cells + mc) (slots + ms) Q (F0 m (pc + 3) ls (.long r :: rest))) : W p l e R s m args below meth c H locs cells slots Q (F0 m pc ls st0) := by
  intro T hT X
  rcases hr T hT X with ⟨v, st₀, t, T', L, h0, X', hL, e1, e2, ⟨⟨r, u, hv, hp, hb⟩, hF⟩, st⟩ | ⟨q, st₀, t, T', L, E, ce, h0, X', hL, e1, e2, ⟨u, hp, hb, hF⟩, hce, hcv, hcl, st⟩
  · cases hv
    obtain ⟨k1, k2, k3⟩ := vx_keep h0 e1 hS hA hf hL hF
    obtain ⟨t2, a1, b1⟩ := kk r u t T'.heap (locs ++ L) e1.symm (by rw [← e2]; exact X'.warmed.alike) hp hb k1 k2 k3 T' rfl X'
    exact ⟨t2, st t2 a1, b1⟩
  · obtain ⟨k1, k2, k3⟩ := vx_keep h0 e1 hS hAX hf hL hF
    obtain ⟨t2, a1, b1⟩ := kx E ce q u t T'.heap (locs ++ L) e1.symm (by rw [← e2]; exact X'.warmed.alike) hp hb k1 k2 k3 (by rw [e1]; exact hce) hcv hcl T' rfl X'
    exact ⟨t2, st.trans a1, b1⟩
theorem vx_callf {S SX : Type} {post : UInt32 → S → Prop} {px : SX → Prop} {B : S → State → Prop} {BX : String → SX → State → Prop} {AX : Nat → Prop} (hr : vx_Run p l e R s m args below meth c H locs cells slots mc ms (F0 m pc ls st0) rest (va_Qf post B A1 a) (vx_X px BX AX) free) (hS : va_S A0 H0 H locs) (hA : ∀ q, q < H.size → A1 q → A0 q) (hf : ∀ q, free q → A0 q) (hAX : ∀ q, q < H.size → AX q → A0 q)
    (kx : ∀ (E : String) (ce : Cell) (q9 : Addr) (u : SX) (t : State) (H1 : Heap) (locs1 : List Loc), t.heap = H1 → s.vm.Alike t.vm → px u → BX E u t → H.size ≤ H1.size → (∀ q : Nat, q < H.size → ¬ AX q → H1[q]? = H[q]?) → va_S A0 H0 H1 locs1 → H1[q9]? = some ce → ce.vm = .none → s.vm.findClass E = some ce.cls → vx_W p l e R s m args below meth c H1 locs1 (cells + mc) (slots + ms) Q (F0 m pc ls rest) q9)
    (kk : ∀ (r : UInt32) (u : S) (t : State) (H1 : Heap) (locs1 : List Loc), t.heap = H1 → s.vm.Alike t.vm → post r u → B u t → H.size ≤ H1.size → (∀ q : Nat, q < H.size → ¬ A1 q → H1[q]? = H[q]?) → va_S A0 H0 H1 locs1 → W p l e R s m args below meth c H1 locs1 (cells + mc) (slots + ms) Q (F0 m (pc + 3) ls (.float r :: rest))) : W p l e R s m args below meth c H locs cells slots Q (F0 m pc ls st0) := by
  intro T hT X
  rcases hr T hT X with ⟨v, st₀, t, T', L, h0, X', hL, e1, e2, ⟨⟨r, u, hv, hp, hb⟩, hF⟩, st⟩ | ⟨q, st₀, t, T', L, E, ce, h0, X', hL, e1, e2, ⟨u, hp, hb, hF⟩, hce, hcv, hcl, st⟩
  · cases hv
    obtain ⟨k1, k2, k3⟩ := vx_keep h0 e1 hS hA hf hL hF
    obtain ⟨t2, a1, b1⟩ := kk r u t T'.heap (locs ++ L) e1.symm (by rw [← e2]; exact X'.warmed.alike) hp hb k1 k2 k3 T' rfl X'
    exact ⟨t2, st t2 a1, b1⟩
  · obtain ⟨k1, k2, k3⟩ := vx_keep h0 e1 hS hAX hf hL hF
    obtain ⟨t2, a1, b1⟩ := kx E ce q u t T'.heap (locs ++ L) e1.symm (by rw [← e2]; exact X'.warmed.alike) hp hb k1 k2 k3 (by rw [e1]; exact hce) hcv hcl T' rfl X'
    exact ⟨t2, st.trans a1, b1⟩
theorem vx_calld {S SX : Type} {post : UInt64 → S → Prop} {px : SX → Prop} {B : S → State → Prop} {BX : String → SX → State → Prop} {AX : Nat → Prop} (hr : vx_Run p l e R s m args below meth c H locs cells slots mc ms (F0 m pc ls st0) rest (va_Qd post B A1 a) (vx_X px BX AX) free) (hS : va_S A0 H0 H locs) (hA : ∀ q, q < H.size → A1 q → A0 q) (hf : ∀ q, free q → A0 q) (hAX : ∀ q, q < H.size → AX q → A0 q)
    (kx : ∀ (E : String) (ce : Cell) (q9 : Addr) (u : SX) (t : State) (H1 : Heap) (locs1 : List Loc), t.heap = H1 → s.vm.Alike t.vm → px u → BX E u t → H.size ≤ H1.size → (∀ q : Nat, q < H.size → ¬ AX q → H1[q]? = H[q]?) → va_S A0 H0 H1 locs1 → H1[q9]? = some ce → ce.vm = .none → s.vm.findClass E = some ce.cls → vx_W p l e R s m args below meth c H1 locs1 (cells + mc) (slots + ms) Q (F0 m pc ls rest) q9)
    (kk : ∀ (r : UInt64) (u : S) (t : State) (H1 : Heap) (locs1 : List Loc), t.heap = H1 → s.vm.Alike t.vm → post r u → B u t → H.size ≤ H1.size → (∀ q : Nat, q < H.size → ¬ A1 q → H1[q]? = H[q]?) → va_S A0 H0 H1 locs1 → W p l e R s m args below meth c H1 locs1 (cells + mc) (slots + ms) Q (F0 m (pc + 3) ls (.double r :: rest))) : W p l e R s m args below meth c H locs cells slots Q (F0 m pc ls st0) := by
  intro T hT X
  rcases hr T hT X with ⟨v, st₀, t, T', L, h0, X', hL, e1, e2, ⟨⟨r, u, hv, hp, hb⟩, hF⟩, st⟩ | ⟨q, st₀, t, T', L, E, ce, h0, X', hL, e1, e2, ⟨u, hp, hb, hF⟩, hce, hcv, hcl, st⟩
  · cases hv
    obtain ⟨k1, k2, k3⟩ := vx_keep h0 e1 hS hA hf hL hF
    obtain ⟨t2, a1, b1⟩ := kk r u t T'.heap (locs ++ L) e1.symm (by rw [← e2]; exact X'.warmed.alike) hp hb k1 k2 k3 T' rfl X'
    exact ⟨t2, st t2 a1, b1⟩
  · obtain ⟨k1, k2, k3⟩ := vx_keep h0 e1 hS hAX hf hL hF
    obtain ⟨t2, a1, b1⟩ := kx E ce q u t T'.heap (locs ++ L) e1.symm (by rw [← e2]; exact X'.warmed.alike) hp hb k1 k2 k3 (by rw [e1]; exact hce) hcv hcl T' rfl X'
    exact ⟨t2, st.trans a1, b1⟩
theorem vx_callv {S SX : Type} {post : S → Prop} {px : SX → Prop} {B : S → State → Prop} {BX : String → SX → State → Prop} {AX : Nat → Prop} (hr : vx_Run p l e R s m args below meth c H locs cells slots mc ms (F0 m pc ls st0) rest (va_Qv post B A1 a) (vx_X px BX AX) free) (hS : va_S A0 H0 H locs) (hA : ∀ q, q < H.size → A1 q → A0 q) (hf : ∀ q, free q → A0 q) (hAX : ∀ q, q < H.size → AX q → A0 q)
    (kx : ∀ (E : String) (ce : Cell) (q9 : Addr) (u : SX) (t : State) (H1 : Heap) (locs1 : List Loc), t.heap = H1 → s.vm.Alike t.vm → px u → BX E u t → H.size ≤ H1.size → (∀ q : Nat, q < H.size → ¬ AX q → H1[q]? = H[q]?) → va_S A0 H0 H1 locs1 → H1[q9]? = some ce → ce.vm = .none → s.vm.findClass E = some ce.cls → vx_W p l e R s m args below meth c H1 locs1 (cells + mc) (slots + ms) Q (F0 m pc ls rest) q9)
    (kk : ∀ (u : S) (t : State) (H1 : Heap) (locs1 : List Loc), t.heap = H1 → s.vm.Alike t.vm → post u → B u t → H.size ≤ H1.size → (∀ q : Nat, q < H.size → ¬ A1 q → H1[q]? = H[q]?) → va_S A0 H0 H1 locs1 → W p l e R s m args below meth c H1 locs1 (cells + mc) (slots + ms) Q (F0 m (pc + 3) ls (rest))) : W p l e R s m args below meth c H locs cells slots Q (F0 m pc ls st0) := by
  intro T hT X
  rcases hr T hT X with ⟨v, st₀, t, T', L, h0, X', hL, e1, e2, ⟨⟨u, hv, hp, hb⟩, hF⟩, st⟩ | ⟨q, st₀, t, T', L, E, ce, h0, X', hL, e1, e2, ⟨u, hp, hb, hF⟩, hce, hcv, hcl, st⟩
  · cases hv
    obtain ⟨k1, k2, k3⟩ := vx_keep h0 e1 hS hA hf hL hF
    obtain ⟨t2, a1, b1⟩ := kk u t T'.heap (locs ++ L) e1.symm (by rw [← e2]; exact X'.warmed.alike) hp hb k1 k2 k3 T' rfl X'
    exact ⟨t2, st t2 a1, b1⟩
  · obtain ⟨k1, k2, k3⟩ := vx_keep h0 e1 hS hAX hf hL hF
    obtain ⟨t2, a1, b1⟩ := kx E ce q u t T'.heap (locs ++ L) e1.symm (by rw [← e2]; exact X'.warmed.alike) hp hb k1 k2 k3 (by rw [e1]; exact hce) hcv hcl T' rfl X'
    exact ⟨t2, st.trans a1, b1⟩
/-- caught by the row x of this method's table; the rows ahead don't take it -/
theorem vx_catch {own name : String} {E : String} {ce : Cell} {q : Addr} (hown : s.vm.findClass own = some m.cls) (pre : List ExceptionTableEntry) (x : ExceptionTableEntry) (suf : List ExceptionTableEntry) (hsplit : c.exceptionTable.toList = pre ++ x :: suf)
    (hpass : ∀ z ∈ pre, covers z pc = false ∨ (z.catchType ≠ 0 ∧ ∃ nm : String, (Cond.classLink own z.catchType nm).before args s = true ∧ va_Nc E nm s)) (hx : covers x pc = true) (h0 : x.catchType ≠ 0)
    (hlink : (Cond.classLink own x.catchType name).before args s = true) (hcast : (Cond.castable E name).before args s = true) (hcell : H[q]? = some ce) (hv : ce.vm = .none) (hcl : s.vm.findClass E = some ce.cls)
    (kk : W p l e R s m args below meth c H locs cells slots Q (F0 m x.handlerPc ls [.ref q])) : vx_W p l e R s m args below meth c H locs cells slots Q (F0 m pc ls rest) q := by
  intro T hT X
  have hpl : e.platform.magicAccessors = ({} : Platform).magicAccessors := by rw [X.admits.platform]
  obtain ⟨c3, c4, hc3, hc4, hasg⟩ := Cond.castable_spec hcast
  cases Option.some.inj (hc3.symm.trans hcl)
  obtain ⟨c5, hc5, hcl5⟩ := Cond.classLink_spec hown hlink e.platform hpl
  cases Option.some.inj (hc4.symm.trans hc5)
  obtain ⟨vm', X', st⟩ := X.thenCaughtThrough q (g := F0 m pc ls rest) rfl (Steps.refl _) (by rw [hT]; exact hcell) (by rw [hv]; rfl) (by obtain ⟨k9, h9, -⟩ := Vm.findClass_spec hcl; exact ⟨k9, h9⟩) pre x suf hsplit
    (fun z hz => by
      rcases hpass z hz with h | ⟨hz0, nm, hl1, hn1⟩
      · exact Or.inl h
      · obtain ⟨c6, hc6, hcl6⟩ := Cond.classLink_spec hown hl1 e.platform hpl
        obtain ⟨a8, b8, h1, h2, h3⟩ := hn1
        cases Option.some.inj (h1.symm.trans hcl)
        cases Option.some.inj (h2.symm.trans hc6)
        exact Or.inr ⟨hz0, _, hcl6, h3⟩) hx (Or.inr ⟨h0, c4, hcl5, hasg⟩)
  obtain ⟨t, a1, b1⟩ := kk (T.setVm vm') hT X'
  exact ⟨t, st.trans a1, b1⟩
end Rows
section Ends
variable {p : Program} {l : Launch} {e : Env} {R : Room} {s : State} {m : MethodId} {args : Array Value} {below : List Frame} {meth : Method} {c : Code} {H : Heap} {locs : List Loc} {cells slots : Nat} {Q : State → Prop}
variable {mc ms : Nat} {free : Addr → Prop} {A0 A1 : Nat → Prop} {H0 : Heap} {a : Array Value} {ls : Array Slot} {st0 rest : List Value}
variable {Qc : Array Value → State → Outcome → State → Prop} {XC : String → State → State → Prop}
/-- what a body that may throw owes at its end -/
def vx_MQ (below : List Frame) (Qc : Array Value → State → Outcome → State → Prop) (XC : String → State → State → Prop) (a : Array Value) (s : State) (mc ms : Nat) (free : Addr → Prop) : State → Prop := fun t =>
  ∃ o, t.status = .running ∧ Ended t below o ∧ vx_Q Qc XC mc ms free a s o t
theorem vx_ret {g : JFrame} {mc ms : Nat} (k : W p l e R s m args below meth c H locs cells slots (MQ below Qc args s mc ms free) g) : W p l e R s m args below meth c H locs cells slots (vx_MQ below Qc XC args s mc ms free) g := by
  intro T hT X
  obtain ⟨t, a1, o, b1, b2, b3, b4⟩ := k T hT X
  exact ⟨t, a1, o, b1, b2, Or.inl ⟨b3, b4⟩⟩
/-- not caught here: it goes on to the caller -/
theorem vx_widen {g : JFrame} {q : Addr} {k n : Nat} (h1 : cells ≤ k) (h2 : slots ≤ n) (kk : vx_W p l e R s m args below meth c H locs k n Q g q) : vx_W p l e R s m args below meth c H locs cells slots Q g q := fun T hT X => kk T hT (stand_widen X h1 h2)
theorem vx_out {pc : Nat} {E : String} {ce : Cell} {q : Addr} {mc ms : Nat} (hout : ∀ x ∈ c.exceptionTable.toList, covers x pc = false) (hlocks : meth.locks = false) (hcell : H[q]? = some ce) (hv : ce.vm = .none) (hcl : s.vm.findClass E = some ce.cls)
    (hx : ∀ t : State, t.heap = H → s.vm.Alike t.vm → XC E s t) (hf : ∀ z ∈ locs, free z.base) (hc : cells ≤ mc) (hs : slots ≤ ms) :
    vx_W p l e R s m args below meth c H locs cells slots (vx_MQ below Qc XC args s mc ms free) (F0 m pc ls rest) q := by
  intro T hT X
  obtain ⟨st1, hrun, hend, hW, hsm⟩ := X.leaveThrown q (g := F0 m pc ls rest) rfl rfl rfl hout hlocks
  have hcell9 : (T.setFrames (.throwing q :: below)).heap[q]? = some ce := by
    show T.heap[q]? = some ce
    rw [hT]; exact hcell
  exact ⟨_, st1, .threw q, hrun, hend, Or.inr ⟨q, rfl, E, ce, locs, hx _ hT hW.alike, hcell9, hv, hcl, hW, hsm.mono hc hs, hf⟩⟩
theorem vx_frame {U : State} {k n : Nat} (h : s.sameButNew ({ U with vm := s.vm } : State) locs k n) : s.heap.size ≤ U.heap.size ∧ ∀ q : Nat, q < s.heap.size → (∀ z ∈ locs, z.base ≠ q) → U.heap[q]? = s.heap[q]? := by
  obtain ⟨-, h2, -, -, -, h6⟩ := h
  refine ⟨h2, fun q hq hz => ?_⟩
  obtain ⟨c9, e1, e2, e3, e4⟩ := h6 q _ (Array.getElem?_eq_getElem hq)
  have hs : c9.slots = (s.heap[q]).slots := Array.ext_getElem? fun i => e4 i fun hm => hz _ hm rfl
  have h9 : c9 = s.heap[q] := by
    rw [hs] at e2
    exact e2
  have e5 : U.heap[q]? = some c9 := e1
  rw [e5, h9, Array.getElem?_eq_getElem hq]
/-- the words of a throw but the four that speak of the heap -/
def vx_no (w : Cond) : Bool := decide (w ≠ .isRef (.static Bundle.tN "UNASSIGNED_STACK" Bundle.steD)) && decide (w ≠ .isRef (.static Bundle.tN "SUPPRESSED_SENTINEL" Bundle.listD)) && decide (w ≠ .laysStatic Bundle.tN "UNASSIGNED_STACK" Bundle.steD) && decide (w ≠ .laysStatic Bundle.tN "SUPPRESSED_SENTINEL" Bundle.listD)
def vx_at0 (own : String) (ic : Nat) (X : String) (names : List String) : List Cond := (Bundle.ownAtoms0 own ic X names).filter vx_no
def vx_atS (own : String) (ic : Nat) (X : String) (names : List String) : List Cond := (Bundle.ownAtoms own ic X names).filter vx_no
/-- a word that the tables alone decide, or a good one -/
def vx_ot (w : Cond) : Bool := w.onTables || goodWord w
theorem vx_ot_at {args a' : Array Value} {s U : State} {w : Cond} (hW : s.WarmedH U.vm) (hvm : s.vm = U.vm) (hg : vx_ot w = true) (h : w.before args s = true) : w.before a' U = true := by
  simp only [vx_ot, Bool.or_eq_true] at hg
  rcases hg with hg | hg
  · exact va_tabs hg hvm h
  · exact word_at hW (good_of_word hg) h
/-- a list's words: the good ones out of the method's own list, the others by premises of their own -/
theorem vx_hat {args : Array Value} {s : State} {L B : List Cond} (h1 : ∀ w ∈ L.filter goodWord, w.before args s = true) (h2 : ∀ w ∈ L.filter (fun w => !goodWord w), w ∈ B) (h3 : ∀ w ∈ B, w.before args s = true) : ∀ w ∈ L, w.before args s = true := by
  intro w hw
  by_cases g : goodWord w = true
  · exact h1 w (List.mem_filter.mpr ⟨hw, g⟩)
  · refine h3 w (h2 w (List.mem_filter.mpr ⟨hw, ?_⟩))
    show (!goodWord w) = true
    cases hgw : goodWord w
    · rfl
    · exact absurd hgw g
theorem vx_c {args : Array Value} {s : State} {w : Cond} {B : List Cond} (h : w.before args s = true) (t : ∀ w ∈ B, w.before args s = true) : ∀ w' ∈ w :: B, w'.before args s = true := fun w' h' => (List.mem_cons.mp h').elim (fun e => by rw [e]; exact h) (t w')
theorem vx_n {args : Array Value} {s : State} : ∀ w ∈ ([] : List Cond), w.before args s = true := fun _ h => nomatch h
theorem vx_own {args : Array Value} {s : State} {L : List Cond} (h1 : ∀ w ∈ L.filter vx_no, w.before args s = true)
    (hU : (Cond.isRef (.static Bundle.tN "UNASSIGNED_STACK" Bundle.steD)).before args s = true) (hN : (Cond.isRef (.static Bundle.tN "SUPPRESSED_SENTINEL" Bundle.listD)).before args s = true)
    (lU : (Cond.laysStatic Bundle.tN "UNASSIGNED_STACK" Bundle.steD).before args s = true) (lN : (Cond.laysStatic Bundle.tN "SUPPRESSED_SENTINEL" Bundle.listD).before args s = true) : ∀ w ∈ L, w.before args s = true := by
  intro w hw
  by_cases e1 : w = .isRef (.static Bundle.tN "UNASSIGNED_STACK" Bundle.steD)
  · rw [e1]; exact hU
  · by_cases e2 : w = .isRef (.static Bundle.tN "SUPPRESSED_SENTINEL" Bundle.listD)
    · rw [e2]; exact hN
    · by_cases e3 : w = .laysStatic Bundle.tN "UNASSIGNED_STACK" Bundle.steD
      · rw [e3]; exact lU
      · by_cases e4 : w = .laysStatic Bundle.tN "SUPPRESSED_SENTINEL" Bundle.listD
        · rw [e4]; exact lN
        · exact h1 w (List.mem_filter.mpr ⟨hw, by unfold vx_no; rw [decide_eq_true e1, decide_eq_true e2, decide_eq_true e3, decide_eq_true e4]; rfl⟩)
/-- where a static field lies, its class's statics cell in H -/
def vx_L (C n d : String) (A : Nat → Prop) (U : State) (H : Heap) : Prop := ∃ (c : ClassId) (k : Class) (i : Nat) (f : Field) (a : Nat) (cell : Cell), U.vm.findClass C = some c ∧ U.fieldFound? C n d = some (c, k, i, f) ∧ f.isStatic = true ∧ k.statics = some a ∧ H[a]? = some cell ∧ cell.vm.isStatics = true ∧ cell.cls = c ∧ f.slot < cell.slots.size ∧ k.staticTypes[f.slot]? = some f.type ∧ ¬ A a
theorem vx_L.moved {C n d : String} {A : Nat → Prop} {u U : State} {H : Heap} (hvm : u.vm.Alike U.vm) (h : vx_L C n d A u H) : vx_L C n d A U H := by
  obtain ⟨c, k, i, f, a, cell, h1, h2, h3, h4, h5, h6, h7, h8, h9, h10⟩ := h
  obtain ⟨k', hi', he⟩ := State.fieldFound?_setVm hvm h2
  exact ⟨c, k', i, f, a, cell, by rw [hvm.findClass]; exact h1, hi', h3, by rw [he]; exact h4, h5, h6, h7, h8, by rw [he]; exact h9, h10⟩
theorem vx_L.kept {C n d : String} {A : Nat → Prop} {U : State} {H H1 : Heap} (h : vx_L C n d A U H) (hq : ∀ a : Nat, a < H.size → ¬ A a → H1[a]? = H[a]?) : vx_L C n d A U H1 := by
  obtain ⟨c, k, i, f, a, cell, h1, h2, h3, h4, h5, h6, h7, h8, h9, h10⟩ := h
  exact ⟨c, k, i, f, a, cell, h1, h2, h3, h4, by rw [hq a (Array.getElem?_eq_some_iff.mp h5).1 h10]; exact h5, h6, h7, h8, h9, h10⟩
theorem vx_L.narrow {C n d : String} {A B : Nat → Prop} {U : State} {H : Heap} (h : vx_L C n d A U H) (hAB : ∀ q, B q → A q) : vx_L C n d B U H := by
  obtain ⟨c, k, i, f, a, cell, h1, h2, h3, h4, h5, h6, h7, h8, h9, h10⟩ := h
  exact ⟨c, k, i, f, a, cell, h1, h2, h3, h4, h5, h6, h7, h8, h9, fun z => h10 (hAB _ z)⟩
theorem vx_L.word {C n d : String} {A : Nat → Prop} {s : State} {args : Array Value} (h : vx_L C n d A s s.heap) : (Cond.laysStatic C n d).before args s = true := by
  obtain ⟨c, k, i, f, a, cell, h1, h2, h3, h4, h5, h6, h7, h8, h9, -⟩ := h
  show (Cond.laysStatic C n d).holds args s none s [] = true
  exact Cond.laysStatic_of h1 h2 h3 h4 h5 h6 h7 h8 h9
/-- .. and what it holds: null or some reference -/
def vx_Zq (C n d : String) (A : Nat → Prop) (U : State) (H : Heap) : Prop := va_Zq C n d A U H ∧ vx_L C n d A U H
theorem vx_Zq.moved {C n d : String} {A : Nat → Prop} {u U : State} {H : Heap} (hvm : u.vm.Alike U.vm) (h : vx_Zq C n d A u H) : vx_Zq C n d A U H := ⟨va_Zq.moved hvm h.1, vx_L.moved hvm h.2⟩
theorem vx_Zq.kept {C n d : String} {A : Nat → Prop} {U : State} {H H1 : Heap} (h : vx_Zq C n d A U H) (hq : ∀ a : Nat, a < H.size → ¬ A a → H1[a]? = H[a]?) : vx_Zq C n d A U H1 := ⟨va_Zq.kept h.1 hq, vx_L.kept h.2 hq⟩
theorem vx_Zq.narrow {C n d : String} {A B : Nat → Prop} {U : State} {H : Heap} (h : vx_Zq C n d A U H) (hAB : ∀ q, B q → A q) : vx_Zq C n d B U H := ⟨va_Zq.narrow h.1 hAB, vx_L.narrow h.2 hAB⟩
theorem vx_Zqof {args : Array Value} {s : State} {C n d : String} {A : Nat → Prop} (hl : (Cond.laysStatic C n d).before args s = true) (hini : (Cond.initialized C).before args s = true) (h : (Cond.isRef (.static C n d)).before args s = true) (hA : ∀ a : Nat, a < s.heap.size → ¬ A a) : vx_Zq C n d A s s.heap := by
  refine ⟨va_Zqof hl hini h hA, ?_⟩
  obtain ⟨c, k, i, f, a, cell, h1, h2, h3, h4, h5, h6, h7, h8, h9⟩ := Cond.laysStatic_spec hl
  exact ⟨c, k, i, f, a, cell, h1, h2, h3, h4, h5, h6, h7, h8, h9, hA a (Array.getElem?_eq_some_iff.mp h5).1⟩
theorem vx_isRef {C n d : String} {v : Value} {A : Nat → Prop} {s : State} {args : Array Value} (h : va_Z C n d v A s s.heap) (hv : v.isRef = true) : (Cond.isRef (.static C n d)).before args s = true := by
  obtain ⟨cf, kf, fi, f, a, cell, h1, h2, h3, h4, h5, h6, h7, -⟩ := h
  have he : (Term.static C n d).eval args s none [] s = some v := by
    simp [Term.eval, State.fieldNamed?, h1, h2, h4, h5, h6, h7]
  simp only [Cond.before, Cond.holds, Cond.value, he]
  cases v <;> simp_all [Value.isRef]
theorem vx_isRefq {C n d : String} {A : Nat → Prop} {s : State} {args : Array Value} (h : va_Zq C n d A s s.heap) : (Cond.isRef (.static C n d)).before args s = true := by
  rcases h with h | ⟨t, h⟩
  · exact vx_isRef h rfl
  · exact vx_isRef h rfl
/-- the same frame, seen from here: as if the method were called anew in this heap -/
theorem vx_rebase {T : State} (X : Stand p l e R s m args below meth c T locs cells slots) {R' : Room} (hf : R'.frames ≤ R.frames) (hl : R'.locals ≤ R.locals) (hc : cells + R'.cells ≤ R.cells) (hs : slots + R'.slots ≤ R.slots) :
    Stand p l e R' ((T.setVm s.vm).setFrames (.invoking m args :: below)) m args below meth c T [] 0 0 := by
  have htop : (T.setVm s.vm).topJava?.isSome := X.here.top
  have hF : ((T.setVm s.vm).setFrames (.invoking m args :: below)).frames = .invoking m args :: below := State.frames_setFrames _ (State.cur_lt_of_top htop)
  obtain ⟨g₀, hg0⟩ := Option.isSome_iff_exists.mp htop
  obtain ⟨r, hr⟩ := State.topJava?_eq_some.mp hg0
  have hl9 : e.platform.stackLimits (T.setVm s.vm).me = e.platform.stackLimits s.me := X.limits
  have hb9 : (T.setVm s.vm).me.stackBytes = s.me.stackBytes := X.bytes
  refine ⟨X.admits, X.cas, X.clock, hF, ?_, X.hears, X.method, X.code, X.here, X.tail, X.warmed, ?_, ?_, ?_⟩
  · have h := X.room
    have hU : ((T.setVm s.vm).setFrames (.invoking m args :: below)).localsInUse = s.localsInUse := by
      rw [State.localsInUse_invoking hF (meth := meth) (c := c) X.method X.code, State.localsInUse_invoking X.frames X.method X.code]
    simp only [State.hasRoom, Bool.and_eq_true, decide_eq_true_eq] at h ⊢
    obtain ⟨⟨⟨⟨h1, h2, h3, h4, h5, h6⟩, h7⟩, h8⟩, h9⟩ := h
    rw [X.frames, List.length_cons] at h2 h3
    have q1 := X.heapSize
    have q2 := X.used
    simp only [hF, hU, List.length_cons, State.stackLimits_setFrames, State.stackBytes_setFrames, hl9, hb9]
    refine ⟨⟨⟨⟨by omega, by omega, by omega, by omega, by omega, h6⟩, ?_⟩, ?_⟩, X.book⟩
    · show T.heap.size + R'.cells ≤ e.platform.maxCells
      omega
    · show T.slotsUsed + R'.slots ≤ e.platform.maxSlots
      omega
  · rw [State.stackLimits_setFrames]; rfl
  · rw [State.stackBytes_setFrames]; rfl
  · refine ⟨?_, Nat.le_refl _, Nat.le_refl _, ?_, ?_, fun a c9 h9 => ⟨c9, h9, rfl, rfl, fun _ _ => rfl⟩⟩
    · obtain ⟨t, ht, -⟩ := State.frames_cons hr
      show T.setVm s.vm = { ((T.setVm s.vm).setFrames (.invoking m args :: below)).setFrames (T.setVm s.vm).frames with heap := T.heap, slotsUsed := T.slotsUsed }
      rw [State.setFrames_setFrames, State.setFrames_self ht]
      rfl
    · show T.slotsUsed = T.slotsUsed + ((T.heap.toList.drop T.heap.size).map (·.slots.size)).sum
      rw [List.drop_eq_nil_of_le (Nat.le_of_eq Array.length_toList)]
      rfl
    · show ((T.heap.toList.drop T.heap.size).map (·.slots.size)).sum ≤ 0
      rw [List.drop_eq_nil_of_le (Nat.le_of_eq Array.length_toList)]
      exact Nat.le_refl _
/-- 'throw new E()': new; dup; invokespecial; athrow -/
theorem vx_throw0 {cc : ByteArray} {pc : Nat} (hexec : p.tables.exec = Jvm.exec) (hb : c.code = cc) (hl : l.stackTraces = false) {own cls : String} {names : List String} {ik ic mc ms : Nat} {A : Nat → Prop}
    (hown : s.vm.findClass own = some m.cls) (hcls : Bundle.fit cls = true) (hnames : ∀ n ∈ names, Bundle.fit n = true)
    (hk : (Cond.classLink own ik cls).before args s = true) (hini : (Cond.initialized cls).before args s = true) (hat : ∀ w ∈ vx_at0 own ic cls names, w.before args s = true)
    (hgood : ∀ w ∈ Cond.classLink own ik cls :: Cond.initialized cls :: vx_at0 own ic cls names, vx_ot w = true)
    (hU : vx_Zq Bundle.tN "UNASSIGNED_STACK" Bundle.steD A s s.heap) (hN : vx_Zq Bundle.tN "SUPPRESSED_SENTINEL" Bundle.listD A s s.heap) (hS : va_S A s.heap H locs) (hsize : ls.size = c.maxLocals)
    (d0 : decode cc pc = .ok (.new ik, 3)) (d3 : decode cc (pc + 3) = .ok (.dup, 1)) (d4 : decode cc (pc + 4) = .ok (.invokespecial ic, 3)) (d7 : decode cc (pc + 7) = .ok (.athrow, 1))
    (hout : ∀ x ∈ c.exceptionTable.toList, covers x (pc + 7) = false)
    (hRframes : names.length + 3 < R.frames) (hRlocals : (rest.map fun v => v.category).sum + (13 * (names.length + 1) + 42) ≤ R.locals) (hRcells : cells + 1 ≤ R.cells) (hRslots : slots + 6 ≤ R.slots) (hlocks : meth.locks = false)
    (hx : ∀ t : State, s.vm.Alike t.vm → H.size ≤ t.heap.size → (∀ q : Nat, q < H.size → t.heap[q]? = H[q]?) → XC cls s t)
    (hf : ∀ z ∈ locs, free z.base) (hc : cells + 1 ≤ mc) (hs : slots + 6 ≤ ms) :
    W p l e R s m args below meth c H locs cells slots (vx_MQ below Qc XC args s mc ms free) (F0 m pc ls rest) := by
  intro T hT X
  have htr : e.platform.stackTraces = false := (show e.platform.stackTraces = l.stackTraces by rw [X.admits.platform]).trans hl
  have Y := vx_rebase X (R' := { frames := R.frames, locals := R.locals, cells := 1, slots := 6 }) (Nat.le_refl _) (Nat.le_refl _) hRcells hRslots
  obtain ⟨s', hA⟩ : ∃ z, z = (T.setVm s.vm).setFrames (.invoking m args :: below) := ⟨_, rfl⟩
  rw [← hA] at Y
  have hvm : s'.vm = s.vm := by rw [hA]; rfl
  have hhp : s'.heap = H := by rw [hA]; exact hT
  have hW0 : s.WarmedH s'.vm := by rw [hvm]; exact State.WarmedH.refl s
  have hat' : ∀ w ∈ vx_at0 own ic cls names, w.before args s' = true := fun w hw => vx_ot_at hW0 hvm.symm (hgood w (List.mem_cons_of_mem _ (List.mem_cons_of_mem _ hw))) (hat w hw)
  have hk' : (Cond.classLink own ik cls).before args s' = true := vx_ot_at hW0 hvm.symm (hgood _ List.mem_cons_self) hk
  have hini' : (Cond.initialized cls).before args s' = true := vx_ot_at hW0 hvm.symm (hgood _ (List.mem_cons_of_mem _ List.mem_cons_self)) hini
  have hU' : vx_Zq Bundle.tN "UNASSIGNED_STACK" Bundle.steD A s' s'.heap := by rw [hhp]; exact vx_Zq.moved hW0.alike (hU.kept hS.2.1)
  have hN' : vx_Zq Bundle.tN "SUPPRESSED_SENTINEL" Bundle.listD A s' s'.heap := by rw [hhp]; exact vx_Zq.moved hW0.alike (hN.kept hS.2.1)
  have h : ∀ w ∈ Bundle.ownAtoms0 own ic cls names, w.before args s' = true := vx_own hat' (vx_isRefq hU'.1) (vx_isRefq hN'.1) hU'.2.word hN'.2.word
  have hown' : s'.vm.findClass own = some m.cls := by rw [hvm]; exact hown
  have hins : (Cond.instantiable cls 6).before args s' = true := h _ (by simp [Bundle.ownAtoms0])
  obtain ⟨vm₁, cX, kX, hfX, hkX, -, -, X₁, st1⟩ := Y.newCold hexec (own := own) (C := cls) (index := ik) (n := 6) hown' hk' hins hini'
    (g := F0 m pc ls rest) rfl (by rw [hb]; exact d0) (Nat.le_refl _) (Nat.le_refl _)
  generalize hT1 : (T.setVm vm₁).pushCell { cls := cX, slots := kX.instanceTypes.map defaultValue, vm := .none } = T1 at X₁ st1
  have hcat : (Value.ref T.heap.size).category = 1 := rfl
  have hcellA : T1.heap[T.heap.size]? = some (freshCell cX kX) := by rw [← hT1]; exact State.heap_pushCell_size _ _
  have d3' : decode c.code (pc + 3) = .ok (.dup, 1) := by rw [hb]; exact d3
  obtain ⟨U, hsteps, hrun, hend, hW, hsame, ce, hce, hO⟩ := X₁.ctorThrow0 hexec htr (own := own) (cls := cls) (names := names) (ic := ic) hown' hcls hnames h (fun x hx => nomatch hx) hfX hkX hcellA (by rw [hhp, hT]; exact Nat.le_refl _)
    (g := { method := m, pc := pc + 4, locals := ls, stack := .ref T.heap.size :: .ref T.heap.size :: rest, locked := none }) rfl hsize rfl rfl (rest := rest) rfl
    (by rw [hb]; exact d4) (by rw [hb]; exact d7) hout hRframes (by simp only [List.map_cons, List.sum_cons, hcat]; omega) hlocks
  obtain ⟨f1, f2⟩ := vx_frame hsame
  rw [hhp] at f1 f2
  have hWs : s.WarmedH U.vm := State.WarmedH.trans hW0 hW
  have hcl : s.vm.findClass cls = some ce.cls := by
    have h9 := hO.cls
    rw [hvm] at h9
    exact h9
  have hall : s.sameButNew ({ U with vm := s.vm } : State) locs mc ms := by
    subst hA
    obtain ⟨e1, e2⟩ := hsame
    rw [State.setFrames_setFrames] at e1
    have h2 : (T.setVm s.vm).sameButNew ({ U with vm := s.vm } : State) [] (0 + 1) (0 + 6) := ⟨e1, e2⟩
    have h3 := X.same.trans h2
    rw [List.append_nil] at h3
    exact h3.mono hc hs
  refine ⟨U, ?_, .threw T.heap.size, hrun, hend, Or.inr ⟨T.heap.size, rfl, cls, ce, locs, hx U hWs.alike f1 (fun q hq => f2 q hq (fun z hz => nomatch hz)), hce, hO.vm, hcl, hWs, hall, hf⟩⟩
  refine st1 _ ?_
  show Steps p.tables e below (T1.setTop { method := m, pc := pc + 3, locals := ls, stack := .ref T.heap.size :: rest, locked := none }) _
  jvm_step X₁.here [X₁.here.top, hexec, d3', Value.category]
  exact hsteps
/-- 'throw new E("text")': new; dup; ldc; invokespecial; athrow -/
theorem vx_throwS {cc : ByteArray} {pc : Nat} (hexec : p.tables.exec = Jvm.exec) (hb : c.code = cc) (hl : l.stackTraces = false) {own cls text : String} {names : List String} {ik is ic mc ms sa : Nat} {A : Nat → Prop}
    (hown : s.vm.findClass own = some m.cls) (hcls : Bundle.fit cls = true) (hnames : ∀ n ∈ names, Bundle.fit n = true)
    (hk : (Cond.classLink own ik cls).before args s = true) (hini : (Cond.initialized cls).before args s = true) (hstr : vk_R own is text sa s) (hat : ∀ w ∈ vx_atS own ic cls names, w.before args s = true)
    (hgood : ∀ w ∈ Cond.classLink own ik cls :: Cond.initialized cls :: vx_atS own ic cls names, vx_ot w = true)
    (hU : vx_Zq Bundle.tN "UNASSIGNED_STACK" Bundle.steD A s s.heap) (hN : vx_Zq Bundle.tN "SUPPRESSED_SENTINEL" Bundle.listD A s s.heap) (hS : va_S A s.heap H locs) (hsize : ls.size = c.maxLocals)
    (d0 : decode cc pc = .ok (.new ik, 3)) (d3 : decode cc (pc + 3) = .ok (.dup, 1)) (d4 : decode cc (pc + 4) = .ok (.ldc is, 2)) (d6 : decode cc (pc + 6) = .ok (.invokespecial ic, 3)) (d9 : decode cc (pc + 9) = .ok (.athrow, 1))
    (hout : ∀ x ∈ c.exceptionTable.toList, covers x (pc + 9) = false)
    (hRframes : names.length + 3 < R.frames) (hRlocals : (rest.map fun v => v.category).sum + (13 * (names.length + 1) + 43) ≤ R.locals) (hRcells : cells + 1 ≤ R.cells) (hRslots : slots + 6 ≤ R.slots) (hlocks : meth.locks = false)
    (hx : ∀ t : State, s.vm.Alike t.vm → H.size ≤ t.heap.size → (∀ q : Nat, q < H.size → t.heap[q]? = H[q]?) → XC cls s t)
    (hf : ∀ z ∈ locs, free z.base) (hc : cells + 1 ≤ mc) (hs : slots + 6 ≤ ms) :
    W p l e R s m args below meth c H locs cells slots (vx_MQ below Qc XC args s mc ms free) (F0 m pc ls rest) := by
  intro T hT X
  have htr : e.platform.stackTraces = false := (show e.platform.stackTraces = l.stackTraces by rw [X.admits.platform]).trans hl
  have Y := vx_rebase X (R' := { frames := R.frames, locals := R.locals, cells := 1, slots := 6 }) (Nat.le_refl _) (Nat.le_refl _) hRcells hRslots
  obtain ⟨s', hA⟩ : ∃ z, z = (T.setVm s.vm).setFrames (.invoking m args :: below) := ⟨_, rfl⟩
  rw [← hA] at Y
  have hvm : s'.vm = s.vm := by rw [hA]; rfl
  have hhp : s'.heap = H := by rw [hA]; exact hT
  have hW0 : s.WarmedH s'.vm := by rw [hvm]; exact State.WarmedH.refl s
  have hat' : ∀ w ∈ vx_atS own ic cls names, w.before args s' = true := fun w hw => vx_ot_at hW0 hvm.symm (hgood w (List.mem_cons_of_mem _ (List.mem_cons_of_mem _ hw))) (hat w hw)
  have hk' : (Cond.classLink own ik cls).before args s' = true := vx_ot_at hW0 hvm.symm (hgood _ List.mem_cons_self) hk
  have hini' : (Cond.initialized cls).before args s' = true := vx_ot_at hW0 hvm.symm (hgood _ (List.mem_cons_of_mem _ List.mem_cons_self)) hini
  have hU' : vx_Zq Bundle.tN "UNASSIGNED_STACK" Bundle.steD A s' s'.heap := by rw [hhp]; exact vx_Zq.moved hW0.alike (hU.kept hS.2.1)
  have hN' : vx_Zq Bundle.tN "SUPPRESSED_SENTINEL" Bundle.listD A s' s'.heap := by rw [hhp]; exact vx_Zq.moved hW0.alike (hN.kept hS.2.1)
  have h : ∀ w ∈ Bundle.ownAtoms own ic cls names, w.before args s' = true := vx_own hat' (vx_isRefq hU'.1) (vx_isRefq hN'.1) hU'.2.word hN'.2.word
  have hown' : s'.vm.findClass own = some m.cls := by rw [hvm]; exact hown
  have hins : (Cond.instantiable cls 6).before args s' = true := h _ (by simp [Bundle.ownAtoms])
  obtain ⟨vm₁, cX, kX, hfX, hkX, -, -, X₁, st1⟩ := Y.newCold hexec (own := own) (C := cls) (index := ik) (n := 6) hown' hk' hins hini'
    (g := F0 m pc ls rest) rfl (by rw [hb]; exact d0) (Nat.le_refl _) (Nat.le_refl _)
  generalize hT1 : (T.setVm vm₁).pushCell { cls := cX, slots := kX.instanceTypes.map defaultValue, vm := .none } = T1 at X₁ st1
  have hcat : (Value.ref T.heap.size).category = 1 := rfl
  have hcellA : T1.heap[T.heap.size]? = some (freshCell cX kX) := by rw [← hT1]; exact State.heap_pushCell_size _ _
  have d3' : decode c.code (pc + 3) = .ok (.dup, 1) := by rw [hb]; exact d3
  have d4' : decode c.code (pc + 4) = .ok (.ldc is, 2) := by rw [hb]; exact d4
  have hstr' : vk_R own is text sa s' := vk_R.warm hW0 hstr
  obtain ⟨U, hsteps, hrun, hend, hW, hsame, ce, hce, hO⟩ := X₁.ctorThrowS hexec htr (own := own) (cls := cls) (names := names) (ic := ic) hown' hcls hnames h (fun x hx => nomatch hx) hfX hkX hcellA (by rw [hhp, hT]; exact Nat.le_refl _) (msg := .ref sa) rfl
    (g := { method := m, pc := pc + 6, locals := ls, stack := .ref sa :: .ref T.heap.size :: .ref T.heap.size :: rest, locked := none }) rfl hsize rfl rfl (rest := rest) rfl
    (by rw [hb]; exact d6) (by rw [hb]; exact d9) hout hRframes (by simp only [List.map_cons, List.sum_cons, hcat]; omega) hlocks
  obtain ⟨f1, f2⟩ := vx_frame hsame
  rw [hhp] at f1 f2
  have hWs : s.WarmedH U.vm := State.WarmedH.trans hW0 hW
  have hcl : s.vm.findClass cls = some ce.cls := by
    have h9 := hO.cls
    rw [hvm] at h9
    exact h9
  have hall : s.sameButNew ({ U with vm := s.vm } : State) locs mc ms := by
    subst hA
    obtain ⟨e1, e2⟩ := hsame
    rw [State.setFrames_setFrames] at e1
    have h2 : (T.setVm s.vm).sameButNew ({ U with vm := s.vm } : State) [] (0 + 1) (0 + 6) := ⟨e1, e2⟩
    have h3 := X.same.trans h2
    rw [List.append_nil] at h3
    exact h3.mono hc hs
  refine ⟨U, ?_, .threw T.heap.size, hrun, hend, Or.inr ⟨T.heap.size, rfl, cls, ce, locs, hx U hWs.alike f1 (fun q hq => f2 q hq (fun z hz => nomatch hz)), hce, hO.vm, hcl, hWs, hall, hf⟩⟩
  refine st1 _ ?_
  show Steps p.tables e below (T1.setTop { method := m, pc := pc + 3, locals := ls, stack := .ref T.heap.size :: rest, locked := none }) _
  jvm_step X₁.here [X₁.here.top, hexec, d3', Value.category]
  exact X₁.ldcString hexec (own := own) (text := text) (index := is) (a := sa) hown' hstr'.1 hstr'.2
    (g := { method := m, pc := pc + 4, locals := ls, stack := .ref T.heap.size :: .ref T.heap.size :: rest, locked := none }) rfl d4' _ hsteps
/-- 'throw new E("text")', the text by a wide index -/
theorem vx_throwSW {cc : ByteArray} {pc : Nat} (hexec : p.tables.exec = Jvm.exec) (hb : c.code = cc) (hl : l.stackTraces = false) {own cls text : String} {names : List String} {ik is ic mc ms sa : Nat} {A : Nat → Prop}
    (hown : s.vm.findClass own = some m.cls) (hcls : Bundle.fit cls = true) (hnames : ∀ n ∈ names, Bundle.fit n = true)
    (hk : (Cond.classLink own ik cls).before args s = true) (hini : (Cond.initialized cls).before args s = true) (hstr : vk_R own is text sa s) (hat : ∀ w ∈ vx_atS own ic cls names, w.before args s = true)
    (hgood : ∀ w ∈ Cond.classLink own ik cls :: Cond.initialized cls :: vx_atS own ic cls names, vx_ot w = true)
    (hU : vx_Zq Bundle.tN "UNASSIGNED_STACK" Bundle.steD A s s.heap) (hN : vx_Zq Bundle.tN "SUPPRESSED_SENTINEL" Bundle.listD A s s.heap) (hS : va_S A s.heap H locs) (hsize : ls.size = c.maxLocals)
    (d0 : decode cc pc = .ok (.new ik, 3)) (d3 : decode cc (pc + 3) = .ok (.dup, 1)) (d4 : decode cc (pc + 4) = .ok (.ldc_w is, 3)) (d7 : decode cc (pc + 7) = .ok (.invokespecial ic, 3)) (d10 : decode cc (pc + 10) = .ok (.athrow, 1))
    (hout : ∀ x ∈ c.exceptionTable.toList, covers x (pc + 10) = false)
    (hRframes : names.length + 3 < R.frames) (hRlocals : (rest.map fun v => v.category).sum + (13 * (names.length + 1) + 43) ≤ R.locals) (hRcells : cells + 1 ≤ R.cells) (hRslots : slots + 6 ≤ R.slots) (hlocks : meth.locks = false)
    (hx : ∀ t : State, s.vm.Alike t.vm → H.size ≤ t.heap.size → (∀ q : Nat, q < H.size → t.heap[q]? = H[q]?) → XC cls s t)
    (hf : ∀ z ∈ locs, free z.base) (hc : cells + 1 ≤ mc) (hs : slots + 6 ≤ ms) :
    W p l e R s m args below meth c H locs cells slots (vx_MQ below Qc XC args s mc ms free) (F0 m pc ls rest) := by
  intro T hT X
  have htr : e.platform.stackTraces = false := (show e.platform.stackTraces = l.stackTraces by rw [X.admits.platform]).trans hl
  have Y := vx_rebase X (R' := { frames := R.frames, locals := R.locals, cells := 1, slots := 6 }) (Nat.le_refl _) (Nat.le_refl _) hRcells hRslots
  obtain ⟨s', hA⟩ : ∃ z, z = (T.setVm s.vm).setFrames (.invoking m args :: below) := ⟨_, rfl⟩
  rw [← hA] at Y
  have hvm : s'.vm = s.vm := by rw [hA]; rfl
  have hhp : s'.heap = H := by rw [hA]; exact hT
  have hW0 : s.WarmedH s'.vm := by rw [hvm]; exact State.WarmedH.refl s
  have hat' : ∀ w ∈ vx_atS own ic cls names, w.before args s' = true := fun w hw => vx_ot_at hW0 hvm.symm (hgood w (List.mem_cons_of_mem _ (List.mem_cons_of_mem _ hw))) (hat w hw)
  have hk' : (Cond.classLink own ik cls).before args s' = true := vx_ot_at hW0 hvm.symm (hgood _ List.mem_cons_self) hk
  have hini' : (Cond.initialized cls).before args s' = true := vx_ot_at hW0 hvm.symm (hgood _ (List.mem_cons_of_mem _ List.mem_cons_self)) hini
  have hU' : vx_Zq Bundle.tN "UNASSIGNED_STACK" Bundle.steD A s' s'.heap := by rw [hhp]; exact vx_Zq.moved hW0.alike (hU.kept hS.2.1)
  have hN' : vx_Zq Bundle.tN "SUPPRESSED_SENTINEL" Bundle.listD A s' s'.heap := by rw [hhp]; exact vx_Zq.moved hW0.alike (hN.kept hS.2.1)
  have h : ∀ w ∈ Bundle.ownAtoms own ic cls names, w.before args s' = true := vx_own hat' (vx_isRefq hU'.1) (vx_isRefq hN'.1) hU'.2.word hN'.2.word
  have hown' : s'.vm.findClass own = some m.cls := by rw [hvm]; exact hown
  have hins : (Cond.instantiable cls 6).before args s' = true := h _ (by simp [Bundle.ownAtoms])
  obtain ⟨vm₁, cX, kX, hfX, hkX, -, -, X₁, st1⟩ := Y.newCold hexec (own := own) (C := cls) (index := ik) (n := 6) hown' hk' hins hini'
    (g := F0 m pc ls rest) rfl (by rw [hb]; exact d0) (Nat.le_refl _) (Nat.le_refl _)
  generalize hT1 : (T.setVm vm₁).pushCell { cls := cX, slots := kX.instanceTypes.map defaultValue, vm := .none } = T1 at X₁ st1
  have hcat : (Value.ref T.heap.size).category = 1 := rfl
  have hcellA : T1.heap[T.heap.size]? = some (freshCell cX kX) := by rw [← hT1]; exact State.heap_pushCell_size _ _
  have d3' : decode c.code (pc + 3) = .ok (.dup, 1) := by rw [hb]; exact d3
  have d4' : decode c.code (pc + 4) = .ok (.ldc_w is, 3) := by rw [hb]; exact d4
  have hstr' : vk_R own is text sa s' := vk_R.warm hW0 hstr
  obtain ⟨U, hsteps, hrun, hend, hW, hsame, ce, hce, hO⟩ := X₁.ctorThrowS hexec htr (own := own) (cls := cls) (names := names) (ic := ic) hown' hcls hnames h (fun x hx => nomatch hx) hfX hkX hcellA (by rw [hhp, hT]; exact Nat.le_refl _) (msg := .ref sa) rfl
    (g := { method := m, pc := pc + 7, locals := ls, stack := .ref sa :: .ref T.heap.size :: .ref T.heap.size :: rest, locked := none }) rfl hsize rfl rfl (rest := rest) rfl
    (by rw [hb]; exact d7) (by rw [hb]; exact d10) hout hRframes (by simp only [List.map_cons, List.sum_cons, hcat]; omega) hlocks
  obtain ⟨f1, f2⟩ := vx_frame hsame
  rw [hhp] at f1 f2
  have hWs : s.WarmedH U.vm := State.WarmedH.trans hW0 hW
  have hcl : s.vm.findClass cls = some ce.cls := by
    have h9 := hO.cls
    rw [hvm] at h9
    exact h9
  have hall : s.sameButNew ({ U with vm := s.vm } : State) locs mc ms := by
    subst hA
    obtain ⟨e1, e2⟩ := hsame
    rw [State.setFrames_setFrames] at e1
    have h2 : (T.setVm s.vm).sameButNew ({ U with vm := s.vm } : State) [] (0 + 1) (0 + 6) := ⟨e1, e2⟩
    have h3 := X.same.trans h2
    rw [List.append_nil] at h3
    exact h3.mono hc hs
  refine ⟨U, ?_, .threw T.heap.size, hrun, hend, Or.inr ⟨T.heap.size, rfl, cls, ce, locs, hx U hWs.alike f1 (fun q hq => f2 q hq (fun z hz => nomatch hz)), hce, hO.vm, hcl, hWs, hall, hf⟩⟩
  refine st1 _ ?_
  show Steps p.tables e below (T1.setTop { method := m, pc := pc + 3, locals := ls, stack := .ref T.heap.size :: rest, locked := none }) _
  jvm_step X₁.here [X₁.here.top, hexec, d3', Value.category]
  exact X₁.ldcStringW hexec (own := own) (text := text) (index := is) (a := sa) hown' hstr'.1 hstr'.2
    (g := { method := m, pc := pc + 4, locals := ls, stack := .ref T.heap.size :: .ref T.heap.size :: rest, locked := none }) rfl d4' _ hsteps
end Ends
section Bodies
variable {l : Launch}
theorem vx_ofW {y : MethodName} {ws ws' : List Cond} {rm : Room} {Pc : Array Value → State → Prop} {Qc : Array Value → State → Outcome → State → Prop} {XC : String → State → State → Prop} {mc ms : Nat} {free : Addr → Prop} {cc : ByteArray} {maxL : Nat} {ret : Option FieldType}
    (hy : plainName y.cls = true) (hw : ws = Cond.code y cc maxL ret :: ws')
    (body : ∀ p e s m args below meth c s₁, BodyLoose p l y (headSpec ws rm) cc maxL ret e s m args below meth c s₁ → c.maxLocals = maxL → (∀ x ∈ c.exceptionTable.toList, False) → Pc args s →
      W p l e (headSpec ws rm).room s m args below meth c s.heap [] 0 0 (vx_MQ below Qc XC args s mc ms free) (entryFrame m args maxL)) : vx_Met l y ws rm Pc Qc XC mc ms free := by
  refine MetFree.of_bodyS (code := cc) (maxLocals := maxL) (ret := ret) hy ?_ ?_
  · intro args s m h hn
    obtain ⟨meth, c, h1, h2, h3, h4, h5, h6, -, -⟩ := Cond.code_spec hn (atoms_spec (ws := ws) h _ (by rw [hw]; exact List.mem_cons_self))
    exact ⟨meth, c, h1, h2, h3, h4, h5, h6⟩
  · intro p e s m args below meth c s₁ B hml hP _
    have hh0 : s₁.heap = s.heap := by rw [B.state]; rfl
    have ht : ∀ x ∈ c.exceptionTable.toList, False := by
      obtain ⟨meth9, c9, h1, h2, -, -, -, -, h7, -⟩ := Cond.code_spec B.named (atoms_spec (ws := ws) B.pre _ (by rw [hw]; exact List.mem_cons_self))
      cases Option.some.inj (h1.symm.trans B.method)
      cases Option.some.inj (h2.symm.trans (Stand.of_body B).code)
      intro x hx
      rw [Array.isEmpty_iff.mp h7] at hx
      cases hx
    obtain ⟨t, a1, o, b1, b2, b3⟩ := body p e s m args below meth c s₁ B hml ht hP s₁ hh0 (Stand.of_body B)
    exact ⟨t, o, a1, b1, b2, b3⟩
/-- the table of a body with handlers -/
theorem vx_table {p : Program} {x y : MethodName} {S : Spec} {cc bytes : ByteArray} {maxL maxL' : Nat} {ret ret' : Option FieldType} {e : Env} {s s₁ : State} {m : MethodId} {args : Array Value} {below : List Frame} {meth : Method} {c : Code} {hh : List (Nat × Nat × Nat × Nat)}
    (B : BodyLoose p l y S cc maxL ret e s m args below meth c s₁) (h : (Cond.codeWith y bytes maxL' ret' hh).before args s = true) : c.exceptionTable.toList = tableOf hh := by
  obtain ⟨m9, meth9, c9, hn9, h1, h2, -, -, h6, -⟩ := Cond.codeWith_spec h
  cases Option.some.inj (hn9.symm.trans B.named)
  cases Option.some.inj (h1.symm.trans B.method)
  cases Option.some.inj (h2.symm.trans (Stand.of_body B).code)
  rw [← h6, table_eq]
end Bodies
end VXA
/-! ===== END ===== -/
/-! ===== BEGIN a static call of a method with an exception table ===== -/
section VXS
variable {p : Program} {l : Launch} {e : Env} {R : Room} {s : State} {m : MethodId} {args : Array Value} {below : List Frame} {meth : Method} {c : Code} {T : State} {H : Heap} {locs : List Loc} {cells slots : Nat}
abbrev vx_CSW (R : Room) (s : State) (args : Array Value) (own : String) (index : Nat) (y : MethodName) (bytes : ByteArray) (maxL : Nat) (ret : Option FieldType) (hh : List (Nat × Nat × Nat × Nat)) (ws : List Cond) (rm : Room) (mc ms n : Nat) : Prop :=
  (rm.cells = mc ∧ rm.slots = ms ∧ rm.frames + 1 ≤ R.frames ∧ 8 + (maxL + 11) + rm.locals ≤ R.locals ∧ (∀ w ∈ ws, ∀ (a' : Array Value) (U : State), s.WarmedH U.vm → w.before a' U = true) ∧ Cond.codeWith y bytes maxL ret hh ∈ ws) ∧
  (Cond.codeWith y bytes maxL ret hh).before args s = true ∧ (Cond.initialized y.cls).before args s = true ∧ (y.cls ≠ "java/lang/invoke/MethodHandle" ∧ y.cls ≠ "java/lang/invoke/VarHandle") ∧
  (∀ sig, parseMethodDescriptor y.desc = some sig → n = sig.parameters.length) ∧ (Cond.methodLink own index y).before args s = true ∧ (Cond.static y).before args s = true
theorem vx_cwSW {own : String} {index maxL mc ms : Nat} {y : MethodName} {bytes : ByteArray} {ret : Option FieldType} {hh : List (Nat × Nat × Nat × Nat)} {Ts ws ws' : List Cond} {rm : Room} (n : Nat) (ht : ∀ w ∈ Ts, w.before args s = true) (hT : GoodIn Ts (va_wsS own index y ws)) (hw : ws = Cond.codeWith y bytes maxL ret hh :: ws') (hrc : rm.cells = mc) (hrs : rm.slots = ms)
    (hd : y.cls ≠ "java/lang/invoke/MethodHandle" ∧ y.cls ≠ "java/lang/invoke/VarHandle" ∧ (parseMethodDescriptor y.desc).map (fun d => d.parameters.length) = some n) (hR : rm.frames + 1 ≤ R.frames ∧ 8 + (maxL + 11) + rm.locals ≤ R.locals) :
    vx_CSW R s args own index y bytes maxL ret hh ws rm mc ms n := by
  have ok : ∀ w ∈ va_wsS own index y ws, w.before args s = true := fun w h => ht w (hT w h).1
  have hG : GoodIn Ts ws := fun w h => hT w (by unfold va_wsS; exact List.mem_append_right _ h)
  have hc : Cond.codeWith y bytes maxL ret hh ∈ ws := by rw [hw]; exact List.mem_cons_self
  refine ⟨⟨hrc, hrs, hR.1, hR.2, pay_in ht hG, hc⟩, ht _ (hG _ hc).1, ok _ (by simp [va_wsS]), ⟨hd.1, hd.2.1⟩, fun sig h => ?_, ok _ (by simp [va_wsS]), ok _ (by simp [va_wsS])⟩
  have h2 := hd.2.2
  rw [h] at h2
  exact (Option.some.inj h2).symm
theorem vx_callSW (X : Stand p l e R s m args below meth c T locs cells slots) (hexec : p.tables.exec = Jvm.exec) {own : String} {index : Nat} {y : MethodName} {bytes : ByteArray} {maxL : Nat} {ret : Option FieldType} {hh : List (Nat × Nat × Nat × Nat)}
    (hown : s.vm.findClass own = some m.cls) (hlink : (Cond.methodLink own index y).before args s = true) (hstat : (Cond.static y).before args s = true) (hinit : (Cond.initialized y.cls).before args s = true)
    (hcode : (Cond.codeWith y bytes maxL ret hh).before args s = true) (hy : y.cls ≠ "java/lang/invoke/MethodHandle" ∧ y.cls ≠ "java/lang/invoke/VarHandle")
    {W9 : Nat} {Pre : Pt → Array Value → Prop} {Post : Pt → Array Value → Option Value → Pt → Prop} (hK : Back l R p e below s args y 3 W9 Pre Post)
    {g : JFrame} (hg : g.method = m) (hsize : g.locals.size = c.maxLocals) {argsL rest : List Value} (hlen : ∀ sig, parseMethodDescriptor y.desc = some sig → argsL.length = sig.parameters.length)
    (hstack : g.stack = argsL.reverse ++ rest) (hW : 2 * g.monitorRoom + (rest.map fun v => v.category).sum ≤ W9) (hdg : decode c.code g.pc = .ok (.invokestatic index, 3))
    (hpre : ∀ vm₁, s.WarmedH vm₁ → Pre ⟨T.setVm vm₁, locs, cells, slots⟩ argsL.toArray) :
    ∃ (v : Option Value) (vm₁ : Vm) (B : Pt), s.WarmedH vm₁ ∧ Stand p l e R s m args below meth c B.U B.locs B.cells B.slots ∧ Post ⟨T.setVm vm₁, locs, cells, slots⟩ argsL.toArray v B ∧
      ∀ target, Steps p.tables e below (B.U.setTop { g with pc := g.pc + 3, stack := v.toList ++ rest }) target → Steps p.tables e below (T.setTop g) target := by
  obtain ⟨mk, methM, cM, hnamed, hmethM, -, -, -, -, -, -, hsigM⟩ := Cond.codeWith_spec hcode
  have hstatic : methM.isStatic = true := Cond.static_spec hnamed hmethM hstat
  obtain ⟨kP, hkP, -⟩ := className_of_methodNamed hnamed
  have hinitP : kP.init = .initialized := Cond.initialized_spec (findClass_of_methodNamed hnamed) hkP hinit
  obtain ⟨vm₁, X₁, hstep₁⟩ := X.invokestatic hexec hown hlink hnamed hmethM hstatic hkP hinitP hy (g := g) hg (argsL := argsL) (rest := rest) (hlen _ hsigM) hstack hdg
  obtain ⟨v, B, X', hpost, hsteps⟩ := hK m meth c ⟨T.setVm vm₁, locs, cells, slots⟩ { g with stack := rest } (.invokestatic index) mk argsL.toArray X₁ hg hsize hdg hW (X₁.named hnamed) (hpre vm₁ X₁.warmed)
  exact ⟨v, vm₁, B, X₁.warmed, X', hpost, fun target h => hstep₁ _ fun acts => by rw [doInvoke_state]; exact hsteps.trans h⟩
theorem vx_runSW {y : MethodName} {bytes cc : ByteArray} {maxL nL mc ms n index : Nat} {ret : Option FieldType} {hh : List (Nat × Nat × Nat × Nat)} {ws : List Cond} {rm : Room} {Pc : Array Value → State → Prop} {Qc : Array Value → State → Outcome → State → Prop} {free : Addr → Prop} {Ts : List Cond} {own : String} {As rest : List Value} {g : JFrame}
    (S : CallFix p m c cc nL s args Ts own) (hM : Met l y ws rm Pc Qc mc ms free) (cw : vx_CSW R s args own index y bytes maxL ret hh ws rm mc ms n) (hp : PreS s H Pc As)
    (hg : g.method = m) (hn : As.length = n) (hsize : g.locals.size = nL) (hstack : g.stack = As.reverse ++ rest) (hW : 2 * g.monitorRoom + (rest.map fun v => v.category).sum ≤ 8) (hdg : decode cc g.pc = .ok (.invokestatic index, 3)) (hf : cells + mc ≤ R.cells ∧ slots + ms ≤ R.slots) :
    va_Run p l e R s m args below meth c H locs cells slots mc ms g rest (Qc As.toArray) (free) := by
  obtain ⟨⟨hrc, hrs, hfr, hlo, hws, hcw⟩, hcode, hini, hy, hlen, hl, hstt⟩ := cw
  have hK : Back l R p e below s args y 3 8 (PreOf R mc ms Pc) (PostOf Qc mc ms free) := va_backW (hh := hh) (bytes := bytes) (maxL := maxL) (ret := ret) hM hp.1 hrc hrs hfr hlo hws hcw (fun a' U hW => word_at hW (Or.inl (by first | rfl | simp [Cond.onTables, Cond.keeps, Cond.steady])) hini)
  obtain ⟨hx, hb, hml, ho, -⟩ := S
  intro T hT X
  obtain ⟨v, vm₁, ⟨U', l2, c2, s2⟩, hW₁, X', ⟨g', mk, t, L, e1, e2, hq, h1, hL, h2, h3⟩, st⟩ := vx_callSW X hx (hh := hh) (bytes := bytes) (maxL := maxL) (ret := ret) ho hl hstt hini hcode hy hK hg (hsize.trans hml.symm) (argsL := As) (rest := rest) (fun sig h => hn.trans (hlen sig h)) hstack hW (by rw [hb]; exact hdg)
    (fun vm₁ hW₁ => ⟨hf.1, hf.2, hp.2 (T.setVm vm₁) hT hW₁⟩)
  dsimp only [Pt.U, Pt.locs, Pt.cells, Pt.slots] at X' e1 e2 h1 h2 h3 st
  subst h1; subst h2; subst h3
  exact ⟨v, (T.setVm vm₁).calling g' mk As.toArray, t, U', L, hT, X', hL, e1, e2, hq, st⟩
/-- not caught here, past rows that name other classes: it goes on to the caller -/
theorem vx_outP {p : Program} {l : Launch} {e : Env} {R : Room} {s : State} {m : MethodId} {args : Array Value} {below : List Frame} {meth : Method} {c : Code} {H : Heap} {locs : List Loc} {cells slots : Nat} {free : Addr → Prop} {ls : Array Slot} {rest : List Value} {Qc : Array Value → State → Outcome → State → Prop} {XC : String → State → State → Prop}
    {pc : Nat} {own E : String} {ce : Cell} {q : Addr} {mc ms : Nat} (hown : s.vm.findClass own = some m.cls) (hlocks : meth.locks = false)
    (hpass : ∀ z ∈ c.exceptionTable.toList, covers z pc = false ∨ (z.catchType ≠ 0 ∧ ∃ nm : String, (Cond.classLink own z.catchType nm).before args s = true ∧ va_Nc E nm s)) (hcell : H[q]? = some ce) (hv : ce.vm = .none) (hcl : s.vm.findClass E = some ce.cls)
    (hx : ∀ t : State, t.heap = H → s.vm.Alike t.vm → XC E s t) (hf : ∀ z ∈ locs, free z.base) (hc : cells ≤ mc) (hs : slots ≤ ms) :
    vx_W p l e R s m args below meth c H locs cells slots (vx_MQ below Qc XC args s mc ms free) (F0 m pc ls rest) q := by
  intro T hT X
  have hpl : e.platform.magicAccessors = ({} : Platform).magicAccessors := by rw [X.admits.platform]
  obtain ⟨vm', hW', X', st⟩ := X.outThrough hlocks q (g := F0 m pc ls rest) rfl rfl rfl (cell := ce) (by rw [hT]; exact hcell) (by rw [hv]; rfl)
    (by obtain ⟨k9, h9, -⟩ := Vm.findClass_spec hcl; exact ⟨k9, h9⟩) (fun z hz => by
      rcases hpass z hz with h | ⟨hz0, nm, hl1, hn1⟩
      · exact Or.inl h
      · obtain ⟨c6, hc6, hcl6⟩ := Cond.classLink_spec hown hl1 e.platform hpl
        obtain ⟨a8, b8, h1, h2, h3⟩ := hn1
        cases Option.some.inj (h1.symm.trans hcl)
        cases Option.some.inj (h2.symm.trans hc6)
        exact Or.inr ⟨hz0, _, hcl6, h3⟩)
  obtain ⟨g₀, hfr⟩ := X'.frames_eq
  have hcell9 : ((T.setVm vm').setFrames (.throwing q :: below)).heap[q]? = some ce := by
    show T.heap[q]? = some ce
    rw [hT]; exact hcell
  have hend : Ended ((T.setVm vm').setFrames (.throwing q :: below)) below (.threw q) := State.frames_setFrames _ (State.cur_lt_of_frames hfr)
  refine ⟨(T.setVm vm').setFrames (.throwing q :: below), ?_, .threw q, X'.here.running, hend, Or.inr ⟨q, rfl, E, ce, locs, hx _ hT (X'.ends _).1.alike, hcell9, hv, hcl, (X'.ends _).1, (X'.ends _).2.mono hc hs, hf⟩⟩
  rw [X.pushThrowing_eq]
  exact st
/-- a thing of a world lies in the heap -/
theorem vx_lt {D : va_G} {cl : List vw_C} {ws : va_W} {H1 : Heap} (h : va_P D cl ws H1) {k : Nat} {q : Nat × va_E} (hk : ws[k]? = some q) : q.1 < H1.size := (h k q hk).lt
end VXS
/-! ===== END ===== -/
/-! ===== BEGIN methods with a table of their own: called by a name, returning or throwing ===== -/
section VXH
/-! vx_backW, vx_callVX, vx_callSX, vx_callVW, vx_runVW, vx_runVX, vx_runSX, vx_ofWH follow the same proofs as their sisters above (Free/Laws.lean, Shelf42/LK1.lean); vx_outP calls Shelf42/NT130.lean (outThrough). -/
section
variable {l : Launch} {R : Room} {p : Program} {e : Env} {below : List Frame} {s : State} {sargs : Array Value} {y : MethodName} {len W9 : Nat}
theorem vx_backW {ws : List Cond} {rm : Room} {Pc : Array Value → State → Prop} {Qc : Array Value → State → Outcome → State → Prop} {XC : String → State → State → Prop} {mc ms : Nat} {free : Addr → Prop} {bytes : ByteArray} {maxL : Nat} {ret : Option FieldType} {hh : List (Nat × Nat × Nat × Nat)}
    (hM : vx_Met l y ws rm Pc Qc XC mc ms free) (hblind : FrameBlind Pc) (hrc : rm.cells = mc) (hrs : rm.slots = ms)
    (hframes : rm.frames + 1 ≤ R.frames) (hlocals : W9 + (maxL + 11) + rm.locals ≤ R.locals)
    (hws : ∀ w ∈ ws, ∀ a' U, s.WarmedH U.vm → w.before a' U = true) (hcode : Cond.codeWith y bytes maxL ret hh ∈ ws) (hinit : ∀ a' U, s.WarmedH U.vm → (Cond.initialized y.cls).before a' U = true) :
    vx_Back l R p e below s sargs y len W9 (PreOf R mc ms Pc) (PostOf Qc mc ms free) (vx_Post XC mc ms free) := by
  intro m meth c A g ig mk a X hg hsize hdg hW hn hp
  have h1 : (headSpec ws rm).pre.before a A.U = true := atoms_intro fun w hw => hws w hw _ _ X.warmed
  have h2 : (Cond.codeWith y bytes maxL ret hh).before a A.U = true := hws _ hcode _ _ X.warmed
  have h3 : (Cond.initialized y.cls).before a A.U = true := hinit _ _ X.warmed
  have h4 : A.cells + (headSpec ws rm).room.cells ≤ R.cells := by rw [show (headSpec ws rm).room.cells = mc from hrc]; exact hp.1
  have h5 : A.slots + (headSpec ws rm).room.slots ≤ R.slots := by rw [show (headSpec ws rm).room.slots = ms from hrs]; exact hp.2.1
  have hPc : Pc a (A.U.calling g mk a) := hblind _ _ _ _ hp.2.2
  obtain ⟨U, Ls, c0, s0⟩ := A
  dsimp only [Pt.U, Pt.locs, Pt.cells, Pt.slots] at h1 h2 h3 h4 h5 X hn hPc ⊢
  obtain ⟨m9, methY, cY, hn9, hmY, hcY, -, hlY, -⟩ := Cond.codeWith_spec h2
  cases Option.some.inj (hn9.symm.trans hn)
  obtain ⟨kY, hkY, -⟩ := className_of_methodNamed hn
  have hinitY : kY.init = .initialized := Cond.initialized_spec (findClass_of_methodNamed hn) hkY h3
  have h : At U g.method c below := by rw [hg]; exact X.here
  have hlocals9 : W9 + (maxL + 11) + (headSpec ws rm).room.locals ≤ R.locals := hlocals
  have happ : (headSpec ws rm).appliesLoose y e.platform (U.calling g mk a) = true :=
    Spec.appliesLoose_calling (g := g) h hdg hn hkY hinitY
      (X.room_calling (g := g) (R' := (headSpec ws rm).room) hsize hmY hcY hframes (by rw [hlY]; omega) h4 h5) h1
  obtain ⟨mid, hmid⟩ := h.above
  have hfr : (U.setTop g).frames = (.java g :: mid) ++ below := by rw [State.frames_setTop' g h.top, hmid]; rfl
  obtain ⟨o, s₂, hsteps, -, hend, hq⟩ := Steps.callFree hM p X.admits X.cas X.clock (acts := []) hfr happ hPc trivial
  have hq' : vx_Q Qc XC mc ms free a (U.calling g mk a) o s₂ := hq
  rw [State.frames_setTop' g h.top] at hend
  obtain ⟨g₀, hg0⟩ := Option.isSome_iff_exists.mp h.top
  obtain ⟨r, hr⟩ := State.topJava?_eq_some.mp hg0
  have hr' : (({ U with heap := s₂.heap, slotsUsed := s₂.slotsUsed } : State).setVm s₂.vm).frames = .java g₀ :: r := hr
  rcases hq' with ⟨hqc, L, hfe, hL⟩ | ⟨q, rfl, E, ce, L, hx, hce, hcv, hcl, hW₂, hsm, hL⟩
  · obtain ⟨⟨v, rfl⟩, hW₂, e2, q2, q3, q4, q5, q6⟩ := id hfe
    have e3 : s₂ = ({ (U.calling g mk a).setFrames s₂.frames with heap := s₂.heap, slotsUsed := s₂.slotsUsed } : State).setVm s₂.vm := by
      have : s₂ = ({ s₂ with vm := (U.calling g mk a).vm } : State).setVm s₂.vm := rfl
      rw [e2] at this
      exact this
    obtain ⟨c₂, i₂, len₂, hc₂, hd₂, hf₂⟩ := hend
    have hW' : U.WarmedH s₂.vm := hW₂
    have hcc : c₂ = c := by
      have h1 : s₂.code? g.method = U.code? g.method := by
        rw [State.code?_eq, State.code?_eq, hW'.alike.method?]
      exact Option.some.inj (hc₂.symm.trans (h1.trans h.code))
    subst hcc
    have hlen : len₂ = len := by rw [hdg] at hd₂; cases hd₂; rfl
    subst hlen
    have hs₂ : s₂ = (({ U with heap := s₂.heap, slotsUsed := s₂.slotsUsed } : State).setVm s₂.vm).setTop { g with pc := g.pc + len₂, stack := v.toList ++ g.stack } := by
      refine e3.trans ?_
      rw [hf₂, State.calling_eq h.top, State.setFrames_setFrames, State.setTop_of_frames _ hr', hr]
      rfl
    have hsame : U.sameButNew ({ U with heap := s₂.heap, slotsUsed := s₂.slotsUsed } : State) L mc ms := by
      refine ⟨?_, q2, q3, q4, q5, q6⟩
      obtain ⟨t, ht, -⟩ := State.frames_cons hr
      show ({ U with heap := s₂.heap, slotsUsed := s₂.slotsUsed } : State) = { U.setFrames U.frames with heap := s₂.heap, slotsUsed := s₂.slotsUsed }
      rw [State.setFrames_self ht]
    subst hg
    refine Or.inl ⟨v, ⟨(({ U with heap := s₂.heap, slotsUsed := s₂.slotsUsed } : State).setVm s₂.vm), Ls ++ L, c0 + mc, s0 + ms⟩,
      ⟨X.admits, X.cas, X.clock, X.frames, X.room, X.hears, X.method, X.code, (X.here.setHeapUsed s₂.heap s₂.slotsUsed).setVm hW'.alike, X.tail, State.WarmedH.trans X.warmed hW', X.limits, X.bytes, X.same.trans (hsame.setVm s.vm)⟩,
      ⟨g, mk, s₂, L, rfl, rfl, hqc, rfl, hL, rfl, rfl⟩, ?_⟩
    show Steps p.tables e below _ ((({ U with heap := s₂.heap, slotsUsed := s₂.slotsUsed } : State).setVm s₂.vm).setTop { g with pc := g.pc + len₂, stack := v.toList ++ g.stack })
    rw [← hs₂]
    exact hsteps
  · obtain ⟨e2, q2, q3, q4, q5, q6⟩ := id hsm
    have e3 : s₂ = ({ (U.calling g mk a).setFrames s₂.frames with heap := s₂.heap, slotsUsed := s₂.slotsUsed } : State).setVm s₂.vm := by
      have : s₂ = ({ s₂ with vm := (U.calling g mk a).vm } : State).setVm s₂.vm := rfl
      rw [e2] at this
      exact this
    have hf₂ : s₂.frames = .throwing q :: .java g :: U.frames.tail := hend
    have hW' : U.WarmedH s₂.vm := hW₂
    have hs₂ : s₂ = ((({ U with heap := s₂.heap, slotsUsed := s₂.slotsUsed } : State).setVm s₂.vm).setTop g).pushFrame (.throwing q) := by
      refine e3.trans ?_
      rw [hf₂, State.calling_eq h.top, State.setFrames_setFrames, State.pushFrame, State.frames_setTop _ hr', State.setTop_of_frames _ hr', State.setFrames_setFrames, hr]
      rfl
    have hsame : U.sameButNew ({ U with heap := s₂.heap, slotsUsed := s₂.slotsUsed } : State) L mc ms := by
      refine ⟨?_, q2, q3, q4, q5, q6⟩
      obtain ⟨t, ht, -⟩ := State.frames_cons hr
      show ({ U with heap := s₂.heap, slotsUsed := s₂.slotsUsed } : State) = { U.setFrames U.frames with heap := s₂.heap, slotsUsed := s₂.slotsUsed }
      rw [State.setFrames_self ht]
    subst hg
    refine Or.inr ⟨q, ⟨(({ U with heap := s₂.heap, slotsUsed := s₂.slotsUsed } : State).setVm s₂.vm), Ls ++ L, c0 + mc, s0 + ms⟩,
      ⟨X.admits, X.cas, X.clock, X.frames, X.room, X.hears, X.method, X.code, (X.here.setHeapUsed s₂.heap s₂.slotsUsed).setVm hW'.alike, X.tail, State.WarmedH.trans X.warmed hW', X.limits, X.bytes, X.same.trans (hsame.setVm s.vm)⟩,
      ⟨g, mk, s₂, L, E, ce, rfl, rfl, hx, hce, hcv, hcl, rfl, hL, rfl, rfl⟩, ?_⟩
    show Steps p.tables e below _ (((({ U with heap := s₂.heap, slotsUsed := s₂.slotsUsed } : State).setVm s₂.vm).setTop g).pushFrame (.throwing q))
    rw [← hs₂]
    exact hsteps
end
variable {p : Program} {l : Launch} {e : Env} {R : Room} {s : State} {m : MethodId} {args : Array Value} {below : List Frame} {meth : Method} {c : Code} {T : State} {H : Heap} {locs : List Loc} {cells slots : Nat}
theorem vx_callVX (X : Stand p l e R s m args below meth c T locs cells slots) (hexec : p.tables.exec = Jvm.exec) {own C : String} {index : Nat} {y : MethodName} {bytes : ByteArray} {maxL : Nat} {ret : Option FieldType} {hh : List (Nat × Nat × Nat × Nat)}
    (hown : s.vm.findClass own = some m.cls) (hlink : (Cond.methodLink own index y).before args s = true) (hinst : (Cond.instanceMethod y).before args s = true) (hsel : (Cond.selects C y y).before args s = true)
    (hcode : (Cond.codeWith y bytes maxL ret hh).before args s = true) (hy : y.cls ≠ "java/lang/invoke/MethodHandle" ∧ y.cls ≠ "java/lang/invoke/VarHandle")
    {W9 : Nat} {Pre : Pt → Array Value → Prop} {Post : Pt → Array Value → Option Value → Pt → Prop} {PostX : Pt → Array Value → Addr → Pt → Prop} (hK : vx_Back l R p e below s args y 3 W9 Pre Post PostX)
    {b : Addr} {cellB : Cell} (hcell : T.heap[b]? = some cellB) (hobj : cellB.vm.isStatics = false) (hcls : s.vm.findClass C = some cellB.cls)
    {g : JFrame} (hg : g.method = m) (hsize : g.locals.size = c.maxLocals) {argsL rest : List Value} (hlen : ∀ sig, parseMethodDescriptor y.desc = some sig → argsL.length = sig.parameters.length)
    (hstack : g.stack = argsL.reverse ++ .ref b :: rest) (hW : 2 * g.monitorRoom + (rest.map fun v => v.category).sum ≤ W9) (hdg : decode c.code g.pc = .ok (.invokevirtual index, 3))
    (hpre : ∀ vm₁, s.WarmedH vm₁ → Pre ⟨T.setVm vm₁, locs, cells, slots⟩ (Value.ref b :: argsL).toArray) :
    (∃ (v : Option Value) (vm₁ : Vm) (B : Pt), s.WarmedH vm₁ ∧ Stand p l e R s m args below meth c B.U B.locs B.cells B.slots ∧ Post ⟨T.setVm vm₁, locs, cells, slots⟩ (Value.ref b :: argsL).toArray v B ∧
      ∀ target, Steps p.tables e below (B.U.setTop { g with pc := g.pc + 3, stack := v.toList ++ rest }) target → Steps p.tables e below (T.setTop g) target) ∨
    (∃ (q : Addr) (vm₁ : Vm) (B : Pt), s.WarmedH vm₁ ∧ Stand p l e R s m args below meth c B.U B.locs B.cells B.slots ∧ PostX ⟨T.setVm vm₁, locs, cells, slots⟩ (Value.ref b :: argsL).toArray q B ∧
      Steps p.tables e below (T.setTop g) ((B.U.setTop { g with stack := rest }).pushFrame (.throwing q))) := by
  obtain ⟨mk, methM, hnamed, hmethM, hstM, habM⟩ := Cond.instanceMethod_spec hinst
  obtain ⟨m8, methM', cM, hn8, hmethM', -, -, -, -, -, -, hsigM⟩ := Cond.codeWith_spec hcode
  cases Option.some.inj (hn8.symm.trans hnamed)
  cases hmethM.symm.trans hmethM'
  obtain ⟨c2, r2, m2, q1, q2, q3, q4, kP, hkP, hkPi⟩ := Cond.selects_spec hsel
  cases hcls.symm.trans q1
  cases (State.methodFound?_of_named hnamed hy).symm.trans q2
  cases hnamed.symm.trans q3
  have hselP : selectMethod e.platform s.vm cellB.cls mk = .method mk := by rw [Launch.admits_selectMethod X.admits]; exact q4
  obtain ⟨vm₁, X₁, hstep₁⟩ := X.invokevirtual hexec hown hlink hnamed hmethM hstM hkP hkPi hy (a := b) (cell := cellB) hcell
    (fun z h => by rw [h] at hobj; cases hobj) hselP hmethM habM hkP hkPi (g := g) hg (argsL := argsL) (rest := rest) (hlen _ hsigM) hstack hdg
  rcases hK m meth c ⟨T.setVm vm₁, locs, cells, slots⟩ { g with stack := rest } (.invokevirtual index) mk (Value.ref b :: argsL).toArray X₁ hg hsize hdg hW (X₁.named hnamed) (hpre vm₁ X₁.warmed) with ⟨v, B, X', hpost, hsteps⟩ | ⟨q, B, X', hpost, hsteps⟩
  · exact Or.inl ⟨v, vm₁, B, X₁.warmed, X', hpost, fun target h => hstep₁ _ fun acts => by rw [doInvoke_state]; exact hsteps.trans h⟩
  · exact Or.inr ⟨q, vm₁, B, X₁.warmed, X', hpost, hstep₁ _ fun acts => by rw [doInvoke_state]; exact hsteps⟩
theorem vx_callSX (X : Stand p l e R s m args below meth c T locs cells slots) (hexec : p.tables.exec = Jvm.exec) {own : String} {index : Nat} {y : MethodName} {bytes : ByteArray} {maxL : Nat} {ret : Option FieldType} {hh : List (Nat × Nat × Nat × Nat)}
    (hown : s.vm.findClass own = some m.cls) (hlink : (Cond.methodLink own index y).before args s = true) (hstat : (Cond.static y).before args s = true) (hinit : (Cond.initialized y.cls).before args s = true)
    (hcode : (Cond.codeWith y bytes maxL ret hh).before args s = true) (hy : y.cls ≠ "java/lang/invoke/MethodHandle" ∧ y.cls ≠ "java/lang/invoke/VarHandle")
    {W9 : Nat} {Pre : Pt → Array Value → Prop} {Post : Pt → Array Value → Option Value → Pt → Prop} {PostX : Pt → Array Value → Addr → Pt → Prop} (hK : vx_Back l R p e below s args y 3 W9 Pre Post PostX)
    {g : JFrame} (hg : g.method = m) (hsize : g.locals.size = c.maxLocals) {argsL rest : List Value} (hlen : ∀ sig, parseMethodDescriptor y.desc = some sig → argsL.length = sig.parameters.length)
    (hstack : g.stack = argsL.reverse ++ rest) (hW : 2 * g.monitorRoom + (rest.map fun v => v.category).sum ≤ W9) (hdg : decode c.code g.pc = .ok (.invokestatic index, 3))
    (hpre : ∀ vm₁, s.WarmedH vm₁ → Pre ⟨T.setVm vm₁, locs, cells, slots⟩ argsL.toArray) :
    (∃ (v : Option Value) (vm₁ : Vm) (B : Pt), s.WarmedH vm₁ ∧ Stand p l e R s m args below meth c B.U B.locs B.cells B.slots ∧ Post ⟨T.setVm vm₁, locs, cells, slots⟩ argsL.toArray v B ∧
      ∀ target, Steps p.tables e below (B.U.setTop { g with pc := g.pc + 3, stack := v.toList ++ rest }) target → Steps p.tables e below (T.setTop g) target) ∨
    (∃ (q : Addr) (vm₁ : Vm) (B : Pt), s.WarmedH vm₁ ∧ Stand p l e R s m args below meth c B.U B.locs B.cells B.slots ∧ PostX ⟨T.setVm vm₁, locs, cells, slots⟩ argsL.toArray q B ∧
      Steps p.tables e below (T.setTop g) ((B.U.setTop { g with stack := rest }).pushFrame (.throwing q))) := by
  obtain ⟨mk, methM, cM, hnamed, hmethM, -, -, -, -, -, -, hsigM⟩ := Cond.codeWith_spec hcode
  have hstatic : methM.isStatic = true := Cond.static_spec hnamed hmethM hstat
  obtain ⟨kP, hkP, -⟩ := className_of_methodNamed hnamed
  have hinitP : kP.init = .initialized := Cond.initialized_spec (findClass_of_methodNamed hnamed) hkP hinit
  obtain ⟨vm₁, X₁, hstep₁⟩ := X.invokestatic hexec hown hlink hnamed hmethM hstatic hkP hinitP hy (g := g) hg (argsL := argsL) (rest := rest) (hlen _ hsigM) hstack hdg
  rcases hK m meth c ⟨T.setVm vm₁, locs, cells, slots⟩ { g with stack := rest } (.invokestatic index) mk argsL.toArray X₁ hg hsize hdg hW (X₁.named hnamed) (hpre vm₁ X₁.warmed) with ⟨v, B, X', hpost, hsteps⟩ | ⟨q, B, X', hpost, hsteps⟩
  · exact Or.inl ⟨v, vm₁, B, X₁.warmed, X', hpost, fun target h => hstep₁ _ fun acts => by rw [doInvoke_state]; exact hsteps.trans h⟩
  · exact Or.inr ⟨q, vm₁, B, X₁.warmed, X', hpost, hstep₁ _ fun acts => by rw [doInvoke_state]; exact hsteps⟩
theorem vx_callVW (X : Stand p l e R s m args below meth c T locs cells slots) (hexec : p.tables.exec = Jvm.exec) {own C : String} {index : Nat} {y : MethodName} {bytes : ByteArray} {maxL : Nat} {ret : Option FieldType} {hh : List (Nat × Nat × Nat × Nat)}
    (hown : s.vm.findClass own = some m.cls) (hlink : (Cond.methodLink own index y).before args s = true) (hinst : (Cond.instanceMethod y).before args s = true) (hsel : (Cond.selects C y y).before args s = true)
    (hcode : (Cond.codeWith y bytes maxL ret hh).before args s = true) (hy : y.cls ≠ "java/lang/invoke/MethodHandle" ∧ y.cls ≠ "java/lang/invoke/VarHandle")
    {W9 : Nat} {Pre : Pt → Array Value → Prop} {Post : Pt → Array Value → Option Value → Pt → Prop} (hK : Back l R p e below s args y 3 W9 Pre Post)
    {b : Addr} {cellB : Cell} (hcell : T.heap[b]? = some cellB) (hobj : cellB.vm.isStatics = false) (hcls : s.vm.findClass C = some cellB.cls)
    {g : JFrame} (hg : g.method = m) (hsize : g.locals.size = c.maxLocals) {argsL rest : List Value} (hlen : ∀ sig, parseMethodDescriptor y.desc = some sig → argsL.length = sig.parameters.length)
    (hstack : g.stack = argsL.reverse ++ .ref b :: rest) (hW : 2 * g.monitorRoom + (rest.map fun v => v.category).sum ≤ W9) (hdg : decode c.code g.pc = .ok (.invokevirtual index, 3))
    (hpre : ∀ vm₁, s.WarmedH vm₁ → Pre ⟨T.setVm vm₁, locs, cells, slots⟩ (Value.ref b :: argsL).toArray) :
    ∃ (v : Option Value) (vm₁ : Vm) (B : Pt), s.WarmedH vm₁ ∧ Stand p l e R s m args below meth c B.U B.locs B.cells B.slots ∧ Post ⟨T.setVm vm₁, locs, cells, slots⟩ (Value.ref b :: argsL).toArray v B ∧
      ∀ target, Steps p.tables e below (B.U.setTop { g with pc := g.pc + 3, stack := v.toList ++ rest }) target → Steps p.tables e below (T.setTop g) target := by
  obtain ⟨mk, methM, hnamed, hmethM, hstM, habM⟩ := Cond.instanceMethod_spec hinst
  obtain ⟨m8, methM', cM, hn8, hmethM', -, -, -, -, -, -, hsigM⟩ := Cond.codeWith_spec hcode
  cases Option.some.inj (hn8.symm.trans hnamed)
  cases hmethM.symm.trans hmethM'
  obtain ⟨c2, r2, m2, q1, q2, q3, q4, kP, hkP, hkPi⟩ := Cond.selects_spec hsel
  cases hcls.symm.trans q1
  cases (State.methodFound?_of_named hnamed hy).symm.trans q2
  cases hnamed.symm.trans q3
  have hselP : selectMethod e.platform s.vm cellB.cls mk = .method mk := by rw [Launch.admits_selectMethod X.admits]; exact q4
  obtain ⟨vm₁, X₁, hstep₁⟩ := X.invokevirtual hexec hown hlink hnamed hmethM hstM hkP hkPi hy (a := b) (cell := cellB) hcell
    (fun z h => by rw [h] at hobj; cases hobj) hselP hmethM habM hkP hkPi (g := g) hg (argsL := argsL) (rest := rest) (hlen _ hsigM) hstack hdg
  obtain ⟨v, B, X', hpost, hsteps⟩ := hK m meth c ⟨T.setVm vm₁, locs, cells, slots⟩ { g with stack := rest } (.invokevirtual index) mk (Value.ref b :: argsL).toArray X₁ hg hsize hdg hW (X₁.named hnamed) (hpre vm₁ X₁.warmed)
  exact ⟨v, vm₁, B, X₁.warmed, X', hpost, fun target h => hstep₁ _ fun acts => by rw [doInvoke_state]; exact hsteps.trans h⟩
abbrev vx_CVW (R : Room) (s : State) (args : Array Value) (own C : String) (index : Nat) (y : MethodName) (bytes : ByteArray) (maxL : Nat) (ret : Option FieldType) (hh : List (Nat × Nat × Nat × Nat)) (ws : List Cond) (rm : Room) (mc ms n : Nat) : Prop :=
  (rm.cells = mc ∧ rm.slots = ms ∧ rm.frames + 1 ≤ R.frames ∧ 8 + (maxL + 11) + rm.locals ≤ R.locals ∧ (∀ w ∈ ws, ∀ (a' : Array Value) (U : State), s.WarmedH U.vm → w.before a' U = true) ∧ Cond.codeWith y bytes maxL ret hh ∈ ws) ∧
  (Cond.codeWith y bytes maxL ret hh).before args s = true ∧ (Cond.initialized y.cls).before args s = true ∧ (y.cls ≠ "java/lang/invoke/MethodHandle" ∧ y.cls ≠ "java/lang/invoke/VarHandle") ∧
  (∀ sig, parseMethodDescriptor y.desc = some sig → n = sig.parameters.length) ∧ (Cond.methodLink own index y).before args s = true ∧ (Cond.instanceMethod y).before args s = true ∧ (Cond.selects C y y).before args s = true
theorem vx_cwVW {own C : String} {index maxL mc ms : Nat} {y : MethodName} {bytes : ByteArray} {ret : Option FieldType} {hh : List (Nat × Nat × Nat × Nat)} {Ts ws ws' : List Cond} {rm : Room} (n : Nat) (ht : ∀ w ∈ Ts, w.before args s = true) (hT : GoodIn Ts (wsV own index C y ws)) (hw : ws = Cond.codeWith y bytes maxL ret hh :: ws') (hrc : rm.cells = mc) (hrs : rm.slots = ms)
    (hd : y.cls = C ∧ y.cls ≠ "java/lang/invoke/MethodHandle" ∧ y.cls ≠ "java/lang/invoke/VarHandle" ∧ (parseMethodDescriptor y.desc).map (fun d => d.parameters.length) = some n) (hR : rm.frames + 1 ≤ R.frames ∧ 8 + (maxL + 11) + rm.locals ≤ R.locals) :
    vx_CVW R s args own C index y bytes maxL ret hh ws rm mc ms n := by
  obtain ⟨hC, hd⟩ := hd
  subst hC
  have ok : ∀ w ∈ wsV own index y.cls y ws, w.before args s = true := fun w h => ht w (hT w h).1
  have hG : GoodIn Ts ws := fun w h => hT w (by unfold wsV; exact List.mem_append_right _ h)
  have hc : Cond.codeWith y bytes maxL ret hh ∈ ws := by rw [hw]; exact List.mem_cons_self
  refine ⟨⟨hrc, hrs, hR.1, hR.2, pay_in ht hG, hc⟩, ht _ (hG _ hc).1, ok _ (by simp [wsV]), ⟨hd.1, hd.2.1⟩, fun sig h => ?_, ok _ (by simp [wsV]), ok _ (by simp [wsV]), ok _ (by simp [wsV])⟩
  have h2 := hd.2.2
  rw [h] at h2
  exact (Option.some.inj h2).symm
theorem vx_runVW {y : MethodName} {bytes cc : ByteArray} {maxL nL mc ms n index : Nat} {ret : Option FieldType} {hh : List (Nat × Nat × Nat × Nat)} {ws : List Cond} {rm : Room} {Pc : Array Value → State → Prop} {Qc : Array Value → State → Outcome → State → Prop} {free : Addr → Prop} {Ts : List Cond} {own C : String} {b : Addr} {As rest : List Value} {g : JFrame}
    (S : CallFix p m c cc nL s args Ts own) (hM : Met l y ws rm Pc Qc mc ms free) (cw : vx_CVW R s args own C index y bytes maxL ret hh ws rm mc ms n) (hp : PreV s H C b Pc As)
    (hg : g.method = m) (hn : As.length = n) (hsize : g.locals.size = nL) (hstack : g.stack = As.reverse ++ .ref b :: rest) (hW : 2 * g.monitorRoom + (rest.map fun v => v.category).sum ≤ 8) (hdg : decode cc g.pc = .ok (.invokevirtual index, 3)) (hf : cells + mc ≤ R.cells ∧ slots + ms ≤ R.slots) :
    va_Run p l e R s m args below meth c H locs cells slots mc ms g rest (Qc (Value.ref b :: As).toArray) free := by
  obtain ⟨⟨hrc, hrs, hfr, hlo, hws, hcw⟩, hcode, hini, hy, hlen, hl, hin, hse⟩ := cw
  have hK : Back l R p e below s args y 3 8 (PreOf R mc ms Pc) (PostOf Qc mc ms free) := va_backW (hh := hh) (bytes := bytes) (maxL := maxL) (ret := ret) hM hp.1 hrc hrs hfr hlo hws hcw (fun a' U hW => word_at hW (Or.inl (by first | rfl | simp [Cond.onTables, Cond.keeps, Cond.steady])) hini)
  obtain ⟨hx, hb, hml, ho, -⟩ := S
  obtain ⟨-, ⟨cellB, hcB, hoB, hclB⟩, hPc⟩ := hp
  intro T hT X
  obtain ⟨v, vm₁, ⟨U', l2, c2, s2⟩, hW₁, X', ⟨g', mk, t, L, e1, e2, hq, h1, hL, h2, h3⟩, st⟩ := vx_callVW X hx (C := C) (hh := hh) (bytes := bytes) (maxL := maxL) (ret := ret) ho hl hin hse hcode hy hK (by rw [hT]; exact hcB) hoB hclB hg (hsize.trans hml.symm) (argsL := As) (rest := rest) (fun sig h => hn.trans (hlen sig h)) hstack hW (by rw [hb]; exact hdg)
    (fun vm₁ hW₁ => ⟨hf.1, hf.2, hPc (T.setVm vm₁) hT hW₁⟩)
  dsimp only [Pt.U, Pt.locs, Pt.cells, Pt.slots] at X' e1 e2 h1 h2 h3 st
  subst h1; subst h2; subst h3
  exact ⟨v, (T.setVm vm₁).calling g' mk (Value.ref b :: As).toArray, t, U', L, hT, X', hL, e1, e2, hq, st⟩
section
variable {y : MethodName} {bytes cc : ByteArray} {maxL nL mc ms n index : Nat} {ret : Option FieldType} {ws : List Cond} {rm : Room} {Pc : Array Value → State → Prop} {Qc : Array Value → State → Outcome → State → Prop} {XC : String → State → State → Prop} {free : Addr → Prop} {Ts : List Cond} {own C : String} {b : Addr} {As rest : List Value} {g : JFrame}
theorem vx_runVX {hh : List (Nat × Nat × Nat × Nat)} (S : CallFix p m c cc nL s args Ts own) (hM : vx_Met l y ws rm Pc Qc XC mc ms free) (cw : vx_CVW R s args own C index y bytes maxL ret hh ws rm mc ms n) (hp : PreV s H C b Pc As)
    (hg : g.method = m) (hn : As.length = n) (hsize : g.locals.size = nL) (hstack : g.stack = As.reverse ++ .ref b :: rest) (hW : 2 * g.monitorRoom + (rest.map fun v => v.category).sum ≤ 8) (hdg : decode cc g.pc = .ok (.invokevirtual index, 3)) (hf : cells + mc ≤ R.cells ∧ slots + ms ≤ R.slots) :
    vx_Run p l e R s m args below meth c H locs cells slots mc ms g rest (Qc (Value.ref b :: As).toArray) XC free := by
  obtain ⟨⟨hrc, hrs, hfr, hlo, hws, hcw⟩, hcode, hini, hy, hlen, hl, hin, hse⟩ := cw
  have hK : vx_Back l R p e below s args y 3 8 (PreOf R mc ms Pc) (PostOf Qc mc ms free) (vx_Post XC mc ms free) := vx_backW (hh := hh) (bytes := bytes) (maxL := maxL) (ret := ret) hM hp.1 hrc hrs hfr hlo hws hcw (fun a' U hW => word_at hW (Or.inl (by first | rfl | simp [Cond.onTables, Cond.keeps, Cond.steady])) hini)
  obtain ⟨hx, hb, hml, ho, -⟩ := S
  obtain ⟨-, ⟨cellB, hcB, hoB, hclB⟩, hPc⟩ := hp
  intro T hT X
  rcases vx_callVX X hx (C := C) (hh := hh) (bytes := bytes) (maxL := maxL) (ret := ret) ho hl hin hse hcode hy hK (by rw [hT]; exact hcB) hoB hclB hg (hsize.trans hml.symm) (argsL := As) (rest := rest) (fun sig h => hn.trans (hlen sig h)) hstack hW (by rw [hb]; exact hdg)
    (fun vm₁ hW₁ => ⟨hf.1, hf.2, hPc (T.setVm vm₁) hT hW₁⟩) with ⟨v, vm₁, ⟨U', l2, c2, s2⟩, hW₁, X', ⟨g', mk, t, L, e1, e2, hq, h1, hL, h2, h3⟩, st⟩ | ⟨q, vm₁, ⟨U', l2, c2, s2⟩, hW₁, X', ⟨g', mk, t, L, E, ce, e1, e2, hq, hce, hcv, hcl, h1, hL, h2, h3⟩, st⟩
  · dsimp only [Pt.U, Pt.locs, Pt.cells, Pt.slots] at X' e1 e2 h1 h2 h3 st
    subst h1; subst h2; subst h3
    exact Or.inl ⟨v, (T.setVm vm₁).calling g' mk (Value.ref b :: As).toArray, t, U', L, hT, X', hL, e1, e2, hq, st⟩
  · dsimp only [Pt.U, Pt.locs, Pt.cells, Pt.slots] at X' e1 e2 h1 h2 h3 st hcl
    subst h1; subst h2; subst h3
    exact Or.inr ⟨q, (T.setVm vm₁).calling g' mk (Value.ref b :: As).toArray, t, U', L, E, ce, hT, X', hL, e1, e2, hq, hce, hcv, vx_cls hW₁ hcl, st⟩
theorem vx_runSX {hh : List (Nat × Nat × Nat × Nat)} (S : CallFix p m c cc nL s args Ts own) (hM : vx_Met l y ws rm Pc Qc XC mc ms free) (cw : vx_CSW R s args own index y bytes maxL ret hh ws rm mc ms n) (hp : PreS s H Pc As)
    (hg : g.method = m) (hn : As.length = n) (hsize : g.locals.size = nL) (hstack : g.stack = As.reverse ++ rest) (hW : 2 * g.monitorRoom + (rest.map fun v => v.category).sum ≤ 8) (hdg : decode cc g.pc = .ok (.invokestatic index, 3)) (hf : cells + mc ≤ R.cells ∧ slots + ms ≤ R.slots) :
    vx_Run p l e R s m args below meth c H locs cells slots mc ms g rest (Qc As.toArray) XC free := by
  obtain ⟨⟨hrc, hrs, hfr, hlo, hws, hcw⟩, hcode, hini, hy, hlen, hl, hstt⟩ := cw
  have hK : vx_Back l R p e below s args y 3 8 (PreOf R mc ms Pc) (PostOf Qc mc ms free) (vx_Post XC mc ms free) := vx_backW (hh := hh) (bytes := bytes) (maxL := maxL) (ret := ret) hM hp.1 hrc hrs hfr hlo hws hcw (fun a' U hW => word_at hW (Or.inl (by first | rfl | simp [Cond.onTables, Cond.keeps, Cond.steady])) hini)
  obtain ⟨hx, hb, hml, ho, -⟩ := S
  intro T hT X
  rcases vx_callSX X hx (hh := hh) (bytes := bytes) (maxL := maxL) (ret := ret) ho hl hstt hini hcode hy hK hg (hsize.trans hml.symm) (argsL := As) (rest := rest) (fun sig h => hn.trans (hlen sig h)) hstack hW (by rw [hb]; exact hdg)
    (fun vm₁ hW₁ => ⟨hf.1, hf.2, hp.2 (T.setVm vm₁) hT hW₁⟩) with ⟨v, vm₁, ⟨U', l2, c2, s2⟩, hW₁, X', ⟨g', mk, t, L, e1, e2, hq, h1, hL, h2, h3⟩, st⟩ | ⟨q, vm₁, ⟨U', l2, c2, s2⟩, hW₁, X', ⟨g', mk, t, L, E, ce, e1, e2, hq, hce, hcv, hcl, h1, hL, h2, h3⟩, st⟩
  · dsimp only [Pt.U, Pt.locs, Pt.cells, Pt.slots] at X' e1 e2 h1 h2 h3 st
    subst h1; subst h2; subst h3
    exact Or.inl ⟨v, (T.setVm vm₁).calling g' mk As.toArray, t, U', L, hT, X', hL, e1, e2, hq, st⟩
  · dsimp only [Pt.U, Pt.locs, Pt.cells, Pt.slots] at X' e1 e2 h1 h2 h3 st hcl
    subst h1; subst h2; subst h3
    exact Or.inr ⟨q, (T.setVm vm₁).calling g' mk As.toArray, t, U', L, E, ce, hT, X', hL, e1, e2, hq, hce, hcv, vx_cls hW₁ hcl, st⟩
end
end VXH
theorem vx_ofWH {l : Launch} {y : MethodName} {ws ws' : List Cond} {rm : Room} {Pc : Array Value → State → Prop} {Qc : Array Value → State → Outcome → State → Prop} {XC : String → State → State → Prop} {mc ms : Nat} {free : Addr → Prop} {cc : ByteArray} {maxL : Nat} {ret : Option FieldType} {hh : List (Nat × Nat × Nat × Nat)}
    (hy : plainName y.cls = true) (hw : ws = Cond.codeWith y cc maxL ret hh :: ws')
    (body : ∀ p e s m args below meth c s₁, BodyLoose p l y (headSpec ws rm) cc maxL ret e s m args below meth c s₁ → c.maxLocals = maxL → Pc args s →
      W p l e (headSpec ws rm).room s m args below meth c s.heap [] 0 0 (vx_MQ below Qc XC args s mc ms free) (entryFrame m args maxL)) : vx_Met l y ws rm Pc Qc XC mc ms free := by
  refine MetFree.of_bodyS (code := cc) (maxLocals := maxL) (ret := ret) hy ?_ ?_
  · intro args s m h hn
    obtain ⟨m9, meth, c, hn9, h1, h2, h3, h4, -, h5, h6, -⟩ := Cond.codeWith_spec (atoms_spec (ws := ws) h _ (by rw [hw]; exact List.mem_cons_self))
    cases hn.symm.trans hn9
    exact ⟨meth, c, h1, h2, h3, h4, h5, h6⟩
  · intro p e s m args below meth c s₁ B hml hP _
    have hh0 : s₁.heap = s.heap := by rw [B.state]; rfl
    obtain ⟨t, a1, o, b1, b2, b3⟩ := body p e s m args below meth c s₁ B hml hP s₁ hh0 (Stand.of_body B)
    exact ⟨t, o, a1, b1, b2, b3⟩
/-! ===== END ===== -/
end
section
/-! ===== printed: names, fields, word lists ===== -/
def RX0 : String := "OldMeasures$Stalls"
def TX0 : u_T := fun k => match k with
  | 0 => ("OldMeasures$Stalls", "wears", "[I", true)
  | 1 => ("OldMeasures$Stalls", "drifts", "[I", true)
  | 2 => ("OldMeasures$Stalls", "count", "I", false)
  | 3 => ("OldMeasures$Stalls", "tolerance", "I", false)
  | _ => ("OldMeasures$Stalls", "day", "I", false)
def tyX0 : Nat → FieldType := fun k => match k with
  | 0 => .array .int
  | 1 => .array .int
  | 2 => .int
  | 3 => .int
  | _ => .int
abbrev wsX00 : List Cond := u_ws RX0 TX0 5
theorem nmX0 : ∀ a, a < 5 → ∀ b, b < 5 → a ≠ b → (TX0 a).2.1 ≠ (TX0 b).2.1 := by decide +kernel
theorem tyX0_ok : ∀ k, k < 5 → parseFieldDescriptor (TX0 k).2.2.1 = some (tyX0 k) := by decide +kernel
abbrev cX0_init : ByteArray := prog_2_method_1_code
def yX0_init : MethodName := ⟨RX0, "<init>", "()V"⟩
abbrev cX0_coinsPaidIn : ByteArray := prog_2_method_3_code
def yX0_coinsPaidIn : MethodName := ⟨RX0, "coinsPaidIn", "(I)I"⟩
abbrev cX0_coinsPaidNextDay : ByteArray := prog_2_method_4_code
def yX0_coinsPaidNextDay : MethodName := ⟨RX0, "coinsPaidNextDay", "()I"⟩
abbrev cX0_visited : ByteArray := prog_2_method_5_code
def yX0_visited : MethodName := ⟨RX0, "visited", "()I"⟩
abbrev cX0_finedAt : ByteArray := prog_2_method_6_code
def yX0_finedAt : MethodName := ⟨RX0, "finedAt", "(I)I"⟩
abbrev cX0_isTolerated : ByteArray := prog_2_method_7_code
def yX0_isTolerated : MethodName := ⟨RX0, "isTolerated", "(I)Z"⟩
abbrev cX0_held : ByteArray := prog_2_method_8_code
def yX0_held : MethodName := ⟨RX0, "held", "(I)I"⟩
def RX1 : String := "OldMeasures"
def TX1 : u_T := fun k => match k with
  | 0 => ("OldMeasures", "bases", "[I", true)
  | 1 => ("OldMeasures", "steps", "[I", true)
  | 2 => ("OldMeasures", "lengths", "[J", true)
  | 3 => ("OldMeasures", "longestFirst", "[I", true)
  | 4 => ("OldMeasures", "stalls", "LOldMeasures$Stalls;", true)
  | 5 => ("OldMeasures", "trial", "LOldMeasures$Stalls;", true)
  | 6 => ("OldMeasures", "measureCount", "I", false)
  | 7 => ("OldMeasures", "standard", "I", false)
  | _ => ("OldMeasures", "fines", "I", false)
def tyX1 : Nat → FieldType := fun k => match k with
  | 0 => .array .int
  | 1 => .array .int
  | 2 => .array .long
  | 3 => .array .int
  | 4 => .object "OldMeasures$Stalls"
  | 5 => .object "OldMeasures$Stalls"
  | 6 => .int
  | 7 => .int
  | _ => .int
abbrev wsX10 : List Cond := u_ws RX1 TX1 9
theorem nmX1 : ∀ a, a < 9 → ∀ b, b < 9 → a ≠ b → (TX1 a).2.1 ≠ (TX1 b).2.1 := by decide +kernel
theorem tyX1_ok : ∀ k, k < 9 → parseFieldDescriptor (TX1 k).2.2.1 = some (tyX1 k) := by decide +kernel
abbrev cX1_init : ByteArray := prog_1_method_1_code
def yX1_init : MethodName := ⟨RX1, "<init>", "()V"⟩
abbrev cX1_addMeasure : ByteArray := prog_1_method_2_code
def yX1_addMeasure : MethodName := ⟨RX1, "addMeasure", "(III)I"⟩
abbrev cX1_setStandard : ByteArray := prog_1_method_3_code
def yX1_setStandard : MethodName := ⟨RX1, "setStandard", "(I)I"⟩
abbrev cX1_addStall : ByteArray := prog_1_method_4_code
def yX1_addStall : MethodName := ⟨RX1, "addStall", "(I)I"⟩
abbrev cX1_setWear : ByteArray := prog_1_method_5_code
def yX1_setWear : MethodName := ⟨RX1, "setWear", "(II)I"⟩
abbrev cX1_seal : ByteArray := prog_1_method_6_code
def yX1_seal : MethodName := ⟨RX1, "seal", "(I)I"⟩
abbrev cX1_setTolerance : ByteArray := prog_1_method_7_code
def yX1_setTolerance : MethodName := ⟨RX1, "setTolerance", "(I)I"⟩
abbrev cX1_passDays : ByteArray := prog_1_method_8_code
def yX1_passDays : MethodName := ⟨RX1, "passDays", "(I)I"⟩
abbrev cX1_measures : ByteArray := prog_1_method_9_code
def yX1_measures : MethodName := ⟨RX1, "measures", "()I"⟩
abbrev cX1_stalls : ByteArray := prog_1_method_10_code
def yX1_stalls : MethodName := ⟨RX1, "stalls", "()I"⟩
abbrev cX1_days : ByteArray := prog_1_method_11_code
def yX1_days : MethodName := ⟨RX1, "days", "()I"⟩
abbrev cX1_standard : ByteArray := prog_1_method_12_code
def yX1_standard : MethodName := ⟨RX1, "standard", "()I"⟩
abbrev cX1_tolerance : ByteArray := prog_1_method_13_code
def yX1_tolerance : MethodName := ⟨RX1, "tolerance", "()I"⟩
abbrev cX1_fines : ByteArray := prog_1_method_14_code
def yX1_fines : MethodName := ⟨RX1, "fines", "()I"⟩
abbrev cX1_baseOf : ByteArray := prog_1_method_15_code
def yX1_baseOf : MethodName := ⟨RX1, "baseOf", "(I)I"⟩
abbrev cX1_stepsToEll : ByteArray := prog_1_method_16_code
def yX1_stepsToEll : MethodName := ⟨RX1, "stepsToEll", "(I)I"⟩
abbrev cX1_lengthTop : ByteArray := prog_1_method_17_code
def yX1_lengthTop : MethodName := ⟨RX1, "lengthTop", "(I)J"⟩
abbrev cX1_lengthBottom : ByteArray := prog_1_method_18_code
def yX1_lengthBottom : MethodName := ⟨RX1, "lengthBottom", "(I)J"⟩
abbrev cX1_isLonger : ByteArray := prog_1_method_19_code
def yX1_isLonger : MethodName := ⟨RX1, "isLonger", "(II)Z"⟩
abbrev cX1_longest : ByteArray := prog_1_method_20_code
def yX1_longest : MethodName := ⟨RX1, "longest", "()I"⟩
abbrev cX1_shortest : ByteArray := prog_1_method_21_code
def yX1_shortest : MethodName := ⟨RX1, "shortest", "()I"⟩
abbrev cX1_fewestToMeet : ByteArray := prog_1_method_22_code
def yX1_fewestToMeet : MethodName := ⟨RX1, "fewestToMeet", "(II)J"⟩
abbrev cX1_convert : ByteArray := prog_1_method_23_code
def yX1_convert : MethodName := ⟨RX1, "convert", "(III)J"⟩
abbrev cX1_isExact : ByteArray := prog_1_method_24_code
def yX1_isExact : MethodName := ⟨RX1, "isExact", "(III)Z"⟩
abbrev cX1_driftOf : ByteArray := prog_1_method_29_code
def yX1_driftOf : MethodName := ⟨RX1, "driftOf", "(I)I"⟩
abbrev cX1_wearOf : ByteArray := prog_1_method_30_code
def yX1_wearOf : MethodName := ⟨RX1, "wearOf", "(I)I"⟩
abbrev cX1_isHonest : ByteArray := prog_1_method_31_code
def yX1_isHonest : MethodName := ⟨RX1, "isHonest", "(I)Z"⟩
abbrev cX1_getsAt : ByteArray := prog_1_method_32_code
def yX1_getsAt : MethodName := ⟨RX1, "getsAt", "(III)J"⟩
abbrev cX1_lossAt : ByteArray := prog_1_method_33_code
def yX1_lossAt : MethodName := ⟨RX1, "lossAt", "(III)J"⟩
abbrev cX1_mostHonest : ByteArray := prog_1_method_34_code
def yX1_mostHonest : MethodName := ⟨RX1, "mostHonest", "()I"⟩
abbrev cX1_mostGenerous : ByteArray := prog_1_method_35_code
def yX1_mostGenerous : MethodName := ⟨RX1, "mostGenerous", "()I"⟩
abbrev cX1_meanDrift : ByteArray := prog_1_method_40_code
def yX1_meanDrift : MethodName := ⟨RX1, "meanDrift", "()D"⟩
abbrev cX1_needMeasure : ByteArray := prog_1_method_45_code
def yX1_needMeasure : MethodName := ⟨RX1, "needMeasure", "(I)V"⟩
abbrev cX1_needStall : ByteArray := prog_1_method_46_code
def yX1_needStall : MethodName := ⟨RX1, "needStall", "(I)V"⟩
abbrev cX1_needWear : ByteArray := prog_1_method_47_code
def yX1_needWear : MethodName := ⟨RX1, "needWear", "(I)V"⟩
abbrev cX1_needDays : ByteArray := prog_1_method_48_code
def yX1_needDays : MethodName := ⟨RX1, "needDays", "(I)V"⟩
abbrev cX1_needMany : ByteArray := prog_1_method_49_code
def yX1_needMany : MethodName := ⟨RX1, "needMany", "(I)V"⟩
abbrev cX1_isOutside : ByteArray := prog_1_method_50_code
def yX1_isOutside : MethodName := ⟨RX1, "isOutside", "(III)Z"⟩
abbrev cX1_refineUnit : ByteArray := prog_1_method_51_code
def yX1_refineUnit : MethodName := ⟨RX1, "refineUnit", "(I)V"⟩
abbrev cX1_rankLast : ByteArray := prog_1_method_52_code
def yX1_rankLast : MethodName := ⟨RX1, "rankLast", "()V"⟩
abbrev cX1_lengthAt : ByteArray := prog_1_method_53_code
def yX1_lengthAt : MethodName := ⟨RX1, "lengthAt", "(I)J"⟩
abbrev cX1_givenWith : ByteArray := prog_1_method_54_code
def yX1_givenWith : MethodName := ⟨RX1, "givenWith", "(III)J"⟩
abbrev cX1_timesIn : ByteArray := prog_1_method_55_code
def yX1_timesIn : MethodName := ⟨RX1, "timesIn", "(JJ)J"⟩
abbrev cX1_leftOf : ByteArray := prog_1_method_56_code
def yX1_leftOf : MethodName := ⟨RX1, "leftOf", "(JJ)J"⟩
abbrev cX1_withoutCommonDivisor : ByteArray := prog_1_method_57_code
def yX1_withoutCommonDivisor : MethodName := ⟨RX1, "withoutCommonDivisor", "(JJ)J"⟩
abbrev cX1_greatestCommonDivisor : ByteArray := prog_1_method_58_code
def yX1_greatestCommonDivisor : MethodName := ⟨RX1, "greatestCommonDivisor", "(JJ)J"⟩
def RX2 : String := "OldMeasuresLaw$Sim"
def TX2 : u_T := fun k => match k with
  | 0 => ("OldMeasuresLaw$Sim", "day", "I", false)
  | 1 => ("OldMeasuresLaw$Sim", "fines", "I", false)
  | 2 => ("OldMeasuresLaw$Sim", "standard", "I", false)
  | 3 => ("OldMeasuresLaw$Sim", "tolerance", "I", false)
  | 4 => ("OldMeasuresLaw$Sim", "measures", "[[I", false)
  | _ => ("OldMeasuresLaw$Sim", "stalls", "[[I", false)
def tyX2 : Nat → FieldType := fun k => match k with
  | 0 => .int
  | 1 => .int
  | 2 => .int
  | 3 => .int
  | 4 => .array (.array .int)
  | _ => .array (.array .int)
abbrev wsX20 : List Cond := u_ws RX2 TX2 6
theorem nmX2 : ∀ a, a < 6 → ∀ b, b < 6 → a ≠ b → (TX2 a).2.1 ≠ (TX2 b).2.1 := by decide +kernel
theorem tyX2_ok : ∀ k, k < 6 → parseFieldDescriptor (TX2 k).2.2.1 = some (tyX2 k) := by decide +kernel
abbrev cX2_init : ByteArray := prog_4_method_1_code
def yX2_init : MethodName := ⟨RX2, "<init>", "()V"⟩
abbrev cX2_with : ByteArray := prog_4_method_2_code
def yX2_with : MethodName := ⟨RX2, "with", "([[I[I)[[I"⟩
abbrev cX2_divisor : ByteArray := prog_4_method_3_code
def yX2_divisor : MethodName := ⟨RX2, "divisor", "(JJ)J"⟩
abbrev cX2_ratio : ByteArray := prog_4_method_4_code
def yX2_ratio : MethodName := ⟨RX2, "ratio", "(II)[J"⟩
abbrev cX2_isLonger : ByteArray := prog_4_method_5_code
def yX2_isLonger : MethodName := ⟨RX2, "isLonger", "(II)Z"⟩
abbrev cX2_order : ByteArray := prog_4_method_6_code
def yX2_order : MethodName := ⟨RX2, "order", "()[I"⟩
abbrev cX2_isHonest : ByteArray := prog_4_method_8_code
def yX2_isHonest : MethodName := ⟨RX2, "isHonest", "([I)Z"⟩
abbrev cX2_pass : ByteArray := prog_4_method_9_code
def yX2_pass : MethodName := ⟨RX2, "pass", "()I"⟩
abbrev cX2_behind : ByteArray := prog_4_method_10_code
def yX2_behind : MethodName := ⟨RX2, "behind", "(I)I"⟩
abbrev cX2_isSame : ByteArray := prog_4_method_13_code
def yX2_isSame : MethodName := ⟨RX2, "isSame", "(LOldMeasures;)Z"⟩
def RX3 : String := "OldMeasuresModel"
def TX3 : u_T := fun k => match k with
  | _ => ("", "", "", false)
def tyX3 : Nat → FieldType := fun k => match k with
  | _ => .int
abbrev wsX30 : List Cond := u_ws RX3 TX3 0
theorem nmX3 : ∀ a, a < 0 → ∀ b, b < 0 → a ≠ b → (TX3 a).2.1 ≠ (TX3 b).2.1 := by decide +kernel
theorem tyX3_ok : ∀ k, k < 0 → parseFieldDescriptor (TX3 k).2.2.1 = some (tyX3 k) := by decide +kernel
def RJ9 : String := "java/lang/Math"
def TJ9 : u_T := fun k => match k with
  | _ => ("", "", "", false)
def tyJ9 : Nat → FieldType := fun k => match k with
  | _ => .int
abbrev wsJ90 : List Cond := u_ws RJ9 TJ9 0
theorem nmJ9 : ∀ a, a < 0 → ∀ b, b < 0 → a ≠ b → (TJ9 a).2.1 ≠ (TJ9 b).2.1 := by decide +kernel
theorem tyJ9_ok : ∀ k, k < 0 → parseFieldDescriptor (TJ9 k).2.2.1 = some (tyJ9 k) := by decide +kernel
abbrev cJ9_floorMod_7cf53 : ByteArray := prog_10_method_50_code
def yJ9_floorMod_7cf53 : MethodName := ⟨RJ9, "floorMod", "(II)I"⟩
abbrev cJ9_abs_0f7a4 : ByteArray := prog_10_method_59_code
def yJ9_abs_0f7a4 : MethodName := ⟨RJ9, "abs", "(I)I"⟩
abbrev cJ9_max_7cf53 : ByteArray := prog_10_method_65_code
def yJ9_max_7cf53 : MethodName := ⟨RJ9, "max", "(II)I"⟩
abbrev cJ9_min_7cf53 : ByteArray := prog_10_method_69_code
def yJ9_min_7cf53 : MethodName := ⟨RJ9, "min", "(II)I"⟩
def RJ0 : String := "java/lang/String"
def TJ0 : u_T := fun k => match k with
  | _ => ("", "", "", false)
def tyJ0 : Nat → FieldType := fun k => match k with
  | _ => .int
abbrev wsJ00 : List Cond := u_ws RJ0 TJ0 0
theorem nmJ0 : ∀ a, a < 0 → ∀ b, b < 0 → a ≠ b → (TJ0 a).2.1 ≠ (TJ0 b).2.1 := by decide +kernel
theorem tyJ0_ok : ∀ k, k < 0 → parseFieldDescriptor (TJ0 k).2.2.1 = some (tyJ0 k) := by decide +kernel
def RL : String := "OldMeasuresLaw"
abbrev cL_below : ByteArray := method_2_code
def yL_below : MethodName := ⟨RL, "below", "(II)I"⟩
abbrev cL_cell : ByteArray := method_3_code
def yL_cell : MethodName := ⟨RL, "cell", "([II)I"⟩
abbrev cL_act : ByteArray := method_4_code
def yL_act : MethodName := ⟨RL, "act", "(LOldMeasures;LOldMeasuresLaw$Sim;I)Z"⟩
abbrev cL_build : ByteArray := method_5_code
def yL_build : MethodName := ⟨RL, "build", "(LOldMeasures;[I)LOldMeasuresLaw$Sim;"⟩
abbrev cL_law : ByteArray := code
def yL_law : MethodName := ⟨RL, "law", "([I)Z"⟩
def wsX0_init : List Cond := .code yX0_init cX0_init 1 none :: ([.methodLink RX0 3 objectInit, .instanceMethod objectInit, .code objectInit ⟨#[0xb1]⟩ 1 none, .arrayClass .int, .fieldLink RX0 9 "OldMeasures$Stalls" "wears" "[I", .fieldLink RX0 15 "OldMeasures$Stalls" "drifts" "[I", .fieldLink RX0 18 "OldMeasures$Stalls" "tolerance" "I"] ++ wsX00)
def wsX0_held : List Cond := .code yX0_held cX0_held 1 (some .int) :: ([.methodLink RX0 55 Lib.Math.min.name, .static Lib.Math.min.name, .initialized "java/lang/Math", .code Lib.Math.min.name Lib.Math.min.code 2 (some .int), .methodLink RX0 58 Lib.Math.max.name, .static Lib.Math.max.name, .code Lib.Math.max.name Lib.Math.max.code 2 (some .int)])
def wsJ9_floorMod_7cf53 : List Cond := .code yJ9_floorMod_7cf53 cJ9_floorMod_7cf53 3 (some .int) :: ([])
def wsX0_visited : List Cond := .code yX0_visited cX0_visited 1 (some .int) :: ([.fieldLink RX0 22 "OldMeasures$Stalls" "count" "I", .fieldLink RX0 25 "OldMeasures$Stalls" "day" "I", .methodLink RX0 42 yJ9_floorMod_7cf53, .static yJ9_floorMod_7cf53, .initialized RJ9, .code yJ9_floorMod_7cf53 cJ9_floorMod_7cf53 3 (some .int)] ++ wsX00)
def wsX0_isTolerated : List Cond := .code yX0_isTolerated cX0_isTolerated 2 (some .boolean) :: ([.methodLink RX0 52 Lib.Math.abs.name, .static Lib.Math.abs.name, .initialized "java/lang/Math", .code Lib.Math.abs.name Lib.Math.abs.code 1 (some .int), .fieldLink RX0 18 "OldMeasures$Stalls" "tolerance" "I"] ++ wsX00)
def wsX0_finedAt : List Cond := .code yX0_finedAt cX0_finedAt 3 (some .int) :: ([.fieldLink RX0 22 "OldMeasures$Stalls" "count" "I", .fieldLink RX0 15 "OldMeasures$Stalls" "drifts" "[I", .methodLink RX0 52 Lib.Math.abs.name, .static Lib.Math.abs.name, .initialized "java/lang/Math", .code Lib.Math.abs.name Lib.Math.abs.code 1 (some .int), .methodLink RX0 48 yX0_isTolerated, .instanceMethod yX0_isTolerated, .selects RX0 yX0_isTolerated yX0_isTolerated, .initialized RX0, .code yX0_isTolerated cX0_isTolerated 2 (some .boolean), .fieldLink RX0 18 "OldMeasures$Stalls" "tolerance" "I"] ++ wsX00)
def wsX0_coinsPaidNextDay_r1 : List Cond := [Cond.fieldLink RX0 22 "OldMeasures$Stalls" "count" "I", Cond.fieldLink RX0 15 "OldMeasures$Stalls" "drifts" "[I", Cond.fieldLink RX0 9 "OldMeasures$Stalls" "wears" "[I", Cond.fieldLink RX0 25 "OldMeasures$Stalls" "day" "I", Cond.methodLink RX0 32 yX0_held, Cond.static yX0_held, Cond.initialized RX0, Cond.code yX0_held cX0_held 1 (some .int), Cond.methodLink RX0 55 Lib.Math.min.name, Cond.static Lib.Math.min.name, Cond.initialized "java/lang/Math", Cond.code Lib.Math.min.name Lib.Math.min.code 2 (some .int), Cond.methodLink RX0 58 Lib.Math.max.name, Cond.static Lib.Math.max.name, Cond.code Lib.Math.max.name Lib.Math.max.code 2 (some .int), Cond.methodLink RX0 36 yX0_visited, Cond.instanceMethod yX0_visited, Cond.selects RX0 yX0_visited yX0_visited, Cond.code yX0_visited cX0_visited 1 (some .int), Cond.methodLink RX0 42 yJ9_floorMod_7cf53, Cond.static yJ9_floorMod_7cf53, Cond.initialized RJ9, Cond.code yJ9_floorMod_7cf53 cJ9_floorMod_7cf53 3 (some .int), Cond.methodLink RX0 39 yX0_finedAt]
def wsX0_coinsPaidNextDay_r2 : List Cond := [Cond.instanceMethod yX0_finedAt, Cond.selects RX0 yX0_finedAt yX0_finedAt, Cond.code yX0_finedAt cX0_finedAt 3 (some .int), Cond.methodLink RX0 52 Lib.Math.abs.name, Cond.static Lib.Math.abs.name, Cond.code Lib.Math.abs.name Lib.Math.abs.code 1 (some .int), Cond.methodLink RX0 48 yX0_isTolerated, Cond.instanceMethod yX0_isTolerated, Cond.selects RX0 yX0_isTolerated yX0_isTolerated, Cond.code yX0_isTolerated cX0_isTolerated 2 (some .boolean), Cond.fieldLink RX0 18 "OldMeasures$Stalls" "tolerance" "I"]
def wsX0_coinsPaidNextDay : List Cond := .code yX0_coinsPaidNextDay cX0_coinsPaidNextDay 2 (some .int) :: ((wsX0_coinsPaidNextDay_r1 ++ wsX0_coinsPaidNextDay_r2) ++ wsX00)
def wsX0_coinsPaidIn_r1 : List Cond := [Cond.methodLink RX0 28 yX0_coinsPaidNextDay, Cond.instanceMethod yX0_coinsPaidNextDay, Cond.selects RX0 yX0_coinsPaidNextDay yX0_coinsPaidNextDay, Cond.initialized RX0, Cond.code yX0_coinsPaidNextDay cX0_coinsPaidNextDay 2 (some .int), Cond.fieldLink RX0 22 "OldMeasures$Stalls" "count" "I", Cond.fieldLink RX0 15 "OldMeasures$Stalls" "drifts" "[I", Cond.fieldLink RX0 9 "OldMeasures$Stalls" "wears" "[I", Cond.fieldLink RX0 25 "OldMeasures$Stalls" "day" "I", Cond.methodLink RX0 32 yX0_held, Cond.static yX0_held, Cond.code yX0_held cX0_held 1 (some .int), Cond.methodLink RX0 55 Lib.Math.min.name, Cond.static Lib.Math.min.name, Cond.initialized "java/lang/Math", Cond.code Lib.Math.min.name Lib.Math.min.code 2 (some .int), Cond.methodLink RX0 58 Lib.Math.max.name, Cond.static Lib.Math.max.name, Cond.code Lib.Math.max.name Lib.Math.max.code 2 (some .int), Cond.methodLink RX0 36 yX0_visited, Cond.instanceMethod yX0_visited, Cond.selects RX0 yX0_visited yX0_visited, Cond.code yX0_visited cX0_visited 1 (some .int), Cond.methodLink RX0 42 yJ9_floorMod_7cf53]
def wsX0_coinsPaidIn_r2 : List Cond := [Cond.static yJ9_floorMod_7cf53, Cond.initialized RJ9, Cond.code yJ9_floorMod_7cf53 cJ9_floorMod_7cf53 3 (some .int), Cond.methodLink RX0 39 yX0_finedAt, Cond.instanceMethod yX0_finedAt, Cond.selects RX0 yX0_finedAt yX0_finedAt, Cond.code yX0_finedAt cX0_finedAt 3 (some .int), Cond.methodLink RX0 52 Lib.Math.abs.name, Cond.static Lib.Math.abs.name, Cond.code Lib.Math.abs.name Lib.Math.abs.code 1 (some .int), Cond.methodLink RX0 48 yX0_isTolerated, Cond.instanceMethod yX0_isTolerated, Cond.selects RX0 yX0_isTolerated yX0_isTolerated, Cond.code yX0_isTolerated cX0_isTolerated 2 (some .boolean), Cond.fieldLink RX0 18 "OldMeasures$Stalls" "tolerance" "I"]
def wsX0_coinsPaidIn : List Cond := .code yX0_coinsPaidIn cX0_coinsPaidIn 4 (some .int) :: ((wsX0_coinsPaidIn_r1 ++ wsX0_coinsPaidIn_r2) ++ wsX00)
def wsX1_init : List Cond := .code yX1_init cX1_init 1 none :: ([.methodLink RX1 1 objectInit, .instanceMethod objectInit, .code objectInit ⟨#[0xb1]⟩ 1 none, .arrayClass .int, .fieldLink RX1 9 "OldMeasures" "bases" "[I", .fieldLink RX1 13 "OldMeasures" "steps" "[I", .arrayClass .long, .fieldLink RX1 16 "OldMeasures" "lengths" "[J", .fieldLink RX1 20 "OldMeasures" "longestFirst" "[I", .classLink RX1 23 RX0, .instantiable RX0 5, .initialized RX0, .fieldLink RX1 26 "OldMeasures" "stalls" "LOldMeasures$Stalls;", .fieldLink RX1 30 "OldMeasures" "trial" "LOldMeasures$Stalls;", .fieldLink RX1 33 "OldMeasures" "measureCount" "I", .fieldLink RX1 37 "OldMeasures" "standard" "I", .instanceMethod yX0_init, .code yX0_init cX0_init 1 none, .methodLink RX0 3 objectInit, .fieldLink RX0 9 "OldMeasures$Stalls" "wears" "[I", .fieldLink RX0 15 "OldMeasures$Stalls" "drifts" "[I", .fieldLink RX0 18 "OldMeasures$Stalls" "tolerance" "I"] ++ wsX10 ++ wsX00)
def wsX1_isOutside : List Cond := .code yX1_isOutside cX1_isOutside 3 (some .boolean) :: ([])
def wsX1_needMeasure : List Cond := .code yX1_needMeasure cX1_needMeasure 2 none :: ([.classLink RX1 221 "java/lang/IndexOutOfBoundsException", .initialized "java/lang/IndexOutOfBoundsException", .fieldLink RX1 33 "OldMeasures" "measureCount" "I", .methodLink RX1 44 yX1_isOutside, .static yX1_isOutside, .initialized RX1, .code yX1_isOutside cX1_isOutside 3 (some .boolean)] ++ wsX10 ++ (vx_atS RX1 225 "java/lang/IndexOutOfBoundsException" ["java/lang/RuntimeException", "java/lang/Exception"]).filter goodWord)
def wsX1_refineUnit : List Cond := .code yX1_refineUnit cX1_refineUnit 3 none :: ([.fieldLink RX1 33 "OldMeasures" "measureCount" "I", .fieldLink RX1 16 "OldMeasures" "lengths" "[J"] ++ wsX10)
def wsX1_lengthAt : List Cond := .code yX1_lengthAt cX1_lengthAt 2 (some .long) :: ([.fieldLink RX1 16 "OldMeasures" "lengths" "[J", .fieldLink RX1 20 "OldMeasures" "longestFirst" "[I"] ++ wsX10)
def wsX1_rankLast : List Cond := .code yX1_rankLast cX1_rankLast 3 none :: ([.fieldLink RX1 33 "OldMeasures" "measureCount" "I", .fieldLink RX1 16 "OldMeasures" "lengths" "[J", .fieldLink RX1 20 "OldMeasures" "longestFirst" "[I", .methodLink RX1 114 yX1_lengthAt, .instanceMethod yX1_lengthAt, .selects RX1 yX1_lengthAt yX1_lengthAt, .initialized RX1, .code yX1_lengthAt cX1_lengthAt 2 (some .long)] ++ wsX10)
def wsX1_addMeasure_r1 : List Cond := [Cond.classLink RX1 48 "java/lang/IllegalArgumentException", Cond.initialized "java/lang/IllegalArgumentException", Cond.classLink RX1 55 "java/lang/IllegalStateException", Cond.initialized "java/lang/IllegalStateException", Cond.fieldLink RX1 33 "OldMeasures" "measureCount" "I", Cond.fieldLink RX1 16 "OldMeasures" "lengths" "[J", Cond.fieldLink RX1 9 "OldMeasures" "bases" "[I", Cond.fieldLink RX1 13 "OldMeasures" "steps" "[I", Cond.methodLink RX1 40 yX1_needMeasure, Cond.instanceMethod yX1_needMeasure, Cond.selects RX1 yX1_needMeasure yX1_needMeasure, Cond.initialized RX1, Cond.code yX1_needMeasure cX1_needMeasure 2 none, Cond.classLink RX1 221 "java/lang/IndexOutOfBoundsException", Cond.initialized "java/lang/IndexOutOfBoundsException", Cond.methodLink RX1 44 yX1_isOutside, Cond.static yX1_isOutside, Cond.code yX1_isOutside cX1_isOutside 3 (some .boolean), Cond.methodLink RX1 60 yX1_refineUnit, Cond.instanceMethod yX1_refineUnit, Cond.selects RX1 yX1_refineUnit yX1_refineUnit, Cond.code yX1_refineUnit cX1_refineUnit 3 none, Cond.methodLink RX1 63 yX1_rankLast, Cond.instanceMethod yX1_rankLast]
def wsX1_addMeasure_r2 : List Cond := [Cond.selects RX1 yX1_rankLast yX1_rankLast, Cond.code yX1_rankLast cX1_rankLast 3 none, Cond.fieldLink RX1 20 "OldMeasures" "longestFirst" "[I", Cond.methodLink RX1 114 yX1_lengthAt, Cond.instanceMethod yX1_lengthAt, Cond.selects RX1 yX1_lengthAt yX1_lengthAt, Cond.code yX1_lengthAt cX1_lengthAt 2 (some .long)]
def wsX1_addMeasure : List Cond := .code yX1_addMeasure cX1_addMeasure 7 (some .int) :: ((wsX1_addMeasure_r1 ++ wsX1_addMeasure_r2) ++ wsX10 ++ (vx_atS RX1 52 "java/lang/IllegalArgumentException" ["java/lang/RuntimeException", "java/lang/Exception"]).filter goodWord ++ (vx_atS RX1 59 "java/lang/IllegalStateException" ["java/lang/RuntimeException", "java/lang/Exception"]).filter goodWord ++ (vx_atS RX1 225 "java/lang/IndexOutOfBoundsException" ["java/lang/RuntimeException", "java/lang/Exception"]).filter goodWord)
def wsX1_setStandard : List Cond := .code yX1_setStandard cX1_setStandard 3 (some .int) :: ([.fieldLink RX1 37 "OldMeasures" "standard" "I", .methodLink RX1 40 yX1_needMeasure, .instanceMethod yX1_needMeasure, .selects RX1 yX1_needMeasure yX1_needMeasure, .initialized RX1, .code yX1_needMeasure cX1_needMeasure 2 none, .classLink RX1 221 "java/lang/IndexOutOfBoundsException", .initialized "java/lang/IndexOutOfBoundsException", .fieldLink RX1 33 "OldMeasures" "measureCount" "I", .methodLink RX1 44 yX1_isOutside, .static yX1_isOutside, .code yX1_isOutside cX1_isOutside 3 (some .boolean)] ++ wsX10 ++ (vx_atS RX1 225 "java/lang/IndexOutOfBoundsException" ["java/lang/RuntimeException", "java/lang/Exception"]).filter goodWord)
def wsX1_needWear : List Cond := .code yX1_needWear cX1_needWear 1 none :: ([.classLink RX1 48 "java/lang/IllegalArgumentException", .initialized "java/lang/IllegalArgumentException", .methodLink RX1 44 yX1_isOutside, .static yX1_isOutside, .initialized RX1, .code yX1_isOutside cX1_isOutside 3 (some .boolean)] ++ (vx_atS RX1 52 "java/lang/IllegalArgumentException" ["java/lang/RuntimeException", "java/lang/Exception"]).filter goodWord)
def wsX1_addStall : List Cond := .code yX1_addStall cX1_addStall 3 (some .int) :: ([.classLink RX1 55 "java/lang/IllegalStateException", .initialized "java/lang/IllegalStateException", .fieldLink RX1 26 "OldMeasures" "stalls" "LOldMeasures$Stalls;", .methodLink RX1 66 yX1_needWear, .static yX1_needWear, .initialized RX1, .code yX1_needWear cX1_needWear 1 none, .classLink RX1 48 "java/lang/IllegalArgumentException", .initialized "java/lang/IllegalArgumentException", .methodLink RX1 44 yX1_isOutside, .static yX1_isOutside, .code yX1_isOutside cX1_isOutside 3 (some .boolean)] ++ wsX10 ++ wsX00 ++ (vx_atS RX1 59 "java/lang/IllegalStateException" ["java/lang/RuntimeException", "java/lang/Exception"]).filter goodWord ++ (vx_atS RX1 52 "java/lang/IllegalArgumentException" ["java/lang/RuntimeException", "java/lang/Exception"]).filter goodWord)
def wsX1_needStall : List Cond := .code yX1_needStall cX1_needStall 2 none :: ([.classLink RX1 221 "java/lang/IndexOutOfBoundsException", .initialized "java/lang/IndexOutOfBoundsException", .fieldLink RX1 26 "OldMeasures" "stalls" "LOldMeasures$Stalls;", .methodLink RX1 44 yX1_isOutside, .static yX1_isOutside, .initialized RX1, .code yX1_isOutside cX1_isOutside 3 (some .boolean)] ++ wsX10 ++ wsX00 ++ (vx_atS RX1 225 "java/lang/IndexOutOfBoundsException" ["java/lang/RuntimeException", "java/lang/Exception"]).filter goodWord)
def wsX1_setWear : List Cond := .code yX1_setWear cX1_setWear 4 (some .int) :: ([.fieldLink RX1 26 "OldMeasures" "stalls" "LOldMeasures$Stalls;", .methodLink RX1 80 yX1_needStall, .instanceMethod yX1_needStall, .selects RX1 yX1_needStall yX1_needStall, .initialized RX1, .code yX1_needStall cX1_needStall 2 none, .classLink RX1 221 "java/lang/IndexOutOfBoundsException", .initialized "java/lang/IndexOutOfBoundsException", .methodLink RX1 44 yX1_isOutside, .static yX1_isOutside, .code yX1_isOutside cX1_isOutside 3 (some .boolean), .methodLink RX1 66 yX1_needWear, .static yX1_needWear, .code yX1_needWear cX1_needWear 1 none, .classLink RX1 48 "java/lang/IllegalArgumentException", .initialized "java/lang/IllegalArgumentException"] ++ wsX10 ++ wsX00 ++ (vx_atS RX1 225 "java/lang/IndexOutOfBoundsException" ["java/lang/RuntimeException", "java/lang/Exception"]).filter goodWord ++ (vx_atS RX1 52 "java/lang/IllegalArgumentException" ["java/lang/RuntimeException", "java/lang/Exception"]).filter goodWord)
def wsX1_seal : List Cond := .code yX1_seal cX1_seal 3 (some .int) :: ([.fieldLink RX1 26 "OldMeasures" "stalls" "LOldMeasures$Stalls;", .methodLink RX1 80 yX1_needStall, .instanceMethod yX1_needStall, .selects RX1 yX1_needStall yX1_needStall, .initialized RX1, .code yX1_needStall cX1_needStall 2 none, .classLink RX1 221 "java/lang/IndexOutOfBoundsException", .initialized "java/lang/IndexOutOfBoundsException", .methodLink RX1 44 yX1_isOutside, .static yX1_isOutside, .code yX1_isOutside cX1_isOutside 3 (some .boolean)] ++ wsX10 ++ wsX00 ++ (vx_atS RX1 225 "java/lang/IndexOutOfBoundsException" ["java/lang/RuntimeException", "java/lang/Exception"]).filter goodWord)
def wsX1_setTolerance : List Cond := .code yX1_setTolerance cX1_setTolerance 3 (some .int) :: ([.classLink RX1 48 "java/lang/IllegalArgumentException", .initialized "java/lang/IllegalArgumentException", .fieldLink RX1 26 "OldMeasures" "stalls" "LOldMeasures$Stalls;", .methodLink RX1 44 yX1_isOutside, .static yX1_isOutside, .initialized RX1, .code yX1_isOutside cX1_isOutside 3 (some .boolean)] ++ wsX10 ++ wsX00 ++ (vx_atS RX1 52 "java/lang/IllegalArgumentException" ["java/lang/RuntimeException", "java/lang/Exception"]).filter goodWord)
def wsX1_needDays : List Cond := .code yX1_needDays cX1_needDays 1 none :: ([.classLink RX1 48 "java/lang/IllegalArgumentException", .initialized "java/lang/IllegalArgumentException", .methodLink RX1 44 yX1_isOutside, .static yX1_isOutside, .initialized RX1, .code yX1_isOutside cX1_isOutside 3 (some .boolean)] ++ (vx_atS RX1 52 "java/lang/IllegalArgumentException" ["java/lang/RuntimeException", "java/lang/Exception"]).filter goodWord)
def wsX1_passDays_r1 : List Cond := [Cond.fieldLink RX1 26 "OldMeasures" "stalls" "LOldMeasures$Stalls;", Cond.fieldLink RX1 95 "OldMeasures" "fines" "I", Cond.methodLink RX1 88 yX1_needDays, Cond.static yX1_needDays, Cond.initialized RX1, Cond.code yX1_needDays cX1_needDays 1 none, Cond.classLink RX1 48 "java/lang/IllegalArgumentException", Cond.initialized "java/lang/IllegalArgumentException", Cond.methodLink RX1 44 yX1_isOutside, Cond.static yX1_isOutside, Cond.code yX1_isOutside cX1_isOutside 3 (some .boolean), Cond.instanceMethod yX0_coinsPaidIn, Cond.initialized RX0, Cond.selects RX0 yX0_coinsPaidIn yX0_coinsPaidIn, Cond.code yX0_coinsPaidIn cX0_coinsPaidIn 4 (some .int), Cond.methodLink RX0 28 yX0_coinsPaidNextDay, Cond.instanceMethod yX0_coinsPaidNextDay, Cond.selects RX0 yX0_coinsPaidNextDay yX0_coinsPaidNextDay, Cond.code yX0_coinsPaidNextDay cX0_coinsPaidNextDay 2 (some .int), Cond.fieldLink RX0 22 "OldMeasures$Stalls" "count" "I", Cond.fieldLink RX0 15 "OldMeasures$Stalls" "drifts" "[I", Cond.fieldLink RX0 9 "OldMeasures$Stalls" "wears" "[I", Cond.fieldLink RX0 25 "OldMeasures$Stalls" "day" "I", Cond.methodLink RX0 32 yX0_held]
def wsX1_passDays_r2 : List Cond := [Cond.static yX0_held, Cond.code yX0_held cX0_held 1 (some .int), Cond.methodLink RX0 55 Lib.Math.min.name, Cond.static Lib.Math.min.name, Cond.initialized "java/lang/Math", Cond.code Lib.Math.min.name Lib.Math.min.code 2 (some .int), Cond.methodLink RX0 58 Lib.Math.max.name, Cond.static Lib.Math.max.name, Cond.code Lib.Math.max.name Lib.Math.max.code 2 (some .int), Cond.methodLink RX0 36 yX0_visited, Cond.instanceMethod yX0_visited, Cond.selects RX0 yX0_visited yX0_visited, Cond.code yX0_visited cX0_visited 1 (some .int), Cond.methodLink RX0 42 yJ9_floorMod_7cf53, Cond.static yJ9_floorMod_7cf53, Cond.initialized RJ9, Cond.code yJ9_floorMod_7cf53 cJ9_floorMod_7cf53 3 (some .int), Cond.methodLink RX0 39 yX0_finedAt, Cond.instanceMethod yX0_finedAt, Cond.selects RX0 yX0_finedAt yX0_finedAt, Cond.code yX0_finedAt cX0_finedAt 3 (some .int), Cond.methodLink RX0 52 Lib.Math.abs.name, Cond.static Lib.Math.abs.name, Cond.code Lib.Math.abs.name Lib.Math.abs.code 1 (some .int)]
def wsX1_passDays_r3 : List Cond := [Cond.methodLink RX0 48 yX0_isTolerated, Cond.instanceMethod yX0_isTolerated, Cond.selects RX0 yX0_isTolerated yX0_isTolerated, Cond.code yX0_isTolerated cX0_isTolerated 2 (some .boolean), Cond.fieldLink RX0 18 "OldMeasures$Stalls" "tolerance" "I"]
def wsX1_passDays : List Cond := .code yX1_passDays cX1_passDays 3 (some .int) :: ((wsX1_passDays_r1 ++ (wsX1_passDays_r2 ++ wsX1_passDays_r3)) ++ wsX10 ++ wsX00 ++ (vx_atS RX1 52 "java/lang/IllegalArgumentException" ["java/lang/RuntimeException", "java/lang/Exception"]).filter goodWord)
def wsX1_measures : List Cond := .code yX1_measures cX1_measures 1 (some .int) :: ([.fieldLink RX1 33 "OldMeasures" "measureCount" "I"] ++ wsX10)
def wsX1_stalls : List Cond := .code yX1_stalls cX1_stalls 1 (some .int) :: ([.fieldLink RX1 26 "OldMeasures" "stalls" "LOldMeasures$Stalls;"] ++ wsX10 ++ wsX00)
def wsX1_days : List Cond := .code yX1_days cX1_days 1 (some .int) :: ([.fieldLink RX1 26 "OldMeasures" "stalls" "LOldMeasures$Stalls;"] ++ wsX10 ++ wsX00)
def wsX1_standard : List Cond := .code yX1_standard cX1_standard 1 (some .int) :: ([.fieldLink RX1 37 "OldMeasures" "standard" "I"] ++ wsX10)
def wsX1_tolerance : List Cond := .code yX1_tolerance cX1_tolerance 1 (some .int) :: ([.fieldLink RX1 26 "OldMeasures" "stalls" "LOldMeasures$Stalls;"] ++ wsX10 ++ wsX00)
def wsX1_fines : List Cond := .code yX1_fines cX1_fines 1 (some .int) :: ([.fieldLink RX1 95 "OldMeasures" "fines" "I"] ++ wsX10)
def wsX1_baseOf : List Cond := .code yX1_baseOf cX1_baseOf 2 (some .int) :: ([.fieldLink RX1 9 "OldMeasures" "bases" "[I", .methodLink RX1 40 yX1_needMeasure, .instanceMethod yX1_needMeasure, .selects RX1 yX1_needMeasure yX1_needMeasure, .initialized RX1, .code yX1_needMeasure cX1_needMeasure 2 none, .classLink RX1 221 "java/lang/IndexOutOfBoundsException", .initialized "java/lang/IndexOutOfBoundsException", .fieldLink RX1 33 "OldMeasures" "measureCount" "I", .methodLink RX1 44 yX1_isOutside, .static yX1_isOutside, .code yX1_isOutside cX1_isOutside 3 (some .boolean)] ++ wsX10 ++ (vx_atS RX1 225 "java/lang/IndexOutOfBoundsException" ["java/lang/RuntimeException", "java/lang/Exception"]).filter goodWord)
def wsX1_stepsToEll : List Cond := .code yX1_stepsToEll cX1_stepsToEll 2 (some .int) :: ([.fieldLink RX1 13 "OldMeasures" "steps" "[I", .methodLink RX1 40 yX1_needMeasure, .instanceMethod yX1_needMeasure, .selects RX1 yX1_needMeasure yX1_needMeasure, .initialized RX1, .code yX1_needMeasure cX1_needMeasure 2 none, .classLink RX1 221 "java/lang/IndexOutOfBoundsException", .initialized "java/lang/IndexOutOfBoundsException", .fieldLink RX1 33 "OldMeasures" "measureCount" "I", .methodLink RX1 44 yX1_isOutside, .static yX1_isOutside, .code yX1_isOutside cX1_isOutside 3 (some .boolean)] ++ wsX10 ++ (vx_atS RX1 225 "java/lang/IndexOutOfBoundsException" ["java/lang/RuntimeException", "java/lang/Exception"]).filter goodWord)
def wsX1_greatestCommonDivisor : List Cond := .code yX1_greatestCommonDivisor cX1_greatestCommonDivisor 11 (some .long) :: ([])
def wsX1_timesIn : List Cond := .code yX1_timesIn cX1_timesIn 4 (some .long) :: ([])
def wsX1_withoutCommonDivisor : List Cond := .code yX1_withoutCommonDivisor cX1_withoutCommonDivisor 4 (some .long) :: ([.methodLink RX1 234 yX1_greatestCommonDivisor, .static yX1_greatestCommonDivisor, .initialized RX1, .code yX1_greatestCommonDivisor cX1_greatestCommonDivisor 11 (some .long), .methodLink RX1 108 yX1_timesIn, .static yX1_timesIn, .code yX1_timesIn cX1_timesIn 4 (some .long)])
def wsX1_lengthTop : List Cond := .code yX1_lengthTop cX1_lengthTop 2 (some .long) :: ([.fieldLink RX1 16 "OldMeasures" "lengths" "[J", .fieldLink RX1 37 "OldMeasures" "standard" "I", .methodLink RX1 40 yX1_needMeasure, .instanceMethod yX1_needMeasure, .selects RX1 yX1_needMeasure yX1_needMeasure, .initialized RX1, .code yX1_needMeasure cX1_needMeasure 2 none, .classLink RX1 221 "java/lang/IndexOutOfBoundsException", .initialized "java/lang/IndexOutOfBoundsException", .fieldLink RX1 33 "OldMeasures" "measureCount" "I", .methodLink RX1 44 yX1_isOutside, .static yX1_isOutside, .code yX1_isOutside cX1_isOutside 3 (some .boolean), .methodLink RX1 101 yX1_withoutCommonDivisor, .static yX1_withoutCommonDivisor, .code yX1_withoutCommonDivisor cX1_withoutCommonDivisor 4 (some .long), .methodLink RX1 234 yX1_greatestCommonDivisor, .static yX1_greatestCommonDivisor, .code yX1_greatestCommonDivisor cX1_greatestCommonDivisor 11 (some .long), .methodLink RX1 108 yX1_timesIn, .static yX1_timesIn, .code yX1_timesIn cX1_timesIn 4 (some .long)] ++ wsX10 ++ (vx_atS RX1 225 "java/lang/IndexOutOfBoundsException" ["java/lang/RuntimeException", "java/lang/Exception"]).filter goodWord)
def wsX1_lengthBottom : List Cond := .code yX1_lengthBottom cX1_lengthBottom 2 (some .long) :: ([.fieldLink RX1 16 "OldMeasures" "lengths" "[J", .fieldLink RX1 37 "OldMeasures" "standard" "I", .methodLink RX1 40 yX1_needMeasure, .instanceMethod yX1_needMeasure, .selects RX1 yX1_needMeasure yX1_needMeasure, .initialized RX1, .code yX1_needMeasure cX1_needMeasure 2 none, .classLink RX1 221 "java/lang/IndexOutOfBoundsException", .initialized "java/lang/IndexOutOfBoundsException", .fieldLink RX1 33 "OldMeasures" "measureCount" "I", .methodLink RX1 44 yX1_isOutside, .static yX1_isOutside, .code yX1_isOutside cX1_isOutside 3 (some .boolean), .methodLink RX1 101 yX1_withoutCommonDivisor, .static yX1_withoutCommonDivisor, .code yX1_withoutCommonDivisor cX1_withoutCommonDivisor 4 (some .long), .methodLink RX1 234 yX1_greatestCommonDivisor, .static yX1_greatestCommonDivisor, .code yX1_greatestCommonDivisor cX1_greatestCommonDivisor 11 (some .long), .methodLink RX1 108 yX1_timesIn, .static yX1_timesIn, .code yX1_timesIn cX1_timesIn 4 (some .long)] ++ wsX10 ++ (vx_atS RX1 225 "java/lang/IndexOutOfBoundsException" ["java/lang/RuntimeException", "java/lang/Exception"]).filter goodWord)
def wsX1_isLonger : List Cond := .code yX1_isLonger cX1_isLonger 3 (some .boolean) :: ([.fieldLink RX1 16 "OldMeasures" "lengths" "[J", .methodLink RX1 40 yX1_needMeasure, .instanceMethod yX1_needMeasure, .selects RX1 yX1_needMeasure yX1_needMeasure, .initialized RX1, .code yX1_needMeasure cX1_needMeasure 2 none, .classLink RX1 221 "java/lang/IndexOutOfBoundsException", .initialized "java/lang/IndexOutOfBoundsException", .fieldLink RX1 33 "OldMeasures" "measureCount" "I", .methodLink RX1 44 yX1_isOutside, .static yX1_isOutside, .code yX1_isOutside cX1_isOutside 3 (some .boolean)] ++ wsX10 ++ (vx_atS RX1 225 "java/lang/IndexOutOfBoundsException" ["java/lang/RuntimeException", "java/lang/Exception"]).filter goodWord)
def wsX1_longest : List Cond := .code yX1_longest cX1_longest 1 (some .int) :: ([.fieldLink RX1 20 "OldMeasures" "longestFirst" "[I"] ++ wsX10)
def wsX1_shortest : List Cond := .code yX1_shortest cX1_shortest 3 (some .int) :: ([.fieldLink RX1 33 "OldMeasures" "measureCount" "I", .fieldLink RX1 16 "OldMeasures" "lengths" "[J"] ++ wsX10)
def wsX1_fewestToMeet : List Cond := .code yX1_fewestToMeet cX1_fewestToMeet 3 (some .long) :: ([.fieldLink RX1 16 "OldMeasures" "lengths" "[J", .methodLink RX1 40 yX1_needMeasure, .instanceMethod yX1_needMeasure, .selects RX1 yX1_needMeasure yX1_needMeasure, .initialized RX1, .code yX1_needMeasure cX1_needMeasure 2 none, .classLink RX1 221 "java/lang/IndexOutOfBoundsException", .initialized "java/lang/IndexOutOfBoundsException", .fieldLink RX1 33 "OldMeasures" "measureCount" "I", .methodLink RX1 44 yX1_isOutside, .static yX1_isOutside, .code yX1_isOutside cX1_isOutside 3 (some .boolean), .methodLink RX1 101 yX1_withoutCommonDivisor, .static yX1_withoutCommonDivisor, .code yX1_withoutCommonDivisor cX1_withoutCommonDivisor 4 (some .long), .methodLink RX1 234 yX1_greatestCommonDivisor, .static yX1_greatestCommonDivisor, .code yX1_greatestCommonDivisor cX1_greatestCommonDivisor 11 (some .long), .methodLink RX1 108 yX1_timesIn, .static yX1_timesIn, .code yX1_timesIn cX1_timesIn 4 (some .long)] ++ wsX10 ++ (vx_atS RX1 225 "java/lang/IndexOutOfBoundsException" ["java/lang/RuntimeException", "java/lang/Exception"]).filter goodWord)
def wsX1_needMany : List Cond := .code yX1_needMany cX1_needMany 1 none :: ([.classLink RX1 48 "java/lang/IllegalArgumentException", .initialized "java/lang/IllegalArgumentException", .methodLink RX1 44 yX1_isOutside, .static yX1_isOutside, .initialized RX1, .code yX1_isOutside cX1_isOutside 3 (some .boolean)] ++ (vx_atS RX1 52 "java/lang/IllegalArgumentException" ["java/lang/RuntimeException", "java/lang/Exception"]).filter goodWord)
def wsX1_convert : List Cond := .code yX1_convert cX1_convert 4 (some .long) :: ([.fieldLink RX1 16 "OldMeasures" "lengths" "[J", .methodLink RX1 40 yX1_needMeasure, .instanceMethod yX1_needMeasure, .selects RX1 yX1_needMeasure yX1_needMeasure, .initialized RX1, .code yX1_needMeasure cX1_needMeasure 2 none, .classLink RX1 221 "java/lang/IndexOutOfBoundsException", .initialized "java/lang/IndexOutOfBoundsException", .fieldLink RX1 33 "OldMeasures" "measureCount" "I", .methodLink RX1 44 yX1_isOutside, .static yX1_isOutside, .code yX1_isOutside cX1_isOutside 3 (some .boolean), .methodLink RX1 105 yX1_needMany, .static yX1_needMany, .code yX1_needMany cX1_needMany 1 none, .classLink RX1 48 "java/lang/IllegalArgumentException", .initialized "java/lang/IllegalArgumentException", .methodLink RX1 108 yX1_timesIn, .static yX1_timesIn, .code yX1_timesIn cX1_timesIn 4 (some .long)] ++ wsX10 ++ (vx_atS RX1 225 "java/lang/IndexOutOfBoundsException" ["java/lang/RuntimeException", "java/lang/Exception"]).filter goodWord ++ (vx_atS RX1 52 "java/lang/IllegalArgumentException" ["java/lang/RuntimeException", "java/lang/Exception"]).filter goodWord)
def wsX1_leftOf : List Cond := .code yX1_leftOf cX1_leftOf 4 (some .long) :: ([])
def wsX1_isExact : List Cond := .code yX1_isExact cX1_isExact 4 (some .boolean) :: ([.fieldLink RX1 16 "OldMeasures" "lengths" "[J", .methodLink RX1 40 yX1_needMeasure, .instanceMethod yX1_needMeasure, .selects RX1 yX1_needMeasure yX1_needMeasure, .initialized RX1, .code yX1_needMeasure cX1_needMeasure 2 none, .classLink RX1 221 "java/lang/IndexOutOfBoundsException", .initialized "java/lang/IndexOutOfBoundsException", .fieldLink RX1 33 "OldMeasures" "measureCount" "I", .methodLink RX1 44 yX1_isOutside, .static yX1_isOutside, .code yX1_isOutside cX1_isOutside 3 (some .boolean), .methodLink RX1 105 yX1_needMany, .static yX1_needMany, .code yX1_needMany cX1_needMany 1 none, .classLink RX1 48 "java/lang/IllegalArgumentException", .initialized "java/lang/IllegalArgumentException", .methodLink RX1 111 yX1_leftOf, .static yX1_leftOf, .code yX1_leftOf cX1_leftOf 4 (some .long)] ++ wsX10 ++ (vx_atS RX1 225 "java/lang/IndexOutOfBoundsException" ["java/lang/RuntimeException", "java/lang/Exception"]).filter goodWord ++ (vx_atS RX1 52 "java/lang/IllegalArgumentException" ["java/lang/RuntimeException", "java/lang/Exception"]).filter goodWord)
def wsX1_driftOf : List Cond := .code yX1_driftOf cX1_driftOf 2 (some .int) :: ([.fieldLink RX1 26 "OldMeasures" "stalls" "LOldMeasures$Stalls;", .methodLink RX1 80 yX1_needStall, .instanceMethod yX1_needStall, .selects RX1 yX1_needStall yX1_needStall, .initialized RX1, .code yX1_needStall cX1_needStall 2 none, .classLink RX1 221 "java/lang/IndexOutOfBoundsException", .initialized "java/lang/IndexOutOfBoundsException", .methodLink RX1 44 yX1_isOutside, .static yX1_isOutside, .code yX1_isOutside cX1_isOutside 3 (some .boolean)] ++ wsX10 ++ wsX00 ++ (vx_atS RX1 225 "java/lang/IndexOutOfBoundsException" ["java/lang/RuntimeException", "java/lang/Exception"]).filter goodWord)
def wsX1_wearOf : List Cond := .code yX1_wearOf cX1_wearOf 2 (some .int) :: ([.fieldLink RX1 26 "OldMeasures" "stalls" "LOldMeasures$Stalls;", .methodLink RX1 80 yX1_needStall, .instanceMethod yX1_needStall, .selects RX1 yX1_needStall yX1_needStall, .initialized RX1, .code yX1_needStall cX1_needStall 2 none, .classLink RX1 221 "java/lang/IndexOutOfBoundsException", .initialized "java/lang/IndexOutOfBoundsException", .methodLink RX1 44 yX1_isOutside, .static yX1_isOutside, .code yX1_isOutside cX1_isOutside 3 (some .boolean)] ++ wsX10 ++ wsX00 ++ (vx_atS RX1 225 "java/lang/IndexOutOfBoundsException" ["java/lang/RuntimeException", "java/lang/Exception"]).filter goodWord)
def wsX1_isHonest : List Cond := .code yX1_isHonest cX1_isHonest 2 (some .boolean) :: ([.fieldLink RX1 26 "OldMeasures" "stalls" "LOldMeasures$Stalls;", .methodLink RX1 80 yX1_needStall, .instanceMethod yX1_needStall, .selects RX1 yX1_needStall yX1_needStall, .initialized RX1, .code yX1_needStall cX1_needStall 2 none, .classLink RX1 221 "java/lang/IndexOutOfBoundsException", .initialized "java/lang/IndexOutOfBoundsException", .methodLink RX1 44 yX1_isOutside, .static yX1_isOutside, .code yX1_isOutside cX1_isOutside 3 (some .boolean), .instanceMethod yX0_isTolerated, .initialized RX0, .selects RX0 yX0_isTolerated yX0_isTolerated, .code yX0_isTolerated cX0_isTolerated 2 (some .boolean), .methodLink RX0 52 Lib.Math.abs.name, .static Lib.Math.abs.name, .initialized "java/lang/Math", .code Lib.Math.abs.name Lib.Math.abs.code 1 (some .int), .fieldLink RX0 18 "OldMeasures$Stalls" "tolerance" "I"] ++ wsX10 ++ wsX00 ++ (vx_atS RX1 225 "java/lang/IndexOutOfBoundsException" ["java/lang/RuntimeException", "java/lang/Exception"]).filter goodWord)
def wsX1_givenWith : List Cond := .code yX1_givenWith cX1_givenWith 4 (some .long) :: ([.fieldLink RX1 16 "OldMeasures" "lengths" "[J", .fieldLink RX1 37 "OldMeasures" "standard" "I", .methodLink RX1 108 yX1_timesIn, .static yX1_timesIn, .initialized RX1, .code yX1_timesIn cX1_timesIn 4 (some .long)] ++ wsX10)
def wsX1_getsAt_r1 : List Cond := [Cond.fieldLink RX1 26 "OldMeasures" "stalls" "LOldMeasures$Stalls;", Cond.methodLink RX1 80 yX1_needStall, Cond.instanceMethod yX1_needStall, Cond.selects RX1 yX1_needStall yX1_needStall, Cond.initialized RX1, Cond.code yX1_needStall cX1_needStall 2 none, Cond.classLink RX1 221 "java/lang/IndexOutOfBoundsException", Cond.initialized "java/lang/IndexOutOfBoundsException", Cond.methodLink RX1 44 yX1_isOutside, Cond.static yX1_isOutside, Cond.code yX1_isOutside cX1_isOutside 3 (some .boolean), Cond.methodLink RX1 40 yX1_needMeasure, Cond.instanceMethod yX1_needMeasure, Cond.selects RX1 yX1_needMeasure yX1_needMeasure, Cond.code yX1_needMeasure cX1_needMeasure 2 none, Cond.fieldLink RX1 33 "OldMeasures" "measureCount" "I", Cond.methodLink RX1 105 yX1_needMany, Cond.static yX1_needMany, Cond.code yX1_needMany cX1_needMany 1 none, Cond.classLink RX1 48 "java/lang/IllegalArgumentException", Cond.initialized "java/lang/IllegalArgumentException", Cond.methodLink RX1 122 yX1_givenWith, Cond.instanceMethod yX1_givenWith, Cond.selects RX1 yX1_givenWith yX1_givenWith]
def wsX1_getsAt_r2 : List Cond := [Cond.code yX1_givenWith cX1_givenWith 4 (some .long), Cond.fieldLink RX1 16 "OldMeasures" "lengths" "[J", Cond.fieldLink RX1 37 "OldMeasures" "standard" "I", Cond.methodLink RX1 108 yX1_timesIn, Cond.static yX1_timesIn, Cond.code yX1_timesIn cX1_timesIn 4 (some .long)]
def wsX1_getsAt : List Cond := .code yX1_getsAt cX1_getsAt 4 (some .long) :: ((wsX1_getsAt_r1 ++ wsX1_getsAt_r2) ++ wsX10 ++ wsX00 ++ (vx_atS RX1 225 "java/lang/IndexOutOfBoundsException" ["java/lang/RuntimeException", "java/lang/Exception"]).filter goodWord ++ (vx_atS RX1 52 "java/lang/IllegalArgumentException" ["java/lang/RuntimeException", "java/lang/Exception"]).filter goodWord)
def wsX1_lossAt_r1 : List Cond := [Cond.fieldLink RX1 26 "OldMeasures" "stalls" "LOldMeasures$Stalls;", Cond.methodLink RX1 80 yX1_needStall, Cond.instanceMethod yX1_needStall, Cond.selects RX1 yX1_needStall yX1_needStall, Cond.initialized RX1, Cond.code yX1_needStall cX1_needStall 2 none, Cond.classLink RX1 221 "java/lang/IndexOutOfBoundsException", Cond.initialized "java/lang/IndexOutOfBoundsException", Cond.methodLink RX1 44 yX1_isOutside, Cond.static yX1_isOutside, Cond.code yX1_isOutside cX1_isOutside 3 (some .boolean), Cond.methodLink RX1 40 yX1_needMeasure, Cond.instanceMethod yX1_needMeasure, Cond.selects RX1 yX1_needMeasure yX1_needMeasure, Cond.code yX1_needMeasure cX1_needMeasure 2 none, Cond.fieldLink RX1 33 "OldMeasures" "measureCount" "I", Cond.methodLink RX1 105 yX1_needMany, Cond.static yX1_needMany, Cond.code yX1_needMany cX1_needMany 1 none, Cond.classLink RX1 48 "java/lang/IllegalArgumentException", Cond.initialized "java/lang/IllegalArgumentException", Cond.methodLink RX1 122 yX1_givenWith, Cond.instanceMethod yX1_givenWith, Cond.selects RX1 yX1_givenWith yX1_givenWith]
def wsX1_lossAt_r2 : List Cond := [Cond.code yX1_givenWith cX1_givenWith 4 (some .long), Cond.fieldLink RX1 16 "OldMeasures" "lengths" "[J", Cond.fieldLink RX1 37 "OldMeasures" "standard" "I", Cond.methodLink RX1 108 yX1_timesIn, Cond.static yX1_timesIn, Cond.code yX1_timesIn cX1_timesIn 4 (some .long)]
def wsX1_lossAt : List Cond := .code yX1_lossAt cX1_lossAt 4 (some .long) :: ((wsX1_lossAt_r1 ++ wsX1_lossAt_r2) ++ wsX10 ++ wsX00 ++ (vx_atS RX1 225 "java/lang/IndexOutOfBoundsException" ["java/lang/RuntimeException", "java/lang/Exception"]).filter goodWord ++ (vx_atS RX1 52 "java/lang/IllegalArgumentException" ["java/lang/RuntimeException", "java/lang/Exception"]).filter goodWord)
def wsX1_mostHonest : List Cond := .code yX1_mostHonest cX1_mostHonest 5 (some .int) :: ([.fieldLink RX1 26 "OldMeasures" "stalls" "LOldMeasures$Stalls;", .methodLink RX1 126 Lib.Math.abs.name, .static Lib.Math.abs.name, .initialized "java/lang/Math", .code Lib.Math.abs.name Lib.Math.abs.code 1 (some .int)] ++ wsX10 ++ wsX00)
def wsX1_mostGenerous : List Cond := .code yX1_mostGenerous cX1_mostGenerous 4 (some .int) :: ([.fieldLink RX1 26 "OldMeasures" "stalls" "LOldMeasures$Stalls;"] ++ wsX10 ++ wsX00)
def wsX1_meanDrift : List Cond := .code yX1_meanDrift cX1_meanDrift 3 (some .double) :: ([.fieldLink RX1 26 "OldMeasures" "stalls" "LOldMeasures$Stalls;"] ++ wsX10 ++ wsX00)
def wsX2_init : List Cond := .code yX2_init cX2_init 1 none :: ([.methodLink RX2 1 objectInit, .instanceMethod objectInit, .code objectInit ⟨#[0xb1]⟩ 1 none, .fieldLink RX2 7 "OldMeasuresLaw$Sim" "tolerance" "I", .classLink RX2 13 "[I", .arrayClass .int, .fieldLink RX2 15 "OldMeasuresLaw$Sim" "measures" "[[I", .fieldLink RX2 19 "OldMeasuresLaw$Sim" "stalls" "[[I"] ++ wsX20)
def wsX2_with : List Cond := .code yX2_with cX2_with 4 (some (.array (.array .int))) :: ([.classLink RX2 13 "[I"])
def wsX2_divisor : List Cond := .code yX2_divisor cX2_divisor 4 (some .long) :: ([.methodLink RX2 22 yX2_divisor, .static yX2_divisor, .initialized RX2])
def wsX2_ratio : List Cond := .code yX2_ratio cX2_ratio 9 (some (.array .long)) :: ([.fieldLink RX2 15 "OldMeasuresLaw$Sim" "measures" "[[I", .arrayClass .long, .methodLink RX2 22 yX2_divisor, .static yX2_divisor, .initialized RX2, .code yX2_divisor cX2_divisor 4 (some .long)] ++ wsX20)
def wsX2_isLonger : List Cond := .code yX2_isLonger cX2_isLonger 4 (some .boolean) :: ([.methodLink RX2 26 yX2_ratio, .instanceMethod yX2_ratio, .selects RX2 yX2_ratio yX2_ratio, .initialized RX2, .code yX2_ratio cX2_ratio 9 (some (.array .long)), .fieldLink RX2 15 "OldMeasuresLaw$Sim" "measures" "[[I", .arrayClass .long, .methodLink RX2 22 yX2_divisor, .static yX2_divisor, .code yX2_divisor cX2_divisor 4 (some .long)] ++ wsX20)
def wsX2_order : List Cond := .code yX2_order cX2_order 6 (some (.array .int)) :: ([.fieldLink RX2 15 "OldMeasuresLaw$Sim" "measures" "[[I", .arrayClass .int, .methodLink RX2 30 yX2_isLonger, .instanceMethod yX2_isLonger, .selects RX2 yX2_isLonger yX2_isLonger, .initialized RX2, .code yX2_isLonger cX2_isLonger 4 (some .boolean), .methodLink RX2 26 yX2_ratio, .instanceMethod yX2_ratio, .selects RX2 yX2_ratio yX2_ratio, .code yX2_ratio cX2_ratio 9 (some (.array .long)), .arrayClass .long, .methodLink RX2 22 yX2_divisor, .static yX2_divisor, .code yX2_divisor cX2_divisor 4 (some .long)] ++ wsX20)
def wsX2_isHonest : List Cond := .code yX2_isHonest cX2_isHonest 2 (some .boolean) :: ([.fieldLink RX2 7 "OldMeasuresLaw$Sim" "tolerance" "I"] ++ wsX20)
def wsX2_pass : List Cond := .code yX2_pass cX2_pass 5 (some .int) :: ([.fieldLink RX2 19 "OldMeasuresLaw$Sim" "stalls" "[[I", .fieldLink RX2 38 "OldMeasuresLaw$Sim" "day" "I", .fieldLink RX2 45 "OldMeasuresLaw$Sim" "fines" "I", .methodLink RX2 48 Lib.Math.abs.name, .static Lib.Math.abs.name, .initialized "java/lang/Math", .code Lib.Math.abs.name Lib.Math.abs.code 1 (some .int), .methodLink RX2 41 yX2_isHonest, .instanceMethod yX2_isHonest, .selects RX2 yX2_isHonest yX2_isHonest, .initialized RX2, .code yX2_isHonest cX2_isHonest 2 (some .boolean), .fieldLink RX2 7 "OldMeasuresLaw$Sim" "tolerance" "I"] ++ wsX20)
def wsX2_behind : List Cond := .code yX2_behind cX2_behind 4 (some .int) :: ([.fieldLink RX2 45 "OldMeasuresLaw$Sim" "fines" "I", .methodLink RX2 54 yX2_pass, .instanceMethod yX2_pass, .selects RX2 yX2_pass yX2_pass, .initialized RX2, .code yX2_pass cX2_pass 5 (some .int), .fieldLink RX2 19 "OldMeasuresLaw$Sim" "stalls" "[[I", .fieldLink RX2 38 "OldMeasuresLaw$Sim" "day" "I", .methodLink RX2 48 Lib.Math.abs.name, .static Lib.Math.abs.name, .initialized "java/lang/Math", .code Lib.Math.abs.name Lib.Math.abs.code 1 (some .int), .methodLink RX2 41 yX2_isHonest, .instanceMethod yX2_isHonest, .selects RX2 yX2_isHonest yX2_isHonest, .code yX2_isHonest cX2_isHonest 2 (some .boolean), .fieldLink RX2 7 "OldMeasuresLaw$Sim" "tolerance" "I"] ++ wsX20)
def wsX2_isSame_r1 : List Cond := [Cond.fieldLink RX2 15 "OldMeasuresLaw$Sim" "measures" "[[I", Cond.fieldLink RX2 19 "OldMeasuresLaw$Sim" "stalls" "[[I", Cond.fieldLink RX2 38 "OldMeasuresLaw$Sim" "day" "I", Cond.fieldLink RX2 59 "OldMeasuresLaw$Sim" "standard" "I", Cond.fieldLink RX2 7 "OldMeasuresLaw$Sim" "tolerance" "I", Cond.fieldLink RX2 45 "OldMeasuresLaw$Sim" "fines" "I", Cond.methodLink RX2 48 Lib.Math.abs.name, Cond.static Lib.Math.abs.name, Cond.initialized "java/lang/Math", Cond.code Lib.Math.abs.name Lib.Math.abs.code 1 (some .int), Cond.methodLink RX2 66 yX1_measures, Cond.instanceMethod yX1_measures, Cond.selects RX1 yX1_measures yX1_measures, Cond.initialized RX1, Cond.code yX1_measures cX1_measures 1 (some .int), Cond.fieldLink RX1 33 "OldMeasures" "measureCount" "I", Cond.methodLink RX2 70 yX1_stalls, Cond.instanceMethod yX1_stalls, Cond.selects RX1 yX1_stalls yX1_stalls, Cond.code yX1_stalls cX1_stalls 1 (some .int), Cond.fieldLink RX1 26 "OldMeasures" "stalls" "LOldMeasures$Stalls;", Cond.methodLink RX2 72 yX1_days, Cond.instanceMethod yX1_days, Cond.selects RX1 yX1_days yX1_days]
def wsX2_isSame_r2 : List Cond := [Cond.code yX1_days cX1_days 1 (some .int), Cond.methodLink RX2 75 yX1_standard, Cond.instanceMethod yX1_standard, Cond.selects RX1 yX1_standard yX1_standard, Cond.code yX1_standard cX1_standard 1 (some .int), Cond.fieldLink RX1 37 "OldMeasures" "standard" "I", Cond.methodLink RX2 77 yX1_tolerance, Cond.instanceMethod yX1_tolerance, Cond.selects RX1 yX1_tolerance yX1_tolerance, Cond.code yX1_tolerance cX1_tolerance 1 (some .int), Cond.methodLink RX2 79 yX1_fines, Cond.instanceMethod yX1_fines, Cond.selects RX1 yX1_fines yX1_fines, Cond.code yX1_fines cX1_fines 1 (some .int), Cond.fieldLink RX1 95 "OldMeasures" "fines" "I", Cond.methodLink RX2 34 yX2_order, Cond.instanceMethod yX2_order, Cond.selects RX2 yX2_order yX2_order, Cond.initialized RX2, Cond.code yX2_order cX2_order 6 (some (.array .int)), Cond.arrayClass .int, Cond.methodLink RX2 30 yX2_isLonger, Cond.instanceMethod yX2_isLonger, Cond.selects RX2 yX2_isLonger yX2_isLonger]
def wsX2_isSame_r3 : List Cond := [Cond.code yX2_isLonger cX2_isLonger 4 (some .boolean), Cond.methodLink RX2 26 yX2_ratio, Cond.instanceMethod yX2_ratio, Cond.selects RX2 yX2_ratio yX2_ratio, Cond.code yX2_ratio cX2_ratio 9 (some (.array .long)), Cond.arrayClass .long, Cond.methodLink RX2 22 yX2_divisor, Cond.static yX2_divisor, Cond.code yX2_divisor cX2_divisor 4 (some .long), Cond.methodLink RX2 81 yX1_baseOf, Cond.instanceMethod yX1_baseOf, Cond.selects RX1 yX1_baseOf yX1_baseOf, Cond.code yX1_baseOf cX1_baseOf 2 (some .int), Cond.fieldLink RX1 9 "OldMeasures" "bases" "[I", Cond.methodLink RX1 40 yX1_needMeasure, Cond.instanceMethod yX1_needMeasure, Cond.selects RX1 yX1_needMeasure yX1_needMeasure, Cond.code yX1_needMeasure cX1_needMeasure 2 none, Cond.classLink RX1 221 "java/lang/IndexOutOfBoundsException", Cond.initialized "java/lang/IndexOutOfBoundsException", Cond.methodLink RX1 44 yX1_isOutside, Cond.static yX1_isOutside, Cond.code yX1_isOutside cX1_isOutside 3 (some .boolean), Cond.methodLink RX2 84 yX1_stepsToEll]
def wsX2_isSame_r4 : List Cond := [Cond.instanceMethod yX1_stepsToEll, Cond.selects RX1 yX1_stepsToEll yX1_stepsToEll, Cond.code yX1_stepsToEll cX1_stepsToEll 2 (some .int), Cond.fieldLink RX1 13 "OldMeasures" "steps" "[I", Cond.methodLink RX2 87 yX1_lengthTop, Cond.instanceMethod yX1_lengthTop, Cond.selects RX1 yX1_lengthTop yX1_lengthTop, Cond.code yX1_lengthTop cX1_lengthTop 2 (some .long), Cond.fieldLink RX1 16 "OldMeasures" "lengths" "[J", Cond.methodLink RX1 101 yX1_withoutCommonDivisor, Cond.static yX1_withoutCommonDivisor, Cond.code yX1_withoutCommonDivisor cX1_withoutCommonDivisor 4 (some .long), Cond.methodLink RX1 234 yX1_greatestCommonDivisor, Cond.static yX1_greatestCommonDivisor, Cond.code yX1_greatestCommonDivisor cX1_greatestCommonDivisor 11 (some .long), Cond.methodLink RX1 108 yX1_timesIn, Cond.static yX1_timesIn, Cond.code yX1_timesIn cX1_timesIn 4 (some .long), Cond.methodLink RX2 91 yX1_lengthBottom, Cond.instanceMethod yX1_lengthBottom, Cond.selects RX1 yX1_lengthBottom yX1_lengthBottom, Cond.code yX1_lengthBottom cX1_lengthBottom 2 (some .long), Cond.methodLink RX2 94 yX1_driftOf, Cond.instanceMethod yX1_driftOf]
def wsX2_isSame_r5 : List Cond := [Cond.selects RX1 yX1_driftOf yX1_driftOf, Cond.code yX1_driftOf cX1_driftOf 2 (some .int), Cond.methodLink RX1 80 yX1_needStall, Cond.instanceMethod yX1_needStall, Cond.selects RX1 yX1_needStall yX1_needStall, Cond.code yX1_needStall cX1_needStall 2 none, Cond.methodLink RX2 97 yX1_wearOf, Cond.instanceMethod yX1_wearOf, Cond.selects RX1 yX1_wearOf yX1_wearOf, Cond.code yX1_wearOf cX1_wearOf 2 (some .int), Cond.methodLink RX2 100 yX1_isHonest, Cond.instanceMethod yX1_isHonest, Cond.selects RX1 yX1_isHonest yX1_isHonest, Cond.code yX1_isHonest cX1_isHonest 2 (some .boolean), Cond.instanceMethod yX0_isTolerated, Cond.initialized RX0, Cond.selects RX0 yX0_isTolerated yX0_isTolerated, Cond.code yX0_isTolerated cX0_isTolerated 2 (some .boolean), Cond.methodLink RX0 52 Lib.Math.abs.name, Cond.fieldLink RX0 18 "OldMeasures$Stalls" "tolerance" "I", Cond.methodLink RX2 41 yX2_isHonest, Cond.instanceMethod yX2_isHonest, Cond.selects RX2 yX2_isHonest yX2_isHonest, Cond.code yX2_isHonest cX2_isHonest 2 (some .boolean)]
def wsX2_isSame_r6 : List Cond := [Cond.methodLink RX2 103 yX1_longest, Cond.instanceMethod yX1_longest, Cond.selects RX1 yX1_longest yX1_longest, Cond.code yX1_longest cX1_longest 1 (some .int), Cond.fieldLink RX1 20 "OldMeasures" "longestFirst" "[I", Cond.methodLink RX2 106 yX1_shortest, Cond.instanceMethod yX1_shortest, Cond.selects RX1 yX1_shortest yX1_shortest, Cond.code yX1_shortest cX1_shortest 3 (some .int), Cond.methodLink RX2 109 yX1_mostHonest, Cond.instanceMethod yX1_mostHonest, Cond.selects RX1 yX1_mostHonest yX1_mostHonest, Cond.code yX1_mostHonest cX1_mostHonest 5 (some .int), Cond.methodLink RX1 126 Lib.Math.abs.name, Cond.methodLink RX2 112 yX1_mostGenerous, Cond.instanceMethod yX1_mostGenerous, Cond.selects RX1 yX1_mostGenerous yX1_mostGenerous, Cond.code yX1_mostGenerous cX1_mostGenerous 4 (some .int), Cond.methodLink RX2 115 yX1_meanDrift, Cond.instanceMethod yX1_meanDrift, Cond.selects RX1 yX1_meanDrift yX1_meanDrift, Cond.code yX1_meanDrift cX1_meanDrift 3 (some .double)]
def wsX2_isSame : List Cond := .code yX2_isSame cX2_isSame 10 (some .boolean) :: ((wsX2_isSame_r1 ++ (wsX2_isSame_r2 ++ (wsX2_isSame_r3 ++ (wsX2_isSame_r4 ++ (wsX2_isSame_r5 ++ wsX2_isSame_r6))))) ++ wsX20 ++ wsX10 ++ wsX00 ++ (vx_atS RX1 225 "java/lang/IndexOutOfBoundsException" ["java/lang/RuntimeException", "java/lang/Exception"]).filter goodWord)
def wsJ9_abs_0f7a4 : List Cond := .code yJ9_abs_0f7a4 cJ9_abs_0f7a4 1 (some .int) :: ([])
def wsJ9_max_7cf53 : List Cond := .code yJ9_max_7cf53 cJ9_max_7cf53 2 (some .int) :: ([])
def wsJ9_min_7cf53 : List Cond := .code yJ9_min_7cf53 cJ9_min_7cf53 2 (some .int) :: ([])
def wsL_below : List Cond := .code yL_below cL_below 2 (some .int) :: ([.constant RL 7 (2147483647)])
def wsL_cell : List Cond := .code yL_cell cL_cell 2 (some .int) :: ([.constant RL 8 (790386105)])
def wsL_act_r1 : List Cond := [Cond.fieldLink RL 9 "OldMeasuresLaw$Sim" "measures" "[[I", Cond.fieldLink RL 15 "OldMeasuresLaw$Sim" "stalls" "[[I", Cond.arrayClass .int, Cond.fieldLink RL 34 "OldMeasuresLaw$Sim" "standard" "I", Cond.fieldLink RL 51 "OldMeasuresLaw$Sim" "tolerance" "I", Cond.methodLink RL 18 yL_below, Cond.static yL_below, Cond.initialized RL, Cond.code yL_below cL_below 2 (some .int), Cond.constant RL 7 (2147483647), Cond.methodLink RL 24 yX2_with, Cond.static yX2_with, Cond.initialized RX2, Cond.code yX2_with cX2_with 4 (some (.array (.array .int))), Cond.classLink RX2 13 "[I", Cond.methodLink RL 28 yX1_addMeasure, Cond.instanceMethod yX1_addMeasure, Cond.selects RX1 yX1_addMeasure yX1_addMeasure, Cond.initialized RX1, Cond.code yX1_addMeasure cX1_addMeasure 7 (some .int), Cond.classLink RX1 48 "java/lang/IllegalArgumentException", Cond.initialized "java/lang/IllegalArgumentException", Cond.classLink RX1 55 "java/lang/IllegalStateException", Cond.initialized "java/lang/IllegalStateException"]
def wsL_act_r2 : List Cond := [Cond.fieldLink RX1 33 "OldMeasures" "measureCount" "I", Cond.fieldLink RX1 16 "OldMeasures" "lengths" "[J", Cond.fieldLink RX1 9 "OldMeasures" "bases" "[I", Cond.fieldLink RX1 13 "OldMeasures" "steps" "[I", Cond.methodLink RX1 40 yX1_needMeasure, Cond.instanceMethod yX1_needMeasure, Cond.selects RX1 yX1_needMeasure yX1_needMeasure, Cond.code yX1_needMeasure cX1_needMeasure 2 none, Cond.classLink RX1 221 "java/lang/IndexOutOfBoundsException", Cond.initialized "java/lang/IndexOutOfBoundsException", Cond.methodLink RX1 44 yX1_isOutside, Cond.static yX1_isOutside, Cond.code yX1_isOutside cX1_isOutside 3 (some .boolean), Cond.methodLink RX1 60 yX1_refineUnit, Cond.instanceMethod yX1_refineUnit, Cond.selects RX1 yX1_refineUnit yX1_refineUnit, Cond.code yX1_refineUnit cX1_refineUnit 3 none, Cond.methodLink RX1 63 yX1_rankLast, Cond.instanceMethod yX1_rankLast, Cond.selects RX1 yX1_rankLast yX1_rankLast, Cond.code yX1_rankLast cX1_rankLast 3 none, Cond.fieldLink RX1 20 "OldMeasures" "longestFirst" "[I", Cond.methodLink RX1 114 yX1_lengthAt, Cond.instanceMethod yX1_lengthAt]
def wsL_act_r3 : List Cond := [Cond.selects RX1 yX1_lengthAt yX1_lengthAt, Cond.code yX1_lengthAt cX1_lengthAt 2 (some .long), Cond.methodLink RL 38 yX1_setStandard, Cond.instanceMethod yX1_setStandard, Cond.selects RX1 yX1_setStandard yX1_setStandard, Cond.code yX1_setStandard cX1_setStandard 3 (some .int), Cond.fieldLink RX1 37 "OldMeasures" "standard" "I", Cond.methodLink RL 42 yX1_addStall, Cond.instanceMethod yX1_addStall, Cond.selects RX1 yX1_addStall yX1_addStall, Cond.code yX1_addStall cX1_addStall 3 (some .int), Cond.fieldLink RX1 26 "OldMeasures" "stalls" "LOldMeasures$Stalls;", Cond.methodLink RX1 66 yX1_needWear, Cond.static yX1_needWear, Cond.code yX1_needWear cX1_needWear 1 none, Cond.methodLink RL 45 yX1_setWear, Cond.instanceMethod yX1_setWear, Cond.selects RX1 yX1_setWear yX1_setWear, Cond.code yX1_setWear cX1_setWear 4 (some .int), Cond.methodLink RX1 80 yX1_needStall, Cond.instanceMethod yX1_needStall, Cond.selects RX1 yX1_needStall yX1_needStall, Cond.code yX1_needStall cX1_needStall 2 none, Cond.methodLink RL 48 yX1_seal]
def wsL_act_r4 : List Cond := [Cond.instanceMethod yX1_seal, Cond.selects RX1 yX1_seal yX1_seal, Cond.code yX1_seal cX1_seal 3 (some .int), Cond.methodLink RL 54 yX1_setTolerance, Cond.instanceMethod yX1_setTolerance, Cond.selects RX1 yX1_setTolerance yX1_setTolerance, Cond.code yX1_setTolerance cX1_setTolerance 3 (some .int), Cond.methodLink RL 57 yX1_passDays, Cond.instanceMethod yX1_passDays, Cond.selects RX1 yX1_passDays yX1_passDays, Cond.code yX1_passDays cX1_passDays 3 (some .int), Cond.fieldLink RX1 95 "OldMeasures" "fines" "I", Cond.methodLink RX1 88 yX1_needDays, Cond.static yX1_needDays, Cond.code yX1_needDays cX1_needDays 1 none, Cond.instanceMethod yX0_coinsPaidIn, Cond.initialized RX0, Cond.selects RX0 yX0_coinsPaidIn yX0_coinsPaidIn, Cond.code yX0_coinsPaidIn cX0_coinsPaidIn 4 (some .int), Cond.methodLink RX0 28 yX0_coinsPaidNextDay, Cond.instanceMethod yX0_coinsPaidNextDay, Cond.selects RX0 yX0_coinsPaidNextDay yX0_coinsPaidNextDay, Cond.code yX0_coinsPaidNextDay cX0_coinsPaidNextDay 2 (some .int), Cond.fieldLink RX0 22 "OldMeasures$Stalls" "count" "I"]
def wsL_act_r5 : List Cond := [Cond.fieldLink RX0 15 "OldMeasures$Stalls" "drifts" "[I", Cond.fieldLink RX0 9 "OldMeasures$Stalls" "wears" "[I", Cond.fieldLink RX0 25 "OldMeasures$Stalls" "day" "I", Cond.methodLink RX0 32 yX0_held, Cond.static yX0_held, Cond.code yX0_held cX0_held 1 (some .int), Cond.methodLink RX0 55 Lib.Math.min.name, Cond.static Lib.Math.min.name, Cond.initialized "java/lang/Math", Cond.code Lib.Math.min.name Lib.Math.min.code 2 (some .int), Cond.methodLink RX0 58 Lib.Math.max.name, Cond.static Lib.Math.max.name, Cond.code Lib.Math.max.name Lib.Math.max.code 2 (some .int), Cond.methodLink RX0 36 yX0_visited, Cond.instanceMethod yX0_visited, Cond.selects RX0 yX0_visited yX0_visited, Cond.code yX0_visited cX0_visited 1 (some .int), Cond.methodLink RX0 42 yJ9_floorMod_7cf53, Cond.static yJ9_floorMod_7cf53, Cond.initialized RJ9, Cond.code yJ9_floorMod_7cf53 cJ9_floorMod_7cf53 3 (some .int), Cond.methodLink RX0 39 yX0_finedAt, Cond.instanceMethod yX0_finedAt, Cond.selects RX0 yX0_finedAt yX0_finedAt]
def wsL_act_r6 : List Cond := [Cond.code yX0_finedAt cX0_finedAt 3 (some .int), Cond.methodLink RX0 52 Lib.Math.abs.name, Cond.static Lib.Math.abs.name, Cond.code Lib.Math.abs.name Lib.Math.abs.code 1 (some .int), Cond.methodLink RX0 48 yX0_isTolerated, Cond.instanceMethod yX0_isTolerated, Cond.selects RX0 yX0_isTolerated yX0_isTolerated, Cond.code yX0_isTolerated cX0_isTolerated 2 (some .boolean), Cond.fieldLink RX0 18 "OldMeasures$Stalls" "tolerance" "I", Cond.methodLink RL 60 yX2_behind, Cond.instanceMethod yX2_behind, Cond.selects RX2 yX2_behind yX2_behind, Cond.code yX2_behind cX2_behind 4 (some .int), Cond.fieldLink RX2 45 "OldMeasuresLaw$Sim" "fines" "I", Cond.methodLink RX2 54 yX2_pass, Cond.instanceMethod yX2_pass, Cond.selects RX2 yX2_pass yX2_pass, Cond.code yX2_pass cX2_pass 5 (some .int), Cond.fieldLink RX2 19 "OldMeasuresLaw$Sim" "stalls" "[[I", Cond.fieldLink RX2 38 "OldMeasuresLaw$Sim" "day" "I", Cond.methodLink RX2 48 Lib.Math.abs.name, Cond.methodLink RX2 41 yX2_isHonest, Cond.instanceMethod yX2_isHonest, Cond.selects RX2 yX2_isHonest yX2_isHonest]
def wsL_act_r7 : List Cond := [Cond.code yX2_isHonest cX2_isHonest 2 (some .boolean), Cond.fieldLink RX2 7 "OldMeasuresLaw$Sim" "tolerance" "I"]
def wsL_act : List Cond := .code yL_act cL_act 13 (some .boolean) :: ((wsL_act_r1 ++ (wsL_act_r2 ++ (wsL_act_r3 ++ (wsL_act_r4 ++ (wsL_act_r5 ++ (wsL_act_r6 ++ wsL_act_r7)))))) ++ wsX20 ++ wsX10 ++ wsX00 ++ (vx_atS RX1 52 "java/lang/IllegalArgumentException" ["java/lang/RuntimeException", "java/lang/Exception"]).filter goodWord ++ (vx_atS RX1 59 "java/lang/IllegalStateException" ["java/lang/RuntimeException", "java/lang/Exception"]).filter goodWord ++ (vx_atS RX1 225 "java/lang/IndexOutOfBoundsException" ["java/lang/RuntimeException", "java/lang/Exception"]).filter goodWord)
def wsL_build_r1 : List Cond := [Cond.classLink RL 10 RX2, Cond.instantiable RX2 6, Cond.initialized RX2, Cond.instanceMethod yX2_init, Cond.code yX2_init cX2_init 1 none, Cond.methodLink RX2 1 objectInit, Cond.instanceMethod objectInit, Cond.code objectInit ⟨#[0xb1]⟩ 1 none, Cond.fieldLink RX2 7 "OldMeasuresLaw$Sim" "tolerance" "I", Cond.classLink RX2 13 "[I", Cond.arrayClass .int, Cond.fieldLink RX2 15 "OldMeasuresLaw$Sim" "measures" "[[I", Cond.fieldLink RX2 19 "OldMeasuresLaw$Sim" "stalls" "[[I", Cond.methodLink RL 64 yL_cell, Cond.static yL_cell, Cond.initialized RL, Cond.code yL_cell cL_cell 2 (some .int), Cond.constant RL 8 (790386105), Cond.methodLink RL 18 yL_below, Cond.static yL_below, Cond.code yL_below cL_below 2 (some .int), Cond.constant RL 7 (2147483647), Cond.methodLink RL 68 yL_act, Cond.static yL_act]
def wsL_build_r2 : List Cond := [Cond.code yL_act cL_act 13 (some .boolean), Cond.fieldLink RL 9 "OldMeasuresLaw$Sim" "measures" "[[I", Cond.fieldLink RL 15 "OldMeasuresLaw$Sim" "stalls" "[[I", Cond.fieldLink RL 34 "OldMeasuresLaw$Sim" "standard" "I", Cond.fieldLink RL 51 "OldMeasuresLaw$Sim" "tolerance" "I", Cond.methodLink RL 24 yX2_with, Cond.static yX2_with, Cond.code yX2_with cX2_with 4 (some (.array (.array .int))), Cond.methodLink RL 28 yX1_addMeasure, Cond.instanceMethod yX1_addMeasure, Cond.selects RX1 yX1_addMeasure yX1_addMeasure, Cond.initialized RX1, Cond.code yX1_addMeasure cX1_addMeasure 7 (some .int), Cond.classLink RX1 48 "java/lang/IllegalArgumentException", Cond.initialized "java/lang/IllegalArgumentException", Cond.classLink RX1 55 "java/lang/IllegalStateException", Cond.initialized "java/lang/IllegalStateException", Cond.fieldLink RX1 33 "OldMeasures" "measureCount" "I", Cond.fieldLink RX1 16 "OldMeasures" "lengths" "[J", Cond.fieldLink RX1 9 "OldMeasures" "bases" "[I", Cond.fieldLink RX1 13 "OldMeasures" "steps" "[I", Cond.methodLink RX1 40 yX1_needMeasure, Cond.instanceMethod yX1_needMeasure, Cond.selects RX1 yX1_needMeasure yX1_needMeasure]
def wsL_build_r3 : List Cond := [Cond.code yX1_needMeasure cX1_needMeasure 2 none, Cond.classLink RX1 221 "java/lang/IndexOutOfBoundsException", Cond.initialized "java/lang/IndexOutOfBoundsException", Cond.methodLink RX1 44 yX1_isOutside, Cond.static yX1_isOutside, Cond.code yX1_isOutside cX1_isOutside 3 (some .boolean), Cond.methodLink RX1 60 yX1_refineUnit, Cond.instanceMethod yX1_refineUnit, Cond.selects RX1 yX1_refineUnit yX1_refineUnit, Cond.code yX1_refineUnit cX1_refineUnit 3 none, Cond.methodLink RX1 63 yX1_rankLast, Cond.instanceMethod yX1_rankLast, Cond.selects RX1 yX1_rankLast yX1_rankLast, Cond.code yX1_rankLast cX1_rankLast 3 none, Cond.fieldLink RX1 20 "OldMeasures" "longestFirst" "[I", Cond.methodLink RX1 114 yX1_lengthAt, Cond.instanceMethod yX1_lengthAt, Cond.selects RX1 yX1_lengthAt yX1_lengthAt, Cond.code yX1_lengthAt cX1_lengthAt 2 (some .long), Cond.methodLink RL 38 yX1_setStandard, Cond.instanceMethod yX1_setStandard, Cond.selects RX1 yX1_setStandard yX1_setStandard, Cond.code yX1_setStandard cX1_setStandard 3 (some .int), Cond.fieldLink RX1 37 "OldMeasures" "standard" "I"]
def wsL_build_r4 : List Cond := [Cond.methodLink RL 42 yX1_addStall, Cond.instanceMethod yX1_addStall, Cond.selects RX1 yX1_addStall yX1_addStall, Cond.code yX1_addStall cX1_addStall 3 (some .int), Cond.fieldLink RX1 26 "OldMeasures" "stalls" "LOldMeasures$Stalls;", Cond.methodLink RX1 66 yX1_needWear, Cond.static yX1_needWear, Cond.code yX1_needWear cX1_needWear 1 none, Cond.methodLink RL 45 yX1_setWear, Cond.instanceMethod yX1_setWear, Cond.selects RX1 yX1_setWear yX1_setWear, Cond.code yX1_setWear cX1_setWear 4 (some .int), Cond.methodLink RX1 80 yX1_needStall, Cond.instanceMethod yX1_needStall, Cond.selects RX1 yX1_needStall yX1_needStall, Cond.code yX1_needStall cX1_needStall 2 none, Cond.methodLink RL 48 yX1_seal, Cond.instanceMethod yX1_seal, Cond.selects RX1 yX1_seal yX1_seal, Cond.code yX1_seal cX1_seal 3 (some .int), Cond.methodLink RL 54 yX1_setTolerance, Cond.instanceMethod yX1_setTolerance, Cond.selects RX1 yX1_setTolerance yX1_setTolerance, Cond.code yX1_setTolerance cX1_setTolerance 3 (some .int)]
def wsL_build_r5 : List Cond := [Cond.methodLink RL 57 yX1_passDays, Cond.instanceMethod yX1_passDays, Cond.selects RX1 yX1_passDays yX1_passDays, Cond.code yX1_passDays cX1_passDays 3 (some .int), Cond.fieldLink RX1 95 "OldMeasures" "fines" "I", Cond.methodLink RX1 88 yX1_needDays, Cond.static yX1_needDays, Cond.code yX1_needDays cX1_needDays 1 none, Cond.instanceMethod yX0_coinsPaidIn, Cond.initialized RX0, Cond.selects RX0 yX0_coinsPaidIn yX0_coinsPaidIn, Cond.code yX0_coinsPaidIn cX0_coinsPaidIn 4 (some .int), Cond.methodLink RX0 28 yX0_coinsPaidNextDay, Cond.instanceMethod yX0_coinsPaidNextDay, Cond.selects RX0 yX0_coinsPaidNextDay yX0_coinsPaidNextDay, Cond.code yX0_coinsPaidNextDay cX0_coinsPaidNextDay 2 (some .int), Cond.fieldLink RX0 22 "OldMeasures$Stalls" "count" "I", Cond.fieldLink RX0 15 "OldMeasures$Stalls" "drifts" "[I", Cond.fieldLink RX0 9 "OldMeasures$Stalls" "wears" "[I", Cond.fieldLink RX0 25 "OldMeasures$Stalls" "day" "I", Cond.methodLink RX0 32 yX0_held, Cond.static yX0_held, Cond.code yX0_held cX0_held 1 (some .int), Cond.methodLink RX0 55 Lib.Math.min.name]
def wsL_build_r6 : List Cond := [Cond.static Lib.Math.min.name, Cond.initialized "java/lang/Math", Cond.code Lib.Math.min.name Lib.Math.min.code 2 (some .int), Cond.methodLink RX0 58 Lib.Math.max.name, Cond.static Lib.Math.max.name, Cond.code Lib.Math.max.name Lib.Math.max.code 2 (some .int), Cond.methodLink RX0 36 yX0_visited, Cond.instanceMethod yX0_visited, Cond.selects RX0 yX0_visited yX0_visited, Cond.code yX0_visited cX0_visited 1 (some .int), Cond.methodLink RX0 42 yJ9_floorMod_7cf53, Cond.static yJ9_floorMod_7cf53, Cond.initialized RJ9, Cond.code yJ9_floorMod_7cf53 cJ9_floorMod_7cf53 3 (some .int), Cond.methodLink RX0 39 yX0_finedAt, Cond.instanceMethod yX0_finedAt, Cond.selects RX0 yX0_finedAt yX0_finedAt, Cond.code yX0_finedAt cX0_finedAt 3 (some .int), Cond.methodLink RX0 52 Lib.Math.abs.name, Cond.static Lib.Math.abs.name, Cond.code Lib.Math.abs.name Lib.Math.abs.code 1 (some .int), Cond.methodLink RX0 48 yX0_isTolerated, Cond.instanceMethod yX0_isTolerated, Cond.selects RX0 yX0_isTolerated yX0_isTolerated]
def wsL_build_r7 : List Cond := [Cond.code yX0_isTolerated cX0_isTolerated 2 (some .boolean), Cond.fieldLink RX0 18 "OldMeasures$Stalls" "tolerance" "I", Cond.methodLink RL 60 yX2_behind, Cond.instanceMethod yX2_behind, Cond.selects RX2 yX2_behind yX2_behind, Cond.code yX2_behind cX2_behind 4 (some .int), Cond.fieldLink RX2 45 "OldMeasuresLaw$Sim" "fines" "I", Cond.methodLink RX2 54 yX2_pass, Cond.instanceMethod yX2_pass, Cond.selects RX2 yX2_pass yX2_pass, Cond.code yX2_pass cX2_pass 5 (some .int), Cond.fieldLink RX2 38 "OldMeasuresLaw$Sim" "day" "I", Cond.methodLink RX2 48 Lib.Math.abs.name, Cond.methodLink RX2 41 yX2_isHonest, Cond.instanceMethod yX2_isHonest, Cond.selects RX2 yX2_isHonest yX2_isHonest, Cond.code yX2_isHonest cX2_isHonest 2 (some .boolean)]
def wsL_build : List Cond := .code yL_build cL_build 5 (some (.object "OldMeasuresLaw$Sim")) :: ((wsL_build_r1 ++ (wsL_build_r2 ++ (wsL_build_r3 ++ (wsL_build_r4 ++ (wsL_build_r5 ++ (wsL_build_r6 ++ wsL_build_r7)))))) ++ wsX20 ++ wsX10 ++ wsX00 ++ (vx_atS RX1 52 "java/lang/IllegalArgumentException" ["java/lang/RuntimeException", "java/lang/Exception"]).filter goodWord ++ (vx_atS RX1 59 "java/lang/IllegalStateException" ["java/lang/RuntimeException", "java/lang/Exception"]).filter goodWord ++ (vx_atS RX1 225 "java/lang/IndexOutOfBoundsException" ["java/lang/RuntimeException", "java/lang/Exception"]).filter goodWord)
def wsL_law0_r1 : List Cond := [Cond.classLink RL 29 RX1, Cond.instantiable RX1 9, Cond.initialized RX1, Cond.constantLong RL 123 (200), Cond.arrayClass .int, Cond.methodLink RL 128 Lib.Math.abs.name, Cond.static Lib.Math.abs.name, Cond.initialized "java/lang/Math", Cond.code Lib.Math.abs.name Lib.Math.abs.code 1 (some .int), Cond.methodLink RL 133 Lib.Math.min.name, Cond.static Lib.Math.min.name, Cond.code Lib.Math.min.name Lib.Math.min.code 2 (some .int), Cond.methodLink RL 136 Lib.Math.max.name, Cond.static Lib.Math.max.name, Cond.code Lib.Math.max.name Lib.Math.max.code 2 (some .int), Cond.constantLong RL 154 (1000), Cond.methodLink RL 72 yX1_init, Cond.instanceMethod yX1_init, Cond.code yX1_init cX1_init 1 none, Cond.methodLink RX1 1 objectInit, Cond.instanceMethod objectInit, Cond.code objectInit ⟨#[0xb1]⟩ 1 none, Cond.fieldLink RX1 9 "OldMeasures" "bases" "[I", Cond.fieldLink RX1 13 "OldMeasures" "steps" "[I"]
def wsL_law0_r2 : List Cond := [Cond.arrayClass .long, Cond.fieldLink RX1 16 "OldMeasures" "lengths" "[J", Cond.fieldLink RX1 20 "OldMeasures" "longestFirst" "[I", Cond.classLink RX1 23 RX0, Cond.instantiable RX0 5, Cond.initialized RX0, Cond.fieldLink RX1 26 "OldMeasures" "stalls" "LOldMeasures$Stalls;", Cond.fieldLink RX1 30 "OldMeasures" "trial" "LOldMeasures$Stalls;", Cond.fieldLink RX1 33 "OldMeasures" "measureCount" "I", Cond.fieldLink RX1 37 "OldMeasures" "standard" "I", Cond.instanceMethod yX0_init, Cond.code yX0_init cX0_init 1 none, Cond.methodLink RX0 3 objectInit, Cond.fieldLink RX0 9 "OldMeasures$Stalls" "wears" "[I", Cond.fieldLink RX0 15 "OldMeasures$Stalls" "drifts" "[I", Cond.fieldLink RX0 18 "OldMeasures$Stalls" "tolerance" "I", Cond.methodLink RL 73 yL_build, Cond.static yL_build, Cond.initialized RL, Cond.code yL_build cL_build 5 (some (.object "OldMeasuresLaw$Sim")), Cond.classLink RL 10 RX2, Cond.instantiable RX2 6, Cond.initialized RX2, Cond.instanceMethod yX2_init]
def wsL_law0_r3 : List Cond := [Cond.code yX2_init cX2_init 1 none, Cond.methodLink RX2 1 objectInit, Cond.fieldLink RX2 7 "OldMeasuresLaw$Sim" "tolerance" "I", Cond.classLink RX2 13 "[I", Cond.fieldLink RX2 15 "OldMeasuresLaw$Sim" "measures" "[[I", Cond.fieldLink RX2 19 "OldMeasuresLaw$Sim" "stalls" "[[I", Cond.methodLink RL 64 yL_cell, Cond.static yL_cell, Cond.code yL_cell cL_cell 2 (some .int), Cond.constant RL 8 (790386105), Cond.methodLink RL 18 yL_below, Cond.static yL_below, Cond.code yL_below cL_below 2 (some .int), Cond.constant RL 7 (2147483647), Cond.methodLink RL 68 yL_act, Cond.static yL_act, Cond.code yL_act cL_act 13 (some .boolean), Cond.fieldLink RL 9 "OldMeasuresLaw$Sim" "measures" "[[I", Cond.fieldLink RL 15 "OldMeasuresLaw$Sim" "stalls" "[[I", Cond.fieldLink RL 34 "OldMeasuresLaw$Sim" "standard" "I", Cond.fieldLink RL 51 "OldMeasuresLaw$Sim" "tolerance" "I", Cond.methodLink RL 24 yX2_with, Cond.static yX2_with, Cond.code yX2_with cX2_with 4 (some (.array (.array .int)))]
def wsL_law0_r4 : List Cond := [Cond.methodLink RL 28 yX1_addMeasure, Cond.instanceMethod yX1_addMeasure, Cond.selects RX1 yX1_addMeasure yX1_addMeasure, Cond.code yX1_addMeasure cX1_addMeasure 7 (some .int), Cond.classLink RX1 48 "java/lang/IllegalArgumentException", Cond.initialized "java/lang/IllegalArgumentException", Cond.classLink RX1 55 "java/lang/IllegalStateException", Cond.initialized "java/lang/IllegalStateException", Cond.methodLink RX1 40 yX1_needMeasure, Cond.instanceMethod yX1_needMeasure, Cond.selects RX1 yX1_needMeasure yX1_needMeasure, Cond.code yX1_needMeasure cX1_needMeasure 2 none, Cond.classLink RX1 221 "java/lang/IndexOutOfBoundsException", Cond.initialized "java/lang/IndexOutOfBoundsException", Cond.methodLink RX1 44 yX1_isOutside, Cond.static yX1_isOutside, Cond.code yX1_isOutside cX1_isOutside 3 (some .boolean), Cond.methodLink RX1 60 yX1_refineUnit, Cond.instanceMethod yX1_refineUnit, Cond.selects RX1 yX1_refineUnit yX1_refineUnit, Cond.code yX1_refineUnit cX1_refineUnit 3 none, Cond.methodLink RX1 63 yX1_rankLast, Cond.instanceMethod yX1_rankLast, Cond.selects RX1 yX1_rankLast yX1_rankLast]
def wsL_law0_r5 : List Cond := [Cond.code yX1_rankLast cX1_rankLast 3 none, Cond.methodLink RX1 114 yX1_lengthAt, Cond.instanceMethod yX1_lengthAt, Cond.selects RX1 yX1_lengthAt yX1_lengthAt, Cond.code yX1_lengthAt cX1_lengthAt 2 (some .long), Cond.methodLink RL 38 yX1_setStandard, Cond.instanceMethod yX1_setStandard, Cond.selects RX1 yX1_setStandard yX1_setStandard, Cond.code yX1_setStandard cX1_setStandard 3 (some .int), Cond.methodLink RL 42 yX1_addStall, Cond.instanceMethod yX1_addStall, Cond.selects RX1 yX1_addStall yX1_addStall, Cond.code yX1_addStall cX1_addStall 3 (some .int), Cond.methodLink RX1 66 yX1_needWear, Cond.static yX1_needWear, Cond.code yX1_needWear cX1_needWear 1 none, Cond.methodLink RL 45 yX1_setWear, Cond.instanceMethod yX1_setWear, Cond.selects RX1 yX1_setWear yX1_setWear, Cond.code yX1_setWear cX1_setWear 4 (some .int), Cond.methodLink RX1 80 yX1_needStall, Cond.instanceMethod yX1_needStall, Cond.selects RX1 yX1_needStall yX1_needStall, Cond.code yX1_needStall cX1_needStall 2 none]
def wsL_law0_r6 : List Cond := [Cond.methodLink RL 48 yX1_seal, Cond.instanceMethod yX1_seal, Cond.selects RX1 yX1_seal yX1_seal, Cond.code yX1_seal cX1_seal 3 (some .int), Cond.methodLink RL 54 yX1_setTolerance, Cond.instanceMethod yX1_setTolerance, Cond.selects RX1 yX1_setTolerance yX1_setTolerance, Cond.code yX1_setTolerance cX1_setTolerance 3 (some .int), Cond.methodLink RL 57 yX1_passDays, Cond.instanceMethod yX1_passDays, Cond.selects RX1 yX1_passDays yX1_passDays, Cond.code yX1_passDays cX1_passDays 3 (some .int), Cond.fieldLink RX1 95 "OldMeasures" "fines" "I", Cond.methodLink RX1 88 yX1_needDays, Cond.static yX1_needDays, Cond.code yX1_needDays cX1_needDays 1 none, Cond.instanceMethod yX0_coinsPaidIn, Cond.selects RX0 yX0_coinsPaidIn yX0_coinsPaidIn, Cond.code yX0_coinsPaidIn cX0_coinsPaidIn 4 (some .int), Cond.methodLink RX0 28 yX0_coinsPaidNextDay, Cond.instanceMethod yX0_coinsPaidNextDay, Cond.selects RX0 yX0_coinsPaidNextDay yX0_coinsPaidNextDay, Cond.code yX0_coinsPaidNextDay cX0_coinsPaidNextDay 2 (some .int), Cond.fieldLink RX0 22 "OldMeasures$Stalls" "count" "I"]
def wsL_law0_r7 : List Cond := [Cond.fieldLink RX0 25 "OldMeasures$Stalls" "day" "I", Cond.methodLink RX0 32 yX0_held, Cond.static yX0_held, Cond.code yX0_held cX0_held 1 (some .int), Cond.methodLink RX0 55 Lib.Math.min.name, Cond.methodLink RX0 58 Lib.Math.max.name, Cond.methodLink RX0 36 yX0_visited, Cond.instanceMethod yX0_visited, Cond.selects RX0 yX0_visited yX0_visited, Cond.code yX0_visited cX0_visited 1 (some .int), Cond.methodLink RX0 42 yJ9_floorMod_7cf53, Cond.static yJ9_floorMod_7cf53, Cond.initialized RJ9, Cond.code yJ9_floorMod_7cf53 cJ9_floorMod_7cf53 3 (some .int), Cond.methodLink RX0 39 yX0_finedAt, Cond.instanceMethod yX0_finedAt, Cond.selects RX0 yX0_finedAt yX0_finedAt, Cond.code yX0_finedAt cX0_finedAt 3 (some .int), Cond.methodLink RX0 52 Lib.Math.abs.name, Cond.methodLink RX0 48 yX0_isTolerated, Cond.instanceMethod yX0_isTolerated, Cond.selects RX0 yX0_isTolerated yX0_isTolerated, Cond.code yX0_isTolerated cX0_isTolerated 2 (some .boolean), Cond.methodLink RL 60 yX2_behind]
def wsL_law0_r8 : List Cond := [Cond.instanceMethod yX2_behind, Cond.selects RX2 yX2_behind yX2_behind, Cond.code yX2_behind cX2_behind 4 (some .int), Cond.fieldLink RX2 45 "OldMeasuresLaw$Sim" "fines" "I", Cond.methodLink RX2 54 yX2_pass, Cond.instanceMethod yX2_pass, Cond.selects RX2 yX2_pass yX2_pass, Cond.code yX2_pass cX2_pass 5 (some .int), Cond.fieldLink RX2 38 "OldMeasuresLaw$Sim" "day" "I", Cond.methodLink RX2 48 Lib.Math.abs.name, Cond.methodLink RX2 41 yX2_isHonest, Cond.instanceMethod yX2_isHonest, Cond.selects RX2 yX2_isHonest yX2_isHonest, Cond.code yX2_isHonest cX2_isHonest 2 (some .boolean), Cond.methodLink RL 77 yX1_measures, Cond.instanceMethod yX1_measures, Cond.selects RX1 yX1_measures yX1_measures, Cond.code yX1_measures cX1_measures 1 (some .int), Cond.methodLink RL 80 yX1_stalls, Cond.instanceMethod yX1_stalls, Cond.selects RX1 yX1_stalls yX1_stalls, Cond.code yX1_stalls cX1_stalls 1 (some .int), Cond.methodLink RL 82 yX1_standard, Cond.instanceMethod yX1_standard]
def wsL_law0_r9 : List Cond := [Cond.selects RX1 yX1_standard yX1_standard, Cond.code yX1_standard cX1_standard 1 (some .int), Cond.methodLink RL 84 yX1_lengthTop, Cond.instanceMethod yX1_lengthTop, Cond.selects RX1 yX1_lengthTop yX1_lengthTop, Cond.code yX1_lengthTop cX1_lengthTop 2 (some .long), Cond.methodLink RX1 101 yX1_withoutCommonDivisor, Cond.static yX1_withoutCommonDivisor, Cond.code yX1_withoutCommonDivisor cX1_withoutCommonDivisor 4 (some .long), Cond.methodLink RX1 234 yX1_greatestCommonDivisor, Cond.static yX1_greatestCommonDivisor, Cond.code yX1_greatestCommonDivisor cX1_greatestCommonDivisor 11 (some .long), Cond.methodLink RX1 108 yX1_timesIn, Cond.static yX1_timesIn, Cond.code yX1_timesIn cX1_timesIn 4 (some .long), Cond.methodLink RL 88 yX1_lengthBottom, Cond.instanceMethod yX1_lengthBottom, Cond.selects RX1 yX1_lengthBottom yX1_lengthBottom, Cond.code yX1_lengthBottom cX1_lengthBottom 2 (some .long), Cond.methodLink RL 91 yX1_isLonger, Cond.instanceMethod yX1_isLonger, Cond.selects RX1 yX1_isLonger yX1_isLonger, Cond.code yX1_isLonger cX1_isLonger 3 (some .boolean), Cond.methodLink RL 95 yX2_divisor]
def wsL_law0_r10 : List Cond := [Cond.static yX2_divisor, Cond.code yX2_divisor cX2_divisor 4 (some .long), Cond.methodLink RX2 22 yX2_divisor, Cond.methodLink RL 99 yX1_longest, Cond.instanceMethod yX1_longest, Cond.selects RX1 yX1_longest yX1_longest, Cond.code yX1_longest cX1_longest 1 (some .int), Cond.methodLink RL 102 yX1_shortest, Cond.instanceMethod yX1_shortest, Cond.selects RX1 yX1_shortest yX1_shortest, Cond.code yX1_shortest cX1_shortest 3 (some .int), Cond.methodLink RL 105 yX1_baseOf, Cond.instanceMethod yX1_baseOf, Cond.selects RX1 yX1_baseOf yX1_baseOf, Cond.code yX1_baseOf cX1_baseOf 2 (some .int), Cond.methodLink RL 108 yX1_stepsToEll, Cond.instanceMethod yX1_stepsToEll, Cond.selects RX1 yX1_stepsToEll yX1_stepsToEll, Cond.code yX1_stepsToEll cX1_stepsToEll 2 (some .int), Cond.methodLink RL 111 yX1_convert, Cond.instanceMethod yX1_convert, Cond.selects RX1 yX1_convert yX1_convert, Cond.code yX1_convert cX1_convert 4 (some .long), Cond.methodLink RX1 105 yX1_needMany]
def wsL_law0_r11 : List Cond := [Cond.static yX1_needMany, Cond.code yX1_needMany cX1_needMany 1 none, Cond.methodLink RL 115 yX1_isExact, Cond.instanceMethod yX1_isExact, Cond.selects RX1 yX1_isExact yX1_isExact, Cond.code yX1_isExact cX1_isExact 4 (some .boolean), Cond.methodLink RX1 111 yX1_leftOf, Cond.static yX1_leftOf, Cond.code yX1_leftOf cX1_leftOf 4 (some .long), Cond.methodLink RL 119 yX1_fewestToMeet, Cond.instanceMethod yX1_fewestToMeet, Cond.selects RX1 yX1_fewestToMeet yX1_fewestToMeet, Cond.code yX1_fewestToMeet cX1_fewestToMeet 3 (some .long), Cond.methodLink RL 125 yX1_driftOf, Cond.instanceMethod yX1_driftOf, Cond.selects RX1 yX1_driftOf yX1_driftOf, Cond.code yX1_driftOf cX1_driftOf 2 (some .int), Cond.methodLink RL 139 yX1_getsAt, Cond.instanceMethod yX1_getsAt, Cond.selects RX1 yX1_getsAt yX1_getsAt, Cond.code yX1_getsAt cX1_getsAt 4 (some .long), Cond.methodLink RX1 122 yX1_givenWith, Cond.instanceMethod yX1_givenWith, Cond.selects RX1 yX1_givenWith yX1_givenWith]
def wsL_law0_r12 : List Cond := [Cond.code yX1_givenWith cX1_givenWith 4 (some .long), Cond.methodLink RL 142 yX1_lossAt, Cond.instanceMethod yX1_lossAt, Cond.selects RX1 yX1_lossAt yX1_lossAt, Cond.code yX1_lossAt cX1_lossAt 4 (some .long), Cond.methodLink RL 145 yX1_isHonest, Cond.instanceMethod yX1_isHonest, Cond.selects RX1 yX1_isHonest yX1_isHonest, Cond.code yX1_isHonest cX1_isHonest 2 (some .boolean), Cond.methodLink RL 149 yX1_tolerance, Cond.instanceMethod yX1_tolerance, Cond.selects RX1 yX1_tolerance yX1_tolerance, Cond.code yX1_tolerance cX1_tolerance 1 (some .int), Cond.methodLink RL 151 yX1_wearOf, Cond.instanceMethod yX1_wearOf, Cond.selects RX1 yX1_wearOf yX1_wearOf, Cond.code yX1_wearOf cX1_wearOf 2 (some .int), Cond.methodLink RL 156 yX1_mostHonest, Cond.instanceMethod yX1_mostHonest, Cond.selects RX1 yX1_mostHonest yX1_mostHonest, Cond.code yX1_mostHonest cX1_mostHonest 5 (some .int), Cond.methodLink RX1 126 Lib.Math.abs.name, Cond.methodLink RL 159 yX1_mostGenerous, Cond.instanceMethod yX1_mostGenerous]
def wsL_law0_r13 : List Cond := [Cond.selects RX1 yX1_mostGenerous yX1_mostGenerous, Cond.code yX1_mostGenerous cX1_mostGenerous 4 (some .int), Cond.methodLink RL 162 yX1_days, Cond.instanceMethod yX1_days, Cond.selects RX1 yX1_days yX1_days, Cond.code yX1_days cX1_days 1 (some .int), Cond.methodLink RL 165 yX1_fines, Cond.instanceMethod yX1_fines, Cond.selects RX1 yX1_fines yX1_fines, Cond.code yX1_fines cX1_fines 1 (some .int), Cond.methodLink RL 168 yX2_pass, Cond.methodLink RL 171 yX2_isSame, Cond.instanceMethod yX2_isSame, Cond.selects RX2 yX2_isSame yX2_isSame, Cond.code yX2_isSame cX2_isSame 10 (some .boolean), Cond.fieldLink RX2 59 "OldMeasuresLaw$Sim" "standard" "I", Cond.methodLink RX2 66 yX1_measures, Cond.methodLink RX2 70 yX1_stalls, Cond.methodLink RX2 72 yX1_days, Cond.methodLink RX2 75 yX1_standard, Cond.methodLink RX2 77 yX1_tolerance, Cond.methodLink RX2 79 yX1_fines, Cond.methodLink RX2 34 yX2_order, Cond.instanceMethod yX2_order]
def wsL_law0_r14 : List Cond := [Cond.selects RX2 yX2_order yX2_order, Cond.code yX2_order cX2_order 6 (some (.array .int)), Cond.methodLink RX2 30 yX2_isLonger, Cond.instanceMethod yX2_isLonger, Cond.selects RX2 yX2_isLonger yX2_isLonger, Cond.code yX2_isLonger cX2_isLonger 4 (some .boolean), Cond.methodLink RX2 26 yX2_ratio, Cond.instanceMethod yX2_ratio, Cond.selects RX2 yX2_ratio yX2_ratio, Cond.code yX2_ratio cX2_ratio 9 (some (.array .long)), Cond.methodLink RX2 81 yX1_baseOf, Cond.methodLink RX2 84 yX1_stepsToEll, Cond.methodLink RX2 87 yX1_lengthTop, Cond.methodLink RX2 91 yX1_lengthBottom, Cond.methodLink RX2 94 yX1_driftOf, Cond.methodLink RX2 97 yX1_wearOf, Cond.methodLink RX2 100 yX1_isHonest, Cond.methodLink RX2 103 yX1_longest, Cond.methodLink RX2 106 yX1_shortest, Cond.methodLink RX2 109 yX1_mostHonest, Cond.methodLink RX2 112 yX1_mostGenerous, Cond.methodLink RX2 115 yX1_meanDrift, Cond.instanceMethod yX1_meanDrift, Cond.selects RX1 yX1_meanDrift yX1_meanDrift]
def wsL_law0_r15 : List Cond := [Cond.code yX1_meanDrift cX1_meanDrift 3 (some .double)]
def wsL_law0 : List Cond := (wsL_law0_r1 ++ (wsL_law0_r2 ++ (wsL_law0_r3 ++ (wsL_law0_r4 ++ (wsL_law0_r5 ++ (wsL_law0_r6 ++ (wsL_law0_r7 ++ (wsL_law0_r8 ++ (wsL_law0_r9 ++ (wsL_law0_r10 ++ (wsL_law0_r11 ++ (wsL_law0_r12 ++ (wsL_law0_r13 ++ (wsL_law0_r14 ++ wsL_law0_r15)))))))))))))) ++ wsX10 ++ wsX00 ++ wsX20 ++ ([] : List Cond)
def wsL_law : List Cond := wsL_law0 ++ (vx_atS RX1 52 "java/lang/IllegalArgumentException" ["java/lang/RuntimeException", "java/lang/Exception"]).filter goodWord ++ (vx_atS RX1 59 "java/lang/IllegalStateException" ["java/lang/RuntimeException", "java/lang/Exception"]).filter goodWord ++ (vx_atS RX1 225 "java/lang/IndexOutOfBoundsException" ["java/lang/RuntimeException", "java/lang/Exception"]).filter goodWord
abbrev vwCl : List vw_C := [(RX0, TX0, 5), (RX1, TX1, 9), (RX2, TX2, 6)]
end
section
theorem app_in {P : Cond → Prop} {a b : List Cond} (ha : ∀ w ∈ a, P w) (hb : ∀ w ∈ b, P w) : ∀ w ∈ a ++ b, P w := fun w h => (List.mem_append.mp h).elim (ha w) (hb w)
set_option maxRecDepth 100000 in
theorem wsL_law0_r1_c : ∀ w ∈ wsL_law0_r1, w ∈ lw_tbl := fun w h => (goodIn_p wsL_law0_r1 [200, 179, 182, 27, 30] (by decide +kernel) (by decide +kernel) w h).1
set_option maxRecDepth 100000 in
theorem wsL_law0_r2_c : ∀ w ∈ wsL_law0_r2, w ∈ lw_tbl := fun w h => (goodIn_p wsL_law0_r2 [35, 472] (by decide +kernel) (by decide +kernel) w h).1
set_option maxRecDepth 100000 in
theorem wsL_law0_r3_c : ∀ w ∈ wsL_law0_r3, w ∈ lw_tbl := fun w h => (goodIn_p wsL_law0_r3 [477, 396, 392, 400, 403] (by decide +kernel) (by decide +kernel) w h).1
set_option maxRecDepth 100000 in
theorem wsL_law0_r4_c : ∀ w ∈ wsL_law0_r4, w ∈ lw_tbl := fun w h => (goodIn_p wsL_law0_r4 [409, 232, 97, 430] (by decide +kernel) (by decide +kernel) w h).1
set_option maxRecDepth 100000 in
theorem wsL_law0_r5_c : ∀ w ∈ wsL_law0_r5, w ∈ lw_tbl := fun w h => (goodIn_p wsL_law0_r5 [434, 438, 442, 446, 449, 455, 308] (by decide +kernel) (by decide +kernel) w h).1
set_option maxRecDepth 100000 in
theorem wsL_law0_r6_c : ∀ w ∈ wsL_law0_r6, w ∈ lw_tbl := fun w h => (goodIn_p wsL_law0_r6 [459, 463, 91, 94, 169, 173] (by decide +kernel) (by decide +kernel) w h).1
set_option maxRecDepth 100000 in
theorem wsL_law0_r7_c : ∀ w ∈ wsL_law0_r7, w ∈ lw_tbl := fun w h => (goodIn_p wsL_law0_r7 [176, 186, 189, 193, 197] (by decide +kernel) (by decide +kernel) w h).1
set_option maxRecDepth 100000 in
theorem wsL_law0_r8_c : ∀ w ∈ wsL_law0_r8, w ∈ lw_tbl := fun w h => (goodIn_p wsL_law0_r8 [468, 347, 351, 204, 208] (by decide +kernel) (by decide +kernel) w h).1
set_option maxRecDepth 100000 in
theorem wsL_law0_r9_c : ∀ w ∈ wsL_law0_r9, w ∈ lw_tbl := fun w h => (goodIn_p wsL_law0_r9 [216, 256, 259, 262, 265, 269, 273] (by decide +kernel) (by decide +kernel) w h).1
set_option maxRecDepth 100000 in
theorem wsL_law0_r10_c : ∀ w ∈ wsL_law0_r10, w ∈ lw_tbl := fun w h => (goodIn_p wsL_law0_r10 [342, 277, 281, 228, 252, 289] (by decide +kernel) (by decide +kernel) w h).1
set_option maxRecDepth 100000 in
theorem wsL_law0_r11_c : ∀ w ∈ wsL_law0_r11, w ∈ lw_tbl := fun w h => (goodIn_p wsL_law0_r11 [292, 297, 300, 285, 304, 322] (by decide +kernel) (by decide +kernel) w h).1
set_option maxRecDepth 100000 in
theorem wsL_law0_r12_c : ∀ w ∈ wsL_law0_r12, w ∈ lw_tbl := fun w h => (goodIn_p wsL_law0_r12 [326, 330, 317, 220, 313, 334] (by decide +kernel) (by decide +kernel) w h).1
set_option maxRecDepth 100000 in
theorem wsL_law0_r13_c : ∀ w ∈ wsL_law0_r13, w ∈ lw_tbl := fun w h => (goodIn_p wsL_law0_r13 [339, 212, 224, 356] (by decide +kernel) (by decide +kernel) w h).1
set_option maxRecDepth 100000 in
theorem wsL_law0_r14_c : ∀ w ∈ wsL_law0_r14, w ∈ lw_tbl := fun w h => (goodIn_p wsL_law0_r14 [366, 370, 374] (by decide +kernel) (by decide +kernel) w h).1
set_option maxRecDepth 100000 in
theorem wsL_law0_r15_c : ∀ w ∈ wsL_law0_r15, w ∈ lw_tbl := fun w h => (goodIn_p wsL_law0_r15 [389] (by decide +kernel) (by decide +kernel) w h).1
theorem wsL_law_uX0 : ∀ w ∈ wsX00, w ∈ lw_tbl := by decide +kernel
theorem wsL_law_uX1 : ∀ w ∈ wsX10, w ∈ lw_tbl := by decide +kernel
theorem wsL_law_uX2 : ∀ w ∈ wsX20, w ∈ lw_tbl := by decide +kernel
theorem wsL_law_in0 : ∀ w ∈ wsL_law0, w ∈ lw_tbl := app_in (app_in (app_in (app_in (app_in wsL_law0_r1_c (app_in wsL_law0_r2_c (app_in wsL_law0_r3_c (app_in wsL_law0_r4_c (app_in wsL_law0_r5_c (app_in wsL_law0_r6_c (app_in wsL_law0_r7_c (app_in wsL_law0_r8_c (app_in wsL_law0_r9_c (app_in wsL_law0_r10_c (app_in wsL_law0_r11_c (app_in wsL_law0_r12_c (app_in wsL_law0_r13_c (app_in wsL_law0_r14_c (wsL_law0_r15_c))))))))))))))) wsL_law_uX1) wsL_law_uX0) wsL_law_uX2) (fun _ h => absurd h List.not_mem_nil)
theorem wsL_law_x0 : ∀ w ∈ (vx_atS RX1 52 "java/lang/IllegalArgumentException" ["java/lang/RuntimeException", "java/lang/Exception"]).filter goodWord, w ∈ lw_tbl := by decide +kernel
theorem wsL_law_x1 : ∀ w ∈ (vx_atS RX1 59 "java/lang/IllegalStateException" ["java/lang/RuntimeException", "java/lang/Exception"]).filter goodWord, w ∈ lw_tbl := by decide +kernel
theorem wsL_law_x2 : ∀ w ∈ (vx_atS RX1 225 "java/lang/IndexOutOfBoundsException" ["java/lang/RuntimeException", "java/lang/Exception"]).filter goodWord, w ∈ lw_tbl := by decide +kernel
theorem wsL_law_in : ∀ w ∈ wsL_law, w ∈ lw_tbl := fun w h => (List.mem_append.mp h).elim (fun h => (List.mem_append.mp h).elim (fun h => (List.mem_append.mp h).elim (fun h => wsL_law_in0 w h) (fun h => wsL_law_x0 w h)) (fun h => wsL_law_x1 w h)) (fun h => wsL_law_x2 w h)
theorem inlX0 : ∀ w ∈ wsX00, w ∈ wsL_law := fun _ h => List.mem_append_left _ (List.mem_append_left _ (List.mem_append_left _ (List.mem_append_left _ (List.mem_append_left _ (List.mem_append_right _ h)))))
theorem inX0 : ∀ w ∈ wsX00, w ∈ lw_tbl := fun w h => wsL_law_in w (inlX0 w h)
theorem inlX1 : ∀ w ∈ wsX10, w ∈ wsL_law := fun _ h => List.mem_append_left _ (List.mem_append_left _ (List.mem_append_left _ (List.mem_append_left _ (List.mem_append_left _ (List.mem_append_left _ (List.mem_append_right _ h))))))
theorem inX1 : ∀ w ∈ wsX10, w ∈ lw_tbl := fun w h => wsL_law_in w (inlX1 w h)
theorem inlX2 : ∀ w ∈ wsX20, w ∈ wsL_law := fun _ h => List.mem_append_left _ (List.mem_append_left _ (List.mem_append_left _ (List.mem_append_left _ (List.mem_append_right _ h))))
theorem inX2 : ∀ w ∈ wsX20, w ∈ lw_tbl := fun w h => wsL_law_in w (inlX2 w h)
theorem inX3 : ∀ w ∈ wsX30, w ∈ lw_tbl := by decide +kernel
theorem inJ9 : ∀ w ∈ wsJ90, w ∈ lw_tbl := by decide +kernel
theorem inJ0 : ∀ w ∈ wsJ00, w ∈ lw_tbl := by decide +kernel
end
section
theorem dX0_init_0 : decode cX0_init 0 = .ok (.aload_n 0, 1) := by decide +kernel
theorem dX0_init_1 : decode cX0_init 1 = .ok (.invokespecial 3, 3) := by decide +kernel
theorem dX0_init_4 : decode cX0_init 4 = .ok (.aload_n 0, 1) := by decide +kernel
theorem dX0_init_5 : decode cX0_init 5 = .ok (.bipush 6, 2) := by decide +kernel
theorem dX0_init_7 : decode cX0_init 7 = .ok (.newarray .int, 2) := by decide +kernel
theorem dX0_init_9 : decode cX0_init 9 = .ok (.putfield 9, 3) := by decide +kernel
theorem dX0_init_12 : decode cX0_init 12 = .ok (.aload_n 0, 1) := by decide +kernel
theorem dX0_init_13 : decode cX0_init 13 = .ok (.bipush 6, 2) := by decide +kernel
theorem dX0_init_15 : decode cX0_init 15 = .ok (.newarray .int, 2) := by decide +kernel
theorem dX0_init_17 : decode cX0_init 17 = .ok (.putfield 15, 3) := by decide +kernel
theorem dX0_init_20 : decode cX0_init 20 = .ok (.aload_n 0, 1) := by decide +kernel
theorem dX0_init_21 : decode cX0_init 21 = .ok (.bipush 10, 2) := by decide +kernel
theorem dX0_init_23 : decode cX0_init 23 = .ok (.putfield 18, 3) := by decide +kernel
theorem dX0_init_26 : decode cX0_init 26 = .ok (.return_, 1) := by decide +kernel
theorem dX0_coinsPaidIn_0 : decode cX0_coinsPaidIn 0 = .ok (.iconst 0, 1) := by decide +kernel
theorem dX0_coinsPaidIn_1 : decode cX0_coinsPaidIn 1 = .ok (.istore_n 2, 1) := by decide +kernel
theorem dX0_coinsPaidIn_2 : decode cX0_coinsPaidIn 2 = .ok (.iconst 0, 1) := by decide +kernel
theorem dX0_coinsPaidIn_3 : decode cX0_coinsPaidIn 3 = .ok (.istore_n 3, 1) := by decide +kernel
theorem dX0_coinsPaidIn_4 : decode cX0_coinsPaidIn 4 = .ok (.iload_n 3, 1) := by decide +kernel
theorem dX0_coinsPaidIn_5 : decode cX0_coinsPaidIn 5 = .ok (.iload_n 1, 1) := by decide +kernel
theorem dX0_coinsPaidIn_6 : decode cX0_coinsPaidIn 6 = .ok (.if_icmp .ge 16, 3) := by decide +kernel
theorem dX0_coinsPaidIn_9 : decode cX0_coinsPaidIn 9 = .ok (.iload_n 2, 1) := by decide +kernel
theorem dX0_coinsPaidIn_10 : decode cX0_coinsPaidIn 10 = .ok (.aload_n 0, 1) := by decide +kernel
theorem dX0_coinsPaidIn_11 : decode cX0_coinsPaidIn 11 = .ok (.invokevirtual 28, 3) := by decide +kernel
theorem dX0_coinsPaidIn_14 : decode cX0_coinsPaidIn 14 = .ok (.iadd, 1) := by decide +kernel
theorem dX0_coinsPaidIn_15 : decode cX0_coinsPaidIn 15 = .ok (.istore_n 2, 1) := by decide +kernel
theorem dX0_coinsPaidIn_16 : decode cX0_coinsPaidIn 16 = .ok (.iinc 3 1, 3) := by decide +kernel
theorem dX0_coinsPaidIn_19 : decode cX0_coinsPaidIn 19 = .ok (.goto (-15), 3) := by decide +kernel
theorem dX0_coinsPaidIn_22 : decode cX0_coinsPaidIn 22 = .ok (.iload_n 2, 1) := by decide +kernel
theorem dX0_coinsPaidIn_23 : decode cX0_coinsPaidIn 23 = .ok (.ireturn, 1) := by decide +kernel
theorem dX0_coinsPaidNextDay_0 : decode cX0_coinsPaidNextDay 0 = .ok (.iconst 0, 1) := by decide +kernel
theorem dX0_coinsPaidNextDay_1 : decode cX0_coinsPaidNextDay 1 = .ok (.istore_n 1, 1) := by decide +kernel
theorem dX0_coinsPaidNextDay_2 : decode cX0_coinsPaidNextDay 2 = .ok (.iload_n 1, 1) := by decide +kernel
theorem dX0_coinsPaidNextDay_3 : decode cX0_coinsPaidNextDay 3 = .ok (.aload_n 0, 1) := by decide +kernel
theorem dX0_coinsPaidNextDay_4 : decode cX0_coinsPaidNextDay 4 = .ok (.getfield 22, 3) := by decide +kernel
theorem dX0_coinsPaidNextDay_7 : decode cX0_coinsPaidNextDay 7 = .ok (.if_icmp .ge 31, 3) := by decide +kernel
theorem dX0_coinsPaidNextDay_10 : decode cX0_coinsPaidNextDay 10 = .ok (.aload_n 0, 1) := by decide +kernel
theorem dX0_coinsPaidNextDay_11 : decode cX0_coinsPaidNextDay 11 = .ok (.getfield 15, 3) := by decide +kernel
theorem dX0_coinsPaidNextDay_14 : decode cX0_coinsPaidNextDay 14 = .ok (.iload_n 1, 1) := by decide +kernel
theorem dX0_coinsPaidNextDay_15 : decode cX0_coinsPaidNextDay 15 = .ok (.aload_n 0, 1) := by decide +kernel
theorem dX0_coinsPaidNextDay_16 : decode cX0_coinsPaidNextDay 16 = .ok (.getfield 15, 3) := by decide +kernel
theorem dX0_coinsPaidNextDay_19 : decode cX0_coinsPaidNextDay 19 = .ok (.iload_n 1, 1) := by decide +kernel
theorem dX0_coinsPaidNextDay_20 : decode cX0_coinsPaidNextDay 20 = .ok (.iaload, 1) := by decide +kernel
theorem dX0_coinsPaidNextDay_21 : decode cX0_coinsPaidNextDay 21 = .ok (.aload_n 0, 1) := by decide +kernel
theorem dX0_coinsPaidNextDay_22 : decode cX0_coinsPaidNextDay 22 = .ok (.getfield 9, 3) := by decide +kernel
theorem dX0_coinsPaidNextDay_25 : decode cX0_coinsPaidNextDay 25 = .ok (.iload_n 1, 1) := by decide +kernel
theorem dX0_coinsPaidNextDay_26 : decode cX0_coinsPaidNextDay 26 = .ok (.iaload, 1) := by decide +kernel
theorem dX0_coinsPaidNextDay_27 : decode cX0_coinsPaidNextDay 27 = .ok (.iadd, 1) := by decide +kernel
theorem dX0_coinsPaidNextDay_28 : decode cX0_coinsPaidNextDay 28 = .ok (.invokestatic 32, 3) := by decide +kernel
theorem dX0_coinsPaidNextDay_31 : decode cX0_coinsPaidNextDay 31 = .ok (.iastore, 1) := by decide +kernel
theorem dX0_coinsPaidNextDay_32 : decode cX0_coinsPaidNextDay 32 = .ok (.iinc 1 1, 3) := by decide +kernel
theorem dX0_coinsPaidNextDay_35 : decode cX0_coinsPaidNextDay 35 = .ok (.goto (-33), 3) := by decide +kernel
theorem dX0_coinsPaidNextDay_38 : decode cX0_coinsPaidNextDay 38 = .ok (.aload_n 0, 1) := by decide +kernel
theorem dX0_coinsPaidNextDay_39 : decode cX0_coinsPaidNextDay 39 = .ok (.aload_n 0, 1) := by decide +kernel
theorem dX0_coinsPaidNextDay_40 : decode cX0_coinsPaidNextDay 40 = .ok (.invokevirtual 36, 3) := by decide +kernel
theorem dX0_coinsPaidNextDay_43 : decode cX0_coinsPaidNextDay 43 = .ok (.invokevirtual 39, 3) := by decide +kernel
theorem dX0_coinsPaidNextDay_46 : decode cX0_coinsPaidNextDay 46 = .ok (.istore_n 1, 1) := by decide +kernel
theorem dX0_coinsPaidNextDay_47 : decode cX0_coinsPaidNextDay 47 = .ok (.aload_n 0, 1) := by decide +kernel
theorem dX0_coinsPaidNextDay_48 : decode cX0_coinsPaidNextDay 48 = .ok (.dup, 1) := by decide +kernel
theorem dX0_coinsPaidNextDay_49 : decode cX0_coinsPaidNextDay 49 = .ok (.getfield 25, 3) := by decide +kernel
theorem dX0_coinsPaidNextDay_52 : decode cX0_coinsPaidNextDay 52 = .ok (.iconst 1, 1) := by decide +kernel
theorem dX0_coinsPaidNextDay_53 : decode cX0_coinsPaidNextDay 53 = .ok (.iadd, 1) := by decide +kernel
theorem dX0_coinsPaidNextDay_54 : decode cX0_coinsPaidNextDay 54 = .ok (.putfield 25, 3) := by decide +kernel
theorem dX0_coinsPaidNextDay_57 : decode cX0_coinsPaidNextDay 57 = .ok (.iload_n 1, 1) := by decide +kernel
theorem dX0_coinsPaidNextDay_58 : decode cX0_coinsPaidNextDay 58 = .ok (.ireturn, 1) := by decide +kernel
theorem dX0_visited_0 : decode cX0_visited 0 = .ok (.aload_n 0, 1) := by decide +kernel
theorem dX0_visited_1 : decode cX0_visited 1 = .ok (.getfield 22, 3) := by decide +kernel
theorem dX0_visited_4 : decode cX0_visited 4 = .ok (.iconst 1, 1) := by decide +kernel
theorem dX0_visited_5 : decode cX0_visited 5 = .ok (.if_icmp .ge 7, 3) := by decide +kernel
theorem dX0_visited_8 : decode cX0_visited 8 = .ok (.iconst (-1), 1) := by decide +kernel
theorem dX0_visited_9 : decode cX0_visited 9 = .ok (.goto 14, 3) := by decide +kernel
theorem dX0_visited_12 : decode cX0_visited 12 = .ok (.aload_n 0, 1) := by decide +kernel
theorem dX0_visited_13 : decode cX0_visited 13 = .ok (.getfield 25, 3) := by decide +kernel
theorem dX0_visited_16 : decode cX0_visited 16 = .ok (.aload_n 0, 1) := by decide +kernel
theorem dX0_visited_17 : decode cX0_visited 17 = .ok (.getfield 22, 3) := by decide +kernel
theorem dX0_visited_20 : decode cX0_visited 20 = .ok (.invokestatic 42, 3) := by decide +kernel
theorem dX0_visited_23 : decode cX0_visited 23 = .ok (.ireturn, 1) := by decide +kernel
theorem dX0_finedAt_0 : decode cX0_finedAt 0 = .ok (.iload_n 1, 1) := by decide +kernel
theorem dX0_finedAt_1 : decode cX0_finedAt 1 = .ok (.ifCond .lt 24, 3) := by decide +kernel
theorem dX0_finedAt_4 : decode cX0_finedAt 4 = .ok (.iload_n 1, 1) := by decide +kernel
theorem dX0_finedAt_5 : decode cX0_finedAt 5 = .ok (.aload_n 0, 1) := by decide +kernel
theorem dX0_finedAt_6 : decode cX0_finedAt 6 = .ok (.getfield 22, 3) := by decide +kernel
theorem dX0_finedAt_9 : decode cX0_finedAt 9 = .ok (.if_icmp .ge 16, 3) := by decide +kernel
theorem dX0_finedAt_12 : decode cX0_finedAt 12 = .ok (.aload_n 0, 1) := by decide +kernel
theorem dX0_finedAt_13 : decode cX0_finedAt 13 = .ok (.aload_n 0, 1) := by decide +kernel
theorem dX0_finedAt_14 : decode cX0_finedAt 14 = .ok (.getfield 15, 3) := by decide +kernel
theorem dX0_finedAt_17 : decode cX0_finedAt 17 = .ok (.iload_n 1, 1) := by decide +kernel
theorem dX0_finedAt_18 : decode cX0_finedAt 18 = .ok (.iaload, 1) := by decide +kernel
theorem dX0_finedAt_19 : decode cX0_finedAt 19 = .ok (.invokevirtual 48, 3) := by decide +kernel
theorem dX0_finedAt_22 : decode cX0_finedAt 22 = .ok (.ifCond .eq 5, 3) := by decide +kernel
theorem dX0_finedAt_25 : decode cX0_finedAt 25 = .ok (.iconst 0, 1) := by decide +kernel
theorem dX0_finedAt_26 : decode cX0_finedAt 26 = .ok (.ireturn, 1) := by decide +kernel
theorem dX0_finedAt_27 : decode cX0_finedAt 27 = .ok (.aload_n 0, 1) := by decide +kernel
theorem dX0_finedAt_28 : decode cX0_finedAt 28 = .ok (.getfield 15, 3) := by decide +kernel
theorem dX0_finedAt_31 : decode cX0_finedAt 31 = .ok (.iload_n 1, 1) := by decide +kernel
theorem dX0_finedAt_32 : decode cX0_finedAt 32 = .ok (.iaload, 1) := by decide +kernel
theorem dX0_finedAt_33 : decode cX0_finedAt 33 = .ok (.invokestatic 52, 3) := by decide +kernel
theorem dX0_finedAt_36 : decode cX0_finedAt 36 = .ok (.istore_n 2, 1) := by decide +kernel
theorem dX0_finedAt_37 : decode cX0_finedAt 37 = .ok (.aload_n 0, 1) := by decide +kernel
theorem dX0_finedAt_38 : decode cX0_finedAt 38 = .ok (.getfield 15, 3) := by decide +kernel
theorem dX0_finedAt_41 : decode cX0_finedAt 41 = .ok (.iload_n 1, 1) := by decide +kernel
theorem dX0_finedAt_42 : decode cX0_finedAt 42 = .ok (.iconst 0, 1) := by decide +kernel
theorem dX0_finedAt_43 : decode cX0_finedAt 43 = .ok (.iastore, 1) := by decide +kernel
theorem dX0_finedAt_44 : decode cX0_finedAt 44 = .ok (.iload_n 2, 1) := by decide +kernel
theorem dX0_finedAt_45 : decode cX0_finedAt 45 = .ok (.ireturn, 1) := by decide +kernel
theorem dX0_isTolerated_0 : decode cX0_isTolerated 0 = .ok (.iload_n 1, 1) := by decide +kernel
theorem dX0_isTolerated_1 : decode cX0_isTolerated 1 = .ok (.invokestatic 52, 3) := by decide +kernel
theorem dX0_isTolerated_4 : decode cX0_isTolerated 4 = .ok (.aload_n 0, 1) := by decide +kernel
theorem dX0_isTolerated_5 : decode cX0_isTolerated 5 = .ok (.getfield 18, 3) := by decide +kernel
theorem dX0_isTolerated_8 : decode cX0_isTolerated 8 = .ok (.if_icmp .gt 7, 3) := by decide +kernel
theorem dX0_isTolerated_11 : decode cX0_isTolerated 11 = .ok (.iconst 1, 1) := by decide +kernel
theorem dX0_isTolerated_12 : decode cX0_isTolerated 12 = .ok (.goto 4, 3) := by decide +kernel
theorem dX0_isTolerated_15 : decode cX0_isTolerated 15 = .ok (.iconst 0, 1) := by decide +kernel
theorem dX0_isTolerated_16 : decode cX0_isTolerated 16 = .ok (.ireturn, 1) := by decide +kernel
theorem dX0_held_0 : decode cX0_held 0 = .ok (.sipush (-300), 3) := by decide +kernel
theorem dX0_held_3 : decode cX0_held 3 = .ok (.sipush 300, 3) := by decide +kernel
theorem dX0_held_6 : decode cX0_held 6 = .ok (.iload_n 0, 1) := by decide +kernel
theorem dX0_held_7 : decode cX0_held 7 = .ok (.invokestatic 55, 3) := by decide +kernel
theorem dX0_held_10 : decode cX0_held 10 = .ok (.invokestatic 58, 3) := by decide +kernel
theorem dX0_held_13 : decode cX0_held 13 = .ok (.ireturn, 1) := by decide +kernel
theorem dX1_init_0 : decode cX1_init 0 = .ok (.aload_n 0, 1) := by decide +kernel
theorem dX1_init_1 : decode cX1_init 1 = .ok (.invokespecial 1, 3) := by decide +kernel
theorem dX1_init_4 : decode cX1_init 4 = .ok (.aload_n 0, 1) := by decide +kernel
theorem dX1_init_5 : decode cX1_init 5 = .ok (.bipush 8, 2) := by decide +kernel
theorem dX1_init_7 : decode cX1_init 7 = .ok (.newarray .int, 2) := by decide +kernel
theorem dX1_init_9 : decode cX1_init 9 = .ok (.putfield 9, 3) := by decide +kernel
theorem dX1_init_12 : decode cX1_init 12 = .ok (.aload_n 0, 1) := by decide +kernel
theorem dX1_init_13 : decode cX1_init 13 = .ok (.bipush 8, 2) := by decide +kernel
theorem dX1_init_15 : decode cX1_init 15 = .ok (.newarray .int, 2) := by decide +kernel
theorem dX1_init_17 : decode cX1_init 17 = .ok (.putfield 13, 3) := by decide +kernel
theorem dX1_init_20 : decode cX1_init 20 = .ok (.aload_n 0, 1) := by decide +kernel
theorem dX1_init_21 : decode cX1_init 21 = .ok (.bipush 8, 2) := by decide +kernel
theorem dX1_init_23 : decode cX1_init 23 = .ok (.newarray .long, 2) := by decide +kernel
theorem dX1_init_25 : decode cX1_init 25 = .ok (.putfield 16, 3) := by decide +kernel
theorem dX1_init_28 : decode cX1_init 28 = .ok (.aload_n 0, 1) := by decide +kernel
theorem dX1_init_29 : decode cX1_init 29 = .ok (.bipush 8, 2) := by decide +kernel
theorem dX1_init_31 : decode cX1_init 31 = .ok (.newarray .int, 2) := by decide +kernel
theorem dX1_init_33 : decode cX1_init 33 = .ok (.putfield 20, 3) := by decide +kernel
theorem dX1_init_36 : decode cX1_init 36 = .ok (.aload_n 0, 1) := by decide +kernel
theorem dX1_init_37 : decode cX1_init 37 = .ok (.new 23, 3) := by decide +kernel
theorem dX1_init_40 : decode cX1_init 40 = .ok (.dup, 1) := by decide +kernel
theorem dX1_init_41 : decode cX1_init 41 = .ok (.invokespecial 25, 3) := by decide +kernel
theorem dX1_init_44 : decode cX1_init 44 = .ok (.putfield 26, 3) := by decide +kernel
theorem dX1_init_47 : decode cX1_init 47 = .ok (.aload_n 0, 1) := by decide +kernel
theorem dX1_init_48 : decode cX1_init 48 = .ok (.new 23, 3) := by decide +kernel
theorem dX1_init_51 : decode cX1_init 51 = .ok (.dup, 1) := by decide +kernel
theorem dX1_init_52 : decode cX1_init 52 = .ok (.invokespecial 25, 3) := by decide +kernel
theorem dX1_init_55 : decode cX1_init 55 = .ok (.putfield 30, 3) := by decide +kernel
theorem dX1_init_58 : decode cX1_init 58 = .ok (.aload_n 0, 1) := by decide +kernel
theorem dX1_init_59 : decode cX1_init 59 = .ok (.getfield 9, 3) := by decide +kernel
theorem dX1_init_62 : decode cX1_init 62 = .ok (.iconst 0, 1) := by decide +kernel
theorem dX1_init_63 : decode cX1_init 63 = .ok (.iconst (-1), 1) := by decide +kernel
theorem dX1_init_64 : decode cX1_init 64 = .ok (.iastore, 1) := by decide +kernel
theorem dX1_init_65 : decode cX1_init 65 = .ok (.aload_n 0, 1) := by decide +kernel
theorem dX1_init_66 : decode cX1_init 66 = .ok (.getfield 16, 3) := by decide +kernel
theorem dX1_init_69 : decode cX1_init 69 = .ok (.iconst 0, 1) := by decide +kernel
theorem dX1_init_70 : decode cX1_init 70 = .ok (.lconst 1, 1) := by decide +kernel
theorem dX1_init_71 : decode cX1_init 71 = .ok (.lastore, 1) := by decide +kernel
theorem dX1_init_72 : decode cX1_init 72 = .ok (.aload_n 0, 1) := by decide +kernel
theorem dX1_init_73 : decode cX1_init 73 = .ok (.iconst 1, 1) := by decide +kernel
theorem dX1_init_74 : decode cX1_init 74 = .ok (.putfield 33, 3) := by decide +kernel
theorem dX1_init_77 : decode cX1_init 77 = .ok (.aload_n 0, 1) := by decide +kernel
theorem dX1_init_78 : decode cX1_init 78 = .ok (.iconst 0, 1) := by decide +kernel
theorem dX1_init_79 : decode cX1_init 79 = .ok (.putfield 37, 3) := by decide +kernel
theorem dX1_init_82 : decode cX1_init 82 = .ok (.return_, 1) := by decide +kernel
theorem dX1_addMeasure_0 : decode cX1_addMeasure 0 = .ok (.aload_n 0, 1) := by decide +kernel
theorem dX1_addMeasure_1 : decode cX1_addMeasure 1 = .ok (.iload_n 1, 1) := by decide +kernel
theorem dX1_addMeasure_2 : decode cX1_addMeasure 2 = .ok (.invokevirtual 40, 3) := by decide +kernel
theorem dX1_addMeasure_5 : decode cX1_addMeasure 5 = .ok (.iload_n 2, 1) := by decide +kernel
theorem dX1_addMeasure_6 : decode cX1_addMeasure 6 = .ok (.iconst 1, 1) := by decide +kernel
theorem dX1_addMeasure_7 : decode cX1_addMeasure 7 = .ok (.bipush 9, 2) := by decide +kernel
theorem dX1_addMeasure_9 : decode cX1_addMeasure 9 = .ok (.invokestatic 44, 3) := by decide +kernel
theorem dX1_addMeasure_12 : decode cX1_addMeasure 12 = .ok (.ifCond .ne 13, 3) := by decide +kernel
theorem dX1_addMeasure_15 : decode cX1_addMeasure 15 = .ok (.iload_n 3, 1) := by decide +kernel
theorem dX1_addMeasure_16 : decode cX1_addMeasure 16 = .ok (.iconst 1, 1) := by decide +kernel
theorem dX1_addMeasure_17 : decode cX1_addMeasure 17 = .ok (.bipush 9, 2) := by decide +kernel
theorem dX1_addMeasure_19 : decode cX1_addMeasure 19 = .ok (.invokestatic 44, 3) := by decide +kernel
theorem dX1_addMeasure_22 : decode cX1_addMeasure 22 = .ok (.ifCond .eq 13, 3) := by decide +kernel
theorem dX1_addMeasure_25 : decode cX1_addMeasure 25 = .ok (.new 48, 3) := by decide +kernel
theorem dX1_addMeasure_28 : decode cX1_addMeasure 28 = .ok (.dup, 1) := by decide +kernel
theorem dX1_addMeasure_29 : decode cX1_addMeasure 29 = .ok (.ldc 50, 2) := by decide +kernel
theorem dX1_addMeasure_31 : decode cX1_addMeasure 31 = .ok (.invokespecial 52, 3) := by decide +kernel
theorem dX1_addMeasure_34 : decode cX1_addMeasure 34 = .ok (.athrow, 1) := by decide +kernel
theorem dX1_addMeasure_35 : decode cX1_addMeasure 35 = .ok (.aload_n 0, 1) := by decide +kernel
theorem dX1_addMeasure_36 : decode cX1_addMeasure 36 = .ok (.getfield 33, 3) := by decide +kernel
theorem dX1_addMeasure_39 : decode cX1_addMeasure 39 = .ok (.bipush 8, 2) := by decide +kernel
theorem dX1_addMeasure_41 : decode cX1_addMeasure 41 = .ok (.if_icmp .lt 13, 3) := by decide +kernel
theorem dX1_addMeasure_44 : decode cX1_addMeasure 44 = .ok (.new 55, 3) := by decide +kernel
theorem dX1_addMeasure_47 : decode cX1_addMeasure 47 = .ok (.dup, 1) := by decide +kernel
theorem dX1_addMeasure_48 : decode cX1_addMeasure 48 = .ok (.ldc 57, 2) := by decide +kernel
theorem dX1_addMeasure_50 : decode cX1_addMeasure 50 = .ok (.invokespecial 59, 3) := by decide +kernel
theorem dX1_addMeasure_53 : decode cX1_addMeasure 53 = .ok (.athrow, 1) := by decide +kernel
theorem dX1_addMeasure_54 : decode cX1_addMeasure 54 = .ok (.aload_n 0, 1) := by decide +kernel
theorem dX1_addMeasure_55 : decode cX1_addMeasure 55 = .ok (.getfield 33, 3) := by decide +kernel
theorem dX1_addMeasure_58 : decode cX1_addMeasure 58 = .ok (.istore 4, 2) := by decide +kernel
theorem dX1_addMeasure_60 : decode cX1_addMeasure 60 = .ok (.aload_n 0, 1) := by decide +kernel
theorem dX1_addMeasure_61 : decode cX1_addMeasure 61 = .ok (.getfield 16, 3) := by decide +kernel
theorem dX1_addMeasure_64 : decode cX1_addMeasure 64 = .ok (.iload_n 1, 1) := by decide +kernel
theorem dX1_addMeasure_65 : decode cX1_addMeasure 65 = .ok (.laload, 1) := by decide +kernel
theorem dX1_addMeasure_66 : decode cX1_addMeasure 66 = .ok (.iload_n 2, 1) := by decide +kernel
theorem dX1_addMeasure_67 : decode cX1_addMeasure 67 = .ok (.i2l, 1) := by decide +kernel
theorem dX1_addMeasure_68 : decode cX1_addMeasure 68 = .ok (.lmul, 1) := by decide +kernel
theorem dX1_addMeasure_69 : decode cX1_addMeasure 69 = .ok (.lstore 5, 2) := by decide +kernel
theorem dX1_addMeasure_71 : decode cX1_addMeasure 71 = .ok (.aload_n 0, 1) := by decide +kernel
theorem dX1_addMeasure_72 : decode cX1_addMeasure 72 = .ok (.iload_n 3, 1) := by decide +kernel
theorem dX1_addMeasure_73 : decode cX1_addMeasure 73 = .ok (.invokevirtual 60, 3) := by decide +kernel
theorem dX1_addMeasure_76 : decode cX1_addMeasure 76 = .ok (.aload_n 0, 1) := by decide +kernel
theorem dX1_addMeasure_77 : decode cX1_addMeasure 77 = .ok (.getfield 9, 3) := by decide +kernel
theorem dX1_addMeasure_80 : decode cX1_addMeasure 80 = .ok (.iload 4, 2) := by decide +kernel
theorem dX1_addMeasure_82 : decode cX1_addMeasure 82 = .ok (.iload_n 1, 1) := by decide +kernel
theorem dX1_addMeasure_83 : decode cX1_addMeasure 83 = .ok (.iastore, 1) := by decide +kernel
theorem dX1_addMeasure_84 : decode cX1_addMeasure 84 = .ok (.aload_n 0, 1) := by decide +kernel
theorem dX1_addMeasure_85 : decode cX1_addMeasure 85 = .ok (.getfield 13, 3) := by decide +kernel
theorem dX1_addMeasure_88 : decode cX1_addMeasure 88 = .ok (.iload 4, 2) := by decide +kernel
theorem dX1_addMeasure_90 : decode cX1_addMeasure 90 = .ok (.aload_n 0, 1) := by decide +kernel
theorem dX1_addMeasure_91 : decode cX1_addMeasure 91 = .ok (.getfield 13, 3) := by decide +kernel
theorem dX1_addMeasure_94 : decode cX1_addMeasure 94 = .ok (.iload_n 1, 1) := by decide +kernel
theorem dX1_addMeasure_95 : decode cX1_addMeasure 95 = .ok (.iaload, 1) := by decide +kernel
theorem dX1_addMeasure_96 : decode cX1_addMeasure 96 = .ok (.iconst 1, 1) := by decide +kernel
theorem dX1_addMeasure_97 : decode cX1_addMeasure 97 = .ok (.iadd, 1) := by decide +kernel
theorem dX1_addMeasure_98 : decode cX1_addMeasure 98 = .ok (.iastore, 1) := by decide +kernel
theorem dX1_addMeasure_99 : decode cX1_addMeasure 99 = .ok (.aload_n 0, 1) := by decide +kernel
theorem dX1_addMeasure_100 : decode cX1_addMeasure 100 = .ok (.getfield 16, 3) := by decide +kernel
theorem dX1_addMeasure_103 : decode cX1_addMeasure 103 = .ok (.iload 4, 2) := by decide +kernel
theorem dX1_addMeasure_105 : decode cX1_addMeasure 105 = .ok (.lload 5, 2) := by decide +kernel
theorem dX1_addMeasure_107 : decode cX1_addMeasure 107 = .ok (.lastore, 1) := by decide +kernel
theorem dX1_addMeasure_108 : decode cX1_addMeasure 108 = .ok (.aload_n 0, 1) := by decide +kernel
theorem dX1_addMeasure_109 : decode cX1_addMeasure 109 = .ok (.iload 4, 2) := by decide +kernel
theorem dX1_addMeasure_111 : decode cX1_addMeasure 111 = .ok (.iconst 1, 1) := by decide +kernel
theorem dX1_addMeasure_112 : decode cX1_addMeasure 112 = .ok (.iadd, 1) := by decide +kernel
theorem dX1_addMeasure_113 : decode cX1_addMeasure 113 = .ok (.putfield 33, 3) := by decide +kernel
theorem dX1_addMeasure_116 : decode cX1_addMeasure 116 = .ok (.aload_n 0, 1) := by decide +kernel
theorem dX1_addMeasure_117 : decode cX1_addMeasure 117 = .ok (.invokevirtual 63, 3) := by decide +kernel
theorem dX1_addMeasure_120 : decode cX1_addMeasure 120 = .ok (.iload 4, 2) := by decide +kernel
theorem dX1_addMeasure_122 : decode cX1_addMeasure 122 = .ok (.ireturn, 1) := by decide +kernel
theorem dX1_setStandard_0 : decode cX1_setStandard 0 = .ok (.aload_n 0, 1) := by decide +kernel
theorem dX1_setStandard_1 : decode cX1_setStandard 1 = .ok (.iload_n 1, 1) := by decide +kernel
theorem dX1_setStandard_2 : decode cX1_setStandard 2 = .ok (.invokevirtual 40, 3) := by decide +kernel
theorem dX1_setStandard_5 : decode cX1_setStandard 5 = .ok (.aload_n 0, 1) := by decide +kernel
theorem dX1_setStandard_6 : decode cX1_setStandard 6 = .ok (.getfield 37, 3) := by decide +kernel
theorem dX1_setStandard_9 : decode cX1_setStandard 9 = .ok (.istore_n 2, 1) := by decide +kernel
theorem dX1_setStandard_10 : decode cX1_setStandard 10 = .ok (.aload_n 0, 1) := by decide +kernel
theorem dX1_setStandard_11 : decode cX1_setStandard 11 = .ok (.iload_n 1, 1) := by decide +kernel
theorem dX1_setStandard_12 : decode cX1_setStandard 12 = .ok (.putfield 37, 3) := by decide +kernel
theorem dX1_setStandard_15 : decode cX1_setStandard 15 = .ok (.iload_n 2, 1) := by decide +kernel
theorem dX1_setStandard_16 : decode cX1_setStandard 16 = .ok (.ireturn, 1) := by decide +kernel
theorem dX1_addStall_0 : decode cX1_addStall 0 = .ok (.iload_n 1, 1) := by decide +kernel
theorem dX1_addStall_1 : decode cX1_addStall 1 = .ok (.invokestatic 66, 3) := by decide +kernel
theorem dX1_addStall_4 : decode cX1_addStall 4 = .ok (.aload_n 0, 1) := by decide +kernel
theorem dX1_addStall_5 : decode cX1_addStall 5 = .ok (.getfield 26, 3) := by decide +kernel
theorem dX1_addStall_8 : decode cX1_addStall 8 = .ok (.getfield 69, 3) := by decide +kernel
theorem dX1_addStall_11 : decode cX1_addStall 11 = .ok (.bipush 6, 2) := by decide +kernel
theorem dX1_addStall_13 : decode cX1_addStall 13 = .ok (.if_icmp .lt 13, 3) := by decide +kernel
theorem dX1_addStall_16 : decode cX1_addStall 16 = .ok (.new 55, 3) := by decide +kernel
theorem dX1_addStall_19 : decode cX1_addStall 19 = .ok (.dup, 1) := by decide +kernel
theorem dX1_addStall_20 : decode cX1_addStall 20 = .ok (.ldc 72, 2) := by decide +kernel
theorem dX1_addStall_22 : decode cX1_addStall 22 = .ok (.invokespecial 59, 3) := by decide +kernel
theorem dX1_addStall_25 : decode cX1_addStall 25 = .ok (.athrow, 1) := by decide +kernel
theorem dX1_addStall_26 : decode cX1_addStall 26 = .ok (.aload_n 0, 1) := by decide +kernel
theorem dX1_addStall_27 : decode cX1_addStall 27 = .ok (.getfield 26, 3) := by decide +kernel
theorem dX1_addStall_30 : decode cX1_addStall 30 = .ok (.getfield 69, 3) := by decide +kernel
theorem dX1_addStall_33 : decode cX1_addStall 33 = .ok (.istore_n 2, 1) := by decide +kernel
theorem dX1_addStall_34 : decode cX1_addStall 34 = .ok (.aload_n 0, 1) := by decide +kernel
theorem dX1_addStall_35 : decode cX1_addStall 35 = .ok (.getfield 26, 3) := by decide +kernel
theorem dX1_addStall_38 : decode cX1_addStall 38 = .ok (.getfield 74, 3) := by decide +kernel
theorem dX1_addStall_41 : decode cX1_addStall 41 = .ok (.iload_n 2, 1) := by decide +kernel
theorem dX1_addStall_42 : decode cX1_addStall 42 = .ok (.iload_n 1, 1) := by decide +kernel
theorem dX1_addStall_43 : decode cX1_addStall 43 = .ok (.iastore, 1) := by decide +kernel
theorem dX1_addStall_44 : decode cX1_addStall 44 = .ok (.aload_n 0, 1) := by decide +kernel
theorem dX1_addStall_45 : decode cX1_addStall 45 = .ok (.getfield 26, 3) := by decide +kernel
theorem dX1_addStall_48 : decode cX1_addStall 48 = .ok (.getfield 77, 3) := by decide +kernel
theorem dX1_addStall_51 : decode cX1_addStall 51 = .ok (.iload_n 2, 1) := by decide +kernel
theorem dX1_addStall_52 : decode cX1_addStall 52 = .ok (.iconst 0, 1) := by decide +kernel
theorem dX1_addStall_53 : decode cX1_addStall 53 = .ok (.iastore, 1) := by decide +kernel
theorem dX1_addStall_54 : decode cX1_addStall 54 = .ok (.aload_n 0, 1) := by decide +kernel
theorem dX1_addStall_55 : decode cX1_addStall 55 = .ok (.getfield 26, 3) := by decide +kernel
theorem dX1_addStall_58 : decode cX1_addStall 58 = .ok (.iload_n 2, 1) := by decide +kernel
theorem dX1_addStall_59 : decode cX1_addStall 59 = .ok (.iconst 1, 1) := by decide +kernel
theorem dX1_addStall_60 : decode cX1_addStall 60 = .ok (.iadd, 1) := by decide +kernel
theorem dX1_addStall_61 : decode cX1_addStall 61 = .ok (.putfield 69, 3) := by decide +kernel
theorem dX1_addStall_64 : decode cX1_addStall 64 = .ok (.iload_n 2, 1) := by decide +kernel
theorem dX1_addStall_65 : decode cX1_addStall 65 = .ok (.ireturn, 1) := by decide +kernel
theorem dX1_setWear_0 : decode cX1_setWear 0 = .ok (.aload_n 0, 1) := by decide +kernel
theorem dX1_setWear_1 : decode cX1_setWear 1 = .ok (.iload_n 1, 1) := by decide +kernel
theorem dX1_setWear_2 : decode cX1_setWear 2 = .ok (.invokevirtual 80, 3) := by decide +kernel
theorem dX1_setWear_5 : decode cX1_setWear 5 = .ok (.iload_n 2, 1) := by decide +kernel
theorem dX1_setWear_6 : decode cX1_setWear 6 = .ok (.invokestatic 66, 3) := by decide +kernel
theorem dX1_setWear_9 : decode cX1_setWear 9 = .ok (.aload_n 0, 1) := by decide +kernel
theorem dX1_setWear_10 : decode cX1_setWear 10 = .ok (.getfield 26, 3) := by decide +kernel
theorem dX1_setWear_13 : decode cX1_setWear 13 = .ok (.getfield 74, 3) := by decide +kernel
theorem dX1_setWear_16 : decode cX1_setWear 16 = .ok (.iload_n 1, 1) := by decide +kernel
theorem dX1_setWear_17 : decode cX1_setWear 17 = .ok (.iaload, 1) := by decide +kernel
theorem dX1_setWear_18 : decode cX1_setWear 18 = .ok (.istore_n 3, 1) := by decide +kernel
theorem dX1_setWear_19 : decode cX1_setWear 19 = .ok (.aload_n 0, 1) := by decide +kernel
theorem dX1_setWear_20 : decode cX1_setWear 20 = .ok (.getfield 26, 3) := by decide +kernel
theorem dX1_setWear_23 : decode cX1_setWear 23 = .ok (.getfield 74, 3) := by decide +kernel
theorem dX1_setWear_26 : decode cX1_setWear 26 = .ok (.iload_n 1, 1) := by decide +kernel
theorem dX1_setWear_27 : decode cX1_setWear 27 = .ok (.iload_n 2, 1) := by decide +kernel
theorem dX1_setWear_28 : decode cX1_setWear 28 = .ok (.iastore, 1) := by decide +kernel
theorem dX1_setWear_29 : decode cX1_setWear 29 = .ok (.iload_n 3, 1) := by decide +kernel
theorem dX1_setWear_30 : decode cX1_setWear 30 = .ok (.ireturn, 1) := by decide +kernel
theorem dX1_seal_0 : decode cX1_seal 0 = .ok (.aload_n 0, 1) := by decide +kernel
theorem dX1_seal_1 : decode cX1_seal 1 = .ok (.iload_n 1, 1) := by decide +kernel
theorem dX1_seal_2 : decode cX1_seal 2 = .ok (.invokevirtual 80, 3) := by decide +kernel
theorem dX1_seal_5 : decode cX1_seal 5 = .ok (.aload_n 0, 1) := by decide +kernel
theorem dX1_seal_6 : decode cX1_seal 6 = .ok (.getfield 26, 3) := by decide +kernel
theorem dX1_seal_9 : decode cX1_seal 9 = .ok (.getfield 77, 3) := by decide +kernel
theorem dX1_seal_12 : decode cX1_seal 12 = .ok (.iload_n 1, 1) := by decide +kernel
theorem dX1_seal_13 : decode cX1_seal 13 = .ok (.iaload, 1) := by decide +kernel
theorem dX1_seal_14 : decode cX1_seal 14 = .ok (.istore_n 2, 1) := by decide +kernel
theorem dX1_seal_15 : decode cX1_seal 15 = .ok (.aload_n 0, 1) := by decide +kernel
theorem dX1_seal_16 : decode cX1_seal 16 = .ok (.getfield 26, 3) := by decide +kernel
theorem dX1_seal_19 : decode cX1_seal 19 = .ok (.getfield 77, 3) := by decide +kernel
theorem dX1_seal_22 : decode cX1_seal 22 = .ok (.iload_n 1, 1) := by decide +kernel
theorem dX1_seal_23 : decode cX1_seal 23 = .ok (.iconst 0, 1) := by decide +kernel
theorem dX1_seal_24 : decode cX1_seal 24 = .ok (.iastore, 1) := by decide +kernel
theorem dX1_seal_25 : decode cX1_seal 25 = .ok (.iload_n 2, 1) := by decide +kernel
theorem dX1_seal_26 : decode cX1_seal 26 = .ok (.ireturn, 1) := by decide +kernel
theorem dX1_setTolerance_0 : decode cX1_setTolerance 0 = .ok (.iload_n 1, 1) := by decide +kernel
theorem dX1_setTolerance_1 : decode cX1_setTolerance 1 = .ok (.iconst 0, 1) := by decide +kernel
theorem dX1_setTolerance_2 : decode cX1_setTolerance 2 = .ok (.bipush 100, 2) := by decide +kernel
theorem dX1_setTolerance_4 : decode cX1_setTolerance 4 = .ok (.invokestatic 44, 3) := by decide +kernel
theorem dX1_setTolerance_7 : decode cX1_setTolerance 7 = .ok (.ifCond .eq 13, 3) := by decide +kernel
theorem dX1_setTolerance_10 : decode cX1_setTolerance 10 = .ok (.new 48, 3) := by decide +kernel
theorem dX1_setTolerance_13 : decode cX1_setTolerance 13 = .ok (.dup, 1) := by decide +kernel
theorem dX1_setTolerance_14 : decode cX1_setTolerance 14 = .ok (.ldc 83, 2) := by decide +kernel
theorem dX1_setTolerance_16 : decode cX1_setTolerance 16 = .ok (.invokespecial 52, 3) := by decide +kernel
theorem dX1_setTolerance_19 : decode cX1_setTolerance 19 = .ok (.athrow, 1) := by decide +kernel
theorem dX1_setTolerance_20 : decode cX1_setTolerance 20 = .ok (.aload_n 0, 1) := by decide +kernel
theorem dX1_setTolerance_21 : decode cX1_setTolerance 21 = .ok (.getfield 26, 3) := by decide +kernel
theorem dX1_setTolerance_24 : decode cX1_setTolerance 24 = .ok (.getfield 85, 3) := by decide +kernel
theorem dX1_setTolerance_27 : decode cX1_setTolerance 27 = .ok (.istore_n 2, 1) := by decide +kernel
theorem dX1_setTolerance_28 : decode cX1_setTolerance 28 = .ok (.aload_n 0, 1) := by decide +kernel
theorem dX1_setTolerance_29 : decode cX1_setTolerance 29 = .ok (.getfield 26, 3) := by decide +kernel
theorem dX1_setTolerance_32 : decode cX1_setTolerance 32 = .ok (.iload_n 1, 1) := by decide +kernel
theorem dX1_setTolerance_33 : decode cX1_setTolerance 33 = .ok (.putfield 85, 3) := by decide +kernel
theorem dX1_setTolerance_36 : decode cX1_setTolerance 36 = .ok (.iload_n 2, 1) := by decide +kernel
theorem dX1_setTolerance_37 : decode cX1_setTolerance 37 = .ok (.ireturn, 1) := by decide +kernel
theorem dX1_passDays_0 : decode cX1_passDays 0 = .ok (.iload_n 1, 1) := by decide +kernel
theorem dX1_passDays_1 : decode cX1_passDays 1 = .ok (.invokestatic 88, 3) := by decide +kernel
theorem dX1_passDays_4 : decode cX1_passDays 4 = .ok (.aload_n 0, 1) := by decide +kernel
theorem dX1_passDays_5 : decode cX1_passDays 5 = .ok (.getfield 26, 3) := by decide +kernel
theorem dX1_passDays_8 : decode cX1_passDays 8 = .ok (.iload_n 1, 1) := by decide +kernel
theorem dX1_passDays_9 : decode cX1_passDays 9 = .ok (.invokevirtual 91, 3) := by decide +kernel
theorem dX1_passDays_12 : decode cX1_passDays 12 = .ok (.istore_n 2, 1) := by decide +kernel
theorem dX1_passDays_13 : decode cX1_passDays 13 = .ok (.aload_n 0, 1) := by decide +kernel
theorem dX1_passDays_14 : decode cX1_passDays 14 = .ok (.dup, 1) := by decide +kernel
theorem dX1_passDays_15 : decode cX1_passDays 15 = .ok (.getfield 95, 3) := by decide +kernel
theorem dX1_passDays_18 : decode cX1_passDays 18 = .ok (.iload_n 2, 1) := by decide +kernel
theorem dX1_passDays_19 : decode cX1_passDays 19 = .ok (.iadd, 1) := by decide +kernel
theorem dX1_passDays_20 : decode cX1_passDays 20 = .ok (.putfield 95, 3) := by decide +kernel
theorem dX1_passDays_23 : decode cX1_passDays 23 = .ok (.iload_n 2, 1) := by decide +kernel
theorem dX1_passDays_24 : decode cX1_passDays 24 = .ok (.ireturn, 1) := by decide +kernel
theorem dX1_measures_0 : decode cX1_measures 0 = .ok (.aload_n 0, 1) := by decide +kernel
theorem dX1_measures_1 : decode cX1_measures 1 = .ok (.getfield 33, 3) := by decide +kernel
theorem dX1_measures_4 : decode cX1_measures 4 = .ok (.ireturn, 1) := by decide +kernel
theorem dX1_stalls_0 : decode cX1_stalls 0 = .ok (.aload_n 0, 1) := by decide +kernel
theorem dX1_stalls_1 : decode cX1_stalls 1 = .ok (.getfield 26, 3) := by decide +kernel
theorem dX1_stalls_4 : decode cX1_stalls 4 = .ok (.getfield 69, 3) := by decide +kernel
theorem dX1_stalls_7 : decode cX1_stalls 7 = .ok (.ireturn, 1) := by decide +kernel
theorem dX1_days_0 : decode cX1_days 0 = .ok (.aload_n 0, 1) := by decide +kernel
theorem dX1_days_1 : decode cX1_days 1 = .ok (.getfield 26, 3) := by decide +kernel
theorem dX1_days_4 : decode cX1_days 4 = .ok (.getfield 98, 3) := by decide +kernel
theorem dX1_days_7 : decode cX1_days 7 = .ok (.ireturn, 1) := by decide +kernel
theorem dX1_standard_0 : decode cX1_standard 0 = .ok (.aload_n 0, 1) := by decide +kernel
theorem dX1_standard_1 : decode cX1_standard 1 = .ok (.getfield 37, 3) := by decide +kernel
theorem dX1_standard_4 : decode cX1_standard 4 = .ok (.ireturn, 1) := by decide +kernel
theorem dX1_tolerance_0 : decode cX1_tolerance 0 = .ok (.aload_n 0, 1) := by decide +kernel
theorem dX1_tolerance_1 : decode cX1_tolerance 1 = .ok (.getfield 26, 3) := by decide +kernel
theorem dX1_tolerance_4 : decode cX1_tolerance 4 = .ok (.getfield 85, 3) := by decide +kernel
theorem dX1_tolerance_7 : decode cX1_tolerance 7 = .ok (.ireturn, 1) := by decide +kernel
theorem dX1_fines_0 : decode cX1_fines 0 = .ok (.aload_n 0, 1) := by decide +kernel
theorem dX1_fines_1 : decode cX1_fines 1 = .ok (.getfield 95, 3) := by decide +kernel
theorem dX1_fines_4 : decode cX1_fines 4 = .ok (.ireturn, 1) := by decide +kernel
theorem dX1_baseOf_0 : decode cX1_baseOf 0 = .ok (.aload_n 0, 1) := by decide +kernel
theorem dX1_baseOf_1 : decode cX1_baseOf 1 = .ok (.iload_n 1, 1) := by decide +kernel
theorem dX1_baseOf_2 : decode cX1_baseOf 2 = .ok (.invokevirtual 40, 3) := by decide +kernel
theorem dX1_baseOf_5 : decode cX1_baseOf 5 = .ok (.aload_n 0, 1) := by decide +kernel
theorem dX1_baseOf_6 : decode cX1_baseOf 6 = .ok (.getfield 9, 3) := by decide +kernel
theorem dX1_baseOf_9 : decode cX1_baseOf 9 = .ok (.iload_n 1, 1) := by decide +kernel
theorem dX1_baseOf_10 : decode cX1_baseOf 10 = .ok (.iaload, 1) := by decide +kernel
theorem dX1_baseOf_11 : decode cX1_baseOf 11 = .ok (.ireturn, 1) := by decide +kernel
theorem dX1_stepsToEll_0 : decode cX1_stepsToEll 0 = .ok (.aload_n 0, 1) := by decide +kernel
theorem dX1_stepsToEll_1 : decode cX1_stepsToEll 1 = .ok (.iload_n 1, 1) := by decide +kernel
theorem dX1_stepsToEll_2 : decode cX1_stepsToEll 2 = .ok (.invokevirtual 40, 3) := by decide +kernel
theorem dX1_stepsToEll_5 : decode cX1_stepsToEll 5 = .ok (.aload_n 0, 1) := by decide +kernel
theorem dX1_stepsToEll_6 : decode cX1_stepsToEll 6 = .ok (.getfield 13, 3) := by decide +kernel
theorem dX1_stepsToEll_9 : decode cX1_stepsToEll 9 = .ok (.iload_n 1, 1) := by decide +kernel
theorem dX1_stepsToEll_10 : decode cX1_stepsToEll 10 = .ok (.iaload, 1) := by decide +kernel
theorem dX1_stepsToEll_11 : decode cX1_stepsToEll 11 = .ok (.ireturn, 1) := by decide +kernel
theorem dX1_lengthTop_0 : decode cX1_lengthTop 0 = .ok (.aload_n 0, 1) := by decide +kernel
theorem dX1_lengthTop_1 : decode cX1_lengthTop 1 = .ok (.iload_n 1, 1) := by decide +kernel
theorem dX1_lengthTop_2 : decode cX1_lengthTop 2 = .ok (.invokevirtual 40, 3) := by decide +kernel
theorem dX1_lengthTop_5 : decode cX1_lengthTop 5 = .ok (.aload_n 0, 1) := by decide +kernel
theorem dX1_lengthTop_6 : decode cX1_lengthTop 6 = .ok (.getfield 16, 3) := by decide +kernel
theorem dX1_lengthTop_9 : decode cX1_lengthTop 9 = .ok (.iload_n 1, 1) := by decide +kernel
theorem dX1_lengthTop_10 : decode cX1_lengthTop 10 = .ok (.laload, 1) := by decide +kernel
theorem dX1_lengthTop_11 : decode cX1_lengthTop 11 = .ok (.aload_n 0, 1) := by decide +kernel
theorem dX1_lengthTop_12 : decode cX1_lengthTop 12 = .ok (.getfield 16, 3) := by decide +kernel
theorem dX1_lengthTop_15 : decode cX1_lengthTop 15 = .ok (.aload_n 0, 1) := by decide +kernel
theorem dX1_lengthTop_16 : decode cX1_lengthTop 16 = .ok (.getfield 37, 3) := by decide +kernel
theorem dX1_lengthTop_19 : decode cX1_lengthTop 19 = .ok (.laload, 1) := by decide +kernel
theorem dX1_lengthTop_20 : decode cX1_lengthTop 20 = .ok (.invokestatic 101, 3) := by decide +kernel
theorem dX1_lengthTop_23 : decode cX1_lengthTop 23 = .ok (.lreturn, 1) := by decide +kernel
theorem dX1_lengthBottom_0 : decode cX1_lengthBottom 0 = .ok (.aload_n 0, 1) := by decide +kernel
theorem dX1_lengthBottom_1 : decode cX1_lengthBottom 1 = .ok (.iload_n 1, 1) := by decide +kernel
theorem dX1_lengthBottom_2 : decode cX1_lengthBottom 2 = .ok (.invokevirtual 40, 3) := by decide +kernel
theorem dX1_lengthBottom_5 : decode cX1_lengthBottom 5 = .ok (.aload_n 0, 1) := by decide +kernel
theorem dX1_lengthBottom_6 : decode cX1_lengthBottom 6 = .ok (.getfield 16, 3) := by decide +kernel
theorem dX1_lengthBottom_9 : decode cX1_lengthBottom 9 = .ok (.aload_n 0, 1) := by decide +kernel
theorem dX1_lengthBottom_10 : decode cX1_lengthBottom 10 = .ok (.getfield 37, 3) := by decide +kernel
theorem dX1_lengthBottom_13 : decode cX1_lengthBottom 13 = .ok (.laload, 1) := by decide +kernel
theorem dX1_lengthBottom_14 : decode cX1_lengthBottom 14 = .ok (.aload_n 0, 1) := by decide +kernel
theorem dX1_lengthBottom_15 : decode cX1_lengthBottom 15 = .ok (.getfield 16, 3) := by decide +kernel
theorem dX1_lengthBottom_18 : decode cX1_lengthBottom 18 = .ok (.iload_n 1, 1) := by decide +kernel
theorem dX1_lengthBottom_19 : decode cX1_lengthBottom 19 = .ok (.laload, 1) := by decide +kernel
theorem dX1_lengthBottom_20 : decode cX1_lengthBottom 20 = .ok (.invokestatic 101, 3) := by decide +kernel
theorem dX1_lengthBottom_23 : decode cX1_lengthBottom 23 = .ok (.lreturn, 1) := by decide +kernel
theorem dX1_isLonger_0 : decode cX1_isLonger 0 = .ok (.aload_n 0, 1) := by decide +kernel
theorem dX1_isLonger_1 : decode cX1_isLonger 1 = .ok (.iload_n 1, 1) := by decide +kernel
theorem dX1_isLonger_2 : decode cX1_isLonger 2 = .ok (.invokevirtual 40, 3) := by decide +kernel
theorem dX1_isLonger_5 : decode cX1_isLonger 5 = .ok (.aload_n 0, 1) := by decide +kernel
theorem dX1_isLonger_6 : decode cX1_isLonger 6 = .ok (.iload_n 2, 1) := by decide +kernel
theorem dX1_isLonger_7 : decode cX1_isLonger 7 = .ok (.invokevirtual 40, 3) := by decide +kernel
theorem dX1_isLonger_10 : decode cX1_isLonger 10 = .ok (.aload_n 0, 1) := by decide +kernel
theorem dX1_isLonger_11 : decode cX1_isLonger 11 = .ok (.getfield 16, 3) := by decide +kernel
theorem dX1_isLonger_14 : decode cX1_isLonger 14 = .ok (.iload_n 1, 1) := by decide +kernel
theorem dX1_isLonger_15 : decode cX1_isLonger 15 = .ok (.laload, 1) := by decide +kernel
theorem dX1_isLonger_16 : decode cX1_isLonger 16 = .ok (.aload_n 0, 1) := by decide +kernel
theorem dX1_isLonger_17 : decode cX1_isLonger 17 = .ok (.getfield 16, 3) := by decide +kernel
theorem dX1_isLonger_20 : decode cX1_isLonger 20 = .ok (.iload_n 2, 1) := by decide +kernel
theorem dX1_isLonger_21 : decode cX1_isLonger 21 = .ok (.laload, 1) := by decide +kernel
theorem dX1_isLonger_22 : decode cX1_isLonger 22 = .ok (.lcmp, 1) := by decide +kernel
theorem dX1_isLonger_23 : decode cX1_isLonger 23 = .ok (.ifCond .le 7, 3) := by decide +kernel
theorem dX1_isLonger_26 : decode cX1_isLonger 26 = .ok (.iconst 1, 1) := by decide +kernel
theorem dX1_isLonger_27 : decode cX1_isLonger 27 = .ok (.goto 4, 3) := by decide +kernel
theorem dX1_isLonger_30 : decode cX1_isLonger 30 = .ok (.iconst 0, 1) := by decide +kernel
theorem dX1_isLonger_31 : decode cX1_isLonger 31 = .ok (.ireturn, 1) := by decide +kernel
theorem dX1_longest_0 : decode cX1_longest 0 = .ok (.aload_n 0, 1) := by decide +kernel
theorem dX1_longest_1 : decode cX1_longest 1 = .ok (.getfield 20, 3) := by decide +kernel
theorem dX1_longest_4 : decode cX1_longest 4 = .ok (.iconst 0, 1) := by decide +kernel
theorem dX1_longest_5 : decode cX1_longest 5 = .ok (.iaload, 1) := by decide +kernel
theorem dX1_longest_6 : decode cX1_longest 6 = .ok (.ireturn, 1) := by decide +kernel
theorem dX1_shortest_0 : decode cX1_shortest 0 = .ok (.iconst 0, 1) := by decide +kernel
theorem dX1_shortest_1 : decode cX1_shortest 1 = .ok (.istore_n 1, 1) := by decide +kernel
theorem dX1_shortest_2 : decode cX1_shortest 2 = .ok (.iconst 1, 1) := by decide +kernel
theorem dX1_shortest_3 : decode cX1_shortest 3 = .ok (.istore_n 2, 1) := by decide +kernel
theorem dX1_shortest_4 : decode cX1_shortest 4 = .ok (.iload_n 2, 1) := by decide +kernel
theorem dX1_shortest_5 : decode cX1_shortest 5 = .ok (.aload_n 0, 1) := by decide +kernel
theorem dX1_shortest_6 : decode cX1_shortest 6 = .ok (.getfield 33, 3) := by decide +kernel
theorem dX1_shortest_9 : decode cX1_shortest 9 = .ok (.if_icmp .ge 27, 3) := by decide +kernel
theorem dX1_shortest_12 : decode cX1_shortest 12 = .ok (.aload_n 0, 1) := by decide +kernel
theorem dX1_shortest_13 : decode cX1_shortest 13 = .ok (.getfield 16, 3) := by decide +kernel
theorem dX1_shortest_16 : decode cX1_shortest 16 = .ok (.iload_n 2, 1) := by decide +kernel
theorem dX1_shortest_17 : decode cX1_shortest 17 = .ok (.laload, 1) := by decide +kernel
theorem dX1_shortest_18 : decode cX1_shortest 18 = .ok (.aload_n 0, 1) := by decide +kernel
theorem dX1_shortest_19 : decode cX1_shortest 19 = .ok (.getfield 16, 3) := by decide +kernel
theorem dX1_shortest_22 : decode cX1_shortest 22 = .ok (.iload_n 1, 1) := by decide +kernel
theorem dX1_shortest_23 : decode cX1_shortest 23 = .ok (.laload, 1) := by decide +kernel
theorem dX1_shortest_24 : decode cX1_shortest 24 = .ok (.lcmp, 1) := by decide +kernel
theorem dX1_shortest_25 : decode cX1_shortest 25 = .ok (.ifCond .ge 5, 3) := by decide +kernel
theorem dX1_shortest_28 : decode cX1_shortest 28 = .ok (.iload_n 2, 1) := by decide +kernel
theorem dX1_shortest_29 : decode cX1_shortest 29 = .ok (.istore_n 1, 1) := by decide +kernel
theorem dX1_shortest_30 : decode cX1_shortest 30 = .ok (.iinc 2 1, 3) := by decide +kernel
theorem dX1_shortest_33 : decode cX1_shortest 33 = .ok (.goto (-29), 3) := by decide +kernel
theorem dX1_shortest_36 : decode cX1_shortest 36 = .ok (.iload_n 1, 1) := by decide +kernel
theorem dX1_shortest_37 : decode cX1_shortest 37 = .ok (.ireturn, 1) := by decide +kernel
theorem dX1_fewestToMeet_0 : decode cX1_fewestToMeet 0 = .ok (.aload_n 0, 1) := by decide +kernel
theorem dX1_fewestToMeet_1 : decode cX1_fewestToMeet 1 = .ok (.iload_n 1, 1) := by decide +kernel
theorem dX1_fewestToMeet_2 : decode cX1_fewestToMeet 2 = .ok (.invokevirtual 40, 3) := by decide +kernel
theorem dX1_fewestToMeet_5 : decode cX1_fewestToMeet 5 = .ok (.aload_n 0, 1) := by decide +kernel
theorem dX1_fewestToMeet_6 : decode cX1_fewestToMeet 6 = .ok (.iload_n 2, 1) := by decide +kernel
theorem dX1_fewestToMeet_7 : decode cX1_fewestToMeet 7 = .ok (.invokevirtual 40, 3) := by decide +kernel
theorem dX1_fewestToMeet_10 : decode cX1_fewestToMeet 10 = .ok (.aload_n 0, 1) := by decide +kernel
theorem dX1_fewestToMeet_11 : decode cX1_fewestToMeet 11 = .ok (.getfield 16, 3) := by decide +kernel
theorem dX1_fewestToMeet_14 : decode cX1_fewestToMeet 14 = .ok (.iload_n 2, 1) := by decide +kernel
theorem dX1_fewestToMeet_15 : decode cX1_fewestToMeet 15 = .ok (.laload, 1) := by decide +kernel
theorem dX1_fewestToMeet_16 : decode cX1_fewestToMeet 16 = .ok (.aload_n 0, 1) := by decide +kernel
theorem dX1_fewestToMeet_17 : decode cX1_fewestToMeet 17 = .ok (.getfield 16, 3) := by decide +kernel
theorem dX1_fewestToMeet_20 : decode cX1_fewestToMeet 20 = .ok (.iload_n 1, 1) := by decide +kernel
theorem dX1_fewestToMeet_21 : decode cX1_fewestToMeet 21 = .ok (.laload, 1) := by decide +kernel
theorem dX1_fewestToMeet_22 : decode cX1_fewestToMeet 22 = .ok (.invokestatic 101, 3) := by decide +kernel
theorem dX1_fewestToMeet_25 : decode cX1_fewestToMeet 25 = .ok (.lreturn, 1) := by decide +kernel
theorem dX1_convert_0 : decode cX1_convert 0 = .ok (.aload_n 0, 1) := by decide +kernel
theorem dX1_convert_1 : decode cX1_convert 1 = .ok (.iload_n 2, 1) := by decide +kernel
theorem dX1_convert_2 : decode cX1_convert 2 = .ok (.invokevirtual 40, 3) := by decide +kernel
theorem dX1_convert_5 : decode cX1_convert 5 = .ok (.aload_n 0, 1) := by decide +kernel
theorem dX1_convert_6 : decode cX1_convert 6 = .ok (.iload_n 3, 1) := by decide +kernel
theorem dX1_convert_7 : decode cX1_convert 7 = .ok (.invokevirtual 40, 3) := by decide +kernel
theorem dX1_convert_10 : decode cX1_convert 10 = .ok (.iload_n 1, 1) := by decide +kernel
theorem dX1_convert_11 : decode cX1_convert 11 = .ok (.invokestatic 105, 3) := by decide +kernel
theorem dX1_convert_14 : decode cX1_convert 14 = .ok (.aload_n 0, 1) := by decide +kernel
theorem dX1_convert_15 : decode cX1_convert 15 = .ok (.getfield 16, 3) := by decide +kernel
theorem dX1_convert_18 : decode cX1_convert 18 = .ok (.iload_n 2, 1) := by decide +kernel
theorem dX1_convert_19 : decode cX1_convert 19 = .ok (.laload, 1) := by decide +kernel
theorem dX1_convert_20 : decode cX1_convert 20 = .ok (.iload_n 1, 1) := by decide +kernel
theorem dX1_convert_21 : decode cX1_convert 21 = .ok (.i2l, 1) := by decide +kernel
theorem dX1_convert_22 : decode cX1_convert 22 = .ok (.lmul, 1) := by decide +kernel
theorem dX1_convert_23 : decode cX1_convert 23 = .ok (.aload_n 0, 1) := by decide +kernel
theorem dX1_convert_24 : decode cX1_convert 24 = .ok (.getfield 16, 3) := by decide +kernel
theorem dX1_convert_27 : decode cX1_convert 27 = .ok (.iload_n 3, 1) := by decide +kernel
theorem dX1_convert_28 : decode cX1_convert 28 = .ok (.laload, 1) := by decide +kernel
theorem dX1_convert_29 : decode cX1_convert 29 = .ok (.invokestatic 108, 3) := by decide +kernel
theorem dX1_convert_32 : decode cX1_convert 32 = .ok (.lreturn, 1) := by decide +kernel
theorem dX1_isExact_0 : decode cX1_isExact 0 = .ok (.aload_n 0, 1) := by decide +kernel
theorem dX1_isExact_1 : decode cX1_isExact 1 = .ok (.iload_n 2, 1) := by decide +kernel
theorem dX1_isExact_2 : decode cX1_isExact 2 = .ok (.invokevirtual 40, 3) := by decide +kernel
theorem dX1_isExact_5 : decode cX1_isExact 5 = .ok (.aload_n 0, 1) := by decide +kernel
theorem dX1_isExact_6 : decode cX1_isExact 6 = .ok (.iload_n 3, 1) := by decide +kernel
theorem dX1_isExact_7 : decode cX1_isExact 7 = .ok (.invokevirtual 40, 3) := by decide +kernel
theorem dX1_isExact_10 : decode cX1_isExact 10 = .ok (.iload_n 1, 1) := by decide +kernel
theorem dX1_isExact_11 : decode cX1_isExact 11 = .ok (.invokestatic 105, 3) := by decide +kernel
theorem dX1_isExact_14 : decode cX1_isExact 14 = .ok (.aload_n 0, 1) := by decide +kernel
theorem dX1_isExact_15 : decode cX1_isExact 15 = .ok (.getfield 16, 3) := by decide +kernel
theorem dX1_isExact_18 : decode cX1_isExact 18 = .ok (.iload_n 2, 1) := by decide +kernel
theorem dX1_isExact_19 : decode cX1_isExact 19 = .ok (.laload, 1) := by decide +kernel
theorem dX1_isExact_20 : decode cX1_isExact 20 = .ok (.iload_n 1, 1) := by decide +kernel
theorem dX1_isExact_21 : decode cX1_isExact 21 = .ok (.i2l, 1) := by decide +kernel
theorem dX1_isExact_22 : decode cX1_isExact 22 = .ok (.lmul, 1) := by decide +kernel
theorem dX1_isExact_23 : decode cX1_isExact 23 = .ok (.aload_n 0, 1) := by decide +kernel
theorem dX1_isExact_24 : decode cX1_isExact 24 = .ok (.getfield 16, 3) := by decide +kernel
theorem dX1_isExact_27 : decode cX1_isExact 27 = .ok (.iload_n 3, 1) := by decide +kernel
theorem dX1_isExact_28 : decode cX1_isExact 28 = .ok (.laload, 1) := by decide +kernel
theorem dX1_isExact_29 : decode cX1_isExact 29 = .ok (.invokestatic 111, 3) := by decide +kernel
theorem dX1_isExact_32 : decode cX1_isExact 32 = .ok (.lconst 0, 1) := by decide +kernel
theorem dX1_isExact_33 : decode cX1_isExact 33 = .ok (.lcmp, 1) := by decide +kernel
theorem dX1_isExact_34 : decode cX1_isExact 34 = .ok (.ifCond .ne 7, 3) := by decide +kernel
theorem dX1_isExact_37 : decode cX1_isExact 37 = .ok (.iconst 1, 1) := by decide +kernel
theorem dX1_isExact_38 : decode cX1_isExact 38 = .ok (.goto 4, 3) := by decide +kernel
theorem dX1_isExact_41 : decode cX1_isExact 41 = .ok (.iconst 0, 1) := by decide +kernel
theorem dX1_isExact_42 : decode cX1_isExact 42 = .ok (.ireturn, 1) := by decide +kernel
theorem dX1_driftOf_0 : decode cX1_driftOf 0 = .ok (.aload_n 0, 1) := by decide +kernel
theorem dX1_driftOf_1 : decode cX1_driftOf 1 = .ok (.iload_n 1, 1) := by decide +kernel
theorem dX1_driftOf_2 : decode cX1_driftOf 2 = .ok (.invokevirtual 80, 3) := by decide +kernel
theorem dX1_driftOf_5 : decode cX1_driftOf 5 = .ok (.aload_n 0, 1) := by decide +kernel
theorem dX1_driftOf_6 : decode cX1_driftOf 6 = .ok (.getfield 26, 3) := by decide +kernel
theorem dX1_driftOf_9 : decode cX1_driftOf 9 = .ok (.getfield 77, 3) := by decide +kernel
theorem dX1_driftOf_12 : decode cX1_driftOf 12 = .ok (.iload_n 1, 1) := by decide +kernel
theorem dX1_driftOf_13 : decode cX1_driftOf 13 = .ok (.iaload, 1) := by decide +kernel
theorem dX1_driftOf_14 : decode cX1_driftOf 14 = .ok (.ireturn, 1) := by decide +kernel
theorem dX1_wearOf_0 : decode cX1_wearOf 0 = .ok (.aload_n 0, 1) := by decide +kernel
theorem dX1_wearOf_1 : decode cX1_wearOf 1 = .ok (.iload_n 1, 1) := by decide +kernel
theorem dX1_wearOf_2 : decode cX1_wearOf 2 = .ok (.invokevirtual 80, 3) := by decide +kernel
theorem dX1_wearOf_5 : decode cX1_wearOf 5 = .ok (.aload_n 0, 1) := by decide +kernel
theorem dX1_wearOf_6 : decode cX1_wearOf 6 = .ok (.getfield 26, 3) := by decide +kernel
theorem dX1_wearOf_9 : decode cX1_wearOf 9 = .ok (.getfield 74, 3) := by decide +kernel
theorem dX1_wearOf_12 : decode cX1_wearOf 12 = .ok (.iload_n 1, 1) := by decide +kernel
theorem dX1_wearOf_13 : decode cX1_wearOf 13 = .ok (.iaload, 1) := by decide +kernel
theorem dX1_wearOf_14 : decode cX1_wearOf 14 = .ok (.ireturn, 1) := by decide +kernel
theorem dX1_isHonest_0 : decode cX1_isHonest 0 = .ok (.aload_n 0, 1) := by decide +kernel
theorem dX1_isHonest_1 : decode cX1_isHonest 1 = .ok (.iload_n 1, 1) := by decide +kernel
theorem dX1_isHonest_2 : decode cX1_isHonest 2 = .ok (.invokevirtual 80, 3) := by decide +kernel
theorem dX1_isHonest_5 : decode cX1_isHonest 5 = .ok (.aload_n 0, 1) := by decide +kernel
theorem dX1_isHonest_6 : decode cX1_isHonest 6 = .ok (.getfield 26, 3) := by decide +kernel
theorem dX1_isHonest_9 : decode cX1_isHonest 9 = .ok (.aload_n 0, 1) := by decide +kernel
theorem dX1_isHonest_10 : decode cX1_isHonest 10 = .ok (.getfield 26, 3) := by decide +kernel
theorem dX1_isHonest_13 : decode cX1_isHonest 13 = .ok (.getfield 77, 3) := by decide +kernel
theorem dX1_isHonest_16 : decode cX1_isHonest 16 = .ok (.iload_n 1, 1) := by decide +kernel
theorem dX1_isHonest_17 : decode cX1_isHonest 17 = .ok (.iaload, 1) := by decide +kernel
theorem dX1_isHonest_18 : decode cX1_isHonest 18 = .ok (.invokevirtual 118, 3) := by decide +kernel
theorem dX1_isHonest_21 : decode cX1_isHonest 21 = .ok (.ireturn, 1) := by decide +kernel
theorem dX1_getsAt_0 : decode cX1_getsAt 0 = .ok (.aload_n 0, 1) := by decide +kernel
theorem dX1_getsAt_1 : decode cX1_getsAt 1 = .ok (.iload_n 1, 1) := by decide +kernel
theorem dX1_getsAt_2 : decode cX1_getsAt 2 = .ok (.invokevirtual 80, 3) := by decide +kernel
theorem dX1_getsAt_5 : decode cX1_getsAt 5 = .ok (.aload_n 0, 1) := by decide +kernel
theorem dX1_getsAt_6 : decode cX1_getsAt 6 = .ok (.iload_n 3, 1) := by decide +kernel
theorem dX1_getsAt_7 : decode cX1_getsAt 7 = .ok (.invokevirtual 40, 3) := by decide +kernel
theorem dX1_getsAt_10 : decode cX1_getsAt 10 = .ok (.iload_n 2, 1) := by decide +kernel
theorem dX1_getsAt_11 : decode cX1_getsAt 11 = .ok (.invokestatic 105, 3) := by decide +kernel
theorem dX1_getsAt_14 : decode cX1_getsAt 14 = .ok (.aload_n 0, 1) := by decide +kernel
theorem dX1_getsAt_15 : decode cX1_getsAt 15 = .ok (.aload_n 0, 1) := by decide +kernel
theorem dX1_getsAt_16 : decode cX1_getsAt 16 = .ok (.getfield 26, 3) := by decide +kernel
theorem dX1_getsAt_19 : decode cX1_getsAt 19 = .ok (.getfield 77, 3) := by decide +kernel
theorem dX1_getsAt_22 : decode cX1_getsAt 22 = .ok (.iload_n 1, 1) := by decide +kernel
theorem dX1_getsAt_23 : decode cX1_getsAt 23 = .ok (.iaload, 1) := by decide +kernel
theorem dX1_getsAt_24 : decode cX1_getsAt 24 = .ok (.iload_n 2, 1) := by decide +kernel
theorem dX1_getsAt_25 : decode cX1_getsAt 25 = .ok (.iload_n 3, 1) := by decide +kernel
theorem dX1_getsAt_26 : decode cX1_getsAt 26 = .ok (.invokevirtual 122, 3) := by decide +kernel
theorem dX1_getsAt_29 : decode cX1_getsAt 29 = .ok (.lreturn, 1) := by decide +kernel
theorem dX1_lossAt_0 : decode cX1_lossAt 0 = .ok (.aload_n 0, 1) := by decide +kernel
theorem dX1_lossAt_1 : decode cX1_lossAt 1 = .ok (.iload_n 1, 1) := by decide +kernel
theorem dX1_lossAt_2 : decode cX1_lossAt 2 = .ok (.invokevirtual 80, 3) := by decide +kernel
theorem dX1_lossAt_5 : decode cX1_lossAt 5 = .ok (.aload_n 0, 1) := by decide +kernel
theorem dX1_lossAt_6 : decode cX1_lossAt 6 = .ok (.iload_n 3, 1) := by decide +kernel
theorem dX1_lossAt_7 : decode cX1_lossAt 7 = .ok (.invokevirtual 40, 3) := by decide +kernel
theorem dX1_lossAt_10 : decode cX1_lossAt 10 = .ok (.iload_n 2, 1) := by decide +kernel
theorem dX1_lossAt_11 : decode cX1_lossAt 11 = .ok (.invokestatic 105, 3) := by decide +kernel
theorem dX1_lossAt_14 : decode cX1_lossAt 14 = .ok (.aload_n 0, 1) := by decide +kernel
theorem dX1_lossAt_15 : decode cX1_lossAt 15 = .ok (.iconst 0, 1) := by decide +kernel
theorem dX1_lossAt_16 : decode cX1_lossAt 16 = .ok (.iload_n 2, 1) := by decide +kernel
theorem dX1_lossAt_17 : decode cX1_lossAt 17 = .ok (.iload_n 3, 1) := by decide +kernel
theorem dX1_lossAt_18 : decode cX1_lossAt 18 = .ok (.invokevirtual 122, 3) := by decide +kernel
theorem dX1_lossAt_21 : decode cX1_lossAt 21 = .ok (.aload_n 0, 1) := by decide +kernel
theorem dX1_lossAt_22 : decode cX1_lossAt 22 = .ok (.aload_n 0, 1) := by decide +kernel
theorem dX1_lossAt_23 : decode cX1_lossAt 23 = .ok (.getfield 26, 3) := by decide +kernel
theorem dX1_lossAt_26 : decode cX1_lossAt 26 = .ok (.getfield 77, 3) := by decide +kernel
theorem dX1_lossAt_29 : decode cX1_lossAt 29 = .ok (.iload_n 1, 1) := by decide +kernel
theorem dX1_lossAt_30 : decode cX1_lossAt 30 = .ok (.iaload, 1) := by decide +kernel
theorem dX1_lossAt_31 : decode cX1_lossAt 31 = .ok (.iload_n 2, 1) := by decide +kernel
theorem dX1_lossAt_32 : decode cX1_lossAt 32 = .ok (.iload_n 3, 1) := by decide +kernel
theorem dX1_lossAt_33 : decode cX1_lossAt 33 = .ok (.invokevirtual 122, 3) := by decide +kernel
theorem dX1_lossAt_36 : decode cX1_lossAt 36 = .ok (.lsub, 1) := by decide +kernel
theorem dX1_lossAt_37 : decode cX1_lossAt 37 = .ok (.lreturn, 1) := by decide +kernel
theorem dX1_mostHonest_0 : decode cX1_mostHonest 0 = .ok (.iconst (-1), 1) := by decide +kernel
theorem dX1_mostHonest_1 : decode cX1_mostHonest 1 = .ok (.istore_n 1, 1) := by decide +kernel
theorem dX1_mostHonest_2 : decode cX1_mostHonest 2 = .ok (.sipush 301, 3) := by decide +kernel
theorem dX1_mostHonest_5 : decode cX1_mostHonest 5 = .ok (.istore_n 2, 1) := by decide +kernel
theorem dX1_mostHonest_6 : decode cX1_mostHonest 6 = .ok (.iconst 0, 1) := by decide +kernel
theorem dX1_mostHonest_7 : decode cX1_mostHonest 7 = .ok (.istore_n 3, 1) := by decide +kernel
theorem dX1_mostHonest_8 : decode cX1_mostHonest 8 = .ok (.iload_n 3, 1) := by decide +kernel
theorem dX1_mostHonest_9 : decode cX1_mostHonest 9 = .ok (.aload_n 0, 1) := by decide +kernel
theorem dX1_mostHonest_10 : decode cX1_mostHonest 10 = .ok (.getfield 26, 3) := by decide +kernel
theorem dX1_mostHonest_13 : decode cX1_mostHonest 13 = .ok (.getfield 69, 3) := by decide +kernel
theorem dX1_mostHonest_16 : decode cX1_mostHonest 16 = .ok (.if_icmp .ge 34, 3) := by decide +kernel
theorem dX1_mostHonest_19 : decode cX1_mostHonest 19 = .ok (.aload_n 0, 1) := by decide +kernel
theorem dX1_mostHonest_20 : decode cX1_mostHonest 20 = .ok (.getfield 26, 3) := by decide +kernel
theorem dX1_mostHonest_23 : decode cX1_mostHonest 23 = .ok (.getfield 77, 3) := by decide +kernel
theorem dX1_mostHonest_26 : decode cX1_mostHonest 26 = .ok (.iload_n 3, 1) := by decide +kernel
theorem dX1_mostHonest_27 : decode cX1_mostHonest 27 = .ok (.iaload, 1) := by decide +kernel
theorem dX1_mostHonest_28 : decode cX1_mostHonest 28 = .ok (.invokestatic 126, 3) := by decide +kernel
theorem dX1_mostHonest_31 : decode cX1_mostHonest 31 = .ok (.istore 4, 2) := by decide +kernel
theorem dX1_mostHonest_33 : decode cX1_mostHonest 33 = .ok (.iload 4, 2) := by decide +kernel
theorem dX1_mostHonest_35 : decode cX1_mostHonest 35 = .ok (.iload_n 2, 1) := by decide +kernel
theorem dX1_mostHonest_36 : decode cX1_mostHonest 36 = .ok (.if_icmp .ge 8, 3) := by decide +kernel
theorem dX1_mostHonest_39 : decode cX1_mostHonest 39 = .ok (.iload 4, 2) := by decide +kernel
theorem dX1_mostHonest_41 : decode cX1_mostHonest 41 = .ok (.istore_n 2, 1) := by decide +kernel
theorem dX1_mostHonest_42 : decode cX1_mostHonest 42 = .ok (.iload_n 3, 1) := by decide +kernel
theorem dX1_mostHonest_43 : decode cX1_mostHonest 43 = .ok (.istore_n 1, 1) := by decide +kernel
theorem dX1_mostHonest_44 : decode cX1_mostHonest 44 = .ok (.iinc 3 1, 3) := by decide +kernel
theorem dX1_mostHonest_47 : decode cX1_mostHonest 47 = .ok (.goto (-39), 3) := by decide +kernel
theorem dX1_mostHonest_50 : decode cX1_mostHonest 50 = .ok (.iload_n 1, 1) := by decide +kernel
theorem dX1_mostHonest_51 : decode cX1_mostHonest 51 = .ok (.ireturn, 1) := by decide +kernel
theorem dX1_mostGenerous_0 : decode cX1_mostGenerous 0 = .ok (.iconst (-1), 1) := by decide +kernel
theorem dX1_mostGenerous_1 : decode cX1_mostGenerous 1 = .ok (.istore_n 1, 1) := by decide +kernel
theorem dX1_mostGenerous_2 : decode cX1_mostGenerous 2 = .ok (.sipush (-301), 3) := by decide +kernel
theorem dX1_mostGenerous_5 : decode cX1_mostGenerous 5 = .ok (.istore_n 2, 1) := by decide +kernel
theorem dX1_mostGenerous_6 : decode cX1_mostGenerous 6 = .ok (.iconst 0, 1) := by decide +kernel
theorem dX1_mostGenerous_7 : decode cX1_mostGenerous 7 = .ok (.istore_n 3, 1) := by decide +kernel
theorem dX1_mostGenerous_8 : decode cX1_mostGenerous 8 = .ok (.iload_n 3, 1) := by decide +kernel
theorem dX1_mostGenerous_9 : decode cX1_mostGenerous 9 = .ok (.aload_n 0, 1) := by decide +kernel
theorem dX1_mostGenerous_10 : decode cX1_mostGenerous 10 = .ok (.getfield 26, 3) := by decide +kernel
theorem dX1_mostGenerous_13 : decode cX1_mostGenerous 13 = .ok (.getfield 69, 3) := by decide +kernel
theorem dX1_mostGenerous_16 : decode cX1_mostGenerous 16 = .ok (.if_icmp .ge 34, 3) := by decide +kernel
theorem dX1_mostGenerous_19 : decode cX1_mostGenerous 19 = .ok (.aload_n 0, 1) := by decide +kernel
theorem dX1_mostGenerous_20 : decode cX1_mostGenerous 20 = .ok (.getfield 26, 3) := by decide +kernel
theorem dX1_mostGenerous_23 : decode cX1_mostGenerous 23 = .ok (.getfield 77, 3) := by decide +kernel
theorem dX1_mostGenerous_26 : decode cX1_mostGenerous 26 = .ok (.iload_n 3, 1) := by decide +kernel
theorem dX1_mostGenerous_27 : decode cX1_mostGenerous 27 = .ok (.iaload, 1) := by decide +kernel
theorem dX1_mostGenerous_28 : decode cX1_mostGenerous 28 = .ok (.iload_n 2, 1) := by decide +kernel
theorem dX1_mostGenerous_29 : decode cX1_mostGenerous 29 = .ok (.if_icmp .le 15, 3) := by decide +kernel
theorem dX1_mostGenerous_32 : decode cX1_mostGenerous 32 = .ok (.aload_n 0, 1) := by decide +kernel
theorem dX1_mostGenerous_33 : decode cX1_mostGenerous 33 = .ok (.getfield 26, 3) := by decide +kernel
theorem dX1_mostGenerous_36 : decode cX1_mostGenerous 36 = .ok (.getfield 77, 3) := by decide +kernel
theorem dX1_mostGenerous_39 : decode cX1_mostGenerous 39 = .ok (.iload_n 3, 1) := by decide +kernel
theorem dX1_mostGenerous_40 : decode cX1_mostGenerous 40 = .ok (.iaload, 1) := by decide +kernel
theorem dX1_mostGenerous_41 : decode cX1_mostGenerous 41 = .ok (.istore_n 2, 1) := by decide +kernel
theorem dX1_mostGenerous_42 : decode cX1_mostGenerous 42 = .ok (.iload_n 3, 1) := by decide +kernel
theorem dX1_mostGenerous_43 : decode cX1_mostGenerous 43 = .ok (.istore_n 1, 1) := by decide +kernel
theorem dX1_mostGenerous_44 : decode cX1_mostGenerous 44 = .ok (.iinc 3 1, 3) := by decide +kernel
theorem dX1_mostGenerous_47 : decode cX1_mostGenerous 47 = .ok (.goto (-39), 3) := by decide +kernel
theorem dX1_mostGenerous_50 : decode cX1_mostGenerous 50 = .ok (.iload_n 1, 1) := by decide +kernel
theorem dX1_mostGenerous_51 : decode cX1_mostGenerous 51 = .ok (.ireturn, 1) := by decide +kernel
theorem dX1_meanDrift_0 : decode cX1_meanDrift 0 = .ok (.aload_n 0, 1) := by decide +kernel
theorem dX1_meanDrift_1 : decode cX1_meanDrift 1 = .ok (.getfield 26, 3) := by decide +kernel
theorem dX1_meanDrift_4 : decode cX1_meanDrift 4 = .ok (.getfield 69, 3) := by decide +kernel
theorem dX1_meanDrift_7 : decode cX1_meanDrift 7 = .ok (.iconst 1, 1) := by decide +kernel
theorem dX1_meanDrift_8 : decode cX1_meanDrift 8 = .ok (.if_icmp .ge 5, 3) := by decide +kernel
theorem dX1_meanDrift_11 : decode cX1_meanDrift 11 = .ok (.dconst 0, 1) := by decide +kernel
theorem dX1_meanDrift_12 : decode cX1_meanDrift 12 = .ok (.dreturn, 1) := by decide +kernel
theorem dX1_meanDrift_13 : decode cX1_meanDrift 13 = .ok (.iconst 0, 1) := by decide +kernel
theorem dX1_meanDrift_14 : decode cX1_meanDrift 14 = .ok (.istore_n 1, 1) := by decide +kernel
theorem dX1_meanDrift_15 : decode cX1_meanDrift 15 = .ok (.iconst 0, 1) := by decide +kernel
theorem dX1_meanDrift_16 : decode cX1_meanDrift 16 = .ok (.istore_n 2, 1) := by decide +kernel
theorem dX1_meanDrift_17 : decode cX1_meanDrift 17 = .ok (.iload_n 2, 1) := by decide +kernel
theorem dX1_meanDrift_18 : decode cX1_meanDrift 18 = .ok (.aload_n 0, 1) := by decide +kernel
theorem dX1_meanDrift_19 : decode cX1_meanDrift 19 = .ok (.getfield 26, 3) := by decide +kernel
theorem dX1_meanDrift_22 : decode cX1_meanDrift 22 = .ok (.getfield 69, 3) := by decide +kernel
theorem dX1_meanDrift_25 : decode cX1_meanDrift 25 = .ok (.if_icmp .ge 21, 3) := by decide +kernel
theorem dX1_meanDrift_28 : decode cX1_meanDrift 28 = .ok (.iload_n 1, 1) := by decide +kernel
theorem dX1_meanDrift_29 : decode cX1_meanDrift 29 = .ok (.aload_n 0, 1) := by decide +kernel
theorem dX1_meanDrift_30 : decode cX1_meanDrift 30 = .ok (.getfield 26, 3) := by decide +kernel
theorem dX1_meanDrift_33 : decode cX1_meanDrift 33 = .ok (.getfield 77, 3) := by decide +kernel
theorem dX1_meanDrift_36 : decode cX1_meanDrift 36 = .ok (.iload_n 2, 1) := by decide +kernel
theorem dX1_meanDrift_37 : decode cX1_meanDrift 37 = .ok (.iaload, 1) := by decide +kernel
theorem dX1_meanDrift_38 : decode cX1_meanDrift 38 = .ok (.iadd, 1) := by decide +kernel
theorem dX1_meanDrift_39 : decode cX1_meanDrift 39 = .ok (.istore_n 1, 1) := by decide +kernel
theorem dX1_meanDrift_40 : decode cX1_meanDrift 40 = .ok (.iinc 2 1, 3) := by decide +kernel
theorem dX1_meanDrift_43 : decode cX1_meanDrift 43 = .ok (.goto (-26), 3) := by decide +kernel
theorem dX1_meanDrift_46 : decode cX1_meanDrift 46 = .ok (.iload_n 1, 1) := by decide +kernel
theorem dX1_meanDrift_47 : decode cX1_meanDrift 47 = .ok (.i2d, 1) := by decide +kernel
theorem dX1_meanDrift_48 : decode cX1_meanDrift 48 = .ok (.aload_n 0, 1) := by decide +kernel
theorem dX1_meanDrift_49 : decode cX1_meanDrift 49 = .ok (.getfield 26, 3) := by decide +kernel
theorem dX1_meanDrift_52 : decode cX1_meanDrift 52 = .ok (.getfield 69, 3) := by decide +kernel
theorem dX1_meanDrift_55 : decode cX1_meanDrift 55 = .ok (.i2d, 1) := by decide +kernel
theorem dX1_meanDrift_56 : decode cX1_meanDrift 56 = .ok (.ddiv, 1) := by decide +kernel
theorem dX1_meanDrift_57 : decode cX1_meanDrift 57 = .ok (.dreturn, 1) := by decide +kernel
theorem dX1_needMeasure_0 : decode cX1_needMeasure 0 = .ok (.iload_n 1, 1) := by decide +kernel
theorem dX1_needMeasure_1 : decode cX1_needMeasure 1 = .ok (.iconst 0, 1) := by decide +kernel
theorem dX1_needMeasure_2 : decode cX1_needMeasure 2 = .ok (.aload_n 0, 1) := by decide +kernel
theorem dX1_needMeasure_3 : decode cX1_needMeasure 3 = .ok (.getfield 33, 3) := by decide +kernel
theorem dX1_needMeasure_6 : decode cX1_needMeasure 6 = .ok (.iconst 1, 1) := by decide +kernel
theorem dX1_needMeasure_7 : decode cX1_needMeasure 7 = .ok (.isub, 1) := by decide +kernel
theorem dX1_needMeasure_8 : decode cX1_needMeasure 8 = .ok (.invokestatic 44, 3) := by decide +kernel
theorem dX1_needMeasure_11 : decode cX1_needMeasure 11 = .ok (.ifCond .eq 13, 3) := by decide +kernel
theorem dX1_needMeasure_14 : decode cX1_needMeasure 14 = .ok (.new 221, 3) := by decide +kernel
theorem dX1_needMeasure_17 : decode cX1_needMeasure 17 = .ok (.dup, 1) := by decide +kernel
theorem dX1_needMeasure_18 : decode cX1_needMeasure 18 = .ok (.ldc 223, 2) := by decide +kernel
theorem dX1_needMeasure_20 : decode cX1_needMeasure 20 = .ok (.invokespecial 225, 3) := by decide +kernel
theorem dX1_needMeasure_23 : decode cX1_needMeasure 23 = .ok (.athrow, 1) := by decide +kernel
theorem dX1_needMeasure_24 : decode cX1_needMeasure 24 = .ok (.return_, 1) := by decide +kernel
theorem dX1_needStall_0 : decode cX1_needStall 0 = .ok (.iload_n 1, 1) := by decide +kernel
theorem dX1_needStall_1 : decode cX1_needStall 1 = .ok (.iconst 0, 1) := by decide +kernel
theorem dX1_needStall_2 : decode cX1_needStall 2 = .ok (.aload_n 0, 1) := by decide +kernel
theorem dX1_needStall_3 : decode cX1_needStall 3 = .ok (.getfield 26, 3) := by decide +kernel
theorem dX1_needStall_6 : decode cX1_needStall 6 = .ok (.getfield 69, 3) := by decide +kernel
theorem dX1_needStall_9 : decode cX1_needStall 9 = .ok (.iconst 1, 1) := by decide +kernel
theorem dX1_needStall_10 : decode cX1_needStall 10 = .ok (.isub, 1) := by decide +kernel
theorem dX1_needStall_11 : decode cX1_needStall 11 = .ok (.invokestatic 44, 3) := by decide +kernel
theorem dX1_needStall_14 : decode cX1_needStall 14 = .ok (.ifCond .eq 13, 3) := by decide +kernel
theorem dX1_needStall_17 : decode cX1_needStall 17 = .ok (.new 221, 3) := by decide +kernel
theorem dX1_needStall_20 : decode cX1_needStall 20 = .ok (.dup, 1) := by decide +kernel
theorem dX1_needStall_21 : decode cX1_needStall 21 = .ok (.ldc 226, 2) := by decide +kernel
theorem dX1_needStall_23 : decode cX1_needStall 23 = .ok (.invokespecial 225, 3) := by decide +kernel
theorem dX1_needStall_26 : decode cX1_needStall 26 = .ok (.athrow, 1) := by decide +kernel
theorem dX1_needStall_27 : decode cX1_needStall 27 = .ok (.return_, 1) := by decide +kernel
theorem dX1_needWear_0 : decode cX1_needWear 0 = .ok (.iload_n 0, 1) := by decide +kernel
theorem dX1_needWear_1 : decode cX1_needWear 1 = .ok (.bipush (-9), 2) := by decide +kernel
theorem dX1_needWear_3 : decode cX1_needWear 3 = .ok (.bipush 9, 2) := by decide +kernel
theorem dX1_needWear_5 : decode cX1_needWear 5 = .ok (.invokestatic 44, 3) := by decide +kernel
theorem dX1_needWear_8 : decode cX1_needWear 8 = .ok (.ifCond .eq 13, 3) := by decide +kernel
theorem dX1_needWear_11 : decode cX1_needWear 11 = .ok (.new 48, 3) := by decide +kernel
theorem dX1_needWear_14 : decode cX1_needWear 14 = .ok (.dup, 1) := by decide +kernel
theorem dX1_needWear_15 : decode cX1_needWear 15 = .ok (.ldc 228, 2) := by decide +kernel
theorem dX1_needWear_17 : decode cX1_needWear 17 = .ok (.invokespecial 52, 3) := by decide +kernel
theorem dX1_needWear_20 : decode cX1_needWear 20 = .ok (.athrow, 1) := by decide +kernel
theorem dX1_needWear_21 : decode cX1_needWear 21 = .ok (.return_, 1) := by decide +kernel
theorem dX1_needDays_0 : decode cX1_needDays 0 = .ok (.iload_n 0, 1) := by decide +kernel
theorem dX1_needDays_1 : decode cX1_needDays 1 = .ok (.iconst 1, 1) := by decide +kernel
theorem dX1_needDays_2 : decode cX1_needDays 2 = .ok (.bipush 60, 2) := by decide +kernel
theorem dX1_needDays_4 : decode cX1_needDays 4 = .ok (.invokestatic 44, 3) := by decide +kernel
theorem dX1_needDays_7 : decode cX1_needDays 7 = .ok (.ifCond .eq 13, 3) := by decide +kernel
theorem dX1_needDays_10 : decode cX1_needDays 10 = .ok (.new 48, 3) := by decide +kernel
theorem dX1_needDays_13 : decode cX1_needDays 13 = .ok (.dup, 1) := by decide +kernel
theorem dX1_needDays_14 : decode cX1_needDays 14 = .ok (.ldc 230, 2) := by decide +kernel
theorem dX1_needDays_16 : decode cX1_needDays 16 = .ok (.invokespecial 52, 3) := by decide +kernel
theorem dX1_needDays_19 : decode cX1_needDays 19 = .ok (.athrow, 1) := by decide +kernel
theorem dX1_needDays_20 : decode cX1_needDays 20 = .ok (.return_, 1) := by decide +kernel
theorem dX1_needMany_0 : decode cX1_needMany 0 = .ok (.iload_n 0, 1) := by decide +kernel
theorem dX1_needMany_1 : decode cX1_needMany 1 = .ok (.iconst 1, 1) := by decide +kernel
theorem dX1_needMany_2 : decode cX1_needMany 2 = .ok (.sipush 200, 3) := by decide +kernel
theorem dX1_needMany_5 : decode cX1_needMany 5 = .ok (.invokestatic 44, 3) := by decide +kernel
theorem dX1_needMany_8 : decode cX1_needMany 8 = .ok (.ifCond .eq 13, 3) := by decide +kernel
theorem dX1_needMany_11 : decode cX1_needMany 11 = .ok (.new 48, 3) := by decide +kernel
theorem dX1_needMany_14 : decode cX1_needMany 14 = .ok (.dup, 1) := by decide +kernel
theorem dX1_needMany_15 : decode cX1_needMany 15 = .ok (.ldc 232, 2) := by decide +kernel
theorem dX1_needMany_17 : decode cX1_needMany 17 = .ok (.invokespecial 52, 3) := by decide +kernel
theorem dX1_needMany_20 : decode cX1_needMany 20 = .ok (.athrow, 1) := by decide +kernel
theorem dX1_needMany_21 : decode cX1_needMany 21 = .ok (.return_, 1) := by decide +kernel
theorem dX1_isOutside_0 : decode cX1_isOutside 0 = .ok (.iload_n 0, 1) := by decide +kernel
theorem dX1_isOutside_1 : decode cX1_isOutside 1 = .ok (.iload_n 1, 1) := by decide +kernel
theorem dX1_isOutside_2 : decode cX1_isOutside 2 = .ok (.if_icmp .lt 8, 3) := by decide +kernel
theorem dX1_isOutside_5 : decode cX1_isOutside 5 = .ok (.iload_n 0, 1) := by decide +kernel
theorem dX1_isOutside_6 : decode cX1_isOutside 6 = .ok (.iload_n 2, 1) := by decide +kernel
theorem dX1_isOutside_7 : decode cX1_isOutside 7 = .ok (.if_icmp .le 7, 3) := by decide +kernel
theorem dX1_isOutside_10 : decode cX1_isOutside 10 = .ok (.iconst 1, 1) := by decide +kernel
theorem dX1_isOutside_11 : decode cX1_isOutside 11 = .ok (.goto 4, 3) := by decide +kernel
theorem dX1_isOutside_14 : decode cX1_isOutside 14 = .ok (.iconst 0, 1) := by decide +kernel
theorem dX1_isOutside_15 : decode cX1_isOutside 15 = .ok (.ireturn, 1) := by decide +kernel
theorem dX1_refineUnit_0 : decode cX1_refineUnit 0 = .ok (.iconst 0, 1) := by decide +kernel
theorem dX1_refineUnit_1 : decode cX1_refineUnit 1 = .ok (.istore_n 2, 1) := by decide +kernel
theorem dX1_refineUnit_2 : decode cX1_refineUnit 2 = .ok (.iload_n 2, 1) := by decide +kernel
theorem dX1_refineUnit_3 : decode cX1_refineUnit 3 = .ok (.aload_n 0, 1) := by decide +kernel
theorem dX1_refineUnit_4 : decode cX1_refineUnit 4 = .ok (.getfield 33, 3) := by decide +kernel
theorem dX1_refineUnit_7 : decode cX1_refineUnit 7 = .ok (.if_icmp .ge 20, 3) := by decide +kernel
theorem dX1_refineUnit_10 : decode cX1_refineUnit 10 = .ok (.aload_n 0, 1) := by decide +kernel
theorem dX1_refineUnit_11 : decode cX1_refineUnit 11 = .ok (.getfield 16, 3) := by decide +kernel
theorem dX1_refineUnit_14 : decode cX1_refineUnit 14 = .ok (.iload_n 2, 1) := by decide +kernel
theorem dX1_refineUnit_15 : decode cX1_refineUnit 15 = .ok (.dup2, 1) := by decide +kernel
theorem dX1_refineUnit_16 : decode cX1_refineUnit 16 = .ok (.laload, 1) := by decide +kernel
theorem dX1_refineUnit_17 : decode cX1_refineUnit 17 = .ok (.iload_n 1, 1) := by decide +kernel
theorem dX1_refineUnit_18 : decode cX1_refineUnit 18 = .ok (.i2l, 1) := by decide +kernel
theorem dX1_refineUnit_19 : decode cX1_refineUnit 19 = .ok (.lmul, 1) := by decide +kernel
theorem dX1_refineUnit_20 : decode cX1_refineUnit 20 = .ok (.lastore, 1) := by decide +kernel
theorem dX1_refineUnit_21 : decode cX1_refineUnit 21 = .ok (.iinc 2 1, 3) := by decide +kernel
theorem dX1_refineUnit_24 : decode cX1_refineUnit 24 = .ok (.goto (-22), 3) := by decide +kernel
theorem dX1_refineUnit_27 : decode cX1_refineUnit 27 = .ok (.return_, 1) := by decide +kernel
theorem dX1_rankLast_0 : decode cX1_rankLast 0 = .ok (.aload_n 0, 1) := by decide +kernel
theorem dX1_rankLast_1 : decode cX1_rankLast 1 = .ok (.getfield 33, 3) := by decide +kernel
theorem dX1_rankLast_4 : decode cX1_rankLast 4 = .ok (.iconst 1, 1) := by decide +kernel
theorem dX1_rankLast_5 : decode cX1_rankLast 5 = .ok (.isub, 1) := by decide +kernel
theorem dX1_rankLast_6 : decode cX1_rankLast 6 = .ok (.istore_n 1, 1) := by decide +kernel
theorem dX1_rankLast_7 : decode cX1_rankLast 7 = .ok (.iload_n 1, 1) := by decide +kernel
theorem dX1_rankLast_8 : decode cX1_rankLast 8 = .ok (.istore_n 2, 1) := by decide +kernel
theorem dX1_rankLast_9 : decode cX1_rankLast 9 = .ok (.iload_n 2, 1) := by decide +kernel
theorem dX1_rankLast_10 : decode cX1_rankLast 10 = .ok (.ifCond .le 40, 3) := by decide +kernel
theorem dX1_rankLast_13 : decode cX1_rankLast 13 = .ok (.aload_n 0, 1) := by decide +kernel
theorem dX1_rankLast_14 : decode cX1_rankLast 14 = .ok (.iload_n 2, 1) := by decide +kernel
theorem dX1_rankLast_15 : decode cX1_rankLast 15 = .ok (.iconst 1, 1) := by decide +kernel
theorem dX1_rankLast_16 : decode cX1_rankLast 16 = .ok (.isub, 1) := by decide +kernel
theorem dX1_rankLast_17 : decode cX1_rankLast 17 = .ok (.invokevirtual 114, 3) := by decide +kernel
theorem dX1_rankLast_20 : decode cX1_rankLast 20 = .ok (.aload_n 0, 1) := by decide +kernel
theorem dX1_rankLast_21 : decode cX1_rankLast 21 = .ok (.getfield 16, 3) := by decide +kernel
theorem dX1_rankLast_24 : decode cX1_rankLast 24 = .ok (.iload_n 1, 1) := by decide +kernel
theorem dX1_rankLast_25 : decode cX1_rankLast 25 = .ok (.laload, 1) := by decide +kernel
theorem dX1_rankLast_26 : decode cX1_rankLast 26 = .ok (.lcmp, 1) := by decide +kernel
theorem dX1_rankLast_27 : decode cX1_rankLast 27 = .ok (.ifCond .ge 23, 3) := by decide +kernel
theorem dX1_rankLast_30 : decode cX1_rankLast 30 = .ok (.aload_n 0, 1) := by decide +kernel
theorem dX1_rankLast_31 : decode cX1_rankLast 31 = .ok (.getfield 20, 3) := by decide +kernel
theorem dX1_rankLast_34 : decode cX1_rankLast 34 = .ok (.iload_n 2, 1) := by decide +kernel
theorem dX1_rankLast_35 : decode cX1_rankLast 35 = .ok (.aload_n 0, 1) := by decide +kernel
theorem dX1_rankLast_36 : decode cX1_rankLast 36 = .ok (.getfield 20, 3) := by decide +kernel
theorem dX1_rankLast_39 : decode cX1_rankLast 39 = .ok (.iload_n 2, 1) := by decide +kernel
theorem dX1_rankLast_40 : decode cX1_rankLast 40 = .ok (.iconst 1, 1) := by decide +kernel
theorem dX1_rankLast_41 : decode cX1_rankLast 41 = .ok (.isub, 1) := by decide +kernel
theorem dX1_rankLast_42 : decode cX1_rankLast 42 = .ok (.iaload, 1) := by decide +kernel
theorem dX1_rankLast_43 : decode cX1_rankLast 43 = .ok (.iastore, 1) := by decide +kernel
theorem dX1_rankLast_44 : decode cX1_rankLast 44 = .ok (.iinc 2 (-1), 3) := by decide +kernel
theorem dX1_rankLast_47 : decode cX1_rankLast 47 = .ok (.goto (-38), 3) := by decide +kernel
theorem dX1_rankLast_50 : decode cX1_rankLast 50 = .ok (.aload_n 0, 1) := by decide +kernel
theorem dX1_rankLast_51 : decode cX1_rankLast 51 = .ok (.getfield 20, 3) := by decide +kernel
theorem dX1_rankLast_54 : decode cX1_rankLast 54 = .ok (.iload_n 2, 1) := by decide +kernel
theorem dX1_rankLast_55 : decode cX1_rankLast 55 = .ok (.iload_n 1, 1) := by decide +kernel
theorem dX1_rankLast_56 : decode cX1_rankLast 56 = .ok (.iastore, 1) := by decide +kernel
theorem dX1_rankLast_57 : decode cX1_rankLast 57 = .ok (.return_, 1) := by decide +kernel
theorem dX1_lengthAt_0 : decode cX1_lengthAt 0 = .ok (.aload_n 0, 1) := by decide +kernel
theorem dX1_lengthAt_1 : decode cX1_lengthAt 1 = .ok (.getfield 16, 3) := by decide +kernel
theorem dX1_lengthAt_4 : decode cX1_lengthAt 4 = .ok (.aload_n 0, 1) := by decide +kernel
theorem dX1_lengthAt_5 : decode cX1_lengthAt 5 = .ok (.getfield 20, 3) := by decide +kernel
theorem dX1_lengthAt_8 : decode cX1_lengthAt 8 = .ok (.iload_n 1, 1) := by decide +kernel
theorem dX1_lengthAt_9 : decode cX1_lengthAt 9 = .ok (.iaload, 1) := by decide +kernel
theorem dX1_lengthAt_10 : decode cX1_lengthAt 10 = .ok (.laload, 1) := by decide +kernel
theorem dX1_lengthAt_11 : decode cX1_lengthAt 11 = .ok (.lreturn, 1) := by decide +kernel
theorem dX1_givenWith_0 : decode cX1_givenWith 0 = .ok (.aload_n 0, 1) := by decide +kernel
theorem dX1_givenWith_1 : decode cX1_givenWith 1 = .ok (.getfield 16, 3) := by decide +kernel
theorem dX1_givenWith_4 : decode cX1_givenWith 4 = .ok (.iload_n 3, 1) := by decide +kernel
theorem dX1_givenWith_5 : decode cX1_givenWith 5 = .ok (.laload, 1) := by decide +kernel
theorem dX1_givenWith_6 : decode cX1_givenWith 6 = .ok (.iload_n 2, 1) := by decide +kernel
theorem dX1_givenWith_7 : decode cX1_givenWith 7 = .ok (.i2l, 1) := by decide +kernel
theorem dX1_givenWith_8 : decode cX1_givenWith 8 = .ok (.lmul, 1) := by decide +kernel
theorem dX1_givenWith_9 : decode cX1_givenWith 9 = .ok (.sipush 1000, 3) := by decide +kernel
theorem dX1_givenWith_12 : decode cX1_givenWith 12 = .ok (.iload_n 1, 1) := by decide +kernel
theorem dX1_givenWith_13 : decode cX1_givenWith 13 = .ok (.iadd, 1) := by decide +kernel
theorem dX1_givenWith_14 : decode cX1_givenWith 14 = .ok (.i2l, 1) := by decide +kernel
theorem dX1_givenWith_15 : decode cX1_givenWith 15 = .ok (.lmul, 1) := by decide +kernel
theorem dX1_givenWith_16 : decode cX1_givenWith 16 = .ok (.aload_n 0, 1) := by decide +kernel
theorem dX1_givenWith_17 : decode cX1_givenWith 17 = .ok (.getfield 16, 3) := by decide +kernel
theorem dX1_givenWith_20 : decode cX1_givenWith 20 = .ok (.aload_n 0, 1) := by decide +kernel
theorem dX1_givenWith_21 : decode cX1_givenWith 21 = .ok (.getfield 37, 3) := by decide +kernel
theorem dX1_givenWith_24 : decode cX1_givenWith 24 = .ok (.laload, 1) := by decide +kernel
theorem dX1_givenWith_25 : decode cX1_givenWith 25 = .ok (.invokestatic 108, 3) := by decide +kernel
theorem dX1_givenWith_28 : decode cX1_givenWith 28 = .ok (.lreturn, 1) := by decide +kernel
theorem dX1_timesIn_0 : decode cX1_timesIn 0 = .ok (.lload_n 2, 1) := by decide +kernel
theorem dX1_timesIn_1 : decode cX1_timesIn 1 = .ok (.lconst 1, 1) := by decide +kernel
theorem dX1_timesIn_2 : decode cX1_timesIn 2 = .ok (.lcmp, 1) := by decide +kernel
theorem dX1_timesIn_3 : decode cX1_timesIn 3 = .ok (.ifCond .ge 7, 3) := by decide +kernel
theorem dX1_timesIn_6 : decode cX1_timesIn 6 = .ok (.lconst 0, 1) := by decide +kernel
theorem dX1_timesIn_7 : decode cX1_timesIn 7 = .ok (.goto 6, 3) := by decide +kernel
theorem dX1_timesIn_10 : decode cX1_timesIn 10 = .ok (.lload_n 0, 1) := by decide +kernel
theorem dX1_timesIn_11 : decode cX1_timesIn 11 = .ok (.lload_n 2, 1) := by decide +kernel
theorem dX1_timesIn_12 : decode cX1_timesIn 12 = .ok (.ldiv, 1) := by decide +kernel
theorem dX1_timesIn_13 : decode cX1_timesIn 13 = .ok (.lreturn, 1) := by decide +kernel
theorem dX1_leftOf_0 : decode cX1_leftOf 0 = .ok (.lload_n 2, 1) := by decide +kernel
theorem dX1_leftOf_1 : decode cX1_leftOf 1 = .ok (.lconst 1, 1) := by decide +kernel
theorem dX1_leftOf_2 : decode cX1_leftOf 2 = .ok (.lcmp, 1) := by decide +kernel
theorem dX1_leftOf_3 : decode cX1_leftOf 3 = .ok (.ifCond .ge 7, 3) := by decide +kernel
theorem dX1_leftOf_6 : decode cX1_leftOf 6 = .ok (.lload_n 0, 1) := by decide +kernel
theorem dX1_leftOf_7 : decode cX1_leftOf 7 = .ok (.goto 6, 3) := by decide +kernel
theorem dX1_leftOf_10 : decode cX1_leftOf 10 = .ok (.lload_n 0, 1) := by decide +kernel
theorem dX1_leftOf_11 : decode cX1_leftOf 11 = .ok (.lload_n 2, 1) := by decide +kernel
theorem dX1_leftOf_12 : decode cX1_leftOf 12 = .ok (.lrem, 1) := by decide +kernel
theorem dX1_leftOf_13 : decode cX1_leftOf 13 = .ok (.lreturn, 1) := by decide +kernel
theorem dX1_withoutCommonDivisor_0 : decode cX1_withoutCommonDivisor 0 = .ok (.lload_n 0, 1) := by decide +kernel
theorem dX1_withoutCommonDivisor_1 : decode cX1_withoutCommonDivisor 1 = .ok (.lload_n 0, 1) := by decide +kernel
theorem dX1_withoutCommonDivisor_2 : decode cX1_withoutCommonDivisor 2 = .ok (.lload_n 2, 1) := by decide +kernel
theorem dX1_withoutCommonDivisor_3 : decode cX1_withoutCommonDivisor 3 = .ok (.invokestatic 234, 3) := by decide +kernel
theorem dX1_withoutCommonDivisor_6 : decode cX1_withoutCommonDivisor 6 = .ok (.invokestatic 108, 3) := by decide +kernel
theorem dX1_withoutCommonDivisor_9 : decode cX1_withoutCommonDivisor 9 = .ok (.lreturn, 1) := by decide +kernel
theorem dX1_greatestCommonDivisor_0 : decode cX1_greatestCommonDivisor 0 = .ok (.lload_n 0, 1) := by decide +kernel
theorem dX1_greatestCommonDivisor_1 : decode cX1_greatestCommonDivisor 1 = .ok (.lstore 4, 2) := by decide +kernel
theorem dX1_greatestCommonDivisor_3 : decode cX1_greatestCommonDivisor 3 = .ok (.lload_n 2, 1) := by decide +kernel
theorem dX1_greatestCommonDivisor_4 : decode cX1_greatestCommonDivisor 4 = .ok (.lstore 6, 2) := by decide +kernel
theorem dX1_greatestCommonDivisor_6 : decode cX1_greatestCommonDivisor 6 = .ok (.iconst 0, 1) := by decide +kernel
theorem dX1_greatestCommonDivisor_7 : decode cX1_greatestCommonDivisor 7 = .ok (.istore 8, 2) := by decide +kernel
theorem dX1_greatestCommonDivisor_9 : decode cX1_greatestCommonDivisor 9 = .ok (.iload 8, 2) := by decide +kernel
theorem dX1_greatestCommonDivisor_11 : decode cX1_greatestCommonDivisor 11 = .ok (.bipush 100, 2) := by decide +kernel
theorem dX1_greatestCommonDivisor_13 : decode cX1_greatestCommonDivisor 13 = .ok (.if_icmp .ge 31, 3) := by decide +kernel
theorem dX1_greatestCommonDivisor_16 : decode cX1_greatestCommonDivisor 16 = .ok (.lload 6, 2) := by decide +kernel
theorem dX1_greatestCommonDivisor_18 : decode cX1_greatestCommonDivisor 18 = .ok (.lconst 0, 1) := by decide +kernel
theorem dX1_greatestCommonDivisor_19 : decode cX1_greatestCommonDivisor 19 = .ok (.lcmp, 1) := by decide +kernel
theorem dX1_greatestCommonDivisor_20 : decode cX1_greatestCommonDivisor 20 = .ok (.ifCond .le 24, 3) := by decide +kernel
theorem dX1_greatestCommonDivisor_23 : decode cX1_greatestCommonDivisor 23 = .ok (.lload 4, 2) := by decide +kernel
theorem dX1_greatestCommonDivisor_25 : decode cX1_greatestCommonDivisor 25 = .ok (.lload 6, 2) := by decide +kernel
theorem dX1_greatestCommonDivisor_27 : decode cX1_greatestCommonDivisor 27 = .ok (.lrem, 1) := by decide +kernel
theorem dX1_greatestCommonDivisor_28 : decode cX1_greatestCommonDivisor 28 = .ok (.lstore 9, 2) := by decide +kernel
theorem dX1_greatestCommonDivisor_30 : decode cX1_greatestCommonDivisor 30 = .ok (.lload 6, 2) := by decide +kernel
theorem dX1_greatestCommonDivisor_32 : decode cX1_greatestCommonDivisor 32 = .ok (.lstore 4, 2) := by decide +kernel
theorem dX1_greatestCommonDivisor_34 : decode cX1_greatestCommonDivisor 34 = .ok (.lload 9, 2) := by decide +kernel
theorem dX1_greatestCommonDivisor_36 : decode cX1_greatestCommonDivisor 36 = .ok (.lstore 6, 2) := by decide +kernel
theorem dX1_greatestCommonDivisor_38 : decode cX1_greatestCommonDivisor 38 = .ok (.iinc 8 1, 3) := by decide +kernel
theorem dX1_greatestCommonDivisor_41 : decode cX1_greatestCommonDivisor 41 = .ok (.goto (-32), 3) := by decide +kernel
theorem dX1_greatestCommonDivisor_44 : decode cX1_greatestCommonDivisor 44 = .ok (.lload 4, 2) := by decide +kernel
theorem dX1_greatestCommonDivisor_46 : decode cX1_greatestCommonDivisor 46 = .ok (.lreturn, 1) := by decide +kernel
theorem dJ9_floorMod_7cf53_0 : decode cJ9_floorMod_7cf53 0 = .ok (.iload_n 0, 1) := by decide +kernel
theorem dJ9_floorMod_7cf53_1 : decode cJ9_floorMod_7cf53 1 = .ok (.iload_n 1, 1) := by decide +kernel
theorem dJ9_floorMod_7cf53_2 : decode cJ9_floorMod_7cf53 2 = .ok (.irem, 1) := by decide +kernel
theorem dJ9_floorMod_7cf53_3 : decode cJ9_floorMod_7cf53 3 = .ok (.istore_n 2, 1) := by decide +kernel
theorem dJ9_floorMod_7cf53_4 : decode cJ9_floorMod_7cf53 4 = .ok (.iload_n 0, 1) := by decide +kernel
theorem dJ9_floorMod_7cf53_5 : decode cJ9_floorMod_7cf53 5 = .ok (.iload_n 1, 1) := by decide +kernel
theorem dJ9_floorMod_7cf53_6 : decode cJ9_floorMod_7cf53 6 = .ok (.ixor, 1) := by decide +kernel
theorem dJ9_floorMod_7cf53_7 : decode cJ9_floorMod_7cf53 7 = .ok (.ifCond .ge 11, 3) := by decide +kernel
theorem dJ9_floorMod_7cf53_10 : decode cJ9_floorMod_7cf53 10 = .ok (.iload_n 2, 1) := by decide +kernel
theorem dJ9_floorMod_7cf53_11 : decode cJ9_floorMod_7cf53 11 = .ok (.ifCond .eq 7, 3) := by decide +kernel
theorem dJ9_floorMod_7cf53_14 : decode cJ9_floorMod_7cf53 14 = .ok (.iload_n 2, 1) := by decide +kernel
theorem dJ9_floorMod_7cf53_15 : decode cJ9_floorMod_7cf53 15 = .ok (.iload_n 1, 1) := by decide +kernel
theorem dJ9_floorMod_7cf53_16 : decode cJ9_floorMod_7cf53 16 = .ok (.iadd, 1) := by decide +kernel
theorem dJ9_floorMod_7cf53_17 : decode cJ9_floorMod_7cf53 17 = .ok (.ireturn, 1) := by decide +kernel
theorem dJ9_floorMod_7cf53_18 : decode cJ9_floorMod_7cf53 18 = .ok (.iload_n 2, 1) := by decide +kernel
theorem dJ9_floorMod_7cf53_19 : decode cJ9_floorMod_7cf53 19 = .ok (.ireturn, 1) := by decide +kernel
theorem dJ9_abs_0f7a4_0 : decode cJ9_abs_0f7a4 0 = .ok (.iload_n 0, 1) := by decide +kernel
theorem dJ9_abs_0f7a4_1 : decode cJ9_abs_0f7a4 1 = .ok (.ifCond .ge 8, 3) := by decide +kernel
theorem dJ9_abs_0f7a4_4 : decode cJ9_abs_0f7a4 4 = .ok (.iload_n 0, 1) := by decide +kernel
theorem dJ9_abs_0f7a4_5 : decode cJ9_abs_0f7a4 5 = .ok (.ineg, 1) := by decide +kernel
theorem dJ9_abs_0f7a4_6 : decode cJ9_abs_0f7a4 6 = .ok (.goto 4, 3) := by decide +kernel
theorem dJ9_abs_0f7a4_9 : decode cJ9_abs_0f7a4 9 = .ok (.iload_n 0, 1) := by decide +kernel
theorem dJ9_abs_0f7a4_10 : decode cJ9_abs_0f7a4 10 = .ok (.ireturn, 1) := by decide +kernel
theorem dJ9_max_7cf53_0 : decode cJ9_max_7cf53 0 = .ok (.iload_n 0, 1) := by decide +kernel
theorem dJ9_max_7cf53_1 : decode cJ9_max_7cf53 1 = .ok (.iload_n 1, 1) := by decide +kernel
theorem dJ9_max_7cf53_2 : decode cJ9_max_7cf53 2 = .ok (.if_icmp .lt 7, 3) := by decide +kernel
theorem dJ9_max_7cf53_5 : decode cJ9_max_7cf53 5 = .ok (.iload_n 0, 1) := by decide +kernel
theorem dJ9_max_7cf53_6 : decode cJ9_max_7cf53 6 = .ok (.goto 4, 3) := by decide +kernel
theorem dJ9_max_7cf53_9 : decode cJ9_max_7cf53 9 = .ok (.iload_n 1, 1) := by decide +kernel
theorem dJ9_max_7cf53_10 : decode cJ9_max_7cf53 10 = .ok (.ireturn, 1) := by decide +kernel
theorem dJ9_min_7cf53_0 : decode cJ9_min_7cf53 0 = .ok (.iload_n 0, 1) := by decide +kernel
theorem dJ9_min_7cf53_1 : decode cJ9_min_7cf53 1 = .ok (.iload_n 1, 1) := by decide +kernel
theorem dJ9_min_7cf53_2 : decode cJ9_min_7cf53 2 = .ok (.if_icmp .gt 7, 3) := by decide +kernel
theorem dJ9_min_7cf53_5 : decode cJ9_min_7cf53 5 = .ok (.iload_n 0, 1) := by decide +kernel
theorem dJ9_min_7cf53_6 : decode cJ9_min_7cf53 6 = .ok (.goto 4, 3) := by decide +kernel
theorem dJ9_min_7cf53_9 : decode cJ9_min_7cf53 9 = .ok (.iload_n 1, 1) := by decide +kernel
theorem dJ9_min_7cf53_10 : decode cJ9_min_7cf53 10 = .ok (.ireturn, 1) := by decide +kernel
set_option maxRecDepth 20000 in
theorem ggX0_coinsPaidIn_X0_coinsPaidNextDay : GoodIn wsX0_coinsPaidIn wsX0_coinsPaidNextDay := goodIn_r _ [5, 6, 7, 8, 9, 10, 11, 4, 12, 13, 14, 15, 16, 17, 18, 19, 20, 21, 22, 23, 24, 25, 26, 27, 28, 29, 30, 31, 32, 33, 34, 35, 36, 37, 38, 39, 40, 41, 42, 43, 44] (by decide +kernel) (by decide +kernel)
set_option maxRecDepth 20000 in
theorem gX0_coinsPaidIn_X0_coinsPaidNextDay : GoodIn wsX0_coinsPaidIn (wsV RX0 28 RX0 yX0_coinsPaidNextDay wsX0_coinsPaidNextDay) := goodIn_app (goodIn_of _ (by decide +kernel)) ggX0_coinsPaidIn_X0_coinsPaidNextDay
set_option maxRecDepth 20000 in
theorem ggX0_coinsPaidNextDay_X0_held : GoodIn wsX0_coinsPaidNextDay wsX0_held := goodIn_r _ [8, 9, 10, 11, 12, 13, 14, 15] (by decide +kernel) (by decide +kernel)
set_option maxRecDepth 20000 in
theorem gX0_coinsPaidNextDay_X0_held : GoodIn wsX0_coinsPaidNextDay (va_wsS RX0 32 yX0_held wsX0_held) := goodIn_app (goodIn_of _ (by decide +kernel)) ggX0_coinsPaidNextDay_X0_held
set_option maxRecDepth 20000 in
theorem ggX0_coinsPaidNextDay_X0_visited : GoodIn wsX0_coinsPaidNextDay wsX0_visited := goodIn_r _ [19, 1, 4, 20, 21, 22, 23, 36, 37, 38, 39, 40] (by decide +kernel) (by decide +kernel)
set_option maxRecDepth 20000 in
theorem gX0_coinsPaidNextDay_X0_visited : GoodIn wsX0_coinsPaidNextDay (wsV RX0 36 RX0 yX0_visited wsX0_visited) := goodIn_app (goodIn_of _ (by decide +kernel)) ggX0_coinsPaidNextDay_X0_visited
set_option maxRecDepth 20000 in
theorem ggX0_coinsPaidNextDay_X0_finedAt : GoodIn wsX0_coinsPaidNextDay wsX0_finedAt := goodIn_r _ [27, 1, 2, 28, 29, 11, 30, 31, 32, 33, 7, 34, 35, 36, 37, 38, 39, 40] (by decide +kernel) (by decide +kernel)
set_option maxRecDepth 20000 in
theorem gX0_coinsPaidNextDay_X0_finedAt : GoodIn wsX0_coinsPaidNextDay (wsV RX0 39 RX0 yX0_finedAt wsX0_finedAt) := goodIn_app (goodIn_of _ (by decide +kernel)) ggX0_coinsPaidNextDay_X0_finedAt
set_option maxRecDepth 20000 in
theorem ggX0_visited_J9_floorMod_7cf53 : GoodIn wsX0_visited wsJ9_floorMod_7cf53 := goodIn_r _ [6] (by decide +kernel) (by decide +kernel)
set_option maxRecDepth 20000 in
theorem gX0_visited_J9_floorMod_7cf53 : GoodIn wsX0_visited (va_wsS RX0 42 yJ9_floorMod_7cf53 wsJ9_floorMod_7cf53) := goodIn_app (goodIn_of _ (by decide +kernel)) ggX0_visited_J9_floorMod_7cf53
set_option maxRecDepth 20000 in
theorem ggX0_finedAt_X0_isTolerated : GoodIn wsX0_finedAt wsX0_isTolerated := goodIn_r _ [11, 3, 4, 5, 6, 12, 13, 14, 15, 16, 17] (by decide +kernel) (by decide +kernel)
set_option maxRecDepth 20000 in
theorem gX0_finedAt_X0_isTolerated : GoodIn wsX0_finedAt (wsV RX0 48 RX0 yX0_isTolerated wsX0_isTolerated) := goodIn_app (goodIn_of _ (by decide +kernel)) ggX0_finedAt_X0_isTolerated
set_option maxRecDepth 20000 in
theorem ggX1_init_X0_init : GoodIn wsX1_init wsX0_init := goodIn_r _ [18, 19, 2, 3, 4, 20, 21, 22, 32, 33, 34, 35, 36] (by decide +kernel) (by decide +kernel)
set_option maxRecDepth 20000 in
theorem gX1_init_X0_init_n25 : GoodIn wsX1_init (wsX0_init) := ggX1_init_X0_init
set_option maxRecDepth 20000 in
theorem ggX1_addMeasure_X1_needMeasure : GoodIn wsX1_addMeasure wsX1_needMeasure := goodIn_ca (goodIn_r _ [13, 14, 15, 5, 16, 17, 12, 18, 32, 33, 34, 35, 36, 37, 38, 39, 40] (by decide +kernel) (by decide +kernel)) (goodIn_sub (fun _ h => List.mem_cons_of_mem _ (List.mem_append_right _ h)) (by decide +kernel))
set_option maxRecDepth 20000 in
theorem gX1_addMeasure_X1_needMeasure : GoodIn wsX1_addMeasure (wsV RX1 40 RX1 yX1_needMeasure wsX1_needMeasure) := goodIn_app (goodIn_of _ (by decide +kernel)) ggX1_addMeasure_X1_needMeasure
set_option maxRecDepth 20000 in
theorem ggX1_addMeasure_X1_isOutside : GoodIn wsX1_addMeasure wsX1_isOutside := goodIn_r _ [18] (by decide +kernel) (by decide +kernel)
set_option maxRecDepth 20000 in
theorem gX1_addMeasure_X1_isOutside : GoodIn wsX1_addMeasure (va_wsS RX1 44 yX1_isOutside wsX1_isOutside) := goodIn_app (goodIn_of _ (by decide +kernel)) ggX1_addMeasure_X1_isOutside
set_option maxRecDepth 20000 in
theorem ggX1_addMeasure_X1_refineUnit : GoodIn wsX1_addMeasure wsX1_refineUnit := goodIn_r _ [22, 5, 6, 32, 33, 34, 35, 36, 37, 38, 39, 40] (by decide +kernel) (by decide +kernel)
set_option maxRecDepth 20000 in
theorem gX1_addMeasure_X1_refineUnit : GoodIn wsX1_addMeasure (wsV RX1 60 RX1 yX1_refineUnit wsX1_refineUnit) := goodIn_app (goodIn_of _ (by decide +kernel)) ggX1_addMeasure_X1_refineUnit
set_option maxRecDepth 20000 in
theorem ggX1_addMeasure_X1_rankLast : GoodIn wsX1_addMeasure wsX1_rankLast := goodIn_r _ [26, 5, 6, 27, 28, 29, 30, 12, 31, 32, 33, 34, 35, 36, 37, 38, 39, 40] (by decide +kernel) (by decide +kernel)
set_option maxRecDepth 20000 in
theorem gX1_addMeasure_X1_rankLast : GoodIn wsX1_addMeasure (wsV RX1 63 RX1 yX1_rankLast wsX1_rankLast) := goodIn_app (goodIn_of _ (by decide +kernel)) ggX1_addMeasure_X1_rankLast
set_option maxRecDepth 20000 in
theorem ggX1_setStandard_X1_needMeasure : GoodIn wsX1_setStandard wsX1_needMeasure := goodIn_ca (goodIn_r _ [6, 7, 8, 9, 10, 11, 5, 12, 13, 14, 15, 16, 17, 18, 19, 20, 21] (by decide +kernel) (by decide +kernel)) (goodIn_sub (fun _ h => List.mem_cons_of_mem _ (List.mem_append_right _ h)) (by decide +kernel))
set_option maxRecDepth 20000 in
theorem gX1_setStandard_X1_needMeasure : GoodIn wsX1_setStandard (wsV RX1 40 RX1 yX1_needMeasure wsX1_needMeasure) := goodIn_app (goodIn_of _ (by decide +kernel)) ggX1_setStandard_X1_needMeasure
set_option maxRecDepth 20000 in
theorem ggX1_addStall_X1_needWear : GoodIn wsX1_addStall wsX1_needWear := goodIn_ca (goodIn_r _ [7, 8, 9, 10, 11, 6, 12] (by decide +kernel) (by decide +kernel)) (goodIn_sub (fun _ h => List.mem_cons_of_mem _ (List.mem_append_right _ h)) (by decide +kernel))
set_option maxRecDepth 20000 in
theorem gX1_addStall_X1_needWear : GoodIn wsX1_addStall (va_wsS RX1 66 yX1_needWear wsX1_needWear) := goodIn_app (goodIn_of _ (by decide +kernel)) ggX1_addStall_X1_needWear
set_option maxRecDepth 20000 in
theorem ggX1_setWear_X1_needStall : GoodIn wsX1_setWear wsX1_needStall := goodIn_ca (goodIn_r _ [6, 7, 8, 1, 9, 10, 5, 11, 17, 18, 19, 20, 21, 22, 23, 24, 25, 26, 27, 28, 29, 30] (by decide +kernel) (by decide +kernel)) (goodIn_sub (fun _ h => List.mem_cons_of_mem _ (List.mem_append_left _ (List.mem_append_right _ h))) (by decide +kernel))
set_option maxRecDepth 20000 in
theorem gX1_setWear_X1_needStall : GoodIn wsX1_setWear (wsV RX1 80 RX1 yX1_needStall wsX1_needStall) := goodIn_app (goodIn_of _ (by decide +kernel)) ggX1_setWear_X1_needStall
set_option maxRecDepth 20000 in
theorem ggX1_setWear_X1_needWear : GoodIn wsX1_setWear wsX1_needWear := goodIn_ca (goodIn_r _ [14, 15, 16, 9, 10, 5, 11] (by decide +kernel) (by decide +kernel)) (goodIn_sub (fun _ h => List.mem_cons_of_mem _ (List.mem_append_right _ h)) (by decide +kernel))
set_option maxRecDepth 20000 in
theorem gX1_setWear_X1_needWear : GoodIn wsX1_setWear (va_wsS RX1 66 yX1_needWear wsX1_needWear) := goodIn_app (goodIn_of _ (by decide +kernel)) ggX1_setWear_X1_needWear
set_option maxRecDepth 20000 in
theorem ggX1_seal_X1_needStall : GoodIn wsX1_seal wsX1_needStall := goodIn_ca (goodIn_r _ [6, 7, 8, 1, 9, 10, 5, 11, 12, 13, 14, 15, 16, 17, 18, 19, 20, 21, 22, 23, 24, 25] (by decide +kernel) (by decide +kernel)) (goodIn_sub (fun _ h => List.mem_cons_of_mem _ (List.mem_append_right _ h)) (by decide +kernel))
set_option maxRecDepth 20000 in
theorem gX1_seal_X1_needStall : GoodIn wsX1_seal (wsV RX1 80 RX1 yX1_needStall wsX1_needStall) := goodIn_app (goodIn_of _ (by decide +kernel)) ggX1_seal_X1_needStall
set_option maxRecDepth 20000 in
theorem ggX1_setTolerance_X1_isOutside : GoodIn wsX1_setTolerance wsX1_isOutside := goodIn_r _ [7] (by decide +kernel) (by decide +kernel)
set_option maxRecDepth 20000 in
theorem gX1_setTolerance_X1_isOutside : GoodIn wsX1_setTolerance (va_wsS RX1 44 yX1_isOutside wsX1_isOutside) := goodIn_app (goodIn_of _ (by decide +kernel)) ggX1_setTolerance_X1_isOutside
set_option maxRecDepth 20000 in
theorem ggX1_passDays_X1_needDays : GoodIn wsX1_passDays wsX1_needDays := goodIn_ca (goodIn_r _ [6, 7, 8, 9, 10, 5, 11] (by decide +kernel) (by decide +kernel)) (goodIn_sub (fun _ h => List.mem_cons_of_mem _ (List.mem_append_right _ h)) (by decide +kernel))
set_option maxRecDepth 20000 in
theorem gX1_passDays_X1_needDays : GoodIn wsX1_passDays (va_wsS RX1 88 yX1_needDays wsX1_needDays) := goodIn_app (goodIn_of _ (by decide +kernel)) ggX1_passDays_X1_needDays
set_option maxRecDepth 20000 in
theorem ggX1_passDays_X0_coinsPaidIn : GoodIn wsX1_passDays wsX0_coinsPaidIn := goodIn_r _ [15, 16, 17, 18, 13, 19, 20, 21, 22, 23, 24, 25, 26, 27, 28, 29, 30, 31, 32, 33, 34, 35, 36, 37, 38, 39, 40, 41, 42, 43, 44, 45, 46, 47, 48, 49, 50, 51, 52, 53, 63, 64, 65, 66, 67] (by decide +kernel) (by decide +kernel)
set_option maxRecDepth 20000 in
theorem gX1_passDays_X0_coinsPaidIn_n91 : GoodIn wsX1_passDays (wsX0_coinsPaidIn) := ggX1_passDays_X0_coinsPaidIn
set_option maxRecDepth 20000 in
theorem ggX1_baseOf_X1_needMeasure : GoodIn wsX1_baseOf wsX1_needMeasure := goodIn_ca (goodIn_r _ [6, 7, 8, 9, 10, 11, 5, 12, 13, 14, 15, 16, 17, 18, 19, 20, 21] (by decide +kernel) (by decide +kernel)) (goodIn_sub (fun _ h => List.mem_cons_of_mem _ (List.mem_append_right _ h)) (by decide +kernel))
set_option maxRecDepth 20000 in
theorem gX1_baseOf_X1_needMeasure : GoodIn wsX1_baseOf (wsV RX1 40 RX1 yX1_needMeasure wsX1_needMeasure) := goodIn_app (goodIn_of _ (by decide +kernel)) ggX1_baseOf_X1_needMeasure
set_option maxRecDepth 20000 in
theorem ggX1_stepsToEll_X1_needMeasure : GoodIn wsX1_stepsToEll wsX1_needMeasure := goodIn_ca (goodIn_r _ [6, 7, 8, 9, 10, 11, 5, 12, 13, 14, 15, 16, 17, 18, 19, 20, 21] (by decide +kernel) (by decide +kernel)) (goodIn_sub (fun _ h => List.mem_cons_of_mem _ (List.mem_append_right _ h)) (by decide +kernel))
set_option maxRecDepth 20000 in
theorem gX1_stepsToEll_X1_needMeasure : GoodIn wsX1_stepsToEll (wsV RX1 40 RX1 yX1_needMeasure wsX1_needMeasure) := goodIn_app (goodIn_of _ (by decide +kernel)) ggX1_stepsToEll_X1_needMeasure
set_option maxRecDepth 20000 in
theorem ggX1_lengthTop_X1_needMeasure : GoodIn wsX1_lengthTop wsX1_needMeasure := goodIn_ca (goodIn_r _ [7, 8, 9, 10, 11, 12, 6, 13, 23, 24, 25, 26, 27, 28, 29, 30, 31] (by decide +kernel) (by decide +kernel)) (goodIn_sub (fun _ h => List.mem_cons_of_mem _ (List.mem_append_right _ h)) (by decide +kernel))
set_option maxRecDepth 20000 in
theorem gX1_lengthTop_X1_needMeasure : GoodIn wsX1_lengthTop (wsV RX1 40 RX1 yX1_needMeasure wsX1_needMeasure) := goodIn_app (goodIn_of _ (by decide +kernel)) ggX1_lengthTop_X1_needMeasure
set_option maxRecDepth 20000 in
theorem ggX1_lengthTop_X1_withoutCommonDivisor : GoodIn wsX1_lengthTop wsX1_withoutCommonDivisor := goodIn_r _ [16, 17, 18, 6, 19, 20, 21, 22] (by decide +kernel) (by decide +kernel)
set_option maxRecDepth 20000 in
theorem gX1_lengthTop_X1_withoutCommonDivisor : GoodIn wsX1_lengthTop (va_wsS RX1 101 yX1_withoutCommonDivisor wsX1_withoutCommonDivisor) := goodIn_app (goodIn_of _ (by decide +kernel)) ggX1_lengthTop_X1_withoutCommonDivisor
set_option maxRecDepth 20000 in
theorem ggX1_lengthBottom_X1_needMeasure : GoodIn wsX1_lengthBottom wsX1_needMeasure := goodIn_ca (goodIn_r _ [7, 8, 9, 10, 11, 12, 6, 13, 23, 24, 25, 26, 27, 28, 29, 30, 31] (by decide +kernel) (by decide +kernel)) (goodIn_sub (fun _ h => List.mem_cons_of_mem _ (List.mem_append_right _ h)) (by decide +kernel))
set_option maxRecDepth 20000 in
theorem gX1_lengthBottom_X1_needMeasure : GoodIn wsX1_lengthBottom (wsV RX1 40 RX1 yX1_needMeasure wsX1_needMeasure) := goodIn_app (goodIn_of _ (by decide +kernel)) ggX1_lengthBottom_X1_needMeasure
set_option maxRecDepth 20000 in
theorem ggX1_lengthBottom_X1_withoutCommonDivisor : GoodIn wsX1_lengthBottom wsX1_withoutCommonDivisor := goodIn_r _ [16, 17, 18, 6, 19, 20, 21, 22] (by decide +kernel) (by decide +kernel)
set_option maxRecDepth 20000 in
theorem gX1_lengthBottom_X1_withoutCommonDivisor : GoodIn wsX1_lengthBottom (va_wsS RX1 101 yX1_withoutCommonDivisor wsX1_withoutCommonDivisor) := goodIn_app (goodIn_of _ (by decide +kernel)) ggX1_lengthBottom_X1_withoutCommonDivisor
set_option maxRecDepth 20000 in
theorem ggX1_isLonger_X1_needMeasure : GoodIn wsX1_isLonger wsX1_needMeasure := goodIn_ca (goodIn_r _ [6, 7, 8, 9, 10, 11, 5, 12, 13, 14, 15, 16, 17, 18, 19, 20, 21] (by decide +kernel) (by decide +kernel)) (goodIn_sub (fun _ h => List.mem_cons_of_mem _ (List.mem_append_right _ h)) (by decide +kernel))
set_option maxRecDepth 20000 in
theorem gX1_isLonger_X1_needMeasure : GoodIn wsX1_isLonger (wsV RX1 40 RX1 yX1_needMeasure wsX1_needMeasure) := goodIn_app (goodIn_of _ (by decide +kernel)) ggX1_isLonger_X1_needMeasure
set_option maxRecDepth 20000 in
theorem ggX1_fewestToMeet_X1_needMeasure : GoodIn wsX1_fewestToMeet wsX1_needMeasure := goodIn_ca (goodIn_r _ [6, 7, 8, 9, 10, 11, 5, 12, 22, 23, 24, 25, 26, 27, 28, 29, 30] (by decide +kernel) (by decide +kernel)) (goodIn_sub (fun _ h => List.mem_cons_of_mem _ (List.mem_append_right _ h)) (by decide +kernel))
set_option maxRecDepth 20000 in
theorem gX1_fewestToMeet_X1_needMeasure : GoodIn wsX1_fewestToMeet (wsV RX1 40 RX1 yX1_needMeasure wsX1_needMeasure) := goodIn_app (goodIn_of _ (by decide +kernel)) ggX1_fewestToMeet_X1_needMeasure
set_option maxRecDepth 20000 in
theorem ggX1_fewestToMeet_X1_withoutCommonDivisor : GoodIn wsX1_fewestToMeet wsX1_withoutCommonDivisor := goodIn_r _ [15, 16, 17, 5, 18, 19, 20, 21] (by decide +kernel) (by decide +kernel)
set_option maxRecDepth 20000 in
theorem gX1_fewestToMeet_X1_withoutCommonDivisor : GoodIn wsX1_fewestToMeet (va_wsS RX1 101 yX1_withoutCommonDivisor wsX1_withoutCommonDivisor) := goodIn_app (goodIn_of _ (by decide +kernel)) ggX1_fewestToMeet_X1_withoutCommonDivisor
set_option maxRecDepth 20000 in
theorem ggX1_convert_X1_needMeasure : GoodIn wsX1_convert wsX1_needMeasure := goodIn_ca (goodIn_r _ [6, 7, 8, 9, 10, 11, 5, 12, 21, 22, 23, 24, 25, 26, 27, 28, 29] (by decide +kernel) (by decide +kernel)) (goodIn_sub (fun _ h => List.mem_cons_of_mem _ (List.mem_append_left _ (List.mem_append_right _ h))) (by decide +kernel))
set_option maxRecDepth 20000 in
theorem gX1_convert_X1_needMeasure : GoodIn wsX1_convert (wsV RX1 40 RX1 yX1_needMeasure wsX1_needMeasure) := goodIn_app (goodIn_of _ (by decide +kernel)) ggX1_convert_X1_needMeasure
set_option maxRecDepth 20000 in
theorem ggX1_convert_X1_needMany : GoodIn wsX1_convert wsX1_needMany := goodIn_ca (goodIn_r _ [15, 16, 17, 10, 11, 5, 12] (by decide +kernel) (by decide +kernel)) (goodIn_sub (fun _ h => List.mem_cons_of_mem _ (List.mem_append_right _ h)) (by decide +kernel))
set_option maxRecDepth 20000 in
theorem gX1_convert_X1_needMany : GoodIn wsX1_convert (va_wsS RX1 105 yX1_needMany wsX1_needMany) := goodIn_app (goodIn_of _ (by decide +kernel)) ggX1_convert_X1_needMany
set_option maxRecDepth 20000 in
theorem ggX1_convert_X1_timesIn : GoodIn wsX1_convert wsX1_timesIn := goodIn_r _ [20] (by decide +kernel) (by decide +kernel)
set_option maxRecDepth 20000 in
theorem gX1_convert_X1_timesIn : GoodIn wsX1_convert (va_wsS RX1 108 yX1_timesIn wsX1_timesIn) := goodIn_app (goodIn_of _ (by decide +kernel)) ggX1_convert_X1_timesIn
set_option maxRecDepth 20000 in
theorem ggX1_isExact_X1_needMeasure : GoodIn wsX1_isExact wsX1_needMeasure := goodIn_ca (goodIn_r _ [6, 7, 8, 9, 10, 11, 5, 12, 21, 22, 23, 24, 25, 26, 27, 28, 29] (by decide +kernel) (by decide +kernel)) (goodIn_sub (fun _ h => List.mem_cons_of_mem _ (List.mem_append_left _ (List.mem_append_right _ h))) (by decide +kernel))
set_option maxRecDepth 20000 in
theorem gX1_isExact_X1_needMeasure : GoodIn wsX1_isExact (wsV RX1 40 RX1 yX1_needMeasure wsX1_needMeasure) := goodIn_app (goodIn_of _ (by decide +kernel)) ggX1_isExact_X1_needMeasure
set_option maxRecDepth 20000 in
theorem ggX1_isExact_X1_needMany : GoodIn wsX1_isExact wsX1_needMany := goodIn_ca (goodIn_r _ [15, 16, 17, 10, 11, 5, 12] (by decide +kernel) (by decide +kernel)) (goodIn_sub (fun _ h => List.mem_cons_of_mem _ (List.mem_append_right _ h)) (by decide +kernel))
set_option maxRecDepth 20000 in
theorem gX1_isExact_X1_needMany : GoodIn wsX1_isExact (va_wsS RX1 105 yX1_needMany wsX1_needMany) := goodIn_app (goodIn_of _ (by decide +kernel)) ggX1_isExact_X1_needMany
set_option maxRecDepth 20000 in
theorem ggX1_isExact_X1_leftOf : GoodIn wsX1_isExact wsX1_leftOf := goodIn_r _ [20] (by decide +kernel) (by decide +kernel)
set_option maxRecDepth 20000 in
theorem gX1_isExact_X1_leftOf : GoodIn wsX1_isExact (va_wsS RX1 111 yX1_leftOf wsX1_leftOf) := goodIn_app (goodIn_of _ (by decide +kernel)) ggX1_isExact_X1_leftOf
set_option maxRecDepth 20000 in
theorem ggX1_driftOf_X1_needStall : GoodIn wsX1_driftOf wsX1_needStall := goodIn_ca (goodIn_r _ [6, 7, 8, 1, 9, 10, 5, 11, 12, 13, 14, 15, 16, 17, 18, 19, 20, 21, 22, 23, 24, 25] (by decide +kernel) (by decide +kernel)) (goodIn_sub (fun _ h => List.mem_cons_of_mem _ (List.mem_append_right _ h)) (by decide +kernel))
set_option maxRecDepth 20000 in
theorem gX1_driftOf_X1_needStall : GoodIn wsX1_driftOf (wsV RX1 80 RX1 yX1_needStall wsX1_needStall) := goodIn_app (goodIn_of _ (by decide +kernel)) ggX1_driftOf_X1_needStall
set_option maxRecDepth 20000 in
theorem ggX1_wearOf_X1_needStall : GoodIn wsX1_wearOf wsX1_needStall := goodIn_ca (goodIn_r _ [6, 7, 8, 1, 9, 10, 5, 11, 12, 13, 14, 15, 16, 17, 18, 19, 20, 21, 22, 23, 24, 25] (by decide +kernel) (by decide +kernel)) (goodIn_sub (fun _ h => List.mem_cons_of_mem _ (List.mem_append_right _ h)) (by decide +kernel))
set_option maxRecDepth 20000 in
theorem gX1_wearOf_X1_needStall : GoodIn wsX1_wearOf (wsV RX1 80 RX1 yX1_needStall wsX1_needStall) := goodIn_app (goodIn_of _ (by decide +kernel)) ggX1_wearOf_X1_needStall
set_option maxRecDepth 20000 in
theorem ggX1_isHonest_X1_needStall : GoodIn wsX1_isHonest wsX1_needStall := goodIn_ca (goodIn_r _ [6, 7, 8, 1, 9, 10, 5, 11, 21, 22, 23, 24, 25, 26, 27, 28, 29, 30, 31, 32, 33, 34] (by decide +kernel) (by decide +kernel)) (goodIn_sub (fun _ h => List.mem_cons_of_mem _ (List.mem_append_right _ h)) (by decide +kernel))
set_option maxRecDepth 20000 in
theorem gX1_isHonest_X1_needStall : GoodIn wsX1_isHonest (wsV RX1 80 RX1 yX1_needStall wsX1_needStall) := goodIn_app (goodIn_of _ (by decide +kernel)) ggX1_isHonest_X1_needStall
set_option maxRecDepth 20000 in
theorem ggX1_isHonest_X0_isTolerated : GoodIn wsX1_isHonest wsX0_isTolerated := goodIn_r _ [15, 16, 17, 18, 19, 20, 30, 31, 32, 33, 34] (by decide +kernel) (by decide +kernel)
set_option maxRecDepth 20000 in
theorem gX1_isHonest_X0_isTolerated_n118 : GoodIn wsX1_isHonest (wsX0_isTolerated) := ggX1_isHonest_X0_isTolerated
set_option maxRecDepth 20000 in
theorem ggX1_getsAt_X1_needStall : GoodIn wsX1_getsAt wsX1_needStall := goodIn_ca (goodIn_r _ [6, 7, 8, 1, 9, 10, 5, 11, 31, 32, 33, 34, 35, 36, 37, 38, 39, 40, 41, 42, 43, 44] (by decide +kernel) (by decide +kernel)) (goodIn_sub (fun _ h => List.mem_cons_of_mem _ (List.mem_append_left _ (List.mem_append_right _ h))) (by decide +kernel))
set_option maxRecDepth 20000 in
theorem gX1_getsAt_X1_needStall : GoodIn wsX1_getsAt (wsV RX1 80 RX1 yX1_needStall wsX1_needStall) := goodIn_app (goodIn_of _ (by decide +kernel)) ggX1_getsAt_X1_needStall
set_option maxRecDepth 20000 in
theorem ggX1_getsAt_X1_needMeasure : GoodIn wsX1_getsAt wsX1_needMeasure := goodIn_ca (goodIn_r _ [15, 7, 8, 16, 9, 10, 5, 11, 31, 32, 33, 34, 35, 36, 37, 38, 39] (by decide +kernel) (by decide +kernel)) (goodIn_sub (fun _ h => List.mem_cons_of_mem _ (List.mem_append_left _ (List.mem_append_right _ h))) (by decide +kernel))
set_option maxRecDepth 20000 in
theorem gX1_getsAt_X1_needMeasure : GoodIn wsX1_getsAt (wsV RX1 40 RX1 yX1_needMeasure wsX1_needMeasure) := goodIn_app (goodIn_of _ (by decide +kernel)) ggX1_getsAt_X1_needMeasure
set_option maxRecDepth 20000 in
theorem ggX1_getsAt_X1_needMany : GoodIn wsX1_getsAt wsX1_needMany := goodIn_ca (goodIn_r _ [19, 20, 21, 9, 10, 5, 11] (by decide +kernel) (by decide +kernel)) (goodIn_sub (fun _ h => List.mem_cons_of_mem _ (List.mem_append_right _ h)) (by decide +kernel))
set_option maxRecDepth 20000 in
theorem gX1_getsAt_X1_needMany : GoodIn wsX1_getsAt (va_wsS RX1 105 yX1_needMany wsX1_needMany) := goodIn_app (goodIn_of _ (by decide +kernel)) ggX1_getsAt_X1_needMany
set_option maxRecDepth 20000 in
theorem ggX1_getsAt_X1_givenWith : GoodIn wsX1_getsAt wsX1_givenWith := goodIn_r _ [25, 26, 27, 28, 29, 5, 30, 31, 32, 33, 34, 35, 36, 37, 38, 39] (by decide +kernel) (by decide +kernel)
set_option maxRecDepth 20000 in
theorem gX1_getsAt_X1_givenWith : GoodIn wsX1_getsAt (wsV RX1 122 RX1 yX1_givenWith wsX1_givenWith) := goodIn_app (goodIn_of _ (by decide +kernel)) ggX1_getsAt_X1_givenWith
set_option maxRecDepth 20000 in
theorem ggX1_lossAt_X1_needStall : GoodIn wsX1_lossAt wsX1_needStall := goodIn_ca (goodIn_r _ [6, 7, 8, 1, 9, 10, 5, 11, 31, 32, 33, 34, 35, 36, 37, 38, 39, 40, 41, 42, 43, 44] (by decide +kernel) (by decide +kernel)) (goodIn_sub (fun _ h => List.mem_cons_of_mem _ (List.mem_append_left _ (List.mem_append_right _ h))) (by decide +kernel))
set_option maxRecDepth 20000 in
theorem gX1_lossAt_X1_needStall : GoodIn wsX1_lossAt (wsV RX1 80 RX1 yX1_needStall wsX1_needStall) := goodIn_app (goodIn_of _ (by decide +kernel)) ggX1_lossAt_X1_needStall
set_option maxRecDepth 20000 in
theorem ggX1_lossAt_X1_needMeasure : GoodIn wsX1_lossAt wsX1_needMeasure := goodIn_ca (goodIn_r _ [15, 7, 8, 16, 9, 10, 5, 11, 31, 32, 33, 34, 35, 36, 37, 38, 39] (by decide +kernel) (by decide +kernel)) (goodIn_sub (fun _ h => List.mem_cons_of_mem _ (List.mem_append_left _ (List.mem_append_right _ h))) (by decide +kernel))
set_option maxRecDepth 20000 in
theorem gX1_lossAt_X1_needMeasure : GoodIn wsX1_lossAt (wsV RX1 40 RX1 yX1_needMeasure wsX1_needMeasure) := goodIn_app (goodIn_of _ (by decide +kernel)) ggX1_lossAt_X1_needMeasure
set_option maxRecDepth 20000 in
theorem ggX1_lossAt_X1_needMany : GoodIn wsX1_lossAt wsX1_needMany := goodIn_ca (goodIn_r _ [19, 20, 21, 9, 10, 5, 11] (by decide +kernel) (by decide +kernel)) (goodIn_sub (fun _ h => List.mem_cons_of_mem _ (List.mem_append_right _ h)) (by decide +kernel))
set_option maxRecDepth 20000 in
theorem gX1_lossAt_X1_needMany : GoodIn wsX1_lossAt (va_wsS RX1 105 yX1_needMany wsX1_needMany) := goodIn_app (goodIn_of _ (by decide +kernel)) ggX1_lossAt_X1_needMany
set_option maxRecDepth 20000 in
theorem ggX1_lossAt_X1_givenWith : GoodIn wsX1_lossAt wsX1_givenWith := goodIn_r _ [25, 26, 27, 28, 29, 5, 30, 31, 32, 33, 34, 35, 36, 37, 38, 39] (by decide +kernel) (by decide +kernel)
set_option maxRecDepth 20000 in
theorem gX1_lossAt_X1_givenWith : GoodIn wsX1_lossAt (wsV RX1 122 RX1 yX1_givenWith wsX1_givenWith) := goodIn_app (goodIn_of _ (by decide +kernel)) ggX1_lossAt_X1_givenWith
set_option maxRecDepth 20000 in
theorem ggX1_needMeasure_X1_isOutside : GoodIn wsX1_needMeasure wsX1_isOutside := goodIn_r _ [7] (by decide +kernel) (by decide +kernel)
set_option maxRecDepth 20000 in
theorem gX1_needMeasure_X1_isOutside : GoodIn wsX1_needMeasure (va_wsS RX1 44 yX1_isOutside wsX1_isOutside) := goodIn_app (goodIn_of _ (by decide +kernel)) ggX1_needMeasure_X1_isOutside
set_option maxRecDepth 20000 in
theorem ggX1_needStall_X1_isOutside : GoodIn wsX1_needStall wsX1_isOutside := goodIn_r _ [7] (by decide +kernel) (by decide +kernel)
set_option maxRecDepth 20000 in
theorem gX1_needStall_X1_isOutside : GoodIn wsX1_needStall (va_wsS RX1 44 yX1_isOutside wsX1_isOutside) := goodIn_app (goodIn_of _ (by decide +kernel)) ggX1_needStall_X1_isOutside
set_option maxRecDepth 20000 in
theorem ggX1_needWear_X1_isOutside : GoodIn wsX1_needWear wsX1_isOutside := goodIn_r _ [6] (by decide +kernel) (by decide +kernel)
set_option maxRecDepth 20000 in
theorem gX1_needWear_X1_isOutside : GoodIn wsX1_needWear (va_wsS RX1 44 yX1_isOutside wsX1_isOutside) := goodIn_app (goodIn_of _ (by decide +kernel)) ggX1_needWear_X1_isOutside
set_option maxRecDepth 20000 in
theorem ggX1_needDays_X1_isOutside : GoodIn wsX1_needDays wsX1_isOutside := goodIn_r _ [6] (by decide +kernel) (by decide +kernel)
set_option maxRecDepth 20000 in
theorem gX1_needDays_X1_isOutside : GoodIn wsX1_needDays (va_wsS RX1 44 yX1_isOutside wsX1_isOutside) := goodIn_app (goodIn_of _ (by decide +kernel)) ggX1_needDays_X1_isOutside
set_option maxRecDepth 20000 in
theorem ggX1_needMany_X1_isOutside : GoodIn wsX1_needMany wsX1_isOutside := goodIn_r _ [6] (by decide +kernel) (by decide +kernel)
set_option maxRecDepth 20000 in
theorem gX1_needMany_X1_isOutside : GoodIn wsX1_needMany (va_wsS RX1 44 yX1_isOutside wsX1_isOutside) := goodIn_app (goodIn_of _ (by decide +kernel)) ggX1_needMany_X1_isOutside
set_option maxRecDepth 20000 in
theorem ggX1_rankLast_X1_lengthAt : GoodIn wsX1_rankLast wsX1_lengthAt := goodIn_r _ [8, 2, 3, 9, 10, 11, 12, 13, 14, 15, 16, 17] (by decide +kernel) (by decide +kernel)
set_option maxRecDepth 20000 in
theorem gX1_rankLast_X1_lengthAt : GoodIn wsX1_rankLast (wsV RX1 114 RX1 yX1_lengthAt wsX1_lengthAt) := goodIn_app (goodIn_of _ (by decide +kernel)) ggX1_rankLast_X1_lengthAt
set_option maxRecDepth 20000 in
theorem ggX1_givenWith_X1_timesIn : GoodIn wsX1_givenWith wsX1_timesIn := goodIn_r _ [6] (by decide +kernel) (by decide +kernel)
set_option maxRecDepth 20000 in
theorem gX1_givenWith_X1_timesIn : GoodIn wsX1_givenWith (va_wsS RX1 108 yX1_timesIn wsX1_timesIn) := goodIn_app (goodIn_of _ (by decide +kernel)) ggX1_givenWith_X1_timesIn
set_option maxRecDepth 20000 in
theorem ggX1_withoutCommonDivisor_X1_greatestCommonDivisor : GoodIn wsX1_withoutCommonDivisor wsX1_greatestCommonDivisor := goodIn_r _ [4] (by decide +kernel) (by decide +kernel)
set_option maxRecDepth 20000 in
theorem gX1_withoutCommonDivisor_X1_greatestCommonDivisor : GoodIn wsX1_withoutCommonDivisor (va_wsS RX1 234 yX1_greatestCommonDivisor wsX1_greatestCommonDivisor) := goodIn_app (goodIn_of _ (by decide +kernel)) ggX1_withoutCommonDivisor_X1_greatestCommonDivisor
set_option maxRecDepth 20000 in
theorem ggX1_withoutCommonDivisor_X1_timesIn : GoodIn wsX1_withoutCommonDivisor wsX1_timesIn := goodIn_r _ [7] (by decide +kernel) (by decide +kernel)
set_option maxRecDepth 20000 in
theorem gX1_withoutCommonDivisor_X1_timesIn : GoodIn wsX1_withoutCommonDivisor (va_wsS RX1 108 yX1_timesIn wsX1_timesIn) := goodIn_app (goodIn_of _ (by decide +kernel)) ggX1_withoutCommonDivisor_X1_timesIn
end
section
theorem dX2_init_0 : decode cX2_init 0 = .ok (.aload_n 0, 1) := by decide +kernel
theorem dX2_init_1 : decode cX2_init 1 = .ok (.invokespecial 1, 3) := by decide +kernel
theorem dX2_init_4 : decode cX2_init 4 = .ok (.aload_n 0, 1) := by decide +kernel
theorem dX2_init_5 : decode cX2_init 5 = .ok (.bipush 10, 2) := by decide +kernel
theorem dX2_init_7 : decode cX2_init 7 = .ok (.putfield 7, 3) := by decide +kernel
theorem dX2_init_10 : decode cX2_init 10 = .ok (.aload_n 0, 1) := by decide +kernel
theorem dX2_init_11 : decode cX2_init 11 = .ok (.iconst 1, 1) := by decide +kernel
theorem dX2_init_12 : decode cX2_init 12 = .ok (.anewarray 13, 3) := by decide +kernel
theorem dX2_init_15 : decode cX2_init 15 = .ok (.dup, 1) := by decide +kernel
theorem dX2_init_16 : decode cX2_init 16 = .ok (.iconst 0, 1) := by decide +kernel
theorem dX2_init_17 : decode cX2_init 17 = .ok (.iconst 3, 1) := by decide +kernel
theorem dX2_init_18 : decode cX2_init 18 = .ok (.newarray .int, 2) := by decide +kernel
theorem dX2_init_20 : decode cX2_init 20 = .ok (.dup, 1) := by decide +kernel
theorem dX2_init_21 : decode cX2_init 21 = .ok (.iconst 0, 1) := by decide +kernel
theorem dX2_init_22 : decode cX2_init 22 = .ok (.iconst (-1), 1) := by decide +kernel
theorem dX2_init_23 : decode cX2_init 23 = .ok (.iastore, 1) := by decide +kernel
theorem dX2_init_24 : decode cX2_init 24 = .ok (.dup, 1) := by decide +kernel
theorem dX2_init_25 : decode cX2_init 25 = .ok (.iconst 1, 1) := by decide +kernel
theorem dX2_init_26 : decode cX2_init 26 = .ok (.iconst 1, 1) := by decide +kernel
theorem dX2_init_27 : decode cX2_init 27 = .ok (.iastore, 1) := by decide +kernel
theorem dX2_init_28 : decode cX2_init 28 = .ok (.dup, 1) := by decide +kernel
theorem dX2_init_29 : decode cX2_init 29 = .ok (.iconst 2, 1) := by decide +kernel
theorem dX2_init_30 : decode cX2_init 30 = .ok (.iconst 1, 1) := by decide +kernel
theorem dX2_init_31 : decode cX2_init 31 = .ok (.iastore, 1) := by decide +kernel
theorem dX2_init_32 : decode cX2_init 32 = .ok (.aastore, 1) := by decide +kernel
theorem dX2_init_33 : decode cX2_init 33 = .ok (.putfield 15, 3) := by decide +kernel
theorem dX2_init_36 : decode cX2_init 36 = .ok (.aload_n 0, 1) := by decide +kernel
theorem dX2_init_37 : decode cX2_init 37 = .ok (.iconst 0, 1) := by decide +kernel
theorem dX2_init_38 : decode cX2_init 38 = .ok (.anewarray 13, 3) := by decide +kernel
theorem dX2_init_41 : decode cX2_init 41 = .ok (.putfield 19, 3) := by decide +kernel
theorem dX2_init_44 : decode cX2_init 44 = .ok (.return_, 1) := by decide +kernel
theorem dX2_with_0 : decode cX2_with 0 = .ok (.aload_n 0, 1) := by decide +kernel
theorem dX2_with_1 : decode cX2_with 1 = .ok (.arraylength, 1) := by decide +kernel
theorem dX2_with_2 : decode cX2_with 2 = .ok (.iconst 1, 1) := by decide +kernel
theorem dX2_with_3 : decode cX2_with 3 = .ok (.iadd, 1) := by decide +kernel
theorem dX2_with_4 : decode cX2_with 4 = .ok (.anewarray 13, 3) := by decide +kernel
theorem dX2_with_7 : decode cX2_with 7 = .ok (.astore_n 2, 1) := by decide +kernel
theorem dX2_with_8 : decode cX2_with 8 = .ok (.iconst 0, 1) := by decide +kernel
theorem dX2_with_9 : decode cX2_with 9 = .ok (.istore_n 3, 1) := by decide +kernel
theorem dX2_with_10 : decode cX2_with 10 = .ok (.iload_n 3, 1) := by decide +kernel
theorem dX2_with_11 : decode cX2_with 11 = .ok (.aload_n 0, 1) := by decide +kernel
theorem dX2_with_12 : decode cX2_with 12 = .ok (.arraylength, 1) := by decide +kernel
theorem dX2_with_13 : decode cX2_with 13 = .ok (.if_icmp .ge 15, 3) := by decide +kernel
theorem dX2_with_16 : decode cX2_with 16 = .ok (.aload_n 2, 1) := by decide +kernel
theorem dX2_with_17 : decode cX2_with 17 = .ok (.iload_n 3, 1) := by decide +kernel
theorem dX2_with_18 : decode cX2_with 18 = .ok (.aload_n 0, 1) := by decide +kernel
theorem dX2_with_19 : decode cX2_with 19 = .ok (.iload_n 3, 1) := by decide +kernel
theorem dX2_with_20 : decode cX2_with 20 = .ok (.aaload, 1) := by decide +kernel
theorem dX2_with_21 : decode cX2_with 21 = .ok (.aastore, 1) := by decide +kernel
theorem dX2_with_22 : decode cX2_with 22 = .ok (.iinc 3 1, 3) := by decide +kernel
theorem dX2_with_25 : decode cX2_with 25 = .ok (.goto (-15), 3) := by decide +kernel
theorem dX2_with_28 : decode cX2_with 28 = .ok (.aload_n 2, 1) := by decide +kernel
theorem dX2_with_29 : decode cX2_with 29 = .ok (.aload_n 0, 1) := by decide +kernel
theorem dX2_with_30 : decode cX2_with 30 = .ok (.arraylength, 1) := by decide +kernel
theorem dX2_with_31 : decode cX2_with 31 = .ok (.aload_n 1, 1) := by decide +kernel
theorem dX2_with_32 : decode cX2_with 32 = .ok (.aastore, 1) := by decide +kernel
theorem dX2_with_33 : decode cX2_with 33 = .ok (.aload_n 2, 1) := by decide +kernel
theorem dX2_with_34 : decode cX2_with 34 = .ok (.areturn, 1) := by decide +kernel
theorem dX2_divisor_0 : decode cX2_divisor 0 = .ok (.lload_n 2, 1) := by decide +kernel
theorem dX2_divisor_1 : decode cX2_divisor 1 = .ok (.lconst 0, 1) := by decide +kernel
theorem dX2_divisor_2 : decode cX2_divisor 2 = .ok (.lcmp, 1) := by decide +kernel
theorem dX2_divisor_3 : decode cX2_divisor 3 = .ok (.ifCond .ne 7, 3) := by decide +kernel
theorem dX2_divisor_6 : decode cX2_divisor 6 = .ok (.lload_n 0, 1) := by decide +kernel
theorem dX2_divisor_7 : decode cX2_divisor 7 = .ok (.goto 10, 3) := by decide +kernel
theorem dX2_divisor_10 : decode cX2_divisor 10 = .ok (.lload_n 2, 1) := by decide +kernel
theorem dX2_divisor_11 : decode cX2_divisor 11 = .ok (.lload_n 0, 1) := by decide +kernel
theorem dX2_divisor_12 : decode cX2_divisor 12 = .ok (.lload_n 2, 1) := by decide +kernel
theorem dX2_divisor_13 : decode cX2_divisor 13 = .ok (.lrem, 1) := by decide +kernel
theorem dX2_divisor_14 : decode cX2_divisor 14 = .ok (.invokestatic 22, 3) := by decide +kernel
theorem dX2_divisor_17 : decode cX2_divisor 17 = .ok (.lreturn, 1) := by decide +kernel
theorem dX2_ratio_0 : decode cX2_ratio 0 = .ok (.lconst 1, 1) := by decide +kernel
theorem dX2_ratio_1 : decode cX2_ratio 1 = .ok (.lstore_n 3, 1) := by decide +kernel
theorem dX2_ratio_2 : decode cX2_ratio 2 = .ok (.lconst 1, 1) := by decide +kernel
theorem dX2_ratio_3 : decode cX2_ratio 3 = .ok (.lstore 5, 2) := by decide +kernel
theorem dX2_ratio_5 : decode cX2_ratio 5 = .ok (.iload_n 1, 1) := by decide +kernel
theorem dX2_ratio_6 : decode cX2_ratio 6 = .ok (.istore 7, 2) := by decide +kernel
theorem dX2_ratio_8 : decode cX2_ratio 8 = .ok (.iload 7, 2) := by decide +kernel
theorem dX2_ratio_10 : decode cX2_ratio 10 = .ok (.ifCond .le 45, 3) := by decide +kernel
theorem dX2_ratio_13 : decode cX2_ratio 13 = .ok (.lload_n 3, 1) := by decide +kernel
theorem dX2_ratio_14 : decode cX2_ratio 14 = .ok (.aload_n 0, 1) := by decide +kernel
theorem dX2_ratio_15 : decode cX2_ratio 15 = .ok (.getfield 15, 3) := by decide +kernel
theorem dX2_ratio_18 : decode cX2_ratio 18 = .ok (.iload 7, 2) := by decide +kernel
theorem dX2_ratio_20 : decode cX2_ratio 20 = .ok (.aaload, 1) := by decide +kernel
theorem dX2_ratio_21 : decode cX2_ratio 21 = .ok (.iconst 1, 1) := by decide +kernel
theorem dX2_ratio_22 : decode cX2_ratio 22 = .ok (.iaload, 1) := by decide +kernel
theorem dX2_ratio_23 : decode cX2_ratio 23 = .ok (.i2l, 1) := by decide +kernel
theorem dX2_ratio_24 : decode cX2_ratio 24 = .ok (.lmul, 1) := by decide +kernel
theorem dX2_ratio_25 : decode cX2_ratio 25 = .ok (.lstore_n 3, 1) := by decide +kernel
theorem dX2_ratio_26 : decode cX2_ratio 26 = .ok (.lload 5, 2) := by decide +kernel
theorem dX2_ratio_28 : decode cX2_ratio 28 = .ok (.aload_n 0, 1) := by decide +kernel
theorem dX2_ratio_29 : decode cX2_ratio 29 = .ok (.getfield 15, 3) := by decide +kernel
theorem dX2_ratio_32 : decode cX2_ratio 32 = .ok (.iload 7, 2) := by decide +kernel
theorem dX2_ratio_34 : decode cX2_ratio 34 = .ok (.aaload, 1) := by decide +kernel
theorem dX2_ratio_35 : decode cX2_ratio 35 = .ok (.iconst 2, 1) := by decide +kernel
theorem dX2_ratio_36 : decode cX2_ratio 36 = .ok (.iaload, 1) := by decide +kernel
theorem dX2_ratio_37 : decode cX2_ratio 37 = .ok (.i2l, 1) := by decide +kernel
theorem dX2_ratio_38 : decode cX2_ratio 38 = .ok (.lmul, 1) := by decide +kernel
theorem dX2_ratio_39 : decode cX2_ratio 39 = .ok (.lstore 5, 2) := by decide +kernel
theorem dX2_ratio_41 : decode cX2_ratio 41 = .ok (.aload_n 0, 1) := by decide +kernel
theorem dX2_ratio_42 : decode cX2_ratio 42 = .ok (.getfield 15, 3) := by decide +kernel
theorem dX2_ratio_45 : decode cX2_ratio 45 = .ok (.iload 7, 2) := by decide +kernel
theorem dX2_ratio_47 : decode cX2_ratio 47 = .ok (.aaload, 1) := by decide +kernel
theorem dX2_ratio_48 : decode cX2_ratio 48 = .ok (.iconst 0, 1) := by decide +kernel
theorem dX2_ratio_49 : decode cX2_ratio 49 = .ok (.iaload, 1) := by decide +kernel
theorem dX2_ratio_50 : decode cX2_ratio 50 = .ok (.istore 7, 2) := by decide +kernel
theorem dX2_ratio_52 : decode cX2_ratio 52 = .ok (.goto (-44), 3) := by decide +kernel
theorem dX2_ratio_55 : decode cX2_ratio 55 = .ok (.iload_n 2, 1) := by decide +kernel
theorem dX2_ratio_56 : decode cX2_ratio 56 = .ok (.istore 7, 2) := by decide +kernel
theorem dX2_ratio_58 : decode cX2_ratio 58 = .ok (.iload 7, 2) := by decide +kernel
theorem dX2_ratio_60 : decode cX2_ratio 60 = .ok (.ifCond .le 45, 3) := by decide +kernel
theorem dX2_ratio_63 : decode cX2_ratio 63 = .ok (.lload 5, 2) := by decide +kernel
theorem dX2_ratio_65 : decode cX2_ratio 65 = .ok (.aload_n 0, 1) := by decide +kernel
theorem dX2_ratio_66 : decode cX2_ratio 66 = .ok (.getfield 15, 3) := by decide +kernel
theorem dX2_ratio_69 : decode cX2_ratio 69 = .ok (.iload 7, 2) := by decide +kernel
theorem dX2_ratio_71 : decode cX2_ratio 71 = .ok (.aaload, 1) := by decide +kernel
theorem dX2_ratio_72 : decode cX2_ratio 72 = .ok (.iconst 1, 1) := by decide +kernel
theorem dX2_ratio_73 : decode cX2_ratio 73 = .ok (.iaload, 1) := by decide +kernel
theorem dX2_ratio_74 : decode cX2_ratio 74 = .ok (.i2l, 1) := by decide +kernel
theorem dX2_ratio_75 : decode cX2_ratio 75 = .ok (.lmul, 1) := by decide +kernel
theorem dX2_ratio_76 : decode cX2_ratio 76 = .ok (.lstore 5, 2) := by decide +kernel
theorem dX2_ratio_78 : decode cX2_ratio 78 = .ok (.lload_n 3, 1) := by decide +kernel
theorem dX2_ratio_79 : decode cX2_ratio 79 = .ok (.aload_n 0, 1) := by decide +kernel
theorem dX2_ratio_80 : decode cX2_ratio 80 = .ok (.getfield 15, 3) := by decide +kernel
theorem dX2_ratio_83 : decode cX2_ratio 83 = .ok (.iload 7, 2) := by decide +kernel
theorem dX2_ratio_85 : decode cX2_ratio 85 = .ok (.aaload, 1) := by decide +kernel
theorem dX2_ratio_86 : decode cX2_ratio 86 = .ok (.iconst 2, 1) := by decide +kernel
theorem dX2_ratio_87 : decode cX2_ratio 87 = .ok (.iaload, 1) := by decide +kernel
theorem dX2_ratio_88 : decode cX2_ratio 88 = .ok (.i2l, 1) := by decide +kernel
theorem dX2_ratio_89 : decode cX2_ratio 89 = .ok (.lmul, 1) := by decide +kernel
theorem dX2_ratio_90 : decode cX2_ratio 90 = .ok (.lstore_n 3, 1) := by decide +kernel
theorem dX2_ratio_91 : decode cX2_ratio 91 = .ok (.aload_n 0, 1) := by decide +kernel
theorem dX2_ratio_92 : decode cX2_ratio 92 = .ok (.getfield 15, 3) := by decide +kernel
theorem dX2_ratio_95 : decode cX2_ratio 95 = .ok (.iload 7, 2) := by decide +kernel
theorem dX2_ratio_97 : decode cX2_ratio 97 = .ok (.aaload, 1) := by decide +kernel
theorem dX2_ratio_98 : decode cX2_ratio 98 = .ok (.iconst 0, 1) := by decide +kernel
theorem dX2_ratio_99 : decode cX2_ratio 99 = .ok (.iaload, 1) := by decide +kernel
theorem dX2_ratio_100 : decode cX2_ratio 100 = .ok (.istore 7, 2) := by decide +kernel
theorem dX2_ratio_102 : decode cX2_ratio 102 = .ok (.goto (-44), 3) := by decide +kernel
theorem dX2_ratio_105 : decode cX2_ratio 105 = .ok (.lload_n 3, 1) := by decide +kernel
theorem dX2_ratio_106 : decode cX2_ratio 106 = .ok (.lload 5, 2) := by decide +kernel
theorem dX2_ratio_108 : decode cX2_ratio 108 = .ok (.invokestatic 22, 3) := by decide +kernel
theorem dX2_ratio_111 : decode cX2_ratio 111 = .ok (.lstore 7, 2) := by decide +kernel
theorem dX2_ratio_113 : decode cX2_ratio 113 = .ok (.iconst 2, 1) := by decide +kernel
theorem dX2_ratio_114 : decode cX2_ratio 114 = .ok (.newarray .long, 2) := by decide +kernel
theorem dX2_ratio_116 : decode cX2_ratio 116 = .ok (.dup, 1) := by decide +kernel
theorem dX2_ratio_117 : decode cX2_ratio 117 = .ok (.iconst 0, 1) := by decide +kernel
theorem dX2_ratio_118 : decode cX2_ratio 118 = .ok (.lload_n 3, 1) := by decide +kernel
theorem dX2_ratio_119 : decode cX2_ratio 119 = .ok (.lload 7, 2) := by decide +kernel
theorem dX2_ratio_121 : decode cX2_ratio 121 = .ok (.ldiv, 1) := by decide +kernel
theorem dX2_ratio_122 : decode cX2_ratio 122 = .ok (.lastore, 1) := by decide +kernel
theorem dX2_ratio_123 : decode cX2_ratio 123 = .ok (.dup, 1) := by decide +kernel
theorem dX2_ratio_124 : decode cX2_ratio 124 = .ok (.iconst 1, 1) := by decide +kernel
theorem dX2_ratio_125 : decode cX2_ratio 125 = .ok (.lload 5, 2) := by decide +kernel
theorem dX2_ratio_127 : decode cX2_ratio 127 = .ok (.lload 7, 2) := by decide +kernel
theorem dX2_ratio_129 : decode cX2_ratio 129 = .ok (.ldiv, 1) := by decide +kernel
theorem dX2_ratio_130 : decode cX2_ratio 130 = .ok (.lastore, 1) := by decide +kernel
theorem dX2_ratio_131 : decode cX2_ratio 131 = .ok (.areturn, 1) := by decide +kernel
theorem dX2_isLonger_0 : decode cX2_isLonger 0 = .ok (.aload_n 0, 1) := by decide +kernel
theorem dX2_isLonger_1 : decode cX2_isLonger 1 = .ok (.iload_n 1, 1) := by decide +kernel
theorem dX2_isLonger_2 : decode cX2_isLonger 2 = .ok (.iload_n 2, 1) := by decide +kernel
theorem dX2_isLonger_3 : decode cX2_isLonger 3 = .ok (.invokevirtual 26, 3) := by decide +kernel
theorem dX2_isLonger_6 : decode cX2_isLonger 6 = .ok (.astore_n 3, 1) := by decide +kernel
theorem dX2_isLonger_7 : decode cX2_isLonger 7 = .ok (.aload_n 3, 1) := by decide +kernel
theorem dX2_isLonger_8 : decode cX2_isLonger 8 = .ok (.iconst 0, 1) := by decide +kernel
theorem dX2_isLonger_9 : decode cX2_isLonger 9 = .ok (.laload, 1) := by decide +kernel
theorem dX2_isLonger_10 : decode cX2_isLonger 10 = .ok (.aload_n 3, 1) := by decide +kernel
theorem dX2_isLonger_11 : decode cX2_isLonger 11 = .ok (.iconst 1, 1) := by decide +kernel
theorem dX2_isLonger_12 : decode cX2_isLonger 12 = .ok (.laload, 1) := by decide +kernel
theorem dX2_isLonger_13 : decode cX2_isLonger 13 = .ok (.lcmp, 1) := by decide +kernel
theorem dX2_isLonger_14 : decode cX2_isLonger 14 = .ok (.ifCond .le 7, 3) := by decide +kernel
theorem dX2_isLonger_17 : decode cX2_isLonger 17 = .ok (.iconst 1, 1) := by decide +kernel
theorem dX2_isLonger_18 : decode cX2_isLonger 18 = .ok (.goto 4, 3) := by decide +kernel
theorem dX2_isLonger_21 : decode cX2_isLonger 21 = .ok (.iconst 0, 1) := by decide +kernel
theorem dX2_isLonger_22 : decode cX2_isLonger 22 = .ok (.ireturn, 1) := by decide +kernel
theorem dX2_order_0 : decode cX2_order 0 = .ok (.aload_n 0, 1) := by decide +kernel
theorem dX2_order_1 : decode cX2_order 1 = .ok (.getfield 15, 3) := by decide +kernel
theorem dX2_order_4 : decode cX2_order 4 = .ok (.arraylength, 1) := by decide +kernel
theorem dX2_order_5 : decode cX2_order 5 = .ok (.istore_n 1, 1) := by decide +kernel
theorem dX2_order_6 : decode cX2_order 6 = .ok (.iload_n 1, 1) := by decide +kernel
theorem dX2_order_7 : decode cX2_order 7 = .ok (.newarray .int, 2) := by decide +kernel
theorem dX2_order_9 : decode cX2_order 9 = .ok (.astore_n 2, 1) := by decide +kernel
theorem dX2_order_10 : decode cX2_order 10 = .ok (.iconst 0, 1) := by decide +kernel
theorem dX2_order_11 : decode cX2_order 11 = .ok (.istore_n 3, 1) := by decide +kernel
theorem dX2_order_12 : decode cX2_order 12 = .ok (.iload_n 3, 1) := by decide +kernel
theorem dX2_order_13 : decode cX2_order 13 = .ok (.iload_n 1, 1) := by decide +kernel
theorem dX2_order_14 : decode cX2_order 14 = .ok (.if_icmp .ge 61, 3) := by decide +kernel
theorem dX2_order_17 : decode cX2_order 17 = .ok (.iconst 0, 1) := by decide +kernel
theorem dX2_order_18 : decode cX2_order 18 = .ok (.istore 4, 2) := by decide +kernel
theorem dX2_order_20 : decode cX2_order 20 = .ok (.iconst 0, 1) := by decide +kernel
theorem dX2_order_21 : decode cX2_order 21 = .ok (.istore 5, 2) := by decide +kernel
theorem dX2_order_23 : decode cX2_order 23 = .ok (.iload 5, 2) := by decide +kernel
theorem dX2_order_25 : decode cX2_order 25 = .ok (.iload_n 1, 1) := by decide +kernel
theorem dX2_order_26 : decode cX2_order 26 = .ok (.if_icmp .ge 38, 3) := by decide +kernel
theorem dX2_order_29 : decode cX2_order 29 = .ok (.aload_n 0, 1) := by decide +kernel
theorem dX2_order_30 : decode cX2_order 30 = .ok (.iload 5, 2) := by decide +kernel
theorem dX2_order_32 : decode cX2_order 32 = .ok (.iload_n 3, 1) := by decide +kernel
theorem dX2_order_33 : decode cX2_order 33 = .ok (.invokevirtual 30, 3) := by decide +kernel
theorem dX2_order_36 : decode cX2_order 36 = .ok (.ifCond .ne 19, 3) := by decide +kernel
theorem dX2_order_39 : decode cX2_order 39 = .ok (.iload 5, 2) := by decide +kernel
theorem dX2_order_41 : decode cX2_order 41 = .ok (.iload_n 3, 1) := by decide +kernel
theorem dX2_order_42 : decode cX2_order 42 = .ok (.if_icmp .ge 16, 3) := by decide +kernel
theorem dX2_order_45 : decode cX2_order 45 = .ok (.aload_n 0, 1) := by decide +kernel
theorem dX2_order_46 : decode cX2_order 46 = .ok (.iload_n 3, 1) := by decide +kernel
theorem dX2_order_47 : decode cX2_order 47 = .ok (.iload 5, 2) := by decide +kernel
theorem dX2_order_49 : decode cX2_order 49 = .ok (.invokevirtual 30, 3) := by decide +kernel
theorem dX2_order_52 : decode cX2_order 52 = .ok (.ifCond .ne 6, 3) := by decide +kernel
theorem dX2_order_55 : decode cX2_order 55 = .ok (.iinc 4 1, 3) := by decide +kernel
theorem dX2_order_58 : decode cX2_order 58 = .ok (.iinc 5 1, 3) := by decide +kernel
theorem dX2_order_61 : decode cX2_order 61 = .ok (.goto (-38), 3) := by decide +kernel
theorem dX2_order_64 : decode cX2_order 64 = .ok (.aload_n 2, 1) := by decide +kernel
theorem dX2_order_65 : decode cX2_order 65 = .ok (.iload 4, 2) := by decide +kernel
theorem dX2_order_67 : decode cX2_order 67 = .ok (.iload_n 3, 1) := by decide +kernel
theorem dX2_order_68 : decode cX2_order 68 = .ok (.iastore, 1) := by decide +kernel
theorem dX2_order_69 : decode cX2_order 69 = .ok (.iinc 3 1, 3) := by decide +kernel
theorem dX2_order_72 : decode cX2_order 72 = .ok (.goto (-60), 3) := by decide +kernel
theorem dX2_order_75 : decode cX2_order 75 = .ok (.aload_n 2, 1) := by decide +kernel
theorem dX2_order_76 : decode cX2_order 76 = .ok (.areturn, 1) := by decide +kernel
theorem dX2_isHonest_0 : decode cX2_isHonest 0 = .ok (.aload_n 1, 1) := by decide +kernel
theorem dX2_isHonest_1 : decode cX2_isHonest 1 = .ok (.iconst 1, 1) := by decide +kernel
theorem dX2_isHonest_2 : decode cX2_isHonest 2 = .ok (.iaload, 1) := by decide +kernel
theorem dX2_isHonest_3 : decode cX2_isHonest 3 = .ok (.aload_n 0, 1) := by decide +kernel
theorem dX2_isHonest_4 : decode cX2_isHonest 4 = .ok (.getfield 7, 3) := by decide +kernel
theorem dX2_isHonest_7 : decode cX2_isHonest 7 = .ok (.if_icmp .gt 18, 3) := by decide +kernel
theorem dX2_isHonest_10 : decode cX2_isHonest 10 = .ok (.aload_n 1, 1) := by decide +kernel
theorem dX2_isHonest_11 : decode cX2_isHonest 11 = .ok (.iconst 1, 1) := by decide +kernel
theorem dX2_isHonest_12 : decode cX2_isHonest 12 = .ok (.iaload, 1) := by decide +kernel
theorem dX2_isHonest_13 : decode cX2_isHonest 13 = .ok (.aload_n 0, 1) := by decide +kernel
theorem dX2_isHonest_14 : decode cX2_isHonest 14 = .ok (.getfield 7, 3) := by decide +kernel
theorem dX2_isHonest_17 : decode cX2_isHonest 17 = .ok (.ineg, 1) := by decide +kernel
theorem dX2_isHonest_18 : decode cX2_isHonest 18 = .ok (.if_icmp .lt 7, 3) := by decide +kernel
theorem dX2_isHonest_21 : decode cX2_isHonest 21 = .ok (.iconst 1, 1) := by decide +kernel
theorem dX2_isHonest_22 : decode cX2_isHonest 22 = .ok (.goto 4, 3) := by decide +kernel
theorem dX2_isHonest_25 : decode cX2_isHonest 25 = .ok (.iconst 0, 1) := by decide +kernel
theorem dX2_isHonest_26 : decode cX2_isHonest 26 = .ok (.ireturn, 1) := by decide +kernel
theorem dX2_pass_0 : decode cX2_pass 0 = .ok (.aload_n 0, 1) := by decide +kernel
theorem dX2_pass_1 : decode cX2_pass 1 = .ok (.getfield 19, 3) := by decide +kernel
theorem dX2_pass_4 : decode cX2_pass 4 = .ok (.astore_n 1, 1) := by decide +kernel
theorem dX2_pass_5 : decode cX2_pass 5 = .ok (.aload_n 1, 1) := by decide +kernel
theorem dX2_pass_6 : decode cX2_pass 6 = .ok (.arraylength, 1) := by decide +kernel
theorem dX2_pass_7 : decode cX2_pass 7 = .ok (.istore_n 2, 1) := by decide +kernel
theorem dX2_pass_8 : decode cX2_pass 8 = .ok (.iconst 0, 1) := by decide +kernel
theorem dX2_pass_9 : decode cX2_pass 9 = .ok (.istore_n 3, 1) := by decide +kernel
theorem dX2_pass_10 : decode cX2_pass 10 = .ok (.iload_n 3, 1) := by decide +kernel
theorem dX2_pass_11 : decode cX2_pass 11 = .ok (.iload_n 2, 1) := by decide +kernel
theorem dX2_pass_12 : decode cX2_pass 12 = .ok (.if_icmp .ge 59, 3) := by decide +kernel
theorem dX2_pass_15 : decode cX2_pass 15 = .ok (.aload_n 1, 1) := by decide +kernel
theorem dX2_pass_16 : decode cX2_pass 16 = .ok (.iload_n 3, 1) := by decide +kernel
theorem dX2_pass_17 : decode cX2_pass 17 = .ok (.aaload, 1) := by decide +kernel
theorem dX2_pass_18 : decode cX2_pass 18 = .ok (.astore 4, 2) := by decide +kernel
theorem dX2_pass_20 : decode cX2_pass 20 = .ok (.aload 4, 2) := by decide +kernel
theorem dX2_pass_22 : decode cX2_pass 22 = .ok (.iconst 1, 1) := by decide +kernel
theorem dX2_pass_23 : decode cX2_pass 23 = .ok (.dup2, 1) := by decide +kernel
theorem dX2_pass_24 : decode cX2_pass 24 = .ok (.iaload, 1) := by decide +kernel
theorem dX2_pass_25 : decode cX2_pass 25 = .ok (.aload 4, 2) := by decide +kernel
theorem dX2_pass_27 : decode cX2_pass 27 = .ok (.iconst 0, 1) := by decide +kernel
theorem dX2_pass_28 : decode cX2_pass 28 = .ok (.iaload, 1) := by decide +kernel
theorem dX2_pass_29 : decode cX2_pass 29 = .ok (.iadd, 1) := by decide +kernel
theorem dX2_pass_30 : decode cX2_pass 30 = .ok (.iastore, 1) := by decide +kernel
theorem dX2_pass_31 : decode cX2_pass 31 = .ok (.aload 4, 2) := by decide +kernel
theorem dX2_pass_33 : decode cX2_pass 33 = .ok (.iconst 1, 1) := by decide +kernel
theorem dX2_pass_34 : decode cX2_pass 34 = .ok (.iaload, 1) := by decide +kernel
theorem dX2_pass_35 : decode cX2_pass 35 = .ok (.sipush 300, 3) := by decide +kernel
theorem dX2_pass_38 : decode cX2_pass 38 = .ok (.if_icmp .le 10, 3) := by decide +kernel
theorem dX2_pass_41 : decode cX2_pass 41 = .ok (.aload 4, 2) := by decide +kernel
theorem dX2_pass_43 : decode cX2_pass 43 = .ok (.iconst 1, 1) := by decide +kernel
theorem dX2_pass_44 : decode cX2_pass 44 = .ok (.sipush 300, 3) := by decide +kernel
theorem dX2_pass_47 : decode cX2_pass 47 = .ok (.iastore, 1) := by decide +kernel
theorem dX2_pass_48 : decode cX2_pass 48 = .ok (.aload 4, 2) := by decide +kernel
theorem dX2_pass_50 : decode cX2_pass 50 = .ok (.iconst 1, 1) := by decide +kernel
theorem dX2_pass_51 : decode cX2_pass 51 = .ok (.iaload, 1) := by decide +kernel
theorem dX2_pass_52 : decode cX2_pass 52 = .ok (.sipush (-300), 3) := by decide +kernel
theorem dX2_pass_55 : decode cX2_pass 55 = .ok (.if_icmp .ge 10, 3) := by decide +kernel
theorem dX2_pass_58 : decode cX2_pass 58 = .ok (.aload 4, 2) := by decide +kernel
theorem dX2_pass_60 : decode cX2_pass 60 = .ok (.iconst 1, 1) := by decide +kernel
theorem dX2_pass_61 : decode cX2_pass 61 = .ok (.sipush (-300), 3) := by decide +kernel
theorem dX2_pass_64 : decode cX2_pass 64 = .ok (.iastore, 1) := by decide +kernel
theorem dX2_pass_65 : decode cX2_pass 65 = .ok (.iinc 3 1, 3) := by decide +kernel
theorem dX2_pass_68 : decode cX2_pass 68 = .ok (.goto (-58), 3) := by decide +kernel
theorem dX2_pass_71 : decode cX2_pass 71 = .ok (.iconst (-1), 1) := by decide +kernel
theorem dX2_pass_72 : decode cX2_pass 72 = .ok (.istore_n 1, 1) := by decide +kernel
theorem dX2_pass_73 : decode cX2_pass 73 = .ok (.aload_n 0, 1) := by decide +kernel
theorem dX2_pass_74 : decode cX2_pass 74 = .ok (.getfield 19, 3) := by decide +kernel
theorem dX2_pass_77 : decode cX2_pass 77 = .ok (.arraylength, 1) := by decide +kernel
theorem dX2_pass_78 : decode cX2_pass 78 = .ok (.ifCond .le 57, 3) := by decide +kernel
theorem dX2_pass_81 : decode cX2_pass 81 = .ok (.aload_n 0, 1) := by decide +kernel
theorem dX2_pass_82 : decode cX2_pass 82 = .ok (.getfield 19, 3) := by decide +kernel
theorem dX2_pass_85 : decode cX2_pass 85 = .ok (.aload_n 0, 1) := by decide +kernel
theorem dX2_pass_86 : decode cX2_pass 86 = .ok (.getfield 38, 3) := by decide +kernel
theorem dX2_pass_89 : decode cX2_pass 89 = .ok (.aload_n 0, 1) := by decide +kernel
theorem dX2_pass_90 : decode cX2_pass 90 = .ok (.getfield 19, 3) := by decide +kernel
theorem dX2_pass_93 : decode cX2_pass 93 = .ok (.arraylength, 1) := by decide +kernel
theorem dX2_pass_94 : decode cX2_pass 94 = .ok (.irem, 1) := by decide +kernel
theorem dX2_pass_95 : decode cX2_pass 95 = .ok (.aaload, 1) := by decide +kernel
theorem dX2_pass_96 : decode cX2_pass 96 = .ok (.astore_n 2, 1) := by decide +kernel
theorem dX2_pass_97 : decode cX2_pass 97 = .ok (.aload_n 0, 1) := by decide +kernel
theorem dX2_pass_98 : decode cX2_pass 98 = .ok (.aload_n 2, 1) := by decide +kernel
theorem dX2_pass_99 : decode cX2_pass 99 = .ok (.invokevirtual 41, 3) := by decide +kernel
theorem dX2_pass_102 : decode cX2_pass 102 = .ok (.ifCond .ne 33, 3) := by decide +kernel
theorem dX2_pass_105 : decode cX2_pass 105 = .ok (.aload_n 0, 1) := by decide +kernel
theorem dX2_pass_106 : decode cX2_pass 106 = .ok (.getfield 38, 3) := by decide +kernel
theorem dX2_pass_109 : decode cX2_pass 109 = .ok (.aload_n 0, 1) := by decide +kernel
theorem dX2_pass_110 : decode cX2_pass 110 = .ok (.getfield 19, 3) := by decide +kernel
theorem dX2_pass_113 : decode cX2_pass 113 = .ok (.arraylength, 1) := by decide +kernel
theorem dX2_pass_114 : decode cX2_pass 114 = .ok (.irem, 1) := by decide +kernel
theorem dX2_pass_115 : decode cX2_pass 115 = .ok (.istore_n 1, 1) := by decide +kernel
theorem dX2_pass_116 : decode cX2_pass 116 = .ok (.aload_n 0, 1) := by decide +kernel
theorem dX2_pass_117 : decode cX2_pass 117 = .ok (.dup, 1) := by decide +kernel
theorem dX2_pass_118 : decode cX2_pass 118 = .ok (.getfield 45, 3) := by decide +kernel
theorem dX2_pass_121 : decode cX2_pass 121 = .ok (.aload_n 2, 1) := by decide +kernel
theorem dX2_pass_122 : decode cX2_pass 122 = .ok (.iconst 1, 1) := by decide +kernel
theorem dX2_pass_123 : decode cX2_pass 123 = .ok (.iaload, 1) := by decide +kernel
theorem dX2_pass_124 : decode cX2_pass 124 = .ok (.invokestatic 48, 3) := by decide +kernel
theorem dX2_pass_127 : decode cX2_pass 127 = .ok (.iadd, 1) := by decide +kernel
theorem dX2_pass_128 : decode cX2_pass 128 = .ok (.putfield 45, 3) := by decide +kernel
theorem dX2_pass_131 : decode cX2_pass 131 = .ok (.aload_n 2, 1) := by decide +kernel
theorem dX2_pass_132 : decode cX2_pass 132 = .ok (.iconst 1, 1) := by decide +kernel
theorem dX2_pass_133 : decode cX2_pass 133 = .ok (.iconst 0, 1) := by decide +kernel
theorem dX2_pass_134 : decode cX2_pass 134 = .ok (.iastore, 1) := by decide +kernel
theorem dX2_pass_135 : decode cX2_pass 135 = .ok (.aload_n 0, 1) := by decide +kernel
theorem dX2_pass_136 : decode cX2_pass 136 = .ok (.dup, 1) := by decide +kernel
theorem dX2_pass_137 : decode cX2_pass 137 = .ok (.getfield 38, 3) := by decide +kernel
theorem dX2_pass_140 : decode cX2_pass 140 = .ok (.iconst 1, 1) := by decide +kernel
theorem dX2_pass_141 : decode cX2_pass 141 = .ok (.iadd, 1) := by decide +kernel
theorem dX2_pass_142 : decode cX2_pass 142 = .ok (.putfield 38, 3) := by decide +kernel
theorem dX2_pass_145 : decode cX2_pass 145 = .ok (.iload_n 1, 1) := by decide +kernel
theorem dX2_pass_146 : decode cX2_pass 146 = .ok (.ireturn, 1) := by decide +kernel
theorem dX2_behind_0 : decode cX2_behind 0 = .ok (.aload_n 0, 1) := by decide +kernel
theorem dX2_behind_1 : decode cX2_behind 1 = .ok (.getfield 45, 3) := by decide +kernel
theorem dX2_behind_4 : decode cX2_behind 4 = .ok (.istore_n 2, 1) := by decide +kernel
theorem dX2_behind_5 : decode cX2_behind 5 = .ok (.iconst 0, 1) := by decide +kernel
theorem dX2_behind_6 : decode cX2_behind 6 = .ok (.istore_n 3, 1) := by decide +kernel
theorem dX2_behind_7 : decode cX2_behind 7 = .ok (.iload_n 3, 1) := by decide +kernel
theorem dX2_behind_8 : decode cX2_behind 8 = .ok (.iload_n 1, 1) := by decide +kernel
theorem dX2_behind_9 : decode cX2_behind 9 = .ok (.if_icmp .ge 14, 3) := by decide +kernel
theorem dX2_behind_12 : decode cX2_behind 12 = .ok (.aload_n 0, 1) := by decide +kernel
theorem dX2_behind_13 : decode cX2_behind 13 = .ok (.invokevirtual 54, 3) := by decide +kernel
theorem dX2_behind_16 : decode cX2_behind 16 = .ok (.pop, 1) := by decide +kernel
theorem dX2_behind_17 : decode cX2_behind 17 = .ok (.iinc 3 1, 3) := by decide +kernel
theorem dX2_behind_20 : decode cX2_behind 20 = .ok (.goto (-13), 3) := by decide +kernel
theorem dX2_behind_23 : decode cX2_behind 23 = .ok (.aload_n 0, 1) := by decide +kernel
theorem dX2_behind_24 : decode cX2_behind 24 = .ok (.getfield 45, 3) := by decide +kernel
theorem dX2_behind_27 : decode cX2_behind 27 = .ok (.iload_n 2, 1) := by decide +kernel
theorem dX2_behind_28 : decode cX2_behind 28 = .ok (.isub, 1) := by decide +kernel
theorem dX2_behind_29 : decode cX2_behind 29 = .ok (.ireturn, 1) := by decide +kernel
theorem dX2_isSame_0 : decode cX2_isSame 0 = .ok (.aload_n 0, 1) := by decide +kernel
theorem dX2_isSame_1 : decode cX2_isSame 1 = .ok (.getfield 15, 3) := by decide +kernel
theorem dX2_isSame_4 : decode cX2_isSame 4 = .ok (.arraylength, 1) := by decide +kernel
theorem dX2_isSame_5 : decode cX2_isSame 5 = .ok (.istore_n 2, 1) := by decide +kernel
theorem dX2_isSame_6 : decode cX2_isSame 6 = .ok (.aload_n 1, 1) := by decide +kernel
theorem dX2_isSame_7 : decode cX2_isSame 7 = .ok (.invokevirtual 66, 3) := by decide +kernel
theorem dX2_isSame_10 : decode cX2_isSame 10 = .ok (.iload_n 2, 1) := by decide +kernel
theorem dX2_isSame_11 : decode cX2_isSame 11 = .ok (.if_icmp .ne 59, 3) := by decide +kernel
theorem dX2_isSame_14 : decode cX2_isSame 14 = .ok (.aload_n 1, 1) := by decide +kernel
theorem dX2_isSame_15 : decode cX2_isSame 15 = .ok (.invokevirtual 70, 3) := by decide +kernel
theorem dX2_isSame_18 : decode cX2_isSame 18 = .ok (.aload_n 0, 1) := by decide +kernel
theorem dX2_isSame_19 : decode cX2_isSame 19 = .ok (.getfield 19, 3) := by decide +kernel
theorem dX2_isSame_22 : decode cX2_isSame 22 = .ok (.arraylength, 1) := by decide +kernel
theorem dX2_isSame_23 : decode cX2_isSame 23 = .ok (.if_icmp .ne 47, 3) := by decide +kernel
theorem dX2_isSame_26 : decode cX2_isSame 26 = .ok (.aload_n 1, 1) := by decide +kernel
theorem dX2_isSame_27 : decode cX2_isSame 27 = .ok (.invokevirtual 72, 3) := by decide +kernel
theorem dX2_isSame_30 : decode cX2_isSame 30 = .ok (.aload_n 0, 1) := by decide +kernel
theorem dX2_isSame_31 : decode cX2_isSame 31 = .ok (.getfield 38, 3) := by decide +kernel
theorem dX2_isSame_34 : decode cX2_isSame 34 = .ok (.if_icmp .ne 36, 3) := by decide +kernel
theorem dX2_isSame_37 : decode cX2_isSame 37 = .ok (.aload_n 1, 1) := by decide +kernel
theorem dX2_isSame_38 : decode cX2_isSame 38 = .ok (.invokevirtual 75, 3) := by decide +kernel
theorem dX2_isSame_41 : decode cX2_isSame 41 = .ok (.aload_n 0, 1) := by decide +kernel
theorem dX2_isSame_42 : decode cX2_isSame 42 = .ok (.getfield 59, 3) := by decide +kernel
theorem dX2_isSame_45 : decode cX2_isSame 45 = .ok (.if_icmp .ne 25, 3) := by decide +kernel
theorem dX2_isSame_48 : decode cX2_isSame 48 = .ok (.aload_n 1, 1) := by decide +kernel
theorem dX2_isSame_49 : decode cX2_isSame 49 = .ok (.invokevirtual 77, 3) := by decide +kernel
theorem dX2_isSame_52 : decode cX2_isSame 52 = .ok (.aload_n 0, 1) := by decide +kernel
theorem dX2_isSame_53 : decode cX2_isSame 53 = .ok (.getfield 7, 3) := by decide +kernel
theorem dX2_isSame_56 : decode cX2_isSame 56 = .ok (.if_icmp .ne 14, 3) := by decide +kernel
theorem dX2_isSame_59 : decode cX2_isSame 59 = .ok (.aload_n 1, 1) := by decide +kernel
theorem dX2_isSame_60 : decode cX2_isSame 60 = .ok (.invokevirtual 79, 3) := by decide +kernel
theorem dX2_isSame_63 : decode cX2_isSame 63 = .ok (.aload_n 0, 1) := by decide +kernel
theorem dX2_isSame_64 : decode cX2_isSame 64 = .ok (.getfield 45, 3) := by decide +kernel
theorem dX2_isSame_67 : decode cX2_isSame 67 = .ok (.if_icmp .eq 5, 3) := by decide +kernel
theorem dX2_isSame_70 : decode cX2_isSame 70 = .ok (.iconst 0, 1) := by decide +kernel
theorem dX2_isSame_71 : decode cX2_isSame 71 = .ok (.ireturn, 1) := by decide +kernel
theorem dX2_isSame_72 : decode cX2_isSame 72 = .ok (.aload_n 0, 1) := by decide +kernel
theorem dX2_isSame_73 : decode cX2_isSame 73 = .ok (.invokevirtual 34, 3) := by decide +kernel
theorem dX2_isSame_76 : decode cX2_isSame 76 = .ok (.astore_n 3, 1) := by decide +kernel
theorem dX2_isSame_77 : decode cX2_isSame 77 = .ok (.iconst 0, 1) := by decide +kernel
theorem dX2_isSame_78 : decode cX2_isSame 78 = .ok (.istore 4, 2) := by decide +kernel
theorem dX2_isSame_80 : decode cX2_isSame 80 = .ok (.iconst 0, 1) := by decide +kernel
theorem dX2_isSame_81 : decode cX2_isSame 81 = .ok (.istore 5, 2) := by decide +kernel
theorem dX2_isSame_83 : decode cX2_isSame 83 = .ok (.iload 5, 2) := by decide +kernel
theorem dX2_isSame_85 : decode cX2_isSame 85 = .ok (.iload_n 2, 1) := by decide +kernel
theorem dX2_isSame_86 : decode cX2_isSame 86 = .ok (.if_icmp .ge 124, 3) := by decide +kernel
theorem dX2_isSame_89 : decode cX2_isSame 89 = .ok (.aload_n 0, 1) := by decide +kernel
theorem dX2_isSame_90 : decode cX2_isSame 90 = .ok (.iload 5, 2) := by decide +kernel
theorem dX2_isSame_92 : decode cX2_isSame 92 = .ok (.aload_n 0, 1) := by decide +kernel
theorem dX2_isSame_93 : decode cX2_isSame 93 = .ok (.getfield 59, 3) := by decide +kernel
theorem dX2_isSame_96 : decode cX2_isSame 96 = .ok (.invokevirtual 26, 3) := by decide +kernel
theorem dX2_isSame_99 : decode cX2_isSame 99 = .ok (.astore 6, 2) := by decide +kernel
theorem dX2_isSame_101 : decode cX2_isSame 101 = .ok (.iconst 0, 1) := by decide +kernel
theorem dX2_isSame_102 : decode cX2_isSame 102 = .ok (.istore 7, 2) := by decide +kernel
theorem dX2_isSame_104 : decode cX2_isSame 104 = .ok (.iload 5, 2) := by decide +kernel
theorem dX2_isSame_106 : decode cX2_isSame 106 = .ok (.istore 8, 2) := by decide +kernel
theorem dX2_isSame_108 : decode cX2_isSame 108 = .ok (.iload 8, 2) := by decide +kernel
theorem dX2_isSame_110 : decode cX2_isSame 110 = .ok (.ifCond .le 20, 3) := by decide +kernel
theorem dX2_isSame_113 : decode cX2_isSame 113 = .ok (.iinc 7 1, 3) := by decide +kernel
theorem dX2_isSame_116 : decode cX2_isSame 116 = .ok (.aload_n 0, 1) := by decide +kernel
theorem dX2_isSame_117 : decode cX2_isSame 117 = .ok (.getfield 15, 3) := by decide +kernel
theorem dX2_isSame_120 : decode cX2_isSame 120 = .ok (.iload 8, 2) := by decide +kernel
theorem dX2_isSame_122 : decode cX2_isSame 122 = .ok (.aaload, 1) := by decide +kernel
theorem dX2_isSame_123 : decode cX2_isSame 123 = .ok (.iconst 0, 1) := by decide +kernel
theorem dX2_isSame_124 : decode cX2_isSame 124 = .ok (.iaload, 1) := by decide +kernel
theorem dX2_isSame_125 : decode cX2_isSame 125 = .ok (.istore 8, 2) := by decide +kernel
theorem dX2_isSame_127 : decode cX2_isSame 127 = .ok (.goto (-19), 3) := by decide +kernel
theorem dX2_isSame_130 : decode cX2_isSame 130 = .ok (.aload_n 0, 1) := by decide +kernel
theorem dX2_isSame_131 : decode cX2_isSame 131 = .ok (.iload 4, 2) := by decide +kernel
theorem dX2_isSame_133 : decode cX2_isSame 133 = .ok (.iload 5, 2) := by decide +kernel
theorem dX2_isSame_135 : decode cX2_isSame 135 = .ok (.invokevirtual 30, 3) := by decide +kernel
theorem dX2_isSame_138 : decode cX2_isSame 138 = .ok (.ifCond .eq 7, 3) := by decide +kernel
theorem dX2_isSame_141 : decode cX2_isSame 141 = .ok (.iload 5, 2) := by decide +kernel
theorem dX2_isSame_143 : decode cX2_isSame 143 = .ok (.istore 4, 2) := by decide +kernel
theorem dX2_isSame_145 : decode cX2_isSame 145 = .ok (.aload_n 1, 1) := by decide +kernel
theorem dX2_isSame_146 : decode cX2_isSame 146 = .ok (.iload 5, 2) := by decide +kernel
theorem dX2_isSame_148 : decode cX2_isSame 148 = .ok (.invokevirtual 81, 3) := by decide +kernel
theorem dX2_isSame_151 : decode cX2_isSame 151 = .ok (.aload_n 0, 1) := by decide +kernel
theorem dX2_isSame_152 : decode cX2_isSame 152 = .ok (.getfield 15, 3) := by decide +kernel
theorem dX2_isSame_155 : decode cX2_isSame 155 = .ok (.iload 5, 2) := by decide +kernel
theorem dX2_isSame_157 : decode cX2_isSame 157 = .ok (.aaload, 1) := by decide +kernel
theorem dX2_isSame_158 : decode cX2_isSame 158 = .ok (.iconst 0, 1) := by decide +kernel
theorem dX2_isSame_159 : decode cX2_isSame 159 = .ok (.iaload, 1) := by decide +kernel
theorem dX2_isSame_160 : decode cX2_isSame 160 = .ok (.if_icmp .ne 42, 3) := by decide +kernel
theorem dX2_isSame_163 : decode cX2_isSame 163 = .ok (.aload_n 1, 1) := by decide +kernel
theorem dX2_isSame_164 : decode cX2_isSame 164 = .ok (.iload 5, 2) := by decide +kernel
theorem dX2_isSame_166 : decode cX2_isSame 166 = .ok (.invokevirtual 84, 3) := by decide +kernel
theorem dX2_isSame_169 : decode cX2_isSame 169 = .ok (.iload 7, 2) := by decide +kernel
theorem dX2_isSame_171 : decode cX2_isSame 171 = .ok (.if_icmp .ne 31, 3) := by decide +kernel
theorem dX2_isSame_174 : decode cX2_isSame 174 = .ok (.aload_n 1, 1) := by decide +kernel
theorem dX2_isSame_175 : decode cX2_isSame 175 = .ok (.iload 5, 2) := by decide +kernel
theorem dX2_isSame_177 : decode cX2_isSame 177 = .ok (.invokevirtual 87, 3) := by decide +kernel
theorem dX2_isSame_180 : decode cX2_isSame 180 = .ok (.aload 6, 2) := by decide +kernel
theorem dX2_isSame_182 : decode cX2_isSame 182 = .ok (.iconst 0, 1) := by decide +kernel
theorem dX2_isSame_183 : decode cX2_isSame 183 = .ok (.laload, 1) := by decide +kernel
theorem dX2_isSame_184 : decode cX2_isSame 184 = .ok (.lcmp, 1) := by decide +kernel
theorem dX2_isSame_185 : decode cX2_isSame 185 = .ok (.ifCond .ne 17, 3) := by decide +kernel
theorem dX2_isSame_188 : decode cX2_isSame 188 = .ok (.aload_n 1, 1) := by decide +kernel
theorem dX2_isSame_189 : decode cX2_isSame 189 = .ok (.iload 5, 2) := by decide +kernel
theorem dX2_isSame_191 : decode cX2_isSame 191 = .ok (.invokevirtual 91, 3) := by decide +kernel
theorem dX2_isSame_194 : decode cX2_isSame 194 = .ok (.aload 6, 2) := by decide +kernel
theorem dX2_isSame_196 : decode cX2_isSame 196 = .ok (.iconst 1, 1) := by decide +kernel
theorem dX2_isSame_197 : decode cX2_isSame 197 = .ok (.laload, 1) := by decide +kernel
theorem dX2_isSame_198 : decode cX2_isSame 198 = .ok (.lcmp, 1) := by decide +kernel
theorem dX2_isSame_199 : decode cX2_isSame 199 = .ok (.ifCond .eq 5, 3) := by decide +kernel
theorem dX2_isSame_202 : decode cX2_isSame 202 = .ok (.iconst 0, 1) := by decide +kernel
theorem dX2_isSame_203 : decode cX2_isSame 203 = .ok (.ireturn, 1) := by decide +kernel
theorem dX2_isSame_204 : decode cX2_isSame 204 = .ok (.iinc 5 1, 3) := by decide +kernel
theorem dX2_isSame_207 : decode cX2_isSame 207 = .ok (.goto (-124), 3) := by decide +kernel
theorem dX2_isSame_210 : decode cX2_isSame 210 = .ok (.iconst (-1), 1) := by decide +kernel
theorem dX2_isSame_211 : decode cX2_isSame 211 = .ok (.istore 5, 2) := by decide +kernel
theorem dX2_isSame_213 : decode cX2_isSame 213 = .ok (.iconst (-1), 1) := by decide +kernel
theorem dX2_isSame_214 : decode cX2_isSame 214 = .ok (.istore 6, 2) := by decide +kernel
theorem dX2_isSame_216 : decode cX2_isSame 216 = .ok (.iconst 0, 1) := by decide +kernel
theorem dX2_isSame_217 : decode cX2_isSame 217 = .ok (.istore 7, 2) := by decide +kernel
theorem dX2_isSame_219 : decode cX2_isSame 219 = .ok (.iconst 0, 1) := by decide +kernel
theorem dX2_isSame_220 : decode cX2_isSame 220 = .ok (.istore 8, 2) := by decide +kernel
theorem dX2_isSame_222 : decode cX2_isSame 222 = .ok (.iload 8, 2) := by decide +kernel
theorem dX2_isSame_224 : decode cX2_isSame 224 = .ok (.aload_n 0, 1) := by decide +kernel
theorem dX2_isSame_225 : decode cX2_isSame 225 = .ok (.getfield 19, 3) := by decide +kernel
theorem dX2_isSame_228 : decode cX2_isSame 228 = .ok (.arraylength, 1) := by decide +kernel
theorem dX2_isSame_229 : decode cX2_isSame 229 = .ok (.if_icmp .ge 126, 3) := by decide +kernel
theorem dX2_isSame_232 : decode cX2_isSame 232 = .ok (.aload_n 0, 1) := by decide +kernel
theorem dX2_isSame_233 : decode cX2_isSame 233 = .ok (.getfield 19, 3) := by decide +kernel
theorem dX2_isSame_236 : decode cX2_isSame 236 = .ok (.iload 8, 2) := by decide +kernel
theorem dX2_isSame_238 : decode cX2_isSame 238 = .ok (.aaload, 1) := by decide +kernel
theorem dX2_isSame_239 : decode cX2_isSame 239 = .ok (.astore 9, 2) := by decide +kernel
theorem dX2_isSame_241 : decode cX2_isSame 241 = .ok (.iload 7, 2) := by decide +kernel
theorem dX2_isSame_243 : decode cX2_isSame 243 = .ok (.aload 9, 2) := by decide +kernel
theorem dX2_isSame_245 : decode cX2_isSame 245 = .ok (.iconst 1, 1) := by decide +kernel
theorem dX2_isSame_246 : decode cX2_isSame 246 = .ok (.iaload, 1) := by decide +kernel
theorem dX2_isSame_247 : decode cX2_isSame 247 = .ok (.iadd, 1) := by decide +kernel
theorem dX2_isSame_248 : decode cX2_isSame 248 = .ok (.istore 7, 2) := by decide +kernel
theorem dX2_isSame_250 : decode cX2_isSame 250 = .ok (.iload 5, 2) := by decide +kernel
theorem dX2_isSame_252 : decode cX2_isSame 252 = .ok (.ifCond .lt 25, 3) := by decide +kernel
theorem dX2_isSame_255 : decode cX2_isSame 255 = .ok (.aload 9, 2) := by decide +kernel
theorem dX2_isSame_257 : decode cX2_isSame 257 = .ok (.iconst 1, 1) := by decide +kernel
theorem dX2_isSame_258 : decode cX2_isSame 258 = .ok (.iaload, 1) := by decide +kernel
theorem dX2_isSame_259 : decode cX2_isSame 259 = .ok (.invokestatic 48, 3) := by decide +kernel
theorem dX2_isSame_262 : decode cX2_isSame 262 = .ok (.aload_n 0, 1) := by decide +kernel
theorem dX2_isSame_263 : decode cX2_isSame 263 = .ok (.getfield 19, 3) := by decide +kernel
theorem dX2_isSame_266 : decode cX2_isSame 266 = .ok (.iload 5, 2) := by decide +kernel
theorem dX2_isSame_268 : decode cX2_isSame 268 = .ok (.aaload, 1) := by decide +kernel
theorem dX2_isSame_269 : decode cX2_isSame 269 = .ok (.iconst 1, 1) := by decide +kernel
theorem dX2_isSame_270 : decode cX2_isSame 270 = .ok (.iaload, 1) := by decide +kernel
theorem dX2_isSame_271 : decode cX2_isSame 271 = .ok (.invokestatic 48, 3) := by decide +kernel
theorem dX2_isSame_274 : decode cX2_isSame 274 = .ok (.if_icmp .ge 7, 3) := by decide +kernel
theorem dX2_isSame_277 : decode cX2_isSame 277 = .ok (.iload 8, 2) := by decide +kernel
theorem dX2_isSame_279 : decode cX2_isSame 279 = .ok (.istore 5, 2) := by decide +kernel
theorem dX2_isSame_281 : decode cX2_isSame 281 = .ok (.iload 6, 2) := by decide +kernel
theorem dX2_isSame_283 : decode cX2_isSame 283 = .ok (.ifCond .lt 19, 3) := by decide +kernel
theorem dX2_isSame_286 : decode cX2_isSame 286 = .ok (.aload 9, 2) := by decide +kernel
theorem dX2_isSame_288 : decode cX2_isSame 288 = .ok (.iconst 1, 1) := by decide +kernel
theorem dX2_isSame_289 : decode cX2_isSame 289 = .ok (.iaload, 1) := by decide +kernel
theorem dX2_isSame_290 : decode cX2_isSame 290 = .ok (.aload_n 0, 1) := by decide +kernel
theorem dX2_isSame_291 : decode cX2_isSame 291 = .ok (.getfield 19, 3) := by decide +kernel
theorem dX2_isSame_294 : decode cX2_isSame 294 = .ok (.iload 6, 2) := by decide +kernel
theorem dX2_isSame_296 : decode cX2_isSame 296 = .ok (.aaload, 1) := by decide +kernel
theorem dX2_isSame_297 : decode cX2_isSame 297 = .ok (.iconst 1, 1) := by decide +kernel
theorem dX2_isSame_298 : decode cX2_isSame 298 = .ok (.iaload, 1) := by decide +kernel
theorem dX2_isSame_299 : decode cX2_isSame 299 = .ok (.if_icmp .le 7, 3) := by decide +kernel
theorem dX2_isSame_302 : decode cX2_isSame 302 = .ok (.iload 8, 2) := by decide +kernel
theorem dX2_isSame_304 : decode cX2_isSame 304 = .ok (.istore 6, 2) := by decide +kernel
theorem dX2_isSame_306 : decode cX2_isSame 306 = .ok (.aload_n 1, 1) := by decide +kernel
theorem dX2_isSame_307 : decode cX2_isSame 307 = .ok (.iload 8, 2) := by decide +kernel
theorem dX2_isSame_309 : decode cX2_isSame 309 = .ok (.invokevirtual 94, 3) := by decide +kernel
theorem dX2_isSame_312 : decode cX2_isSame 312 = .ok (.aload 9, 2) := by decide +kernel
theorem dX2_isSame_314 : decode cX2_isSame 314 = .ok (.iconst 1, 1) := by decide +kernel
theorem dX2_isSame_315 : decode cX2_isSame 315 = .ok (.iaload, 1) := by decide +kernel
theorem dX2_isSame_316 : decode cX2_isSame 316 = .ok (.if_icmp .ne 31, 3) := by decide +kernel
theorem dX2_isSame_319 : decode cX2_isSame 319 = .ok (.aload_n 1, 1) := by decide +kernel
theorem dX2_isSame_320 : decode cX2_isSame 320 = .ok (.iload 8, 2) := by decide +kernel
theorem dX2_isSame_322 : decode cX2_isSame 322 = .ok (.invokevirtual 97, 3) := by decide +kernel
theorem dX2_isSame_325 : decode cX2_isSame 325 = .ok (.aload 9, 2) := by decide +kernel
theorem dX2_isSame_327 : decode cX2_isSame 327 = .ok (.iconst 0, 1) := by decide +kernel
theorem dX2_isSame_328 : decode cX2_isSame 328 = .ok (.iaload, 1) := by decide +kernel
theorem dX2_isSame_329 : decode cX2_isSame 329 = .ok (.if_icmp .ne 18, 3) := by decide +kernel
theorem dX2_isSame_332 : decode cX2_isSame 332 = .ok (.aload_n 1, 1) := by decide +kernel
theorem dX2_isSame_333 : decode cX2_isSame 333 = .ok (.iload 8, 2) := by decide +kernel
theorem dX2_isSame_335 : decode cX2_isSame 335 = .ok (.invokevirtual 100, 3) := by decide +kernel
theorem dX2_isSame_338 : decode cX2_isSame 338 = .ok (.aload_n 0, 1) := by decide +kernel
theorem dX2_isSame_339 : decode cX2_isSame 339 = .ok (.aload 9, 2) := by decide +kernel
theorem dX2_isSame_341 : decode cX2_isSame 341 = .ok (.invokevirtual 41, 3) := by decide +kernel
theorem dX2_isSame_344 : decode cX2_isSame 344 = .ok (.if_icmp .eq 5, 3) := by decide +kernel
theorem dX2_isSame_347 : decode cX2_isSame 347 = .ok (.iconst 0, 1) := by decide +kernel
theorem dX2_isSame_348 : decode cX2_isSame 348 = .ok (.ireturn, 1) := by decide +kernel
theorem dX2_isSame_349 : decode cX2_isSame 349 = .ok (.iinc 8 1, 3) := by decide +kernel
theorem dX2_isSame_352 : decode cX2_isSame 352 = .ok (.goto (-130), 3) := by decide +kernel
theorem dX2_isSame_355 : decode cX2_isSame 355 = .ok (.aload_n 1, 1) := by decide +kernel
theorem dX2_isSame_356 : decode cX2_isSame 356 = .ok (.invokevirtual 103, 3) := by decide +kernel
theorem dX2_isSame_359 : decode cX2_isSame 359 = .ok (.aload_n 3, 1) := by decide +kernel
theorem dX2_isSame_360 : decode cX2_isSame 360 = .ok (.iconst 0, 1) := by decide +kernel
theorem dX2_isSame_361 : decode cX2_isSame 361 = .ok (.iaload, 1) := by decide +kernel
theorem dX2_isSame_362 : decode cX2_isSame 362 = .ok (.if_icmp .ne 64, 3) := by decide +kernel
theorem dX2_isSame_365 : decode cX2_isSame 365 = .ok (.aload_n 1, 1) := by decide +kernel
theorem dX2_isSame_366 : decode cX2_isSame 366 = .ok (.invokevirtual 106, 3) := by decide +kernel
theorem dX2_isSame_369 : decode cX2_isSame 369 = .ok (.iload 4, 2) := by decide +kernel
theorem dX2_isSame_371 : decode cX2_isSame 371 = .ok (.if_icmp .ne 55, 3) := by decide +kernel
theorem dX2_isSame_374 : decode cX2_isSame 374 = .ok (.aload_n 1, 1) := by decide +kernel
theorem dX2_isSame_375 : decode cX2_isSame 375 = .ok (.invokevirtual 109, 3) := by decide +kernel
theorem dX2_isSame_378 : decode cX2_isSame 378 = .ok (.iload 5, 2) := by decide +kernel
theorem dX2_isSame_380 : decode cX2_isSame 380 = .ok (.if_icmp .ne 46, 3) := by decide +kernel
theorem dX2_isSame_383 : decode cX2_isSame 383 = .ok (.aload_n 1, 1) := by decide +kernel
theorem dX2_isSame_384 : decode cX2_isSame 384 = .ok (.invokevirtual 112, 3) := by decide +kernel
theorem dX2_isSame_387 : decode cX2_isSame 387 = .ok (.iload 6, 2) := by decide +kernel
theorem dX2_isSame_389 : decode cX2_isSame 389 = .ok (.if_icmp .ne 37, 3) := by decide +kernel
theorem dX2_isSame_392 : decode cX2_isSame 392 = .ok (.aload_n 1, 1) := by decide +kernel
theorem dX2_isSame_393 : decode cX2_isSame 393 = .ok (.invokevirtual 115, 3) := by decide +kernel
theorem dX2_isSame_396 : decode cX2_isSame 396 = .ok (.aload_n 0, 1) := by decide +kernel
theorem dX2_isSame_397 : decode cX2_isSame 397 = .ok (.getfield 19, 3) := by decide +kernel
theorem dX2_isSame_400 : decode cX2_isSame 400 = .ok (.arraylength, 1) := by decide +kernel
theorem dX2_isSame_401 : decode cX2_isSame 401 = .ok (.ifCond .ne 7, 3) := by decide +kernel
theorem dX2_isSame_404 : decode cX2_isSame 404 = .ok (.dconst 0, 1) := by decide +kernel
theorem dX2_isSame_405 : decode cX2_isSame 405 = .ok (.goto 13, 3) := by decide +kernel
theorem dX2_isSame_408 : decode cX2_isSame 408 = .ok (.iload 7, 2) := by decide +kernel
theorem dX2_isSame_410 : decode cX2_isSame 410 = .ok (.i2d, 1) := by decide +kernel
theorem dX2_isSame_411 : decode cX2_isSame 411 = .ok (.aload_n 0, 1) := by decide +kernel
theorem dX2_isSame_412 : decode cX2_isSame 412 = .ok (.getfield 19, 3) := by decide +kernel
theorem dX2_isSame_415 : decode cX2_isSame 415 = .ok (.arraylength, 1) := by decide +kernel
theorem dX2_isSame_416 : decode cX2_isSame 416 = .ok (.i2d, 1) := by decide +kernel
theorem dX2_isSame_417 : decode cX2_isSame 417 = .ok (.ddiv, 1) := by decide +kernel
theorem dX2_isSame_418 : decode cX2_isSame 418 = .ok (.dcmp .l, 1) := by decide +kernel
theorem dX2_isSame_419 : decode cX2_isSame 419 = .ok (.ifCond .ne 7, 3) := by decide +kernel
theorem dX2_isSame_422 : decode cX2_isSame 422 = .ok (.iconst 1, 1) := by decide +kernel
theorem dX2_isSame_423 : decode cX2_isSame 423 = .ok (.goto 4, 3) := by decide +kernel
theorem dX2_isSame_426 : decode cX2_isSame 426 = .ok (.iconst 0, 1) := by decide +kernel
theorem dX2_isSame_427 : decode cX2_isSame 427 = .ok (.ireturn, 1) := by decide +kernel
set_option maxRecDepth 20000 in
theorem ggX2_divisor_X2_divisor : GoodIn wsX2_divisor wsX2_divisor := goodIn_r _ [0, 1, 2, 3] (by decide +kernel) (by decide +kernel)
set_option maxRecDepth 20000 in
theorem gX2_divisor_X2_divisor : GoodIn wsX2_divisor (va_wsS RX2 22 yX2_divisor wsX2_divisor) := goodIn_app (goodIn_of _ (by decide +kernel)) ggX2_divisor_X2_divisor
set_option maxRecDepth 20000 in
theorem ggX2_ratio_X2_divisor : GoodIn wsX2_ratio wsX2_divisor := goodIn_r _ [6, 3, 4, 5] (by decide +kernel) (by decide +kernel)
set_option maxRecDepth 20000 in
theorem gX2_ratio_X2_divisor : GoodIn wsX2_ratio (va_wsS RX2 22 yX2_divisor wsX2_divisor) := goodIn_app (goodIn_of _ (by decide +kernel)) ggX2_ratio_X2_divisor
set_option maxRecDepth 20000 in
theorem ggX2_isLonger_X2_ratio : GoodIn wsX2_isLonger wsX2_ratio := goodIn_r _ [5, 6, 7, 8, 9, 4, 10, 11, 12, 13, 14, 15, 16] (by decide +kernel) (by decide +kernel)
set_option maxRecDepth 20000 in
theorem gX2_isLonger_X2_ratio : GoodIn wsX2_isLonger (wsV RX2 26 RX2 yX2_ratio wsX2_ratio) := goodIn_app (goodIn_of _ (by decide +kernel)) ggX2_isLonger_X2_ratio
set_option maxRecDepth 20000 in
theorem ggX2_order_X2_isLonger : GoodIn wsX2_order wsX2_isLonger := goodIn_r _ [7, 8, 9, 10, 6, 11, 1, 12, 13, 14, 15, 16, 17, 18, 19, 20, 21] (by decide +kernel) (by decide +kernel)
set_option maxRecDepth 20000 in
theorem gX2_order_X2_isLonger : GoodIn wsX2_order (wsV RX2 30 RX2 yX2_isLonger wsX2_isLonger) := goodIn_app (goodIn_of _ (by decide +kernel)) ggX2_order_X2_isLonger
set_option maxRecDepth 20000 in
theorem ggX2_pass_X2_isHonest : GoodIn wsX2_pass wsX2_isHonest := goodIn_r _ [12, 13, 14, 15, 16, 17, 18, 19] (by decide +kernel) (by decide +kernel)
set_option maxRecDepth 20000 in
theorem gX2_pass_X2_isHonest : GoodIn wsX2_pass (wsV RX2 41 RX2 yX2_isHonest wsX2_isHonest) := goodIn_app (goodIn_of _ (by decide +kernel)) ggX2_pass_X2_isHonest
set_option maxRecDepth 20000 in
theorem ggX2_behind_X2_pass : GoodIn wsX2_behind wsX2_pass := goodIn_r _ [6, 7, 8, 1, 9, 10, 11, 12, 13, 14, 15, 5, 16, 17, 18, 19, 20, 21, 22, 23] (by decide +kernel) (by decide +kernel)
set_option maxRecDepth 20000 in
theorem gX2_behind_X2_pass : GoodIn wsX2_behind (wsV RX2 54 RX2 yX2_pass wsX2_pass) := goodIn_app (goodIn_of _ (by decide +kernel)) ggX2_behind_X2_pass
set_option maxRecDepth 20000 in
theorem ggX2_isSame_X1_measures : GoodIn wsX2_isSame wsX1_measures := goodIn_r _ [15, 16, 149, 150, 151, 152, 153, 154, 155, 156, 157] (by decide +kernel) (by decide +kernel)
set_option maxRecDepth 20000 in
theorem gX2_isSame_X1_measures : GoodIn wsX2_isSame (wsV RX2 66 RX1 yX1_measures wsX1_measures) := goodIn_app (goodIn_of _ (by decide +kernel)) ggX2_isSame_X1_measures
set_option maxRecDepth 20000 in
theorem ggX2_isSame_X1_stalls : GoodIn wsX2_isSame wsX1_stalls := goodIn_r _ [20, 21, 149, 150, 151, 152, 153, 154, 155, 156, 157, 158, 159, 160, 161, 162] (by decide +kernel) (by decide +kernel)
set_option maxRecDepth 20000 in
theorem gX2_isSame_X1_stalls : GoodIn wsX2_isSame (wsV RX2 70 RX1 yX1_stalls wsX1_stalls) := goodIn_app (goodIn_of _ (by decide +kernel)) ggX2_isSame_X1_stalls
set_option maxRecDepth 20000 in
theorem ggX2_isSame_X1_days : GoodIn wsX2_isSame wsX1_days := goodIn_r _ [25, 21, 149, 150, 151, 152, 153, 154, 155, 156, 157, 158, 159, 160, 161, 162] (by decide +kernel) (by decide +kernel)
set_option maxRecDepth 20000 in
theorem gX2_isSame_X1_days : GoodIn wsX2_isSame (wsV RX2 72 RX1 yX1_days wsX1_days) := goodIn_app (goodIn_of _ (by decide +kernel)) ggX2_isSame_X1_days
set_option maxRecDepth 20000 in
theorem ggX2_isSame_X1_standard : GoodIn wsX2_isSame wsX1_standard := goodIn_r _ [29, 30, 149, 150, 151, 152, 153, 154, 155, 156, 157] (by decide +kernel) (by decide +kernel)
set_option maxRecDepth 20000 in
theorem gX2_isSame_X1_standard : GoodIn wsX2_isSame (wsV RX2 75 RX1 yX1_standard wsX1_standard) := goodIn_app (goodIn_of _ (by decide +kernel)) ggX2_isSame_X1_standard
set_option maxRecDepth 20000 in
theorem ggX2_isSame_X1_tolerance : GoodIn wsX2_isSame wsX1_tolerance := goodIn_r _ [34, 21, 149, 150, 151, 152, 153, 154, 155, 156, 157, 158, 159, 160, 161, 162] (by decide +kernel) (by decide +kernel)
set_option maxRecDepth 20000 in
theorem gX2_isSame_X1_tolerance : GoodIn wsX2_isSame (wsV RX2 77 RX1 yX1_tolerance wsX1_tolerance) := goodIn_app (goodIn_of _ (by decide +kernel)) ggX2_isSame_X1_tolerance
set_option maxRecDepth 20000 in
theorem ggX2_isSame_X1_fines : GoodIn wsX2_isSame wsX1_fines := goodIn_r _ [38, 39, 149, 150, 151, 152, 153, 154, 155, 156, 157] (by decide +kernel) (by decide +kernel)
set_option maxRecDepth 20000 in
theorem gX2_isSame_X1_fines : GoodIn wsX2_isSame (wsV RX2 79 RX1 yX1_fines wsX1_fines) := goodIn_app (goodIn_of _ (by decide +kernel)) ggX2_isSame_X1_fines
set_option maxRecDepth 20000 in
theorem ggX2_isSame_X2_order : GoodIn wsX2_isSame wsX2_order := goodIn_r _ [44, 1, 45, 46, 47, 48, 43, 49, 50, 51, 52, 53, 54, 55, 56, 57, 143, 144, 145, 146, 147, 148] (by decide +kernel) (by decide +kernel)
set_option maxRecDepth 20000 in
theorem gX2_isSame_X2_order : GoodIn wsX2_isSame (wsV RX2 34 RX2 yX2_order wsX2_order) := goodIn_app (goodIn_of _ (by decide +kernel)) ggX2_isSame_X2_order
set_option maxRecDepth 20000 in
theorem ggX2_isSame_X2_ratio : GoodIn wsX2_isSame wsX2_ratio := goodIn_r _ [53, 1, 54, 55, 56, 43, 57, 143, 144, 145, 146, 147, 148] (by decide +kernel) (by decide +kernel)
set_option maxRecDepth 20000 in
theorem gX2_isSame_X2_ratio : GoodIn wsX2_isSame (wsV RX2 26 RX2 yX2_ratio wsX2_ratio) := goodIn_app (goodIn_of _ (by decide +kernel)) ggX2_isSame_X2_ratio
set_option maxRecDepth 20000 in
theorem ggX2_isSame_X2_isLonger : GoodIn wsX2_isSame wsX2_isLonger := goodIn_r _ [49, 50, 51, 52, 43, 53, 1, 54, 55, 56, 57, 143, 144, 145, 146, 147, 148] (by decide +kernel) (by decide +kernel)
set_option maxRecDepth 20000 in
theorem gX2_isSame_X2_isLonger : GoodIn wsX2_isSame (wsV RX2 30 RX2 yX2_isLonger wsX2_isLonger) := goodIn_app (goodIn_of _ (by decide +kernel)) ggX2_isSame_X2_isLonger
set_option maxRecDepth 20000 in
theorem ggX2_isSame_X1_baseOf : GoodIn wsX2_isSame wsX1_baseOf := goodIn_ca (goodIn_r _ [61, 62, 63, 64, 65, 14, 66, 67, 68, 16, 69, 70, 71, 149, 150, 151, 152, 153, 154, 155, 156, 157] (by decide +kernel) (by decide +kernel)) (goodIn_sub (fun _ h => List.mem_cons_of_mem _ (List.mem_append_right _ h)) (by decide +kernel))
set_option maxRecDepth 20000 in
theorem gX2_isSame_X1_baseOf : GoodIn wsX2_isSame (wsV RX2 81 RX1 yX1_baseOf wsX1_baseOf) := goodIn_app (goodIn_of _ (by decide +kernel)) ggX2_isSame_X1_baseOf
set_option maxRecDepth 20000 in
theorem ggX2_isSame_X1_stepsToEll : GoodIn wsX2_isSame wsX1_stepsToEll := goodIn_ca (goodIn_r _ [75, 76, 63, 64, 65, 14, 66, 67, 68, 16, 69, 70, 71, 149, 150, 151, 152, 153, 154, 155, 156, 157] (by decide +kernel) (by decide +kernel)) (goodIn_sub (fun _ h => List.mem_cons_of_mem _ (List.mem_append_right _ h)) (by decide +kernel))
set_option maxRecDepth 20000 in
theorem gX2_isSame_X1_stepsToEll : GoodIn wsX2_isSame (wsV RX2 84 RX1 yX1_stepsToEll wsX1_stepsToEll) := goodIn_app (goodIn_of _ (by decide +kernel)) ggX2_isSame_X1_stepsToEll
set_option maxRecDepth 20000 in
theorem ggX2_isSame_X1_lengthTop : GoodIn wsX2_isSame wsX1_lengthTop := goodIn_ca (goodIn_r _ [80, 81, 30, 63, 64, 65, 14, 66, 67, 68, 16, 69, 70, 71, 82, 83, 84, 85, 86, 87, 88, 89, 90, 149, 150, 151, 152, 153, 154, 155, 156, 157] (by decide +kernel) (by decide +kernel)) (goodIn_sub (fun _ h => List.mem_cons_of_mem _ (List.mem_append_right _ h)) (by decide +kernel))
set_option maxRecDepth 20000 in
theorem gX2_isSame_X1_lengthTop : GoodIn wsX2_isSame (wsV RX2 87 RX1 yX1_lengthTop wsX1_lengthTop) := goodIn_app (goodIn_of _ (by decide +kernel)) ggX2_isSame_X1_lengthTop
set_option maxRecDepth 20000 in
theorem ggX2_isSame_X1_lengthBottom : GoodIn wsX2_isSame wsX1_lengthBottom := goodIn_ca (goodIn_r _ [94, 81, 30, 63, 64, 65, 14, 66, 67, 68, 16, 69, 70, 71, 82, 83, 84, 85, 86, 87, 88, 89, 90, 149, 150, 151, 152, 153, 154, 155, 156, 157] (by decide +kernel) (by decide +kernel)) (goodIn_sub (fun _ h => List.mem_cons_of_mem _ (List.mem_append_right _ h)) (by decide +kernel))
set_option maxRecDepth 20000 in
theorem gX2_isSame_X1_lengthBottom : GoodIn wsX2_isSame (wsV RX2 91 RX1 yX1_lengthBottom wsX1_lengthBottom) := goodIn_app (goodIn_of _ (by decide +kernel)) ggX2_isSame_X1_lengthBottom
set_option maxRecDepth 20000 in
theorem ggX2_isSame_X1_driftOf : GoodIn wsX2_isSame wsX1_driftOf := goodIn_ca (goodIn_r _ [98, 21, 99, 100, 101, 14, 102, 67, 68, 69, 70, 71, 149, 150, 151, 152, 153, 154, 155, 156, 157, 158, 159, 160, 161, 162] (by decide +kernel) (by decide +kernel)) (goodIn_sub (fun _ h => List.mem_cons_of_mem _ (List.mem_append_right _ h)) (by decide +kernel))
set_option maxRecDepth 20000 in
theorem gX2_isSame_X1_driftOf : GoodIn wsX2_isSame (wsV RX2 94 RX1 yX1_driftOf wsX1_driftOf) := goodIn_app (goodIn_of _ (by decide +kernel)) ggX2_isSame_X1_driftOf
set_option maxRecDepth 20000 in
theorem ggX2_isSame_X1_wearOf : GoodIn wsX2_isSame wsX1_wearOf := goodIn_ca (goodIn_r _ [106, 21, 99, 100, 101, 14, 102, 67, 68, 69, 70, 71, 149, 150, 151, 152, 153, 154, 155, 156, 157, 158, 159, 160, 161, 162] (by decide +kernel) (by decide +kernel)) (goodIn_sub (fun _ h => List.mem_cons_of_mem _ (List.mem_append_right _ h)) (by decide +kernel))
set_option maxRecDepth 20000 in
theorem gX2_isSame_X1_wearOf : GoodIn wsX2_isSame (wsV RX2 97 RX1 yX1_wearOf wsX1_wearOf) := goodIn_app (goodIn_of _ (by decide +kernel)) ggX2_isSame_X1_wearOf
set_option maxRecDepth 20000 in
theorem ggX2_isSame_X1_isHonest : GoodIn wsX2_isSame wsX1_isHonest := goodIn_ca (goodIn_r _ [110, 21, 99, 100, 101, 14, 102, 67, 68, 69, 70, 71, 111, 112, 113, 114, 115, 8, 9, 10, 116, 149, 150, 151, 152, 153, 154, 155, 156, 157, 158, 159, 160, 161, 162] (by decide +kernel) (by decide +kernel)) (goodIn_sub (fun _ h => List.mem_cons_of_mem _ (List.mem_append_right _ h)) (by decide +kernel))
set_option maxRecDepth 20000 in
theorem gX2_isSame_X1_isHonest : GoodIn wsX2_isSame (wsV RX2 100 RX1 yX1_isHonest wsX1_isHonest) := goodIn_app (goodIn_of _ (by decide +kernel)) ggX2_isSame_X1_isHonest
set_option maxRecDepth 20000 in
theorem ggX2_isSame_X2_isHonest : GoodIn wsX2_isSame wsX2_isHonest := goodIn_r _ [120, 5, 143, 144, 145, 146, 147, 148] (by decide +kernel) (by decide +kernel)
set_option maxRecDepth 20000 in
theorem gX2_isSame_X2_isHonest : GoodIn wsX2_isSame (wsV RX2 41 RX2 yX2_isHonest wsX2_isHonest) := goodIn_app (goodIn_of _ (by decide +kernel)) ggX2_isSame_X2_isHonest
set_option maxRecDepth 20000 in
theorem ggX2_isSame_X1_longest : GoodIn wsX2_isSame wsX1_longest := goodIn_r _ [124, 125, 149, 150, 151, 152, 153, 154, 155, 156, 157] (by decide +kernel) (by decide +kernel)
set_option maxRecDepth 20000 in
theorem gX2_isSame_X1_longest : GoodIn wsX2_isSame (wsV RX2 103 RX1 yX1_longest wsX1_longest) := goodIn_app (goodIn_of _ (by decide +kernel)) ggX2_isSame_X1_longest
set_option maxRecDepth 20000 in
theorem ggX2_isSame_X1_shortest : GoodIn wsX2_isSame wsX1_shortest := goodIn_r _ [129, 16, 81, 149, 150, 151, 152, 153, 154, 155, 156, 157] (by decide +kernel) (by decide +kernel)
set_option maxRecDepth 20000 in
theorem gX2_isSame_X1_shortest : GoodIn wsX2_isSame (wsV RX2 106 RX1 yX1_shortest wsX1_shortest) := goodIn_app (goodIn_of _ (by decide +kernel)) ggX2_isSame_X1_shortest
set_option maxRecDepth 20000 in
theorem ggX2_isSame_X1_mostHonest : GoodIn wsX2_isSame wsX1_mostHonest := goodIn_r _ [133, 21, 134, 8, 9, 10, 149, 150, 151, 152, 153, 154, 155, 156, 157, 158, 159, 160, 161, 162] (by decide +kernel) (by decide +kernel)
set_option maxRecDepth 20000 in
theorem gX2_isSame_X1_mostHonest : GoodIn wsX2_isSame (wsV RX2 109 RX1 yX1_mostHonest wsX1_mostHonest) := goodIn_app (goodIn_of _ (by decide +kernel)) ggX2_isSame_X1_mostHonest
set_option maxRecDepth 20000 in
theorem ggX2_isSame_X1_mostGenerous : GoodIn wsX2_isSame wsX1_mostGenerous := goodIn_r _ [138, 21, 149, 150, 151, 152, 153, 154, 155, 156, 157, 158, 159, 160, 161, 162] (by decide +kernel) (by decide +kernel)
set_option maxRecDepth 20000 in
theorem gX2_isSame_X1_mostGenerous : GoodIn wsX2_isSame (wsV RX2 112 RX1 yX1_mostGenerous wsX1_mostGenerous) := goodIn_app (goodIn_of _ (by decide +kernel)) ggX2_isSame_X1_mostGenerous
set_option maxRecDepth 20000 in
theorem ggX2_isSame_X1_meanDrift : GoodIn wsX2_isSame wsX1_meanDrift := goodIn_r _ [142, 21, 149, 150, 151, 152, 153, 154, 155, 156, 157, 158, 159, 160, 161, 162] (by decide +kernel) (by decide +kernel)
set_option maxRecDepth 20000 in
theorem gX2_isSame_X1_meanDrift : GoodIn wsX2_isSame (wsV RX2 115 RX1 yX1_meanDrift wsX1_meanDrift) := goodIn_app (goodIn_of _ (by decide +kernel)) ggX2_isSame_X1_meanDrift
end
section
theorem dL_below_0 : decode cL_below 0 = .ok (.iload_n 0, 1) := by decide +kernel
theorem dL_below_1 : decode cL_below 1 = .ok (.ldc 7, 2) := by decide +kernel
theorem dL_below_3 : decode cL_below 3 = .ok (.iand, 1) := by decide +kernel
theorem dL_below_4 : decode cL_below 4 = .ok (.iload_n 1, 1) := by decide +kernel
theorem dL_below_5 : decode cL_below 5 = .ok (.irem, 1) := by decide +kernel
theorem dL_below_6 : decode cL_below 6 = .ok (.ireturn, 1) := by decide +kernel
theorem dL_cell_0 : decode cL_cell 0 = .ok (.iload_n 1, 1) := by decide +kernel
theorem dL_cell_1 : decode cL_cell 1 = .ok (.aload_n 0, 1) := by decide +kernel
theorem dL_cell_2 : decode cL_cell 2 = .ok (.arraylength, 1) := by decide +kernel
theorem dL_cell_3 : decode cL_cell 3 = .ok (.if_icmp .ge 9, 3) := by decide +kernel
theorem dL_cell_6 : decode cL_cell 6 = .ok (.aload_n 0, 1) := by decide +kernel
theorem dL_cell_7 : decode cL_cell 7 = .ok (.iload_n 1, 1) := by decide +kernel
theorem dL_cell_8 : decode cL_cell 8 = .ok (.iaload, 1) := by decide +kernel
theorem dL_cell_9 : decode cL_cell 9 = .ok (.goto 9, 3) := by decide +kernel
theorem dL_cell_12 : decode cL_cell 12 = .ok (.ldc 8, 2) := by decide +kernel
theorem dL_cell_14 : decode cL_cell 14 = .ok (.iload_n 1, 1) := by decide +kernel
theorem dL_cell_15 : decode cL_cell 15 = .ok (.iconst 3, 1) := by decide +kernel
theorem dL_cell_16 : decode cL_cell 16 = .ok (.iadd, 1) := by decide +kernel
theorem dL_cell_17 : decode cL_cell 17 = .ok (.imul, 1) := by decide +kernel
theorem dL_cell_18 : decode cL_cell 18 = .ok (.ireturn, 1) := by decide +kernel
theorem dL_act_0 : decode cL_act 0 = .ok (.aload_n 1, 1) := by decide +kernel
theorem dL_act_1 : decode cL_act 1 = .ok (.getfield 9, 3) := by decide +kernel
theorem dL_act_4 : decode cL_act 4 = .ok (.arraylength, 1) := by decide +kernel
theorem dL_act_5 : decode cL_act 5 = .ok (.istore_n 3, 1) := by decide +kernel
theorem dL_act_6 : decode cL_act 6 = .ok (.aload_n 1, 1) := by decide +kernel
theorem dL_act_7 : decode cL_act 7 = .ok (.getfield 15, 3) := by decide +kernel
theorem dL_act_10 : decode cL_act 10 = .ok (.arraylength, 1) := by decide +kernel
theorem dL_act_11 : decode cL_act 11 = .ok (.istore 4, 2) := by decide +kernel
theorem dL_act_13 : decode cL_act 13 = .ok (.iload_n 2, 1) := by decide +kernel
theorem dL_act_14 : decode cL_act 14 = .ok (.bipush 9, 2) := by decide +kernel
theorem dL_act_16 : decode cL_act 16 = .ok (.ishr, 1) := by decide +kernel
theorem dL_act_17 : decode cL_act 17 = .ok (.bipush 14, 2) := by decide +kernel
theorem dL_act_19 : decode cL_act 19 = .ok (.invokestatic 18, 3) := by decide +kernel
theorem dL_act_22 : decode cL_act 22 = .ok (.tableswitch 418 0 8 #[50, 50, 50, 139, 175, 175, 242, 312, 368], 50) := by decide +kernel
theorem dL_act_72 : decode cL_act 72 = .ok (.iload_n 3, 1) := by decide +kernel
theorem dL_act_73 : decode cL_act 73 = .ok (.bipush 8, 2) := by decide +kernel
theorem dL_act_75 : decode cL_act 75 = .ok (.if_icmp .ne 5, 3) := by decide +kernel
theorem dL_act_78 : decode cL_act 78 = .ok (.iconst 1, 1) := by decide +kernel
theorem dL_act_79 : decode cL_act 79 = .ok (.ireturn, 1) := by decide +kernel
theorem dL_act_80 : decode cL_act 80 = .ok (.iconst 3, 1) := by decide +kernel
theorem dL_act_81 : decode cL_act 81 = .ok (.newarray .int, 2) := by decide +kernel
theorem dL_act_83 : decode cL_act 83 = .ok (.dup, 1) := by decide +kernel
theorem dL_act_84 : decode cL_act 84 = .ok (.iconst 0, 1) := by decide +kernel
theorem dL_act_85 : decode cL_act 85 = .ok (.iload_n 2, 1) := by decide +kernel
theorem dL_act_86 : decode cL_act 86 = .ok (.iconst 1, 1) := by decide +kernel
theorem dL_act_87 : decode cL_act 87 = .ok (.ishr, 1) := by decide +kernel
theorem dL_act_88 : decode cL_act 88 = .ok (.iload_n 3, 1) := by decide +kernel
theorem dL_act_89 : decode cL_act 89 = .ok (.invokestatic 18, 3) := by decide +kernel
theorem dL_act_92 : decode cL_act 92 = .ok (.iastore, 1) := by decide +kernel
theorem dL_act_93 : decode cL_act 93 = .ok (.dup, 1) := by decide +kernel
theorem dL_act_94 : decode cL_act 94 = .ok (.iconst 1, 1) := by decide +kernel
theorem dL_act_95 : decode cL_act 95 = .ok (.iconst 1, 1) := by decide +kernel
theorem dL_act_96 : decode cL_act 96 = .ok (.iload_n 2, 1) := by decide +kernel
theorem dL_act_97 : decode cL_act 97 = .ok (.iconst 3, 1) := by decide +kernel
theorem dL_act_98 : decode cL_act 98 = .ok (.ishr, 1) := by decide +kernel
theorem dL_act_99 : decode cL_act 99 = .ok (.bipush 9, 2) := by decide +kernel
theorem dL_act_101 : decode cL_act 101 = .ok (.invokestatic 18, 3) := by decide +kernel
theorem dL_act_104 : decode cL_act 104 = .ok (.iadd, 1) := by decide +kernel
theorem dL_act_105 : decode cL_act 105 = .ok (.iastore, 1) := by decide +kernel
theorem dL_act_106 : decode cL_act 106 = .ok (.dup, 1) := by decide +kernel
theorem dL_act_107 : decode cL_act 107 = .ok (.iconst 2, 1) := by decide +kernel
theorem dL_act_108 : decode cL_act 108 = .ok (.iconst 1, 1) := by decide +kernel
theorem dL_act_109 : decode cL_act 109 = .ok (.iload_n 2, 1) := by decide +kernel
theorem dL_act_110 : decode cL_act 110 = .ok (.bipush 6, 2) := by decide +kernel
theorem dL_act_112 : decode cL_act 112 = .ok (.ishr, 1) := by decide +kernel
theorem dL_act_113 : decode cL_act 113 = .ok (.bipush 9, 2) := by decide +kernel
theorem dL_act_115 : decode cL_act 115 = .ok (.invokestatic 18, 3) := by decide +kernel
theorem dL_act_118 : decode cL_act 118 = .ok (.iadd, 1) := by decide +kernel
theorem dL_act_119 : decode cL_act 119 = .ok (.iastore, 1) := by decide +kernel
theorem dL_act_120 : decode cL_act 120 = .ok (.astore 5, 2) := by decide +kernel
theorem dL_act_122 : decode cL_act 122 = .ok (.aload_n 1, 1) := by decide +kernel
theorem dL_act_123 : decode cL_act 123 = .ok (.aload_n 1, 1) := by decide +kernel
theorem dL_act_124 : decode cL_act 124 = .ok (.getfield 9, 3) := by decide +kernel
theorem dL_act_127 : decode cL_act 127 = .ok (.aload 5, 2) := by decide +kernel
theorem dL_act_129 : decode cL_act 129 = .ok (.invokestatic 24, 3) := by decide +kernel
theorem dL_act_132 : decode cL_act 132 = .ok (.putfield 9, 3) := by decide +kernel
theorem dL_act_135 : decode cL_act 135 = .ok (.aload_n 0, 1) := by decide +kernel
theorem dL_act_136 : decode cL_act 136 = .ok (.aload 5, 2) := by decide +kernel
theorem dL_act_138 : decode cL_act 138 = .ok (.iconst 0, 1) := by decide +kernel
theorem dL_act_139 : decode cL_act 139 = .ok (.iaload, 1) := by decide +kernel
theorem dL_act_140 : decode cL_act 140 = .ok (.aload 5, 2) := by decide +kernel
theorem dL_act_142 : decode cL_act 142 = .ok (.iconst 1, 1) := by decide +kernel
theorem dL_act_143 : decode cL_act 143 = .ok (.iaload, 1) := by decide +kernel
theorem dL_act_144 : decode cL_act 144 = .ok (.aload 5, 2) := by decide +kernel
theorem dL_act_146 : decode cL_act 146 = .ok (.iconst 2, 1) := by decide +kernel
theorem dL_act_147 : decode cL_act 147 = .ok (.iaload, 1) := by decide +kernel
theorem dL_act_148 : decode cL_act 148 = .ok (.invokevirtual 28, 3) := by decide +kernel
theorem dL_act_151 : decode cL_act 151 = .ok (.iload_n 3, 1) := by decide +kernel
theorem dL_act_152 : decode cL_act 152 = .ok (.if_icmp .ne 7, 3) := by decide +kernel
theorem dL_act_155 : decode cL_act 155 = .ok (.iconst 1, 1) := by decide +kernel
theorem dL_act_156 : decode cL_act 156 = .ok (.goto 4, 3) := by decide +kernel
theorem dL_act_159 : decode cL_act 159 = .ok (.iconst 0, 1) := by decide +kernel
theorem dL_act_160 : decode cL_act 160 = .ok (.ireturn, 1) := by decide +kernel
theorem dL_act_161 : decode cL_act 161 = .ok (.aload_n 1, 1) := by decide +kernel
theorem dL_act_162 : decode cL_act 162 = .ok (.getfield 34, 3) := by decide +kernel
theorem dL_act_165 : decode cL_act 165 = .ok (.istore 6, 2) := by decide +kernel
theorem dL_act_167 : decode cL_act 167 = .ok (.aload_n 1, 1) := by decide +kernel
theorem dL_act_168 : decode cL_act 168 = .ok (.iload_n 2, 1) := by decide +kernel
theorem dL_act_169 : decode cL_act 169 = .ok (.iconst 2, 1) := by decide +kernel
theorem dL_act_170 : decode cL_act 170 = .ok (.ishr, 1) := by decide +kernel
theorem dL_act_171 : decode cL_act 171 = .ok (.iload_n 3, 1) := by decide +kernel
theorem dL_act_172 : decode cL_act 172 = .ok (.invokestatic 18, 3) := by decide +kernel
theorem dL_act_175 : decode cL_act 175 = .ok (.putfield 34, 3) := by decide +kernel
theorem dL_act_178 : decode cL_act 178 = .ok (.aload_n 0, 1) := by decide +kernel
theorem dL_act_179 : decode cL_act 179 = .ok (.aload_n 1, 1) := by decide +kernel
theorem dL_act_180 : decode cL_act 180 = .ok (.getfield 34, 3) := by decide +kernel
theorem dL_act_183 : decode cL_act 183 = .ok (.invokevirtual 38, 3) := by decide +kernel
theorem dL_act_186 : decode cL_act 186 = .ok (.iload 6, 2) := by decide +kernel
theorem dL_act_188 : decode cL_act 188 = .ok (.if_icmp .ne 7, 3) := by decide +kernel
theorem dL_act_191 : decode cL_act 191 = .ok (.iconst 1, 1) := by decide +kernel
theorem dL_act_192 : decode cL_act 192 = .ok (.goto 4, 3) := by decide +kernel
theorem dL_act_195 : decode cL_act 195 = .ok (.iconst 0, 1) := by decide +kernel
theorem dL_act_196 : decode cL_act 196 = .ok (.ireturn, 1) := by decide +kernel
theorem dL_act_197 : decode cL_act 197 = .ok (.iload 4, 2) := by decide +kernel
theorem dL_act_199 : decode cL_act 199 = .ok (.bipush 6, 2) := by decide +kernel
theorem dL_act_201 : decode cL_act 201 = .ok (.if_icmp .ne 5, 3) := by decide +kernel
theorem dL_act_204 : decode cL_act 204 = .ok (.iconst 1, 1) := by decide +kernel
theorem dL_act_205 : decode cL_act 205 = .ok (.ireturn, 1) := by decide +kernel
theorem dL_act_206 : decode cL_act 206 = .ok (.aload_n 1, 1) := by decide +kernel
theorem dL_act_207 : decode cL_act 207 = .ok (.aload_n 1, 1) := by decide +kernel
theorem dL_act_208 : decode cL_act 208 = .ok (.getfield 15, 3) := by decide +kernel
theorem dL_act_211 : decode cL_act 211 = .ok (.iconst 2, 1) := by decide +kernel
theorem dL_act_212 : decode cL_act 212 = .ok (.newarray .int, 2) := by decide +kernel
theorem dL_act_214 : decode cL_act 214 = .ok (.dup, 1) := by decide +kernel
theorem dL_act_215 : decode cL_act 215 = .ok (.iconst 0, 1) := by decide +kernel
theorem dL_act_216 : decode cL_act 216 = .ok (.iload_n 2, 1) := by decide +kernel
theorem dL_act_217 : decode cL_act 217 = .ok (.iconst 2, 1) := by decide +kernel
theorem dL_act_218 : decode cL_act 218 = .ok (.ishr, 1) := by decide +kernel
theorem dL_act_219 : decode cL_act 219 = .ok (.bipush 19, 2) := by decide +kernel
theorem dL_act_221 : decode cL_act 221 = .ok (.invokestatic 18, 3) := by decide +kernel
theorem dL_act_224 : decode cL_act 224 = .ok (.bipush 9, 2) := by decide +kernel
theorem dL_act_226 : decode cL_act 226 = .ok (.isub, 1) := by decide +kernel
theorem dL_act_227 : decode cL_act 227 = .ok (.iastore, 1) := by decide +kernel
theorem dL_act_228 : decode cL_act 228 = .ok (.dup, 1) := by decide +kernel
theorem dL_act_229 : decode cL_act 229 = .ok (.iconst 1, 1) := by decide +kernel
theorem dL_act_230 : decode cL_act 230 = .ok (.iconst 0, 1) := by decide +kernel
theorem dL_act_231 : decode cL_act 231 = .ok (.iastore, 1) := by decide +kernel
theorem dL_act_232 : decode cL_act 232 = .ok (.invokestatic 24, 3) := by decide +kernel
theorem dL_act_235 : decode cL_act 235 = .ok (.putfield 15, 3) := by decide +kernel
theorem dL_act_238 : decode cL_act 238 = .ok (.aload_n 0, 1) := by decide +kernel
theorem dL_act_239 : decode cL_act 239 = .ok (.iload_n 2, 1) := by decide +kernel
theorem dL_act_240 : decode cL_act 240 = .ok (.iconst 2, 1) := by decide +kernel
theorem dL_act_241 : decode cL_act 241 = .ok (.ishr, 1) := by decide +kernel
theorem dL_act_242 : decode cL_act 242 = .ok (.bipush 19, 2) := by decide +kernel
theorem dL_act_244 : decode cL_act 244 = .ok (.invokestatic 18, 3) := by decide +kernel
theorem dL_act_247 : decode cL_act 247 = .ok (.bipush 9, 2) := by decide +kernel
theorem dL_act_249 : decode cL_act 249 = .ok (.isub, 1) := by decide +kernel
theorem dL_act_250 : decode cL_act 250 = .ok (.invokevirtual 42, 3) := by decide +kernel
theorem dL_act_253 : decode cL_act 253 = .ok (.iload 4, 2) := by decide +kernel
theorem dL_act_255 : decode cL_act 255 = .ok (.if_icmp .ne 7, 3) := by decide +kernel
theorem dL_act_258 : decode cL_act 258 = .ok (.iconst 1, 1) := by decide +kernel
theorem dL_act_259 : decode cL_act 259 = .ok (.goto 4, 3) := by decide +kernel
theorem dL_act_262 : decode cL_act 262 = .ok (.iconst 0, 1) := by decide +kernel
theorem dL_act_263 : decode cL_act 263 = .ok (.ireturn, 1) := by decide +kernel
theorem dL_act_264 : decode cL_act 264 = .ok (.iload 4, 2) := by decide +kernel
theorem dL_act_266 : decode cL_act 266 = .ok (.ifCond .ne 5, 3) := by decide +kernel
theorem dL_act_269 : decode cL_act 269 = .ok (.iconst 1, 1) := by decide +kernel
theorem dL_act_270 : decode cL_act 270 = .ok (.ireturn, 1) := by decide +kernel
theorem dL_act_271 : decode cL_act 271 = .ok (.aload_n 1, 1) := by decide +kernel
theorem dL_act_272 : decode cL_act 272 = .ok (.getfield 15, 3) := by decide +kernel
theorem dL_act_275 : decode cL_act 275 = .ok (.iload_n 2, 1) := by decide +kernel
theorem dL_act_276 : decode cL_act 276 = .ok (.iconst 1, 1) := by decide +kernel
theorem dL_act_277 : decode cL_act 277 = .ok (.ishr, 1) := by decide +kernel
theorem dL_act_278 : decode cL_act 278 = .ok (.iload 4, 2) := by decide +kernel
theorem dL_act_280 : decode cL_act 280 = .ok (.invokestatic 18, 3) := by decide +kernel
theorem dL_act_283 : decode cL_act 283 = .ok (.aaload, 1) := by decide +kernel
theorem dL_act_284 : decode cL_act 284 = .ok (.astore 7, 2) := by decide +kernel
theorem dL_act_286 : decode cL_act 286 = .ok (.aload 7, 2) := by decide +kernel
theorem dL_act_288 : decode cL_act 288 = .ok (.iconst 0, 1) := by decide +kernel
theorem dL_act_289 : decode cL_act 289 = .ok (.iaload, 1) := by decide +kernel
theorem dL_act_290 : decode cL_act 290 = .ok (.istore 8, 2) := by decide +kernel
theorem dL_act_292 : decode cL_act 292 = .ok (.aload 7, 2) := by decide +kernel
theorem dL_act_294 : decode cL_act 294 = .ok (.iconst 0, 1) := by decide +kernel
theorem dL_act_295 : decode cL_act 295 = .ok (.iload_n 2, 1) := by decide +kernel
theorem dL_act_296 : decode cL_act 296 = .ok (.iconst 4, 1) := by decide +kernel
theorem dL_act_297 : decode cL_act 297 = .ok (.ishr, 1) := by decide +kernel
theorem dL_act_298 : decode cL_act 298 = .ok (.bipush 19, 2) := by decide +kernel
theorem dL_act_300 : decode cL_act 300 = .ok (.invokestatic 18, 3) := by decide +kernel
theorem dL_act_303 : decode cL_act 303 = .ok (.bipush 9, 2) := by decide +kernel
theorem dL_act_305 : decode cL_act 305 = .ok (.isub, 1) := by decide +kernel
theorem dL_act_306 : decode cL_act 306 = .ok (.iastore, 1) := by decide +kernel
theorem dL_act_307 : decode cL_act 307 = .ok (.aload_n 0, 1) := by decide +kernel
theorem dL_act_308 : decode cL_act 308 = .ok (.iload_n 2, 1) := by decide +kernel
theorem dL_act_309 : decode cL_act 309 = .ok (.iconst 1, 1) := by decide +kernel
theorem dL_act_310 : decode cL_act 310 = .ok (.ishr, 1) := by decide +kernel
theorem dL_act_311 : decode cL_act 311 = .ok (.iload 4, 2) := by decide +kernel
theorem dL_act_313 : decode cL_act 313 = .ok (.invokestatic 18, 3) := by decide +kernel
theorem dL_act_316 : decode cL_act 316 = .ok (.aload 7, 2) := by decide +kernel
theorem dL_act_318 : decode cL_act 318 = .ok (.iconst 0, 1) := by decide +kernel
theorem dL_act_319 : decode cL_act 319 = .ok (.iaload, 1) := by decide +kernel
theorem dL_act_320 : decode cL_act 320 = .ok (.invokevirtual 45, 3) := by decide +kernel
theorem dL_act_323 : decode cL_act 323 = .ok (.iload 8, 2) := by decide +kernel
theorem dL_act_325 : decode cL_act 325 = .ok (.if_icmp .ne 7, 3) := by decide +kernel
theorem dL_act_328 : decode cL_act 328 = .ok (.iconst 1, 1) := by decide +kernel
theorem dL_act_329 : decode cL_act 329 = .ok (.goto 4, 3) := by decide +kernel
theorem dL_act_332 : decode cL_act 332 = .ok (.iconst 0, 1) := by decide +kernel
theorem dL_act_333 : decode cL_act 333 = .ok (.ireturn, 1) := by decide +kernel
theorem dL_act_334 : decode cL_act 334 = .ok (.iload 4, 2) := by decide +kernel
theorem dL_act_336 : decode cL_act 336 = .ok (.ifCond .ne 5, 3) := by decide +kernel
theorem dL_act_339 : decode cL_act 339 = .ok (.iconst 1, 1) := by decide +kernel
theorem dL_act_340 : decode cL_act 340 = .ok (.ireturn, 1) := by decide +kernel
theorem dL_act_341 : decode cL_act 341 = .ok (.aload_n 1, 1) := by decide +kernel
theorem dL_act_342 : decode cL_act 342 = .ok (.getfield 15, 3) := by decide +kernel
theorem dL_act_345 : decode cL_act 345 = .ok (.iload_n 2, 1) := by decide +kernel
theorem dL_act_346 : decode cL_act 346 = .ok (.iconst 1, 1) := by decide +kernel
theorem dL_act_347 : decode cL_act 347 = .ok (.ishr, 1) := by decide +kernel
theorem dL_act_348 : decode cL_act 348 = .ok (.iload 4, 2) := by decide +kernel
theorem dL_act_350 : decode cL_act 350 = .ok (.invokestatic 18, 3) := by decide +kernel
theorem dL_act_353 : decode cL_act 353 = .ok (.aaload, 1) := by decide +kernel
theorem dL_act_354 : decode cL_act 354 = .ok (.astore 9, 2) := by decide +kernel
theorem dL_act_356 : decode cL_act 356 = .ok (.aload 9, 2) := by decide +kernel
theorem dL_act_358 : decode cL_act 358 = .ok (.iconst 1, 1) := by decide +kernel
theorem dL_act_359 : decode cL_act 359 = .ok (.iaload, 1) := by decide +kernel
theorem dL_act_360 : decode cL_act 360 = .ok (.istore 10, 2) := by decide +kernel
theorem dL_act_362 : decode cL_act 362 = .ok (.aload 9, 2) := by decide +kernel
theorem dL_act_364 : decode cL_act 364 = .ok (.iconst 1, 1) := by decide +kernel
theorem dL_act_365 : decode cL_act 365 = .ok (.iconst 0, 1) := by decide +kernel
theorem dL_act_366 : decode cL_act 366 = .ok (.iastore, 1) := by decide +kernel
theorem dL_act_367 : decode cL_act 367 = .ok (.aload_n 0, 1) := by decide +kernel
theorem dL_act_368 : decode cL_act 368 = .ok (.iload_n 2, 1) := by decide +kernel
theorem dL_act_369 : decode cL_act 369 = .ok (.iconst 1, 1) := by decide +kernel
theorem dL_act_370 : decode cL_act 370 = .ok (.ishr, 1) := by decide +kernel
theorem dL_act_371 : decode cL_act 371 = .ok (.iload 4, 2) := by decide +kernel
theorem dL_act_373 : decode cL_act 373 = .ok (.invokestatic 18, 3) := by decide +kernel
theorem dL_act_376 : decode cL_act 376 = .ok (.invokevirtual 48, 3) := by decide +kernel
theorem dL_act_379 : decode cL_act 379 = .ok (.iload 10, 2) := by decide +kernel
theorem dL_act_381 : decode cL_act 381 = .ok (.if_icmp .ne 7, 3) := by decide +kernel
theorem dL_act_384 : decode cL_act 384 = .ok (.iconst 1, 1) := by decide +kernel
theorem dL_act_385 : decode cL_act 385 = .ok (.goto 4, 3) := by decide +kernel
theorem dL_act_388 : decode cL_act 388 = .ok (.iconst 0, 1) := by decide +kernel
theorem dL_act_389 : decode cL_act 389 = .ok (.ireturn, 1) := by decide +kernel
theorem dL_act_390 : decode cL_act 390 = .ok (.aload_n 1, 1) := by decide +kernel
theorem dL_act_391 : decode cL_act 391 = .ok (.getfield 51, 3) := by decide +kernel
theorem dL_act_394 : decode cL_act 394 = .ok (.istore 11, 2) := by decide +kernel
theorem dL_act_396 : decode cL_act 396 = .ok (.aload_n 1, 1) := by decide +kernel
theorem dL_act_397 : decode cL_act 397 = .ok (.iload_n 2, 1) := by decide +kernel
theorem dL_act_398 : decode cL_act 398 = .ok (.iconst 2, 1) := by decide +kernel
theorem dL_act_399 : decode cL_act 399 = .ok (.ishr, 1) := by decide +kernel
theorem dL_act_400 : decode cL_act 400 = .ok (.iload_n 2, 1) := by decide +kernel
theorem dL_act_401 : decode cL_act 401 = .ok (.iconst 2, 1) := by decide +kernel
theorem dL_act_402 : decode cL_act 402 = .ok (.invokestatic 18, 3) := by decide +kernel
theorem dL_act_405 : decode cL_act 405 = .ok (.ifCond .ne 8, 3) := by decide +kernel
theorem dL_act_408 : decode cL_act 408 = .ok (.bipush 101, 2) := by decide +kernel
theorem dL_act_410 : decode cL_act 410 = .ok (.goto 5, 3) := by decide +kernel
theorem dL_act_413 : decode cL_act 413 = .ok (.bipush 20, 2) := by decide +kernel
theorem dL_act_415 : decode cL_act 415 = .ok (.invokestatic 18, 3) := by decide +kernel
theorem dL_act_418 : decode cL_act 418 = .ok (.putfield 51, 3) := by decide +kernel
theorem dL_act_421 : decode cL_act 421 = .ok (.aload_n 0, 1) := by decide +kernel
theorem dL_act_422 : decode cL_act 422 = .ok (.aload_n 1, 1) := by decide +kernel
theorem dL_act_423 : decode cL_act 423 = .ok (.getfield 51, 3) := by decide +kernel
theorem dL_act_426 : decode cL_act 426 = .ok (.invokevirtual 54, 3) := by decide +kernel
theorem dL_act_429 : decode cL_act 429 = .ok (.iload 11, 2) := by decide +kernel
theorem dL_act_431 : decode cL_act 431 = .ok (.if_icmp .ne 7, 3) := by decide +kernel
theorem dL_act_434 : decode cL_act 434 = .ok (.iconst 1, 1) := by decide +kernel
theorem dL_act_435 : decode cL_act 435 = .ok (.goto 4, 3) := by decide +kernel
theorem dL_act_438 : decode cL_act 438 = .ok (.iconst 0, 1) := by decide +kernel
theorem dL_act_439 : decode cL_act 439 = .ok (.ireturn, 1) := by decide +kernel
theorem dL_act_440 : decode cL_act 440 = .ok (.iconst 1, 1) := by decide +kernel
theorem dL_act_441 : decode cL_act 441 = .ok (.iload_n 2, 1) := by decide +kernel
theorem dL_act_442 : decode cL_act 442 = .ok (.iconst 2, 1) := by decide +kernel
theorem dL_act_443 : decode cL_act 443 = .ok (.ishr, 1) := by decide +kernel
theorem dL_act_444 : decode cL_act 444 = .ok (.iload_n 2, 1) := by decide +kernel
theorem dL_act_445 : decode cL_act 445 = .ok (.iconst 4, 1) := by decide +kernel
theorem dL_act_446 : decode cL_act 446 = .ok (.invokestatic 18, 3) := by decide +kernel
theorem dL_act_449 : decode cL_act 449 = .ok (.ifCond .ne 8, 3) := by decide +kernel
theorem dL_act_452 : decode cL_act 452 = .ok (.bipush 60, 2) := by decide +kernel
theorem dL_act_454 : decode cL_act 454 = .ok (.goto 4, 3) := by decide +kernel
theorem dL_act_457 : decode cL_act 457 = .ok (.iconst 4, 1) := by decide +kernel
theorem dL_act_458 : decode cL_act 458 = .ok (.invokestatic 18, 3) := by decide +kernel
theorem dL_act_461 : decode cL_act 461 = .ok (.iadd, 1) := by decide +kernel
theorem dL_act_462 : decode cL_act 462 = .ok (.istore 12, 2) := by decide +kernel
theorem dL_act_464 : decode cL_act 464 = .ok (.aload_n 0, 1) := by decide +kernel
theorem dL_act_465 : decode cL_act 465 = .ok (.iload 12, 2) := by decide +kernel
theorem dL_act_467 : decode cL_act 467 = .ok (.invokevirtual 57, 3) := by decide +kernel
theorem dL_act_470 : decode cL_act 470 = .ok (.aload_n 1, 1) := by decide +kernel
theorem dL_act_471 : decode cL_act 471 = .ok (.iload 12, 2) := by decide +kernel
theorem dL_act_473 : decode cL_act 473 = .ok (.invokevirtual 60, 3) := by decide +kernel
theorem dL_act_476 : decode cL_act 476 = .ok (.if_icmp .ne 7, 3) := by decide +kernel
theorem dL_act_479 : decode cL_act 479 = .ok (.iconst 1, 1) := by decide +kernel
theorem dL_act_480 : decode cL_act 480 = .ok (.goto 4, 3) := by decide +kernel
theorem dL_act_483 : decode cL_act 483 = .ok (.iconst 0, 1) := by decide +kernel
theorem dL_act_484 : decode cL_act 484 = .ok (.ireturn, 1) := by decide +kernel
theorem dL_build_0 : decode cL_build 0 = .ok (.new 10, 3) := by decide +kernel
theorem dL_build_3 : decode cL_build 3 = .ok (.dup, 1) := by decide +kernel
theorem dL_build_4 : decode cL_build 4 = .ok (.invokespecial 63, 3) := by decide +kernel
theorem dL_build_7 : decode cL_build 7 = .ok (.astore_n 2, 1) := by decide +kernel
theorem dL_build_8 : decode cL_build 8 = .ok (.bipush 6, 2) := by decide +kernel
theorem dL_build_10 : decode cL_build 10 = .ok (.aload_n 1, 1) := by decide +kernel
theorem dL_build_11 : decode cL_build 11 = .ok (.iconst 0, 1) := by decide +kernel
theorem dL_build_12 : decode cL_build 12 = .ok (.invokestatic 64, 3) := by decide +kernel
theorem dL_build_15 : decode cL_build 15 = .ok (.bipush 40, 2) := by decide +kernel
theorem dL_build_17 : decode cL_build 17 = .ok (.invokestatic 18, 3) := by decide +kernel
theorem dL_build_20 : decode cL_build 20 = .ok (.iadd, 1) := by decide +kernel
theorem dL_build_21 : decode cL_build 21 = .ok (.istore_n 3, 1) := by decide +kernel
theorem dL_build_22 : decode cL_build 22 = .ok (.iconst 0, 1) := by decide +kernel
theorem dL_build_23 : decode cL_build 23 = .ok (.istore 4, 2) := by decide +kernel
theorem dL_build_25 : decode cL_build 25 = .ok (.iload 4, 2) := by decide +kernel
theorem dL_build_27 : decode cL_build 27 = .ok (.iload_n 3, 1) := by decide +kernel
theorem dL_build_28 : decode cL_build 28 = .ok (.if_icmp .ge 43, 3) := by decide +kernel
theorem dL_build_31 : decode cL_build 31 = .ok (.aload_n 0, 1) := by decide +kernel
theorem dL_build_32 : decode cL_build 32 = .ok (.aload_n 2, 1) := by decide +kernel
theorem dL_build_33 : decode cL_build 33 = .ok (.aload_n 1, 1) := by decide +kernel
theorem dL_build_34 : decode cL_build 34 = .ok (.iload 4, 2) := by decide +kernel
theorem dL_build_36 : decode cL_build 36 = .ok (.bipush 16, 2) := by decide +kernel
theorem dL_build_38 : decode cL_build 38 = .ok (.irem, 1) := by decide +kernel
theorem dL_build_39 : decode cL_build 39 = .ok (.invokestatic 64, 3) := by decide +kernel
theorem dL_build_42 : decode cL_build 42 = .ok (.iload 4, 2) := by decide +kernel
theorem dL_build_44 : decode cL_build 44 = .ok (.bipush 16, 2) := by decide +kernel
theorem dL_build_46 : decode cL_build 46 = .ok (.idiv, 1) := by decide +kernel
theorem dL_build_47 : decode cL_build 47 = .ok (.iconst 3, 1) := by decide +kernel
theorem dL_build_48 : decode cL_build 48 = .ok (.imul, 1) := by decide +kernel
theorem dL_build_49 : decode cL_build 49 = .ok (.ishr, 1) := by decide +kernel
theorem dL_build_50 : decode cL_build 50 = .ok (.sipush 683, 3) := by decide +kernel
theorem dL_build_53 : decode cL_build 53 = .ok (.iload 4, 2) := by decide +kernel
theorem dL_build_55 : decode cL_build 55 = .ok (.imul, 1) := by decide +kernel
theorem dL_build_56 : decode cL_build 56 = .ok (.iadd, 1) := by decide +kernel
theorem dL_build_57 : decode cL_build 57 = .ok (.invokestatic 68, 3) := by decide +kernel
theorem dL_build_60 : decode cL_build 60 = .ok (.ifCond .ne 5, 3) := by decide +kernel
theorem dL_build_63 : decode cL_build 63 = .ok (.aconst_null, 1) := by decide +kernel
theorem dL_build_64 : decode cL_build 64 = .ok (.areturn, 1) := by decide +kernel
theorem dL_build_65 : decode cL_build 65 = .ok (.iinc 4 1, 3) := by decide +kernel
theorem dL_build_68 : decode cL_build 68 = .ok (.goto (-43), 3) := by decide +kernel
theorem dL_build_71 : decode cL_build 71 = .ok (.aload_n 2, 1) := by decide +kernel
theorem dL_build_72 : decode cL_build 72 = .ok (.areturn, 1) := by decide +kernel
end
section
theorem dL_law_0 : decode cL_law 0 = .ok (.new 29, 3) := by decide +kernel
theorem dL_law_3 : decode cL_law 3 = .ok (.dup, 1) := by decide +kernel
theorem dL_law_4 : decode cL_law 4 = .ok (.invokespecial 72, 3) := by decide +kernel
theorem dL_law_7 : decode cL_law 7 = .ok (.astore_n 1, 1) := by decide +kernel
theorem dL_law_8 : decode cL_law 8 = .ok (.aload_n 1, 1) := by decide +kernel
theorem dL_law_9 : decode cL_law 9 = .ok (.aload_n 0, 1) := by decide +kernel
theorem dL_law_10 : decode cL_law 10 = .ok (.invokestatic 73, 3) := by decide +kernel
theorem dL_law_13 : decode cL_law 13 = .ok (.astore_n 2, 1) := by decide +kernel
theorem dL_law_14 : decode cL_law 14 = .ok (.aload_n 2, 1) := by decide +kernel
theorem dL_law_15 : decode cL_law 15 = .ok (.ifnonnull 5, 3) := by decide +kernel
theorem dL_law_18 : decode cL_law 18 = .ok (.iconst 0, 1) := by decide +kernel
theorem dL_law_19 : decode cL_law 19 = .ok (.ireturn, 1) := by decide +kernel
theorem dL_law_20 : decode cL_law 20 = .ok (.iconst 0, 1) := by decide +kernel
theorem dL_law_21 : decode cL_law 21 = .ok (.istore_n 3, 1) := by decide +kernel
theorem dL_law_22 : decode cL_law 22 = .ok (.iload_n 3, 1) := by decide +kernel
theorem dL_law_23 : decode cL_law 23 = .ok (.bipush 30, 2) := by decide +kernel
theorem dL_law_25 : decode cL_law 25 = .ok (.if_icmp .ge 907, 3) := by decide +kernel
theorem dL_law_28 : decode cL_law 28 = .ok (.aload_n 0, 1) := by decide +kernel
theorem dL_law_29 : decode cL_law 29 = .ok (.iload_n 3, 1) := by decide +kernel
theorem dL_law_30 : decode cL_law 30 = .ok (.bipush 16, 2) := by decide +kernel
theorem dL_law_32 : decode cL_law 32 = .ok (.irem, 1) := by decide +kernel
theorem dL_law_33 : decode cL_law 33 = .ok (.invokestatic 64, 3) := by decide +kernel
theorem dL_law_36 : decode cL_law 36 = .ok (.iload_n 3, 1) := by decide +kernel
theorem dL_law_37 : decode cL_law 37 = .ok (.bipush 16, 2) := by decide +kernel
theorem dL_law_39 : decode cL_law 39 = .ok (.idiv, 1) := by decide +kernel
theorem dL_law_40 : decode cL_law 40 = .ok (.iconst 3, 1) := by decide +kernel
theorem dL_law_41 : decode cL_law 41 = .ok (.imul, 1) := by decide +kernel
theorem dL_law_42 : decode cL_law 42 = .ok (.ishr, 1) := by decide +kernel
theorem dL_law_43 : decode cL_law 43 = .ok (.sipush 683, 3) := by decide +kernel
theorem dL_law_46 : decode cL_law 46 = .ok (.iload_n 3, 1) := by decide +kernel
theorem dL_law_47 : decode cL_law 47 = .ok (.imul, 1) := by decide +kernel
theorem dL_law_48 : decode cL_law 48 = .ok (.iadd, 1) := by decide +kernel
theorem dL_law_49 : decode cL_law 49 = .ok (.istore 4, 2) := by decide +kernel
theorem dL_law_51 : decode cL_law 51 = .ok (.aload_n 1, 1) := by decide +kernel
theorem dL_law_52 : decode cL_law 52 = .ok (.aload_n 2, 1) := by decide +kernel
theorem dL_law_53 : decode cL_law 53 = .ok (.iload 4, 2) := by decide +kernel
theorem dL_law_55 : decode cL_law 55 = .ok (.invokestatic 68, 3) := by decide +kernel
theorem dL_law_58 : decode cL_law 58 = .ok (.ifCond .ne 5, 3) := by decide +kernel
theorem dL_law_61 : decode cL_law 61 = .ok (.iconst 0, 1) := by decide +kernel
theorem dL_law_62 : decode cL_law 62 = .ok (.ireturn, 1) := by decide +kernel
theorem dL_law_63 : decode cL_law 63 = .ok (.aload_n 1, 1) := by decide +kernel
theorem dL_law_64 : decode cL_law 64 = .ok (.invokevirtual 77, 3) := by decide +kernel
theorem dL_law_67 : decode cL_law 67 = .ok (.istore 5, 2) := by decide +kernel
theorem dL_law_69 : decode cL_law 69 = .ok (.aload_n 1, 1) := by decide +kernel
theorem dL_law_70 : decode cL_law 70 = .ok (.invokevirtual 80, 3) := by decide +kernel
theorem dL_law_73 : decode cL_law 73 = .ok (.istore 6, 2) := by decide +kernel
theorem dL_law_75 : decode cL_law 75 = .ok (.iconst 1, 1) := by decide +kernel
theorem dL_law_76 : decode cL_law 76 = .ok (.iload 4, 2) := by decide +kernel
theorem dL_law_78 : decode cL_law 78 = .ok (.iconst 2, 1) := by decide +kernel
theorem dL_law_79 : decode cL_law 79 = .ok (.ishr, 1) := by decide +kernel
theorem dL_law_80 : decode cL_law 80 = .ok (.sipush 200, 3) := by decide +kernel
theorem dL_law_83 : decode cL_law 83 = .ok (.invokestatic 18, 3) := by decide +kernel
theorem dL_law_86 : decode cL_law 86 = .ok (.iadd, 1) := by decide +kernel
theorem dL_law_87 : decode cL_law 87 = .ok (.istore 7, 2) := by decide +kernel
theorem dL_law_89 : decode cL_law 89 = .ok (.aload_n 1, 1) := by decide +kernel
theorem dL_law_90 : decode cL_law 90 = .ok (.aload_n 1, 1) := by decide +kernel
theorem dL_law_91 : decode cL_law 91 = .ok (.invokevirtual 82, 3) := by decide +kernel
theorem dL_law_94 : decode cL_law 94 = .ok (.invokevirtual 84, 3) := by decide +kernel
theorem dL_law_97 : decode cL_law 97 = .ok (.lconst 1, 1) := by decide +kernel
theorem dL_law_98 : decode cL_law 98 = .ok (.lcmp, 1) := by decide +kernel
theorem dL_law_99 : decode cL_law 99 = .ok (.ifCond .ne 16, 3) := by decide +kernel
theorem dL_law_102 : decode cL_law 102 = .ok (.aload_n 1, 1) := by decide +kernel
theorem dL_law_103 : decode cL_law 103 = .ok (.aload_n 1, 1) := by decide +kernel
theorem dL_law_104 : decode cL_law 104 = .ok (.invokevirtual 82, 3) := by decide +kernel
theorem dL_law_107 : decode cL_law 107 = .ok (.invokevirtual 88, 3) := by decide +kernel
theorem dL_law_110 : decode cL_law 110 = .ok (.lconst 1, 1) := by decide +kernel
theorem dL_law_111 : decode cL_law 111 = .ok (.lcmp, 1) := by decide +kernel
theorem dL_law_112 : decode cL_law 112 = .ok (.ifCond .eq 5, 3) := by decide +kernel
theorem dL_law_115 : decode cL_law 115 = .ok (.iconst 0, 1) := by decide +kernel
theorem dL_law_116 : decode cL_law 116 = .ok (.ireturn, 1) := by decide +kernel
theorem dL_law_117 : decode cL_law 117 = .ok (.iload 4, 2) := by decide +kernel
theorem dL_law_119 : decode cL_law 119 = .ok (.iload 5, 2) := by decide +kernel
theorem dL_law_121 : decode cL_law 121 = .ok (.invokestatic 18, 3) := by decide +kernel
theorem dL_law_124 : decode cL_law 124 = .ok (.istore 8, 2) := by decide +kernel
theorem dL_law_126 : decode cL_law 126 = .ok (.iconst 0, 1) := by decide +kernel
theorem dL_law_127 : decode cL_law 127 = .ok (.istore 9, 2) := by decide +kernel
theorem dL_law_129 : decode cL_law 129 = .ok (.iload 9, 2) := by decide +kernel
theorem dL_law_131 : decode cL_law 131 = .ok (.iload 5, 2) := by decide +kernel
theorem dL_law_133 : decode cL_law 133 = .ok (.if_icmp .ge 316, 3) := by decide +kernel
theorem dL_law_136 : decode cL_law 136 = .ok (.aload_n 1, 1) := by decide +kernel
theorem dL_law_137 : decode cL_law 137 = .ok (.iload 9, 2) := by decide +kernel
theorem dL_law_139 : decode cL_law 139 = .ok (.invokevirtual 84, 3) := by decide +kernel
theorem dL_law_142 : decode cL_law 142 = .ok (.lstore 10, 2) := by decide +kernel
theorem dL_law_144 : decode cL_law 144 = .ok (.aload_n 1, 1) := by decide +kernel
theorem dL_law_145 : decode cL_law 145 = .ok (.iload 9, 2) := by decide +kernel
theorem dL_law_147 : decode cL_law 147 = .ok (.invokevirtual 88, 3) := by decide +kernel
theorem dL_law_150 : decode cL_law 150 = .ok (.lstore 12, 2) := by decide +kernel
theorem dL_law_152 : decode cL_law 152 = .ok (.aload_n 1, 1) := by decide +kernel
theorem dL_law_153 : decode cL_law 153 = .ok (.iload 8, 2) := by decide +kernel
theorem dL_law_155 : decode cL_law 155 = .ok (.iload 9, 2) := by decide +kernel
theorem dL_law_157 : decode cL_law 157 = .ok (.invokevirtual 91, 3) := by decide +kernel
theorem dL_law_160 : decode cL_law 160 = .ok (.istore 14, 2) := by decide +kernel
theorem dL_law_162 : decode cL_law 162 = .ok (.aload_n 1, 1) := by decide +kernel
theorem dL_law_163 : decode cL_law 163 = .ok (.iload 9, 2) := by decide +kernel
theorem dL_law_165 : decode cL_law 165 = .ok (.iload 8, 2) := by decide +kernel
theorem dL_law_167 : decode cL_law 167 = .ok (.invokevirtual 91, 3) := by decide +kernel
theorem dL_law_170 : decode cL_law 170 = .ok (.istore 15, 2) := by decide +kernel
theorem dL_law_172 : decode cL_law 172 = .ok (.lload 10, 2) := by decide +kernel
theorem dL_law_174 : decode cL_law 174 = .ok (.lconst 1, 1) := by decide +kernel
theorem dL_law_175 : decode cL_law 175 = .ok (.lcmp, 1) := by decide +kernel
theorem dL_law_176 : decode cL_law 176 = .ok (.ifCond .lt 126, 3) := by decide +kernel
theorem dL_law_179 : decode cL_law 179 = .ok (.lload 12, 2) := by decide +kernel
theorem dL_law_181 : decode cL_law 181 = .ok (.lconst 1, 1) := by decide +kernel
theorem dL_law_182 : decode cL_law 182 = .ok (.lcmp, 1) := by decide +kernel
theorem dL_law_183 : decode cL_law 183 = .ok (.ifCond .lt 119, 3) := by decide +kernel
theorem dL_law_186 : decode cL_law 186 = .ok (.lload 10, 2) := by decide +kernel
theorem dL_law_188 : decode cL_law 188 = .ok (.lload 12, 2) := by decide +kernel
theorem dL_law_190 : decode cL_law 190 = .ok (.invokestatic 95, 3) := by decide +kernel
theorem dL_law_193 : decode cL_law 193 = .ok (.lconst 1, 1) := by decide +kernel
theorem dL_law_194 : decode cL_law 194 = .ok (.lcmp, 1) := by decide +kernel
theorem dL_law_195 : decode cL_law 195 = .ok (.ifCond .ne 107, 3) := by decide +kernel
theorem dL_law_198 : decode cL_law 198 = .ok (.iload 14, 2) := by decide +kernel
theorem dL_law_200 : decode cL_law 200 = .ok (.ifCond .eq 8, 3) := by decide +kernel
theorem dL_law_203 : decode cL_law 203 = .ok (.iload 15, 2) := by decide +kernel
theorem dL_law_205 : decode cL_law 205 = .ok (.ifCond .ne 97, 3) := by decide +kernel
theorem dL_law_208 : decode cL_law 208 = .ok (.aload_n 1, 1) := by decide +kernel
theorem dL_law_209 : decode cL_law 209 = .ok (.iload 9, 2) := by decide +kernel
theorem dL_law_211 : decode cL_law 211 = .ok (.aload_n 1, 1) := by decide +kernel
theorem dL_law_212 : decode cL_law 212 = .ok (.invokevirtual 99, 3) := by decide +kernel
theorem dL_law_215 : decode cL_law 215 = .ok (.invokevirtual 91, 3) := by decide +kernel
theorem dL_law_218 : decode cL_law 218 = .ok (.ifCond .ne 84, 3) := by decide +kernel
theorem dL_law_221 : decode cL_law 221 = .ok (.aload_n 1, 1) := by decide +kernel
theorem dL_law_222 : decode cL_law 222 = .ok (.aload_n 1, 1) := by decide +kernel
theorem dL_law_223 : decode cL_law 223 = .ok (.invokevirtual 102, 3) := by decide +kernel
theorem dL_law_226 : decode cL_law 226 = .ok (.iload 9, 2) := by decide +kernel
theorem dL_law_228 : decode cL_law 228 = .ok (.invokevirtual 91, 3) := by decide +kernel
theorem dL_law_231 : decode cL_law 231 = .ok (.ifCond .ne 71, 3) := by decide +kernel
theorem dL_law_234 : decode cL_law 234 = .ok (.iload 9, 2) := by decide +kernel
theorem dL_law_236 : decode cL_law 236 = .ok (.ifCond .le 7, 3) := by decide +kernel
theorem dL_law_239 : decode cL_law 239 = .ok (.iconst 1, 1) := by decide +kernel
theorem dL_law_240 : decode cL_law 240 = .ok (.goto 4, 3) := by decide +kernel
theorem dL_law_243 : decode cL_law 243 = .ok (.iconst 0, 1) := by decide +kernel
theorem dL_law_244 : decode cL_law 244 = .ok (.aload_n 1, 1) := by decide +kernel
theorem dL_law_245 : decode cL_law 245 = .ok (.iload 9, 2) := by decide +kernel
theorem dL_law_247 : decode cL_law 247 = .ok (.invokevirtual 105, 3) := by decide +kernel
theorem dL_law_250 : decode cL_law 250 = .ok (.ifCond .lt 7, 3) := by decide +kernel
theorem dL_law_253 : decode cL_law 253 = .ok (.iconst 1, 1) := by decide +kernel
theorem dL_law_254 : decode cL_law 254 = .ok (.goto 4, 3) := by decide +kernel
theorem dL_law_257 : decode cL_law 257 = .ok (.iconst 0, 1) := by decide +kernel
theorem dL_law_258 : decode cL_law 258 = .ok (.if_icmp .ne 44, 3) := by decide +kernel
theorem dL_law_261 : decode cL_law 261 = .ok (.aload_n 1, 1) := by decide +kernel
theorem dL_law_262 : decode cL_law 262 = .ok (.iload 9, 2) := by decide +kernel
theorem dL_law_264 : decode cL_law 264 = .ok (.invokevirtual 105, 3) := by decide +kernel
theorem dL_law_267 : decode cL_law 267 = .ok (.iload 9, 2) := by decide +kernel
theorem dL_law_269 : decode cL_law 269 = .ok (.if_icmp .ge 33, 3) := by decide +kernel
theorem dL_law_272 : decode cL_law 272 = .ok (.aload_n 1, 1) := by decide +kernel
theorem dL_law_273 : decode cL_law 273 = .ok (.iload 9, 2) := by decide +kernel
theorem dL_law_275 : decode cL_law 275 = .ok (.invokevirtual 108, 3) := by decide +kernel
theorem dL_law_278 : decode cL_law 278 = .ok (.iload 9, 2) := by decide +kernel
theorem dL_law_280 : decode cL_law 280 = .ok (.ifCond .ne 7, 3) := by decide +kernel
theorem dL_law_283 : decode cL_law 283 = .ok (.iconst 0, 1) := by decide +kernel
theorem dL_law_284 : decode cL_law 284 = .ok (.goto 15, 3) := by decide +kernel
theorem dL_law_287 : decode cL_law 287 = .ok (.iconst 1, 1) := by decide +kernel
theorem dL_law_288 : decode cL_law 288 = .ok (.aload_n 1, 1) := by decide +kernel
theorem dL_law_289 : decode cL_law 289 = .ok (.aload_n 1, 1) := by decide +kernel
theorem dL_law_290 : decode cL_law 290 = .ok (.iload 9, 2) := by decide +kernel
theorem dL_law_292 : decode cL_law 292 = .ok (.invokevirtual 105, 3) := by decide +kernel
theorem dL_law_295 : decode cL_law 295 = .ok (.invokevirtual 108, 3) := by decide +kernel
theorem dL_law_298 : decode cL_law 298 = .ok (.iadd, 1) := by decide +kernel
theorem dL_law_299 : decode cL_law 299 = .ok (.if_icmp .eq 5, 3) := by decide +kernel
theorem dL_law_302 : decode cL_law 302 = .ok (.iconst 0, 1) := by decide +kernel
theorem dL_law_303 : decode cL_law 303 = .ok (.ireturn, 1) := by decide +kernel
theorem dL_law_304 : decode cL_law 304 = .ok (.aload_n 1, 1) := by decide +kernel
theorem dL_law_305 : decode cL_law 305 = .ok (.iload 7, 2) := by decide +kernel
theorem dL_law_307 : decode cL_law 307 = .ok (.iload 8, 2) := by decide +kernel
theorem dL_law_309 : decode cL_law 309 = .ok (.iload 9, 2) := by decide +kernel
theorem dL_law_311 : decode cL_law 311 = .ok (.invokevirtual 111, 3) := by decide +kernel
theorem dL_law_314 : decode cL_law 314 = .ok (.lstore 16, 2) := by decide +kernel
theorem dL_law_316 : decode cL_law 316 = .ok (.lload 16, 2) := by decide +kernel
theorem dL_law_318 : decode cL_law 318 = .ok (.lconst 0, 1) := by decide +kernel
theorem dL_law_319 : decode cL_law 319 = .ok (.lcmp, 1) := by decide +kernel
theorem dL_law_320 : decode cL_law 320 = .ok (.ifCond .lt 85, 3) := by decide +kernel
theorem dL_law_323 : decode cL_law 323 = .ok (.iload 14, 2) := by decide +kernel
theorem dL_law_325 : decode cL_law 325 = .ok (.ifCond .eq 12, 3) := by decide +kernel
theorem dL_law_328 : decode cL_law 328 = .ok (.lload 16, 2) := by decide +kernel
theorem dL_law_330 : decode cL_law 330 = .ok (.iload 7, 2) := by decide +kernel
theorem dL_law_332 : decode cL_law 332 = .ok (.i2l, 1) := by decide +kernel
theorem dL_law_333 : decode cL_law 333 = .ok (.lcmp, 1) := by decide +kernel
theorem dL_law_334 : decode cL_law 334 = .ok (.ifCond .lt 71, 3) := by decide +kernel
theorem dL_law_337 : decode cL_law 337 = .ok (.iload 15, 2) := by decide +kernel
theorem dL_law_339 : decode cL_law 339 = .ok (.ifCond .eq 12, 3) := by decide +kernel
theorem dL_law_342 : decode cL_law 342 = .ok (.lload 16, 2) := by decide +kernel
theorem dL_law_344 : decode cL_law 344 = .ok (.iload 7, 2) := by decide +kernel
theorem dL_law_346 : decode cL_law 346 = .ok (.i2l, 1) := by decide +kernel
theorem dL_law_347 : decode cL_law 347 = .ok (.lcmp, 1) := by decide +kernel
theorem dL_law_348 : decode cL_law 348 = .ok (.ifCond .gt 57, 3) := by decide +kernel
theorem dL_law_351 : decode cL_law 351 = .ok (.iload 14, 2) := by decide +kernel
theorem dL_law_353 : decode cL_law 353 = .ok (.ifCond .ne 17, 3) := by decide +kernel
theorem dL_law_356 : decode cL_law 356 = .ok (.iload 15, 2) := by decide +kernel
theorem dL_law_358 : decode cL_law 358 = .ok (.ifCond .ne 12, 3) := by decide +kernel
theorem dL_law_361 : decode cL_law 361 = .ok (.lload 16, 2) := by decide +kernel
theorem dL_law_363 : decode cL_law 363 = .ok (.iload 7, 2) := by decide +kernel
theorem dL_law_365 : decode cL_law 365 = .ok (.i2l, 1) := by decide +kernel
theorem dL_law_366 : decode cL_law 366 = .ok (.lcmp, 1) := by decide +kernel
theorem dL_law_367 : decode cL_law 367 = .ok (.ifCond .ne 38, 3) := by decide +kernel
theorem dL_law_370 : decode cL_law 370 = .ok (.aload_n 1, 1) := by decide +kernel
theorem dL_law_371 : decode cL_law 371 = .ok (.iload 7, 2) := by decide +kernel
theorem dL_law_373 : decode cL_law 373 = .ok (.iload 8, 2) := by decide +kernel
theorem dL_law_375 : decode cL_law 375 = .ok (.iload 9, 2) := by decide +kernel
theorem dL_law_377 : decode cL_law 377 = .ok (.invokevirtual 115, 3) := by decide +kernel
theorem dL_law_380 : decode cL_law 380 = .ok (.iload 7, 2) := by decide +kernel
theorem dL_law_382 : decode cL_law 382 = .ok (.i2l, 1) := by decide +kernel
theorem dL_law_383 : decode cL_law 383 = .ok (.aload_n 1, 1) := by decide +kernel
theorem dL_law_384 : decode cL_law 384 = .ok (.iload 8, 2) := by decide +kernel
theorem dL_law_386 : decode cL_law 386 = .ok (.iload 9, 2) := by decide +kernel
theorem dL_law_388 : decode cL_law 388 = .ok (.invokevirtual 119, 3) := by decide +kernel
theorem dL_law_391 : decode cL_law 391 = .ok (.lrem, 1) := by decide +kernel
theorem dL_law_392 : decode cL_law 392 = .ok (.lconst 0, 1) := by decide +kernel
theorem dL_law_393 : decode cL_law 393 = .ok (.lcmp, 1) := by decide +kernel
theorem dL_law_394 : decode cL_law 394 = .ok (.ifCond .ne 7, 3) := by decide +kernel
theorem dL_law_397 : decode cL_law 397 = .ok (.iconst 1, 1) := by decide +kernel
theorem dL_law_398 : decode cL_law 398 = .ok (.goto 4, 3) := by decide +kernel
theorem dL_law_401 : decode cL_law 401 = .ok (.iconst 0, 1) := by decide +kernel
theorem dL_law_402 : decode cL_law 402 = .ok (.if_icmp .eq 5, 3) := by decide +kernel
theorem dL_law_405 : decode cL_law 405 = .ok (.iconst 0, 1) := by decide +kernel
theorem dL_law_406 : decode cL_law 406 = .ok (.ireturn, 1) := by decide +kernel
theorem dL_law_407 : decode cL_law 407 = .ok (.lload 16, 2) := by decide +kernel
theorem dL_law_409 : decode cL_law 409 = .ok (.lconst 1, 1) := by decide +kernel
theorem dL_law_410 : decode cL_law 410 = .ok (.lcmp, 1) := by decide +kernel
theorem dL_law_411 : decode cL_law 411 = .ok (.ifCond .lt 32, 3) := by decide +kernel
theorem dL_law_414 : decode cL_law 414 = .ok (.lload 16, 2) := by decide +kernel
theorem dL_law_416 : decode cL_law 416 = .ok (.ldc2_w 123, 3) := by decide +kernel
theorem dL_law_419 : decode cL_law 419 = .ok (.lcmp, 1) := by decide +kernel
theorem dL_law_420 : decode cL_law 420 = .ok (.ifCond .gt 23, 3) := by decide +kernel
theorem dL_law_423 : decode cL_law 423 = .ok (.aload_n 1, 1) := by decide +kernel
theorem dL_law_424 : decode cL_law 424 = .ok (.lload 16, 2) := by decide +kernel
theorem dL_law_426 : decode cL_law 426 = .ok (.l2i, 1) := by decide +kernel
theorem dL_law_427 : decode cL_law 427 = .ok (.iload 9, 2) := by decide +kernel
theorem dL_law_429 : decode cL_law 429 = .ok (.iload 8, 2) := by decide +kernel
theorem dL_law_431 : decode cL_law 431 = .ok (.invokevirtual 111, 3) := by decide +kernel
theorem dL_law_434 : decode cL_law 434 = .ok (.iload 7, 2) := by decide +kernel
theorem dL_law_436 : decode cL_law 436 = .ok (.i2l, 1) := by decide +kernel
theorem dL_law_437 : decode cL_law 437 = .ok (.lcmp, 1) := by decide +kernel
theorem dL_law_438 : decode cL_law 438 = .ok (.ifCond .le 5, 3) := by decide +kernel
theorem dL_law_441 : decode cL_law 441 = .ok (.iconst 0, 1) := by decide +kernel
theorem dL_law_442 : decode cL_law 442 = .ok (.ireturn, 1) := by decide +kernel
theorem dL_law_443 : decode cL_law 443 = .ok (.iinc 9 1, 3) := by decide +kernel
theorem dL_law_446 : decode cL_law 446 = .ok (.goto (-317), 3) := by decide +kernel
theorem dL_law_449 : decode cL_law 449 = .ok (.sipush 999, 3) := by decide +kernel
theorem dL_law_452 : decode cL_law 452 = .ok (.istore 9, 2) := by decide +kernel
theorem dL_law_454 : decode cL_law 454 = .ok (.sipush (-999), 3) := by decide +kernel
theorem dL_law_457 : decode cL_law 457 = .ok (.istore 10, 2) := by decide +kernel
theorem dL_law_459 : decode cL_law 459 = .ok (.iload 6, 2) := by decide +kernel
theorem dL_law_461 : decode cL_law 461 = .ok (.newarray .int, 2) := by decide +kernel
theorem dL_law_463 : decode cL_law 463 = .ok (.astore 11, 2) := by decide +kernel
theorem dL_law_465 : decode cL_law 465 = .ok (.iconst 0, 1) := by decide +kernel
theorem dL_law_466 : decode cL_law 466 = .ok (.istore 12, 2) := by decide +kernel
theorem dL_law_468 : decode cL_law 468 = .ok (.iload 12, 2) := by decide +kernel
theorem dL_law_470 : decode cL_law 470 = .ok (.iload 6, 2) := by decide +kernel
theorem dL_law_472 : decode cL_law 472 = .ok (.if_icmp .ge 206, 3) := by decide +kernel
theorem dL_law_475 : decode cL_law 475 = .ok (.aload 11, 2) := by decide +kernel
theorem dL_law_477 : decode cL_law 477 = .ok (.iload 12, 2) := by decide +kernel
theorem dL_law_479 : decode cL_law 479 = .ok (.aload_n 1, 1) := by decide +kernel
theorem dL_law_480 : decode cL_law 480 = .ok (.iload 12, 2) := by decide +kernel
theorem dL_law_482 : decode cL_law 482 = .ok (.invokevirtual 125, 3) := by decide +kernel
theorem dL_law_485 : decode cL_law 485 = .ok (.iastore, 1) := by decide +kernel
theorem dL_law_486 : decode cL_law 486 = .ok (.iload 9, 2) := by decide +kernel
theorem dL_law_488 : decode cL_law 488 = .ok (.aload 11, 2) := by decide +kernel
theorem dL_law_490 : decode cL_law 490 = .ok (.iload 12, 2) := by decide +kernel
theorem dL_law_492 : decode cL_law 492 = .ok (.iaload, 1) := by decide +kernel
theorem dL_law_493 : decode cL_law 493 = .ok (.invokestatic 128, 3) := by decide +kernel
theorem dL_law_496 : decode cL_law 496 = .ok (.invokestatic 133, 3) := by decide +kernel
theorem dL_law_499 : decode cL_law 499 = .ok (.istore 9, 2) := by decide +kernel
theorem dL_law_501 : decode cL_law 501 = .ok (.iload 10, 2) := by decide +kernel
theorem dL_law_503 : decode cL_law 503 = .ok (.aload 11, 2) := by decide +kernel
theorem dL_law_505 : decode cL_law 505 = .ok (.iload 12, 2) := by decide +kernel
theorem dL_law_507 : decode cL_law 507 = .ok (.iaload, 1) := by decide +kernel
theorem dL_law_508 : decode cL_law 508 = .ok (.invokestatic 136, 3) := by decide +kernel
theorem dL_law_511 : decode cL_law 511 = .ok (.istore 10, 2) := by decide +kernel
theorem dL_law_513 : decode cL_law 513 = .ok (.aload_n 1, 1) := by decide +kernel
theorem dL_law_514 : decode cL_law 514 = .ok (.iload 12, 2) := by decide +kernel
theorem dL_law_516 : decode cL_law 516 = .ok (.iload 7, 2) := by decide +kernel
theorem dL_law_518 : decode cL_law 518 = .ok (.iload 8, 2) := by decide +kernel
theorem dL_law_520 : decode cL_law 520 = .ok (.invokevirtual 139, 3) := by decide +kernel
theorem dL_law_523 : decode cL_law 523 = .ok (.lstore 13, 2) := by decide +kernel
theorem dL_law_525 : decode cL_law 525 = .ok (.aload_n 1, 1) := by decide +kernel
theorem dL_law_526 : decode cL_law 526 = .ok (.iload 12, 2) := by decide +kernel
theorem dL_law_528 : decode cL_law 528 = .ok (.iload 7, 2) := by decide +kernel
theorem dL_law_530 : decode cL_law 530 = .ok (.iload 8, 2) := by decide +kernel
theorem dL_law_532 : decode cL_law 532 = .ok (.invokevirtual 142, 3) := by decide +kernel
theorem dL_law_535 : decode cL_law 535 = .ok (.lstore 15, 2) := by decide +kernel
theorem dL_law_537 : decode cL_law 537 = .ok (.aload 11, 2) := by decide +kernel
theorem dL_law_539 : decode cL_law 539 = .ok (.iload 12, 2) := by decide +kernel
theorem dL_law_541 : decode cL_law 541 = .ok (.iaload, 1) := by decide +kernel
theorem dL_law_542 : decode cL_law 542 = .ok (.sipush (-300), 3) := by decide +kernel
theorem dL_law_545 : decode cL_law 545 = .ok (.if_icmp .lt 125, 3) := by decide +kernel
theorem dL_law_548 : decode cL_law 548 = .ok (.aload 11, 2) := by decide +kernel
theorem dL_law_550 : decode cL_law 550 = .ok (.iload 12, 2) := by decide +kernel
theorem dL_law_552 : decode cL_law 552 = .ok (.iaload, 1) := by decide +kernel
theorem dL_law_553 : decode cL_law 553 = .ok (.sipush 300, 3) := by decide +kernel
theorem dL_law_556 : decode cL_law 556 = .ok (.if_icmp .gt 114, 3) := by decide +kernel
theorem dL_law_559 : decode cL_law 559 = .ok (.aload_n 1, 1) := by decide +kernel
theorem dL_law_560 : decode cL_law 560 = .ok (.iload 12, 2) := by decide +kernel
theorem dL_law_562 : decode cL_law 562 = .ok (.invokevirtual 145, 3) := by decide +kernel
theorem dL_law_565 : decode cL_law 565 = .ok (.aload 11, 2) := by decide +kernel
theorem dL_law_567 : decode cL_law 567 = .ok (.iload 12, 2) := by decide +kernel
theorem dL_law_569 : decode cL_law 569 = .ok (.iaload, 1) := by decide +kernel
theorem dL_law_570 : decode cL_law 570 = .ok (.invokestatic 128, 3) := by decide +kernel
theorem dL_law_573 : decode cL_law 573 = .ok (.aload_n 1, 1) := by decide +kernel
theorem dL_law_574 : decode cL_law 574 = .ok (.invokevirtual 149, 3) := by decide +kernel
theorem dL_law_577 : decode cL_law 577 = .ok (.if_icmp .gt 7, 3) := by decide +kernel
theorem dL_law_580 : decode cL_law 580 = .ok (.iconst 1, 1) := by decide +kernel
theorem dL_law_581 : decode cL_law 581 = .ok (.goto 4, 3) := by decide +kernel
theorem dL_law_584 : decode cL_law 584 = .ok (.iconst 0, 1) := by decide +kernel
theorem dL_law_585 : decode cL_law 585 = .ok (.if_icmp .ne 85, 3) := by decide +kernel
theorem dL_law_588 : decode cL_law 588 = .ok (.aload_n 1, 1) := by decide +kernel
theorem dL_law_589 : decode cL_law 589 = .ok (.iload 12, 2) := by decide +kernel
theorem dL_law_591 : decode cL_law 591 = .ok (.invokevirtual 151, 3) := by decide +kernel
theorem dL_law_594 : decode cL_law 594 = .ok (.bipush (-9), 2) := by decide +kernel
theorem dL_law_596 : decode cL_law 596 = .ok (.if_icmp .lt 74, 3) := by decide +kernel
theorem dL_law_599 : decode cL_law 599 = .ok (.aload_n 1, 1) := by decide +kernel
theorem dL_law_600 : decode cL_law 600 = .ok (.iload 12, 2) := by decide +kernel
theorem dL_law_602 : decode cL_law 602 = .ok (.invokevirtual 151, 3) := by decide +kernel
theorem dL_law_605 : decode cL_law 605 = .ok (.bipush 9, 2) := by decide +kernel
theorem dL_law_607 : decode cL_law 607 = .ok (.if_icmp .gt 63, 3) := by decide +kernel
theorem dL_law_610 : decode cL_law 610 = .ok (.lload 13, 2) := by decide +kernel
theorem dL_law_612 : decode cL_law 612 = .ok (.lload 15, 2) := by decide +kernel
theorem dL_law_614 : decode cL_law 614 = .ok (.ladd, 1) := by decide +kernel
theorem dL_law_615 : decode cL_law 615 = .ok (.iload 7, 2) := by decide +kernel
theorem dL_law_617 : decode cL_law 617 = .ok (.i2l, 1) := by decide +kernel
theorem dL_law_618 : decode cL_law 618 = .ok (.ldc2_w 154, 3) := by decide +kernel
theorem dL_law_621 : decode cL_law 621 = .ok (.lmul, 1) := by decide +kernel
theorem dL_law_622 : decode cL_law 622 = .ok (.aload_n 1, 1) := by decide +kernel
theorem dL_law_623 : decode cL_law 623 = .ok (.iload 8, 2) := by decide +kernel
theorem dL_law_625 : decode cL_law 625 = .ok (.invokevirtual 84, 3) := by decide +kernel
theorem dL_law_628 : decode cL_law 628 = .ok (.lmul, 1) := by decide +kernel
theorem dL_law_629 : decode cL_law 629 = .ok (.aload_n 1, 1) := by decide +kernel
theorem dL_law_630 : decode cL_law 630 = .ok (.iload 8, 2) := by decide +kernel
theorem dL_law_632 : decode cL_law 632 = .ok (.invokevirtual 88, 3) := by decide +kernel
theorem dL_law_635 : decode cL_law 635 = .ok (.ldiv, 1) := by decide +kernel
theorem dL_law_636 : decode cL_law 636 = .ok (.lcmp, 1) := by decide +kernel
theorem dL_law_637 : decode cL_law 637 = .ok (.ifCond .ne 33, 3) := by decide +kernel
theorem dL_law_640 : decode cL_law 640 = .ok (.lload 15, 2) := by decide +kernel
theorem dL_law_642 : decode cL_law 642 = .ok (.lconst 0, 1) := by decide +kernel
theorem dL_law_643 : decode cL_law 643 = .ok (.lcmp, 1) := by decide +kernel
theorem dL_law_644 : decode cL_law 644 = .ok (.ifCond .ge 11, 3) := by decide +kernel
theorem dL_law_647 : decode cL_law 647 = .ok (.aload 11, 2) := by decide +kernel
theorem dL_law_649 : decode cL_law 649 = .ok (.iload 12, 2) := by decide +kernel
theorem dL_law_651 : decode cL_law 651 = .ok (.iaload, 1) := by decide +kernel
theorem dL_law_652 : decode cL_law 652 = .ok (.ifCond .le 18, 3) := by decide +kernel
theorem dL_law_655 : decode cL_law 655 = .ok (.lload 15, 2) := by decide +kernel
theorem dL_law_657 : decode cL_law 657 = .ok (.lconst 0, 1) := by decide +kernel
theorem dL_law_658 : decode cL_law 658 = .ok (.lcmp, 1) := by decide +kernel
theorem dL_law_659 : decode cL_law 659 = .ok (.ifCond .le 13, 3) := by decide +kernel
theorem dL_law_662 : decode cL_law 662 = .ok (.aload 11, 2) := by decide +kernel
theorem dL_law_664 : decode cL_law 664 = .ok (.iload 12, 2) := by decide +kernel
theorem dL_law_666 : decode cL_law 666 = .ok (.iaload, 1) := by decide +kernel
theorem dL_law_667 : decode cL_law 667 = .ok (.ifCond .lt 5, 3) := by decide +kernel
theorem dL_law_670 : decode cL_law 670 = .ok (.iconst 0, 1) := by decide +kernel
theorem dL_law_671 : decode cL_law 671 = .ok (.ireturn, 1) := by decide +kernel
theorem dL_law_672 : decode cL_law 672 = .ok (.iinc 12 1, 3) := by decide +kernel
theorem dL_law_675 : decode cL_law 675 = .ok (.goto (-207), 3) := by decide +kernel
theorem dL_law_678 : decode cL_law 678 = .ok (.iload 6, 2) := by decide +kernel
theorem dL_law_680 : decode cL_law 680 = .ok (.ifCond .le 32, 3) := by decide +kernel
theorem dL_law_683 : decode cL_law 683 = .ok (.aload_n 1, 1) := by decide +kernel
theorem dL_law_684 : decode cL_law 684 = .ok (.aload_n 1, 1) := by decide +kernel
theorem dL_law_685 : decode cL_law 685 = .ok (.invokevirtual 156, 3) := by decide +kernel
theorem dL_law_688 : decode cL_law 688 = .ok (.invokevirtual 125, 3) := by decide +kernel
theorem dL_law_691 : decode cL_law 691 = .ok (.invokestatic 128, 3) := by decide +kernel
theorem dL_law_694 : decode cL_law 694 = .ok (.iload 9, 2) := by decide +kernel
theorem dL_law_696 : decode cL_law 696 = .ok (.if_icmp .ne 41, 3) := by decide +kernel
theorem dL_law_699 : decode cL_law 699 = .ok (.aload_n 1, 1) := by decide +kernel
theorem dL_law_700 : decode cL_law 700 = .ok (.aload_n 1, 1) := by decide +kernel
theorem dL_law_701 : decode cL_law 701 = .ok (.invokevirtual 159, 3) := by decide +kernel
theorem dL_law_704 : decode cL_law 704 = .ok (.invokevirtual 125, 3) := by decide +kernel
theorem dL_law_707 : decode cL_law 707 = .ok (.iload 10, 2) := by decide +kernel
theorem dL_law_709 : decode cL_law 709 = .ok (.if_icmp .ne 28, 3) := by decide +kernel
theorem dL_law_712 : decode cL_law 712 = .ok (.aload_n 1, 1) := by decide +kernel
theorem dL_law_713 : decode cL_law 713 = .ok (.invokevirtual 156, 3) := by decide +kernel
theorem dL_law_716 : decode cL_law 716 = .ok (.ifCond .ge 7, 3) := by decide +kernel
theorem dL_law_719 : decode cL_law 719 = .ok (.iconst 1, 1) := by decide +kernel
theorem dL_law_720 : decode cL_law 720 = .ok (.goto 4, 3) := by decide +kernel
theorem dL_law_723 : decode cL_law 723 = .ok (.iconst 0, 1) := by decide +kernel
theorem dL_law_724 : decode cL_law 724 = .ok (.iload 6, 2) := by decide +kernel
theorem dL_law_726 : decode cL_law 726 = .ok (.ifCond .ne 7, 3) := by decide +kernel
theorem dL_law_729 : decode cL_law 729 = .ok (.iconst 1, 1) := by decide +kernel
theorem dL_law_730 : decode cL_law 730 = .ok (.goto 4, 3) := by decide +kernel
theorem dL_law_733 : decode cL_law 733 = .ok (.iconst 0, 1) := by decide +kernel
theorem dL_law_734 : decode cL_law 734 = .ok (.if_icmp .eq 5, 3) := by decide +kernel
theorem dL_law_737 : decode cL_law 737 = .ok (.iconst 0, 1) := by decide +kernel
theorem dL_law_738 : decode cL_law 738 = .ok (.ireturn, 1) := by decide +kernel
theorem dL_law_739 : decode cL_law 739 = .ok (.aload_n 1, 1) := by decide +kernel
theorem dL_law_740 : decode cL_law 740 = .ok (.invokevirtual 162, 3) := by decide +kernel
theorem dL_law_743 : decode cL_law 743 = .ok (.istore 12, 2) := by decide +kernel
theorem dL_law_745 : decode cL_law 745 = .ok (.aload_n 1, 1) := by decide +kernel
theorem dL_law_746 : decode cL_law 746 = .ok (.invokevirtual 165, 3) := by decide +kernel
theorem dL_law_749 : decode cL_law 749 = .ok (.istore 13, 2) := by decide +kernel
theorem dL_law_751 : decode cL_law 751 = .ok (.aload_n 1, 1) := by decide +kernel
theorem dL_law_752 : decode cL_law 752 = .ok (.iconst 1, 1) := by decide +kernel
theorem dL_law_753 : decode cL_law 753 = .ok (.invokevirtual 57, 3) := by decide +kernel
theorem dL_law_756 : decode cL_law 756 = .ok (.istore 14, 2) := by decide +kernel
theorem dL_law_758 : decode cL_law 758 = .ok (.aload_n 2, 1) := by decide +kernel
theorem dL_law_759 : decode cL_law 759 = .ok (.invokevirtual 168, 3) := by decide +kernel
theorem dL_law_762 : decode cL_law 762 = .ok (.pop, 1) := by decide +kernel
theorem dL_law_763 : decode cL_law 763 = .ok (.iconst 0, 1) := by decide +kernel
theorem dL_law_764 : decode cL_law 764 = .ok (.istore 15, 2) := by decide +kernel
theorem dL_law_766 : decode cL_law 766 = .ok (.iload 15, 2) := by decide +kernel
theorem dL_law_768 : decode cL_law 768 = .ok (.iload 6, 2) := by decide +kernel
theorem dL_law_770 : decode cL_law 770 = .ok (.if_icmp .ge 121, 3) := by decide +kernel
theorem dL_law_773 : decode cL_law 773 = .ok (.sipush (-300), 3) := by decide +kernel
theorem dL_law_776 : decode cL_law 776 = .ok (.sipush 300, 3) := by decide +kernel
theorem dL_law_779 : decode cL_law 779 = .ok (.aload 11, 2) := by decide +kernel
theorem dL_law_781 : decode cL_law 781 = .ok (.iload 15, 2) := by decide +kernel
theorem dL_law_783 : decode cL_law 783 = .ok (.iaload, 1) := by decide +kernel
theorem dL_law_784 : decode cL_law 784 = .ok (.aload_n 1, 1) := by decide +kernel
theorem dL_law_785 : decode cL_law 785 = .ok (.iload 15, 2) := by decide +kernel
theorem dL_law_787 : decode cL_law 787 = .ok (.invokevirtual 151, 3) := by decide +kernel
theorem dL_law_790 : decode cL_law 790 = .ok (.iadd, 1) := by decide +kernel
theorem dL_law_791 : decode cL_law 791 = .ok (.invokestatic 133, 3) := by decide +kernel
theorem dL_law_794 : decode cL_law 794 = .ok (.invokestatic 136, 3) := by decide +kernel
theorem dL_law_797 : decode cL_law 797 = .ok (.istore 16, 2) := by decide +kernel
theorem dL_law_799 : decode cL_law 799 = .ok (.iload 12, 2) := by decide +kernel
theorem dL_law_801 : decode cL_law 801 = .ok (.iload 6, 2) := by decide +kernel
theorem dL_law_803 : decode cL_law 803 = .ok (.irem, 1) := by decide +kernel
theorem dL_law_804 : decode cL_law 804 = .ok (.iload 15, 2) := by decide +kernel
theorem dL_law_806 : decode cL_law 806 = .ok (.if_icmp .ne 19, 3) := by decide +kernel
theorem dL_law_809 : decode cL_law 809 = .ok (.iload 16, 2) := by decide +kernel
theorem dL_law_811 : decode cL_law 811 = .ok (.invokestatic 128, 3) := by decide +kernel
theorem dL_law_814 : decode cL_law 814 = .ok (.aload_n 1, 1) := by decide +kernel
theorem dL_law_815 : decode cL_law 815 = .ok (.invokevirtual 149, 3) := by decide +kernel
theorem dL_law_818 : decode cL_law 818 = .ok (.if_icmp .le 7, 3) := by decide +kernel
theorem dL_law_821 : decode cL_law 821 = .ok (.iconst 1, 1) := by decide +kernel
theorem dL_law_822 : decode cL_law 822 = .ok (.goto 4, 3) := by decide +kernel
theorem dL_law_825 : decode cL_law 825 = .ok (.iconst 0, 1) := by decide +kernel
theorem dL_law_826 : decode cL_law 826 = .ok (.istore 17, 2) := by decide +kernel
theorem dL_law_828 : decode cL_law 828 = .ok (.aload_n 1, 1) := by decide +kernel
theorem dL_law_829 : decode cL_law 829 = .ok (.iload 15, 2) := by decide +kernel
theorem dL_law_831 : decode cL_law 831 = .ok (.invokevirtual 125, 3) := by decide +kernel
theorem dL_law_834 : decode cL_law 834 = .ok (.iload 17, 2) := by decide +kernel
theorem dL_law_836 : decode cL_law 836 = .ok (.ifCond .eq 7, 3) := by decide +kernel
theorem dL_law_839 : decode cL_law 839 = .ok (.iconst 0, 1) := by decide +kernel
theorem dL_law_840 : decode cL_law 840 = .ok (.goto 5, 3) := by decide +kernel
theorem dL_law_843 : decode cL_law 843 = .ok (.iload 16, 2) := by decide +kernel
theorem dL_law_845 : decode cL_law 845 = .ok (.if_icmp .ne 38, 3) := by decide +kernel
theorem dL_law_848 : decode cL_law 848 = .ok (.iload 17, 2) := by decide +kernel
theorem dL_law_850 : decode cL_law 850 = .ok (.ifCond .eq 13, 3) := by decide +kernel
theorem dL_law_853 : decode cL_law 853 = .ok (.iload 14, 2) := by decide +kernel
theorem dL_law_855 : decode cL_law 855 = .ok (.iload 16, 2) := by decide +kernel
theorem dL_law_857 : decode cL_law 857 = .ok (.invokestatic 128, 3) := by decide +kernel
theorem dL_law_860 : decode cL_law 860 = .ok (.if_icmp .ne 23, 3) := by decide +kernel
theorem dL_law_863 : decode cL_law 863 = .ok (.iload 12, 2) := by decide +kernel
theorem dL_law_865 : decode cL_law 865 = .ok (.iload 6, 2) := by decide +kernel
theorem dL_law_867 : decode cL_law 867 = .ok (.irem, 1) := by decide +kernel
theorem dL_law_868 : decode cL_law 868 = .ok (.iload 15, 2) := by decide +kernel
theorem dL_law_870 : decode cL_law 870 = .ok (.if_icmp .ne 15, 3) := by decide +kernel
theorem dL_law_873 : decode cL_law 873 = .ok (.iload 17, 2) := by decide +kernel
theorem dL_law_875 : decode cL_law 875 = .ok (.ifCond .ne 10, 3) := by decide +kernel
theorem dL_law_878 : decode cL_law 878 = .ok (.iload 14, 2) := by decide +kernel
theorem dL_law_880 : decode cL_law 880 = .ok (.ifCond .eq 5, 3) := by decide +kernel
theorem dL_law_883 : decode cL_law 883 = .ok (.iconst 0, 1) := by decide +kernel
theorem dL_law_884 : decode cL_law 884 = .ok (.ireturn, 1) := by decide +kernel
theorem dL_law_885 : decode cL_law 885 = .ok (.iinc 15 1, 3) := by decide +kernel
theorem dL_law_888 : decode cL_law 888 = .ok (.goto (-122), 3) := by decide +kernel
theorem dL_law_891 : decode cL_law 891 = .ok (.aload_n 1, 1) := by decide +kernel
theorem dL_law_892 : decode cL_law 892 = .ok (.invokevirtual 162, 3) := by decide +kernel
theorem dL_law_895 : decode cL_law 895 = .ok (.iload 12, 2) := by decide +kernel
theorem dL_law_897 : decode cL_law 897 = .ok (.iconst 1, 1) := by decide +kernel
theorem dL_law_898 : decode cL_law 898 = .ok (.iadd, 1) := by decide +kernel
theorem dL_law_899 : decode cL_law 899 = .ok (.if_icmp .ne 25, 3) := by decide +kernel
theorem dL_law_902 : decode cL_law 902 = .ok (.aload_n 1, 1) := by decide +kernel
theorem dL_law_903 : decode cL_law 903 = .ok (.invokevirtual 165, 3) := by decide +kernel
theorem dL_law_906 : decode cL_law 906 = .ok (.iload 13, 2) := by decide +kernel
theorem dL_law_908 : decode cL_law 908 = .ok (.iload 14, 2) := by decide +kernel
theorem dL_law_910 : decode cL_law 910 = .ok (.iadd, 1) := by decide +kernel
theorem dL_law_911 : decode cL_law 911 = .ok (.if_icmp .ne 13, 3) := by decide +kernel
theorem dL_law_914 : decode cL_law 914 = .ok (.iload 6, 2) := by decide +kernel
theorem dL_law_916 : decode cL_law 916 = .ok (.ifCond .ne 10, 3) := by decide +kernel
theorem dL_law_919 : decode cL_law 919 = .ok (.iload 14, 2) := by decide +kernel
theorem dL_law_921 : decode cL_law 921 = .ok (.ifCond .eq 5, 3) := by decide +kernel
theorem dL_law_924 : decode cL_law 924 = .ok (.iconst 0, 1) := by decide +kernel
theorem dL_law_925 : decode cL_law 925 = .ok (.ireturn, 1) := by decide +kernel
theorem dL_law_926 : decode cL_law 926 = .ok (.iinc 3 1, 3) := by decide +kernel
theorem dL_law_929 : decode cL_law 929 = .ok (.goto (-907), 3) := by decide +kernel
theorem dL_law_932 : decode cL_law 932 = .ok (.aload_n 2, 1) := by decide +kernel
theorem dL_law_933 : decode cL_law 933 = .ok (.aload_n 1, 1) := by decide +kernel
theorem dL_law_934 : decode cL_law 934 = .ok (.invokevirtual 171, 3) := by decide +kernel
theorem dL_law_937 : decode cL_law 937 = .ok (.ireturn, 1) := by decide +kernel
end
section
set_option maxRecDepth 20000 in
theorem ggL_act_L_below : GoodIn wsL_act wsL_below := goodIn_r _ [9, 10] (by decide +kernel) (by decide +kernel)
set_option maxRecDepth 20000 in
theorem gL_act_L_below : GoodIn wsL_act (va_wsS RL 18 yL_below wsL_below) := goodIn_app (goodIn_of _ (by decide +kernel)) ggL_act_L_below
set_option maxRecDepth 20000 in
theorem ggL_act_X2_with : GoodIn wsL_act wsX2_with := goodIn_r _ [14, 15] (by decide +kernel) (by decide +kernel)
set_option maxRecDepth 20000 in
theorem gL_act_X2_with : GoodIn wsL_act (va_wsS RL 24 yX2_with wsX2_with) := goodIn_app (goodIn_of _ (by decide +kernel)) ggL_act_X2_with
set_option maxRecDepth 20000 in
theorem ggL_act_X1_addMeasure : GoodIn wsL_act wsX1_addMeasure := goodIn_ca (goodIn_ca (goodIn_ca (goodIn_r _ [20, 21, 22, 23, 24, 25, 26, 27, 28, 29, 30, 31, 19, 32, 33, 34, 35, 36, 37, 38, 39, 40, 41, 42, 43, 44, 45, 46, 47, 48, 49, 50, 153, 154, 155, 156, 157, 158, 159, 160, 161] (by decide +kernel) (by decide +kernel)) (goodIn_sub (fun _ h => List.mem_cons_of_mem _ (List.mem_append_left _ (List.mem_append_left _ (List.mem_append_right _ h)))) (by decide +kernel))) (goodIn_sub (fun _ h => List.mem_cons_of_mem _ (List.mem_append_left _ (List.mem_append_right _ h))) (by decide +kernel))) (goodIn_sub (fun _ h => List.mem_cons_of_mem _ (List.mem_append_right _ h)) (by decide +kernel))
set_option maxRecDepth 20000 in
theorem gL_act_X1_addMeasure : GoodIn wsL_act (wsV RL 28 RX1 yX1_addMeasure wsX1_addMeasure) := goodIn_app (goodIn_of _ (by decide +kernel)) ggL_act_X1_addMeasure
set_option maxRecDepth 20000 in
theorem ggL_act_X1_setStandard : GoodIn wsL_act wsX1_setStandard := goodIn_ca (goodIn_r _ [54, 55, 29, 30, 31, 19, 32, 33, 34, 25, 35, 36, 37, 153, 154, 155, 156, 157, 158, 159, 160, 161] (by decide +kernel) (by decide +kernel)) (goodIn_sub (fun _ h => List.mem_cons_of_mem _ (List.mem_append_right _ h)) (by decide +kernel))
set_option maxRecDepth 20000 in
theorem gL_act_X1_setStandard : GoodIn wsL_act (wsV RL 38 RX1 yX1_setStandard wsX1_setStandard) := goodIn_app (goodIn_of _ (by decide +kernel)) ggL_act_X1_setStandard
set_option maxRecDepth 20000 in
theorem ggL_act_X1_addStall : GoodIn wsL_act wsX1_addStall := goodIn_ca (goodIn_ca (goodIn_r _ [59, 23, 24, 60, 61, 62, 19, 63, 21, 22, 35, 36, 37, 153, 154, 155, 156, 157, 158, 159, 160, 161, 162, 163, 164, 165, 166] (by decide +kernel) (by decide +kernel)) (goodIn_sub (fun _ h => List.mem_cons_of_mem _ (List.mem_append_left _ (List.mem_append_right _ h))) (by decide +kernel))) (goodIn_sub (fun _ h => List.mem_cons_of_mem _ (List.mem_append_left _ (List.mem_append_left _ (List.mem_append_right _ h)))) (by decide +kernel))
set_option maxRecDepth 20000 in
theorem gL_act_X1_addStall : GoodIn wsL_act (wsV RL 42 RX1 yX1_addStall wsX1_addStall) := goodIn_app (goodIn_of _ (by decide +kernel)) ggL_act_X1_addStall
set_option maxRecDepth 20000 in
theorem ggL_act_X1_setWear : GoodIn wsL_act wsX1_setWear := goodIn_ca (goodIn_ca (goodIn_r _ [67, 60, 68, 69, 70, 19, 71, 33, 34, 35, 36, 37, 61, 62, 63, 21, 22, 153, 154, 155, 156, 157, 158, 159, 160, 161, 162, 163, 164, 165, 166] (by decide +kernel) (by decide +kernel)) (goodIn_sub (fun _ h => List.mem_cons_of_mem _ (List.mem_append_right _ h)) (by decide +kernel))) (goodIn_sub (fun _ h => List.mem_cons_of_mem _ (List.mem_append_left _ (List.mem_append_left _ (List.mem_append_right _ h)))) (by decide +kernel))
set_option maxRecDepth 20000 in
theorem gL_act_X1_setWear : GoodIn wsL_act (wsV RL 45 RX1 yX1_setWear wsX1_setWear) := goodIn_app (goodIn_of _ (by decide +kernel)) ggL_act_X1_setWear
set_option maxRecDepth 20000 in
theorem ggL_act_X1_seal : GoodIn wsL_act wsX1_seal := goodIn_ca (goodIn_r _ [75, 60, 68, 69, 70, 19, 71, 33, 34, 35, 36, 37, 153, 154, 155, 156, 157, 158, 159, 160, 161, 162, 163, 164, 165, 166] (by decide +kernel) (by decide +kernel)) (goodIn_sub (fun _ h => List.mem_cons_of_mem _ (List.mem_append_right _ h)) (by decide +kernel))
set_option maxRecDepth 20000 in
theorem gL_act_X1_seal : GoodIn wsL_act (wsV RL 48 RX1 yX1_seal wsX1_seal) := goodIn_app (goodIn_of _ (by decide +kernel)) ggL_act_X1_seal
set_option maxRecDepth 20000 in
theorem ggL_act_X1_setTolerance : GoodIn wsL_act wsX1_setTolerance := goodIn_ca (goodIn_r _ [79, 21, 22, 60, 35, 36, 19, 37, 153, 154, 155, 156, 157, 158, 159, 160, 161, 162, 163, 164, 165, 166] (by decide +kernel) (by decide +kernel)) (goodIn_sub (fun _ h => List.mem_cons_of_mem _ (List.mem_append_left _ (List.mem_append_left _ (List.mem_append_right _ h)))) (by decide +kernel))
set_option maxRecDepth 20000 in
theorem gL_act_X1_setTolerance : GoodIn wsL_act (wsV RL 54 RX1 yX1_setTolerance wsX1_setTolerance) := goodIn_app (goodIn_of _ (by decide +kernel)) ggL_act_X1_setTolerance
set_option maxRecDepth 20000 in
theorem ggL_act_X1_passDays : GoodIn wsL_act wsX1_passDays := goodIn_ca (goodIn_r _ [83, 60, 84, 85, 86, 19, 87, 21, 22, 35, 36, 37, 88, 89, 90, 91, 92, 93, 94, 95, 96, 97, 98, 99, 100, 101, 102, 103, 104, 105, 106, 107, 108, 109, 110, 111, 112, 113, 114, 115, 116, 117, 118, 119, 120, 121, 122, 123, 124, 125, 126, 127, 128, 129, 153, 154, 155, 156, 157, 158, 159, 160, 161, 162, 163, 164, 165, 166] (by decide +kernel) (by decide +kernel)) (goodIn_sub (fun _ h => List.mem_cons_of_mem _ (List.mem_append_left _ (List.mem_append_left _ (List.mem_append_right _ h)))) (by decide +kernel))
set_option maxRecDepth 20000 in
theorem gL_act_X1_passDays : GoodIn wsL_act (wsV RL 57 RX1 yX1_passDays wsX1_passDays) := goodIn_app (goodIn_of _ (by decide +kernel)) ggL_act_X1_passDays
set_option maxRecDepth 20000 in
theorem ggL_act_X2_behind : GoodIn wsL_act wsX2_behind := goodIn_r _ [133, 134, 135, 136, 137, 13, 138, 139, 140, 141, 123, 105, 124, 142, 143, 144, 145, 146, 147, 148, 149, 150, 151, 152] (by decide +kernel) (by decide +kernel)
set_option maxRecDepth 20000 in
theorem gL_act_X2_behind : GoodIn wsL_act (wsV RL 60 RX2 yX2_behind wsX2_behind) := goodIn_app (goodIn_of _ (by decide +kernel)) ggL_act_X2_behind
end
section
set_option maxRecDepth 20000 in
theorem ggL_build_X2_init : GoodIn wsL_build wsX2_init := goodIn_r _ [5, 6, 7, 8, 9, 10, 11, 12, 13, 162, 163, 164, 165, 166, 167] (by decide +kernel) (by decide +kernel)
set_option maxRecDepth 20000 in
theorem gL_build_X2_init_n63 : GoodIn wsL_build (wsX2_init) := ggL_build_X2_init
set_option maxRecDepth 20000 in
theorem ggL_build_L_cell : GoodIn wsL_build wsL_cell := goodIn_r _ [17, 18] (by decide +kernel) (by decide +kernel)
set_option maxRecDepth 20000 in
theorem gL_build_L_cell : GoodIn wsL_build (va_wsS RL 64 yL_cell wsL_cell) := goodIn_app (goodIn_of _ (by decide +kernel)) ggL_build_L_cell
set_option maxRecDepth 20000 in
theorem ggL_build_L_below : GoodIn wsL_build wsL_below := goodIn_r _ [21, 22] (by decide +kernel) (by decide +kernel)
set_option maxRecDepth 20000 in
theorem gL_build_L_below : GoodIn wsL_build (va_wsS RL 18 yL_below wsL_below) := goodIn_app (goodIn_of _ (by decide +kernel)) ggL_build_L_below
set_option maxRecDepth 20000 in
theorem ggL_build_L_act : GoodIn wsL_build wsL_act := goodIn_ca (goodIn_ca (goodIn_ca (goodIn_r _ [25, 26, 27, 11, 28, 29, 19, 20, 16, 21, 22, 30, 31, 3, 32, 10, 33, 34, 35, 36, 37, 38, 39, 40, 41, 42, 43, 44, 45, 46, 47, 48, 49, 50, 51, 52, 53, 54, 55, 56, 57, 58, 59, 60, 61, 62, 63, 64, 65, 66, 67, 68, 69, 70, 71, 72, 73, 74, 75, 76, 77, 78, 79, 80, 81, 82, 83, 84, 85, 86, 87, 88, 89, 90, 91, 92, 93, 94, 95, 96, 97, 98, 99, 100, 101, 102, 103, 104, 105, 106, 107, 108, 109, 110, 111, 112, 113, 114, 115, 116, 117, 118, 119, 120, 121, 122, 123, 124, 125, 126, 127, 128, 129, 130, 131, 132, 133, 134, 135, 136, 137, 138, 139, 140, 141, 142, 143, 144, 145, 146, 147, 148, 149, 150, 151, 152, 153, 154, 155, 13, 156, 157, 158, 159, 160, 161, 9, 162, 163, 164, 165, 166, 167, 168, 169, 170, 171, 172, 173, 174, 175, 176, 177, 178, 179, 180, 181] (by decide +kernel) (by decide +kernel)) (goodIn_sub (fun _ h => List.mem_cons_of_mem _ (List.mem_append_left _ (List.mem_append_left _ (List.mem_append_right _ h)))) (by decide +kernel))) (goodIn_sub (fun _ h => List.mem_cons_of_mem _ (List.mem_append_left _ (List.mem_append_right _ h))) (by decide +kernel))) (goodIn_sub (fun _ h => List.mem_cons_of_mem _ (List.mem_append_right _ h)) (by decide +kernel))
set_option maxRecDepth 20000 in
theorem gL_build_L_act : GoodIn wsL_build (va_wsS RL 68 yL_act wsL_act) := goodIn_app (goodIn_of _ (by decide +kernel)) ggL_build_L_act
end
section
set_option maxRecDepth 20000 in
theorem ggL_law_X1_init : GoodIn wsL_law wsX1_init := goodIn_r _ [18, 19, 20, 21, 4, 22, 23, 24, 25, 26, 27, 28, 29, 30, 31, 32, 33, 34, 35, 36, 37, 38, 39, 337, 338, 339, 340, 341, 342, 343, 344, 345, 346, 347, 348, 349, 350] (by decide +kernel) (by decide +kernel)
set_option maxRecDepth 20000 in
theorem gL_law_X1_init : GoodIn wsL_law (wsX1_init) := ggL_law_X1_init
set_option maxRecDepth 20000 in
theorem ggL_law_L_build : GoodIn wsL_law wsL_build := goodIn_ca (goodIn_ca (goodIn_ca (goodIn_r _ [43, 44, 45, 46, 47, 48, 49, 20, 21, 50, 51, 4, 52, 53, 54, 55, 42, 56, 57, 58, 59, 60, 61, 62, 63, 64, 65, 66, 67, 68, 69, 70, 71, 72, 73, 74, 2, 75, 76, 77, 78, 79, 32, 25, 22, 23, 80, 81, 82, 83, 84, 85, 86, 87, 88, 89, 90, 91, 92, 93, 94, 95, 96, 26, 97, 98, 99, 100, 101, 102, 103, 104, 33, 105, 106, 107, 108, 30, 109, 110, 111, 112, 113, 114, 115, 116, 117, 118, 119, 120, 121, 122, 123, 124, 125, 126, 127, 128, 129, 130, 131, 132, 133, 134, 135, 136, 29, 137, 138, 139, 140, 141, 142, 143, 38, 37, 144, 145, 146, 147, 148, 10, 7, 11, 149, 13, 14, 150, 151, 152, 153, 154, 155, 156, 157, 158, 159, 160, 161, 162, 6, 8, 163, 164, 165, 166, 39, 167, 168, 169, 170, 171, 172, 173, 174, 175, 176, 177, 178, 179, 180, 181, 351, 352, 353, 354, 355, 356, 337, 338, 339, 340, 341, 342, 343, 344, 345, 346, 347, 348, 349, 350] (by decide +kernel) (by decide +kernel)) (goodIn_sub (fun _ h => List.mem_append_left _ (List.mem_append_left _ (List.mem_append_right _ h))) (by decide +kernel))) (goodIn_sub (fun _ h => List.mem_append_left _ (List.mem_append_right _ h)) (by decide +kernel))) (goodIn_sub (fun _ h => List.mem_append_right _ h) (by decide +kernel))
set_option maxRecDepth 20000 in
theorem gL_law_L_build : GoodIn wsL_law (va_wsS RL 73 yL_build wsL_build) := goodIn_app (goodIn_of _ (by decide +kernel)) ggL_law_L_build
set_option maxRecDepth 20000 in
theorem ggL_law_L_cell : GoodIn wsL_law wsL_cell := goodIn_r _ [56, 57] (by decide +kernel) (by decide +kernel)
set_option maxRecDepth 20000 in
theorem gL_law_L_cell : GoodIn wsL_law (va_wsS RL 64 yL_cell wsL_cell) := goodIn_app (goodIn_of _ (by decide +kernel)) ggL_law_L_cell
set_option maxRecDepth 20000 in
theorem ggL_law_L_act : GoodIn wsL_law wsL_act := goodIn_ca (goodIn_ca (goodIn_ca (goodIn_r _ [64, 65, 66, 4, 67, 68, 58, 59, 42, 60, 61, 69, 70, 46, 71, 51, 72, 73, 74, 2, 75, 76, 77, 78, 79, 32, 25, 22, 23, 80, 81, 82, 83, 84, 85, 86, 87, 88, 89, 90, 91, 92, 93, 94, 95, 96, 26, 97, 98, 99, 100, 101, 102, 103, 104, 33, 105, 106, 107, 108, 30, 109, 110, 111, 112, 113, 114, 115, 116, 117, 118, 119, 120, 121, 122, 123, 124, 125, 126, 127, 128, 129, 130, 131, 132, 133, 134, 135, 136, 29, 137, 138, 139, 140, 141, 142, 143, 38, 37, 144, 145, 146, 147, 148, 10, 7, 11, 149, 13, 14, 150, 151, 152, 153, 154, 155, 156, 157, 158, 159, 160, 161, 162, 6, 8, 163, 164, 165, 166, 39, 167, 168, 169, 170, 171, 172, 173, 174, 175, 53, 176, 177, 178, 179, 180, 181, 50, 351, 352, 353, 354, 355, 356, 337, 338, 339, 340, 341, 342, 343, 344, 345, 346, 347, 348, 349, 350] (by decide +kernel) (by decide +kernel)) (goodIn_sub (fun _ h => List.mem_append_left _ (List.mem_append_left _ (List.mem_append_right _ h))) (by decide +kernel))) (goodIn_sub (fun _ h => List.mem_append_left _ (List.mem_append_right _ h)) (by decide +kernel))) (goodIn_sub (fun _ h => List.mem_append_right _ h) (by decide +kernel))
set_option maxRecDepth 20000 in
theorem gL_law_L_act : GoodIn wsL_law (va_wsS RL 68 yL_act wsL_act) := goodIn_app (goodIn_of _ (by decide +kernel)) ggL_law_L_act
set_option maxRecDepth 20000 in
theorem ggL_law_X1_measures : GoodIn wsL_law wsX1_measures := goodIn_r _ [185, 32, 337, 338, 339, 340, 341, 342, 343, 344, 345] (by decide +kernel) (by decide +kernel)
set_option maxRecDepth 20000 in
theorem gL_law_X1_measures : GoodIn wsL_law (wsV RL 77 RX1 yX1_measures wsX1_measures) := goodIn_app (goodIn_of _ (by decide +kernel)) ggL_law_X1_measures
set_option maxRecDepth 20000 in
theorem ggL_law_X1_stalls : GoodIn wsL_law wsX1_stalls := goodIn_r _ [189, 30, 337, 338, 339, 340, 341, 342, 343, 344, 345, 346, 347, 348, 349, 350] (by decide +kernel) (by decide +kernel)
set_option maxRecDepth 20000 in
theorem gL_law_X1_stalls : GoodIn wsL_law (wsV RL 80 RX1 yX1_stalls wsX1_stalls) := goodIn_app (goodIn_of _ (by decide +kernel)) ggL_law_X1_stalls
set_option maxRecDepth 20000 in
theorem ggL_law_L_below : GoodIn wsL_law wsL_below := goodIn_r _ [60, 61] (by decide +kernel) (by decide +kernel)
set_option maxRecDepth 20000 in
theorem gL_law_L_below : GoodIn wsL_law (va_wsS RL 18 yL_below wsL_below) := goodIn_app (goodIn_of _ (by decide +kernel)) ggL_law_L_below
set_option maxRecDepth 20000 in
theorem ggL_law_X1_standard : GoodIn wsL_law wsX1_standard := goodIn_r _ [193, 33, 337, 338, 339, 340, 341, 342, 343, 344, 345] (by decide +kernel) (by decide +kernel)
set_option maxRecDepth 20000 in
theorem gL_law_X1_standard : GoodIn wsL_law (wsV RL 82 RX1 yX1_standard wsX1_standard) := goodIn_app (goodIn_of _ (by decide +kernel)) ggL_law_X1_standard
set_option maxRecDepth 20000 in
theorem ggL_law_X1_lengthTop : GoodIn wsL_law wsX1_lengthTop := goodIn_ca (goodIn_r _ [197, 25, 33, 80, 81, 82, 2, 83, 84, 85, 32, 86, 87, 88, 198, 199, 200, 201, 202, 203, 204, 205, 206, 337, 338, 339, 340, 341, 342, 343, 344, 345] (by decide +kernel) (by decide +kernel)) (goodIn_sub (fun _ h => List.mem_append_right _ h) (by decide +kernel))
set_option maxRecDepth 20000 in
theorem gL_law_X1_lengthTop : GoodIn wsL_law (wsV RL 84 RX1 yX1_lengthTop wsX1_lengthTop) := goodIn_app (goodIn_of _ (by decide +kernel)) ggL_law_X1_lengthTop
set_option maxRecDepth 20000 in
theorem ggL_law_X1_lengthBottom : GoodIn wsL_law wsX1_lengthBottom := goodIn_ca (goodIn_r _ [210, 25, 33, 80, 81, 82, 2, 83, 84, 85, 32, 86, 87, 88, 198, 199, 200, 201, 202, 203, 204, 205, 206, 337, 338, 339, 340, 341, 342, 343, 344, 345] (by decide +kernel) (by decide +kernel)) (goodIn_sub (fun _ h => List.mem_append_right _ h) (by decide +kernel))
set_option maxRecDepth 20000 in
theorem gL_law_X1_lengthBottom : GoodIn wsL_law (wsV RL 88 RX1 yX1_lengthBottom wsX1_lengthBottom) := goodIn_app (goodIn_of _ (by decide +kernel)) ggL_law_X1_lengthBottom
set_option maxRecDepth 20000 in
theorem ggL_law_X1_isLonger : GoodIn wsL_law wsX1_isLonger := goodIn_ca (goodIn_r _ [214, 25, 80, 81, 82, 2, 83, 84, 85, 32, 86, 87, 88, 337, 338, 339, 340, 341, 342, 343, 344, 345] (by decide +kernel) (by decide +kernel)) (goodIn_sub (fun _ h => List.mem_append_right _ h) (by decide +kernel))
set_option maxRecDepth 20000 in
theorem gL_law_X1_isLonger : GoodIn wsL_law (wsV RL 91 RX1 yX1_isLonger wsX1_isLonger) := goodIn_app (goodIn_of _ (by decide +kernel)) ggL_law_X1_isLonger
set_option maxRecDepth 20000 in
theorem ggL_law_X2_divisor : GoodIn wsL_law wsX2_divisor := goodIn_r _ [217, 218, 216, 46] (by decide +kernel) (by decide +kernel)
set_option maxRecDepth 20000 in
theorem gL_law_X2_divisor : GoodIn wsL_law (va_wsS RL 95 yX2_divisor wsX2_divisor) := goodIn_app (goodIn_of _ (by decide +kernel)) ggL_law_X2_divisor
end
section
set_option maxRecDepth 20000 in
theorem ggL_law_X1_longest : GoodIn wsL_law wsX1_longest := goodIn_r _ [222, 26, 337, 338, 339, 340, 341, 342, 343, 344, 345] (by decide +kernel) (by decide +kernel)
set_option maxRecDepth 20000 in
theorem gL_law_X1_longest : GoodIn wsL_law (wsV RL 99 RX1 yX1_longest wsX1_longest) := goodIn_app (goodIn_of _ (by decide +kernel)) ggL_law_X1_longest
set_option maxRecDepth 20000 in
theorem ggL_law_X1_shortest : GoodIn wsL_law wsX1_shortest := goodIn_r _ [226, 32, 25, 337, 338, 339, 340, 341, 342, 343, 344, 345] (by decide +kernel) (by decide +kernel)
set_option maxRecDepth 20000 in
theorem gL_law_X1_shortest : GoodIn wsL_law (wsV RL 102 RX1 yX1_shortest wsX1_shortest) := goodIn_app (goodIn_of _ (by decide +kernel)) ggL_law_X1_shortest
set_option maxRecDepth 20000 in
theorem ggL_law_X1_baseOf : GoodIn wsL_law wsX1_baseOf := goodIn_ca (goodIn_r _ [230, 22, 80, 81, 82, 2, 83, 84, 85, 32, 86, 87, 88, 337, 338, 339, 340, 341, 342, 343, 344, 345] (by decide +kernel) (by decide +kernel)) (goodIn_sub (fun _ h => List.mem_append_right _ h) (by decide +kernel))
set_option maxRecDepth 20000 in
theorem gL_law_X1_baseOf : GoodIn wsL_law (wsV RL 105 RX1 yX1_baseOf wsX1_baseOf) := goodIn_app (goodIn_of _ (by decide +kernel)) ggL_law_X1_baseOf
set_option maxRecDepth 20000 in
theorem ggL_law_X1_stepsToEll : GoodIn wsL_law wsX1_stepsToEll := goodIn_ca (goodIn_r _ [234, 23, 80, 81, 82, 2, 83, 84, 85, 32, 86, 87, 88, 337, 338, 339, 340, 341, 342, 343, 344, 345] (by decide +kernel) (by decide +kernel)) (goodIn_sub (fun _ h => List.mem_append_right _ h) (by decide +kernel))
set_option maxRecDepth 20000 in
theorem gL_law_X1_stepsToEll : GoodIn wsL_law (wsV RL 108 RX1 yX1_stepsToEll wsX1_stepsToEll) := goodIn_app (goodIn_of _ (by decide +kernel)) ggL_law_X1_stepsToEll
set_option maxRecDepth 20000 in
theorem ggL_law_X1_convert : GoodIn wsL_law wsX1_convert := goodIn_ca (goodIn_ca (goodIn_r _ [238, 25, 80, 81, 82, 2, 83, 84, 85, 32, 86, 87, 88, 239, 240, 241, 76, 77, 204, 205, 206, 337, 338, 339, 340, 341, 342, 343, 344, 345] (by decide +kernel) (by decide +kernel)) (goodIn_sub (fun _ h => List.mem_append_right _ h) (by decide +kernel))) (goodIn_sub (fun _ h => List.mem_append_left _ (List.mem_append_left _ (List.mem_append_right _ h))) (by decide +kernel))
set_option maxRecDepth 20000 in
theorem gL_law_X1_convert : GoodIn wsL_law (wsV RL 111 RX1 yX1_convert wsX1_convert) := goodIn_app (goodIn_of _ (by decide +kernel)) ggL_law_X1_convert
set_option maxRecDepth 20000 in
theorem ggL_law_X1_isExact : GoodIn wsL_law wsX1_isExact := goodIn_ca (goodIn_ca (goodIn_r _ [245, 25, 80, 81, 82, 2, 83, 84, 85, 32, 86, 87, 88, 239, 240, 241, 76, 77, 246, 247, 248, 337, 338, 339, 340, 341, 342, 343, 344, 345] (by decide +kernel) (by decide +kernel)) (goodIn_sub (fun _ h => List.mem_append_right _ h) (by decide +kernel))) (goodIn_sub (fun _ h => List.mem_append_left _ (List.mem_append_left _ (List.mem_append_right _ h))) (by decide +kernel))
set_option maxRecDepth 20000 in
theorem gL_law_X1_isExact : GoodIn wsL_law (wsV RL 115 RX1 yX1_isExact wsX1_isExact) := goodIn_app (goodIn_of _ (by decide +kernel)) ggL_law_X1_isExact
set_option maxRecDepth 20000 in
theorem ggL_law_X1_fewestToMeet : GoodIn wsL_law wsX1_fewestToMeet := goodIn_ca (goodIn_r _ [252, 25, 80, 81, 82, 2, 83, 84, 85, 32, 86, 87, 88, 198, 199, 200, 201, 202, 203, 204, 205, 206, 337, 338, 339, 340, 341, 342, 343, 344, 345] (by decide +kernel) (by decide +kernel)) (goodIn_sub (fun _ h => List.mem_append_right _ h) (by decide +kernel))
set_option maxRecDepth 20000 in
theorem gL_law_X1_fewestToMeet : GoodIn wsL_law (wsV RL 119 RX1 yX1_fewestToMeet wsX1_fewestToMeet) := goodIn_app (goodIn_of _ (by decide +kernel)) ggL_law_X1_fewestToMeet
set_option maxRecDepth 20000 in
theorem ggL_law_X1_driftOf : GoodIn wsL_law wsX1_driftOf := goodIn_ca (goodIn_r _ [256, 30, 116, 117, 118, 2, 119, 84, 85, 86, 87, 88, 337, 338, 339, 340, 341, 342, 343, 344, 345, 346, 347, 348, 349, 350] (by decide +kernel) (by decide +kernel)) (goodIn_sub (fun _ h => List.mem_append_right _ h) (by decide +kernel))
set_option maxRecDepth 20000 in
theorem gL_law_X1_driftOf : GoodIn wsL_law (wsV RL 125 RX1 yX1_driftOf wsX1_driftOf) := goodIn_app (goodIn_of _ (by decide +kernel)) ggL_law_X1_driftOf
set_option maxRecDepth 20000 in
theorem ggL_law_X1_getsAt : GoodIn wsL_law wsX1_getsAt := goodIn_ca (goodIn_ca (goodIn_r _ [260, 30, 116, 117, 118, 2, 119, 84, 85, 86, 87, 88, 80, 81, 82, 83, 32, 239, 240, 241, 76, 77, 261, 262, 263, 264, 25, 33, 204, 205, 206, 337, 338, 339, 340, 341, 342, 343, 344, 345, 346, 347, 348, 349, 350] (by decide +kernel) (by decide +kernel)) (goodIn_sub (fun _ h => List.mem_append_right _ h) (by decide +kernel))) (goodIn_sub (fun _ h => List.mem_append_left _ (List.mem_append_left _ (List.mem_append_right _ h))) (by decide +kernel))
set_option maxRecDepth 20000 in
theorem gL_law_X1_getsAt : GoodIn wsL_law (wsV RL 139 RX1 yX1_getsAt wsX1_getsAt) := goodIn_app (goodIn_of _ (by decide +kernel)) ggL_law_X1_getsAt
set_option maxRecDepth 20000 in
theorem ggL_law_X1_lossAt : GoodIn wsL_law wsX1_lossAt := goodIn_ca (goodIn_ca (goodIn_r _ [268, 30, 116, 117, 118, 2, 119, 84, 85, 86, 87, 88, 80, 81, 82, 83, 32, 239, 240, 241, 76, 77, 261, 262, 263, 264, 25, 33, 204, 205, 206, 337, 338, 339, 340, 341, 342, 343, 344, 345, 346, 347, 348, 349, 350] (by decide +kernel) (by decide +kernel)) (goodIn_sub (fun _ h => List.mem_append_right _ h) (by decide +kernel))) (goodIn_sub (fun _ h => List.mem_append_left _ (List.mem_append_left _ (List.mem_append_right _ h))) (by decide +kernel))
set_option maxRecDepth 20000 in
theorem gL_law_X1_lossAt : GoodIn wsL_law (wsV RL 142 RX1 yX1_lossAt wsX1_lossAt) := goodIn_app (goodIn_of _ (by decide +kernel)) ggL_law_X1_lossAt
set_option maxRecDepth 20000 in
theorem ggL_law_X1_isHonest : GoodIn wsL_law wsX1_isHonest := goodIn_ca (goodIn_r _ [272, 30, 116, 117, 118, 2, 119, 84, 85, 86, 87, 88, 164, 29, 165, 166, 162, 6, 7, 8, 39, 337, 338, 339, 340, 341, 342, 343, 344, 345, 346, 347, 348, 349, 350] (by decide +kernel) (by decide +kernel)) (goodIn_sub (fun _ h => List.mem_append_right _ h) (by decide +kernel))
set_option maxRecDepth 20000 in
theorem gL_law_X1_isHonest : GoodIn wsL_law (wsV RL 145 RX1 yX1_isHonest wsX1_isHonest) := goodIn_app (goodIn_of _ (by decide +kernel)) ggL_law_X1_isHonest
set_option maxRecDepth 20000 in
theorem ggL_law_X1_tolerance : GoodIn wsL_law wsX1_tolerance := goodIn_r _ [276, 30, 337, 338, 339, 340, 341, 342, 343, 344, 345, 346, 347, 348, 349, 350] (by decide +kernel) (by decide +kernel)
set_option maxRecDepth 20000 in
theorem gL_law_X1_tolerance : GoodIn wsL_law (wsV RL 149 RX1 yX1_tolerance wsX1_tolerance) := goodIn_app (goodIn_of _ (by decide +kernel)) ggL_law_X1_tolerance
end
section
set_option maxRecDepth 20000 in
theorem ggL_law_X1_wearOf : GoodIn wsL_law wsX1_wearOf := goodIn_ca (goodIn_r _ [280, 30, 116, 117, 118, 2, 119, 84, 85, 86, 87, 88, 337, 338, 339, 340, 341, 342, 343, 344, 345, 346, 347, 348, 349, 350] (by decide +kernel) (by decide +kernel)) (goodIn_sub (fun _ h => List.mem_append_right _ h) (by decide +kernel))
set_option maxRecDepth 20000 in
theorem gL_law_X1_wearOf : GoodIn wsL_law (wsV RL 151 RX1 yX1_wearOf wsX1_wearOf) := goodIn_app (goodIn_of _ (by decide +kernel)) ggL_law_X1_wearOf
set_option maxRecDepth 20000 in
theorem ggL_law_X1_mostHonest : GoodIn wsL_law wsX1_mostHonest := goodIn_r _ [284, 30, 285, 6, 7, 8, 337, 338, 339, 340, 341, 342, 343, 344, 345, 346, 347, 348, 349, 350] (by decide +kernel) (by decide +kernel)
set_option maxRecDepth 20000 in
theorem gL_law_X1_mostHonest : GoodIn wsL_law (wsV RL 156 RX1 yX1_mostHonest wsX1_mostHonest) := goodIn_app (goodIn_of _ (by decide +kernel)) ggL_law_X1_mostHonest
set_option maxRecDepth 20000 in
theorem ggL_law_X1_mostGenerous : GoodIn wsL_law wsX1_mostGenerous := goodIn_r _ [289, 30, 337, 338, 339, 340, 341, 342, 343, 344, 345, 346, 347, 348, 349, 350] (by decide +kernel) (by decide +kernel)
set_option maxRecDepth 20000 in
theorem gL_law_X1_mostGenerous : GoodIn wsL_law (wsV RL 159 RX1 yX1_mostGenerous wsX1_mostGenerous) := goodIn_app (goodIn_of _ (by decide +kernel)) ggL_law_X1_mostGenerous
set_option maxRecDepth 20000 in
theorem ggL_law_X1_days : GoodIn wsL_law wsX1_days := goodIn_r _ [293, 30, 337, 338, 339, 340, 341, 342, 343, 344, 345, 346, 347, 348, 349, 350] (by decide +kernel) (by decide +kernel)
set_option maxRecDepth 20000 in
theorem gL_law_X1_days : GoodIn wsL_law (wsV RL 162 RX1 yX1_days wsX1_days) := goodIn_app (goodIn_of _ (by decide +kernel)) ggL_law_X1_days
set_option maxRecDepth 20000 in
theorem ggL_law_X1_fines : GoodIn wsL_law wsX1_fines := goodIn_r _ [297, 132, 337, 338, 339, 340, 341, 342, 343, 344, 345] (by decide +kernel) (by decide +kernel)
set_option maxRecDepth 20000 in
theorem gL_law_X1_fines : GoodIn wsL_law (wsV RL 165 RX1 yX1_fines wsX1_fines) := goodIn_app (goodIn_of _ (by decide +kernel)) ggL_law_X1_fines
set_option maxRecDepth 20000 in
theorem ggL_law_X1_passDays : GoodIn wsL_law wsX1_passDays := goodIn_ca (goodIn_r _ [131, 30, 132, 133, 134, 2, 135, 76, 77, 86, 87, 88, 136, 29, 137, 138, 139, 140, 141, 142, 143, 38, 37, 144, 145, 146, 147, 148, 10, 7, 11, 149, 13, 14, 150, 151, 152, 153, 154, 155, 156, 157, 158, 159, 160, 161, 162, 6, 8, 163, 164, 165, 166, 39, 337, 338, 339, 340, 341, 342, 343, 344, 345, 346, 347, 348, 349, 350] (by decide +kernel) (by decide +kernel)) (goodIn_sub (fun _ h => List.mem_append_left _ (List.mem_append_left _ (List.mem_append_right _ h))) (by decide +kernel))
set_option maxRecDepth 20000 in
theorem gL_law_X1_passDays : GoodIn wsL_law (wsV RL 57 RX1 yX1_passDays wsX1_passDays) := goodIn_app (goodIn_of _ (by decide +kernel)) ggL_law_X1_passDays
set_option maxRecDepth 20000 in
theorem ggL_law_X2_pass : GoodIn wsL_law wsX2_pass := goodIn_r _ [175, 53, 176, 171, 177, 6, 7, 8, 178, 179, 180, 46, 181, 50, 351, 352, 353, 354, 355, 356] (by decide +kernel) (by decide +kernel)
set_option maxRecDepth 20000 in
theorem gL_law_X2_pass : GoodIn wsL_law (wsV RL 168 RX2 yX2_pass wsX2_pass) := goodIn_app (goodIn_of _ (by decide +kernel)) ggL_law_X2_pass
set_option maxRecDepth 20000 in
theorem ggL_law_X2_isSame : GoodIn wsL_law wsX2_isSame := goodIn_ca (goodIn_r _ [302, 52, 53, 176, 303, 50, 171, 177, 6, 7, 8, 304, 183, 184, 2, 185, 32, 305, 187, 188, 189, 30, 306, 291, 292, 293, 307, 191, 192, 193, 33, 308, 274, 275, 276, 309, 295, 296, 297, 132, 310, 311, 312, 46, 313, 4, 314, 315, 316, 317, 318, 319, 320, 321, 24, 218, 216, 217, 322, 228, 229, 230, 22, 80, 81, 82, 83, 84, 85, 86, 87, 88, 323, 232, 233, 234, 23, 324, 195, 196, 197, 25, 198, 199, 200, 201, 202, 203, 204, 205, 206, 325, 208, 209, 210, 326, 254, 255, 256, 116, 117, 118, 119, 327, 278, 279, 280, 328, 270, 271, 272, 164, 29, 165, 166, 162, 39, 178, 179, 180, 181, 329, 220, 221, 222, 26, 330, 224, 225, 226, 331, 282, 283, 284, 285, 332, 287, 288, 289, 333, 334, 335, 336, 351, 352, 353, 354, 355, 356, 337, 338, 339, 340, 341, 342, 343, 344, 345, 346, 347, 348, 349, 350] (by decide +kernel) (by decide +kernel)) (goodIn_sub (fun _ h => List.mem_append_right _ h) (by decide +kernel))
set_option maxRecDepth 20000 in
theorem gL_law_X2_isSame : GoodIn wsL_law (wsV RL 171 RX2 yX2_isSame wsX2_isSame) := goodIn_app (goodIn_of _ (by decide +kernel)) ggL_law_X2_isSame
end
section
/-! CORE: contexts, contracts that only read, contracts that write, calls of them -/
noncomputable def bz (P : Prop) : Int32 := @ite _ P (Classical.propDecidable P) 1 0
theorem bz_t {P : Prop} (h : P) : bz P = 1 := by unfold bz; exact if_pos h
theorem bz_f {P : Prop} (h : ¬ P) : bz P = 0 := by unfold bz; exact if_neg h
theorem bz_0 {P : Prop} : bz P = 0 → ¬ P := fun h p => by rw [bz_t p] at h; exact absurd h (by decide)
theorem bz_1 {P : Prop} : ¬ bz P = 0 → P := fun h => Classical.byContradiction fun n => h (bz_f n)
theorem bz_nar (P : Prop) : narrow .boolean (.int (bz P)) = .int (bz P) := by
  by_cases h : P
  · rw [bz_t h]; decide
  · rw [bz_f h]; decide
/-- a Prop by cases, as a number or another thing -/
noncomputable def ic {α : Type} (P : Prop) (x y : α) : α := @ite _ P (Classical.propDecidable P) x y
theorem ic_t {α : Type} {P : Prop} {x y : α} (h : P) : ic P x y = x := by unfold ic; exact if_pos h
theorem ic_f {α : Type} {P : Prop} {x y : α} (h : ¬ P) : ic P x y = y := by unfold ic; exact if_neg h
def inM (k : Nat) (x : Int32) : Prop := 0 ≤ x.toInt ∧ x.toInt < k
theorem inM_of {k : Nat} {x : Int32} (h : inM k x) (hk : k < 2 ^ 31) : ∃ j : Nat, j < k ∧ x = nI j := vp_in_of (vp_in_iff.mpr h) hk
theorem inM_nI {k j : Nat} (h : j < k) (hk : k < 2 ^ 31) : inM k (nI j) := vp_in_iff.mp (vp_in_nI h hk)
theorem t_0 : (0 : Int32).toInt = 0 := by decide
theorem nI_inc (i : Nat) : nI i + Int32.ofInt 1 = nI (i + 1) := nI_1 i
theorem nI_dec (i : Nat) : nI (i + 1) + Int32.ofInt (-1) = nI i := pk_m1 i
theorem fb_rng (x : Int32) : -2147483648 ≤ x.toInt ∧ x.toInt < 2147483648 := by
  have h1 := Int32.le_toInt x
  have h2 := Int32.toInt_lt x
  omega
theorem fb_bmod {z : Int} (h1 : -2147483648 ≤ z) (h2 : z < 2147483648) : z.bmod (2 ^ 32) = z := by
  rw [Int.bmod_eq_of_le (by omega) (by omega)]
theorem fb_addI {x y : Int32} (h1 : -2147483648 ≤ x.toInt + y.toInt) (h2 : x.toInt + y.toInt < 2147483648) : (x + y).toInt = x.toInt + y.toInt := by
  rw [Int32.toInt_add, fb_bmod h1 h2]
theorem fb_subI {x y : Int32} (h1 : -2147483648 ≤ x.toInt - y.toInt) (h2 : x.toInt - y.toInt < 2147483648) : (x - y).toInt = x.toInt - y.toInt := by
  rw [Int32.toInt_sub, fb_bmod h1 h2]
theorem fb_mulI {x y : Int32} (h1 : -2147483648 ≤ x.toInt * y.toInt) (h2 : x.toInt * y.toInt < 2147483648) : (x * y).toInt = x.toInt * y.toInt := by
  rw [Int32.toInt_mul, fb_bmod h1 h2]
theorem fb_negI {x : Int32} (h : x.toInt ≠ -2147483648) : (-x).toInt = -x.toInt := by
  have := fb_rng x
  rw [Int32.toInt_neg, fb_bmod (by omega) (by omega)]
theorem fb_ofI {z : Int} (h1 : -2147483648 ≤ z) (h2 : z < 2147483648) : (Int32.ofInt z).toInt = z := by
  rw [Int32.toInt_ofInt, fb_bmod h1 h2]
theorem fb_asI (x : Int32) : Int32.ofInt x.toInt = x := Int32.ofInt_toInt x
theorem fb_rngL (x : Int64) : -9223372036854775808 ≤ x.toInt ∧ x.toInt < 9223372036854775808 := by
  have h1 := Int64.le_toInt x
  have h2 := Int64.toInt_lt x
  omega
theorem fb_bmodL {z : Int} (h1 : -9223372036854775808 ≤ z) (h2 : z < 9223372036854775808) : z.bmod (2 ^ 64) = z := by
  rw [Int.bmod_eq_of_le (by omega) (by omega)]
theorem fb_addL {x y : Int64} (h1 : -9223372036854775808 ≤ x.toInt + y.toInt) (h2 : x.toInt + y.toInt < 9223372036854775808) : (x + y).toInt = x.toInt + y.toInt := by
  rw [Int64.toInt_add, fb_bmodL h1 h2]
theorem fb_subL {x y : Int64} (h1 : -9223372036854775808 ≤ x.toInt - y.toInt) (h2 : x.toInt - y.toInt < 9223372036854775808) : (x - y).toInt = x.toInt - y.toInt := by
  rw [Int64.toInt_sub, fb_bmodL h1 h2]
theorem fb_mulL {x y : Int64} (h1 : -9223372036854775808 ≤ x.toInt * y.toInt) (h2 : x.toInt * y.toInt < 9223372036854775808) : (x * y).toInt = x.toInt * y.toInt := by
  rw [Int64.toInt_mul, fb_bmodL h1 h2]
theorem nI_subI {a : Nat} {b : Int32} (ha : a < 2 ^ 30) (h1 : -1000000 ≤ b.toInt) (h2 : b.toInt ≤ 1000000) : (nI a - b).toInt = (a : Int) - b.toInt := by
  have e := nI_toInt (n := a) (by omega)
  rw [fb_subI (by omega) (by omega), e]
theorem lgc_all (x y : Int64) : (lg_cmp x y).toInt = if y.toInt < x.toInt then 1 else if x.toInt = y.toInt then 0 else -1 := by
  unfold lg_cmp
  simp only [gt_iff_lt, Int64.lt_iff_toInt_lt, ← Int64.toInt_inj]
  split
  · rfl
  · split <;> rfl
theorem lgc_lt (x y : Int64) : lg_cmp x y < 0 ↔ x.toInt < y.toInt := by
  rw [Int32.lt_iff_toInt_lt, lgc_all, t_0]
  split
  · omega
  · split <;> omega
theorem lgc_ge (x y : Int64) : 0 ≤ lg_cmp x y ↔ y.toInt ≤ x.toInt := by
  rw [Int32.le_iff_toInt_le, lgc_all, t_0]
  split
  · omega
  · split <;> omega
theorem lgc_gt (x y : Int64) : 0 < lg_cmp x y ↔ y.toInt < x.toInt := by
  rw [Int32.lt_iff_toInt_lt, lgc_all, t_0]
  split
  · omega
  · split <;> omega
theorem lgc_le (x y : Int64) : lg_cmp x y ≤ 0 ↔ x.toInt ≤ y.toInt := by
  rw [Int32.le_iff_toInt_le, lgc_all, t_0]
  split
  · omega
  · split <;> omega
theorem lgc_eq (x y : Int64) : lg_cmp x y = 0 ↔ x.toInt = y.toInt := by
  rw [← Int32.toInt_inj, lgc_all, t_0]
  split
  · omega
  · split <;> omega
theorem lgc_ne (x y : Int64) : lg_cmp x y ≠ 0 ↔ x.toInt ≠ y.toInt := not_congr (lgc_eq x y)
/-- the words of the nests -/
def Nw (U : State) : Prop :=
  va_Nw (.fieldLinkNest RX1 69 "OldMeasures$Stalls" "count" "I" RX1) U ∧
  va_Nw (.fieldLinkNest RX1 74 "OldMeasures$Stalls" "wears" "[I" RX1) U ∧
  va_Nw (.fieldLinkNest RX1 77 "OldMeasures$Stalls" "drifts" "[I" RX1) U ∧
  va_Nw (.fieldLinkNest RX1 85 "OldMeasures$Stalls" "tolerance" "I" RX1) U ∧
  va_Nw (.fieldLinkNest RX1 98 "OldMeasures$Stalls" "day" "I" RX1) U ∧
  va_Nw (.methodLinkNest RX1 25 yX0_init RX1) U ∧
  va_Nw (.methodLinkNest RX1 91 yX0_coinsPaidIn RX1) U ∧
  va_Nw (.methodLinkNest RX1 118 yX0_isTolerated RX1) U ∧
  va_Nw (.methodLinkNest RL 63 yX2_init RL) U
theorem Nw.warm {s U : State} (hW : s.WarmedH U.vm) (h : Nw s) : Nw U := by
  obtain ⟨h1, h2, h3, h4, h5, h6, h7, h8, h9⟩ := h
  exact ⟨h1.warmF hW, h2.warmF hW, h3.warmF hW, h4.warmF hW, h5.warmF hW, h6.warmM hW, h7.warmM hW, h8.warmM hW, h9.warmM hW⟩
theorem Nw.same {s U : State} (hv : s.vm = U.vm) (h : Nw s) : Nw U := by
  obtain ⟨h1, h2, h3, h4, h5, h6, h7, h8, h9⟩ := h
  exact ⟨h1.same rfl hv, h2.same rfl hv, h3.same rfl hv, h4.same rfl hv, h5.same rfl hv, h6.same rfl hv, h7.same rfl hv, h8.same rfl hv, h9.same rfl hv⟩
/-- arrays over int[] stand in the tables -/
def AO (U : State) : Prop := (Cond.arrayOver (.array .int)).before #[] U = true
theorem AO.moved {u U : State} (hvm : u.vm.Alike U.vm) (h : AO u) : AO U := by
  obtain ⟨comp, c, k, h1, h2, h3, h4, h5⟩ := arrayOverA_spec h
  obtain ⟨k', hk', he⟩ := hvm.2.2 _ _ h3
  have hi : (U.vm.classes.findIdx? fun (x : Class) => match x.kind with | .array component _ => component == comp | _ => false) = some c := by
    rw [hvm.findIdx?_eq _ (fun _ => rfl)]
    exact h2
  have hkind : k'.kind = .array comp (.array .int) := by rw [he]; exact h4
  have f1 : U.vm.findClass (FieldType.array .int).toString = some comp := by rw [hvm.findClass]; exact h1
  have f2 : U.vm.findClass ("[" ++ (FieldType.array .int).toString) = some c := by rw [hvm.findClass]; exact h5
  unfold AO Cond.before Cond.holds
  simp only [Cond.value]
  rw [f1, Option.bind_some]
  refine (congrArg (fun o : Option Nat => (o.bind (fun c => (U.vm.classes[c]?).map fun (k : Class) => match k.kind with | .array _ ty => decide (ty = FieldType.array .int) && decide (U.vm.findClass ("[" ++ (FieldType.array .int).toString) = some c) | _ => false) == some true)) hi).trans ?_
  simp [hk', hkind, f2]
abbrev tyL (cI cJ cR : ClassId) : List (ClassId × FieldType) := [(cI, .int), (cJ, .long), (cR, .array .int)]
def KM (D : va_G) (cI cJ cR : ClassId) : State → Heap → Prop := fun U _ => va_K D vwCl (tyL cI cJ cR) U
def KC (D : va_G) (cI cJ cR : ClassId) : State → Heap → Prop := fun U _ => va_K D vwCl (tyL cI cJ cR) U ∧ AO U ∧ Nw U
def K0 : State → Heap → Prop := fun _ _ => True
def KOk (K : State → Heap → Prop) : Prop := (∀ (a : Array Value) (U : State) (g : JFrame) (mk : MethodId), K U U.heap → K (U.calling g mk a) U.heap) ∧ ∀ (s U : State) (H : Heap), s.WarmedH U.vm → K s H → K U H
theorem K0_ok : KOk K0 := ⟨fun _ _ _ _ _ => trivial, fun _ _ _ _ _ => trivial⟩
theorem KM_ok {D : va_G} {cI cJ cR : ClassId} : KOk (KM D cI cJ cR) := ⟨fun a U g mk q => va_K.moved (u := U) (U := U.calling g mk a) (Vm.Alike.refl U.vm) q, fun s U H hW q => va_K.moved hW.alike q⟩
theorem KC_ok {D : va_G} {cI cJ cR : ClassId} : KOk (KC D cI cJ cR) := ⟨fun b U g mk q => ⟨va_K.moved (u := U) (U := U.calling g mk b) (Vm.Alike.refl U.vm) q.1, q.2.1.moved (U := U.calling g mk b) (Vm.Alike.refl U.vm), q.2.2.same rfl⟩, fun s U H hW q => ⟨va_K.moved hW.alike q.1, q.2.1.moved hW.alike, q.2.2.warm hW⟩⟩
/-- starts: a contract that only reads; one that writes -/
def cP (D : va_G) (ws : va_W) (K : State → Heap → Prop) (av : List Value) : Array Value → State → Prop := va_Pc av (fun U => va_P D vwCl ws U.heap ∧ K U U.heap)
def cPw (D : va_G) (ws : va_W) (sz : Nat) (K : State → Heap → Prop) (av : List Value) : Array Value → State → Prop := va_Pc av (fun U => U.heap.size = sz ∧ va_P D vwCl ws U.heap ∧ va_D (fun _ => True) ws ∧ K U U.heap)
/-- ends -/
def roi (post : Int32 → Prop) : Array Value → State → Outcome → State → Prop := fun _ st oc t => ∃ r : Int32, oc = .returned (some (.int r)) ∧ post r ∧ t.heap = st.heap
def rol (post : Int64 → Prop) : Array Value → State → Outcome → State → Prop := fun _ st oc t => ∃ r : Int64, oc = .returned (some (.long r)) ∧ post r ∧ t.heap = st.heap
def rov (post : Prop) : Array Value → State → Outcome → State → Prop := fun _ st oc t => oc = .returned none ∧ post ∧ t.heap = st.heap
def wB (D : va_G) (ws : va_W) (sz : Nat) : va_W → State → Prop := fun ws' t => va_P D vwCl ws' t.heap ∧ va_D (va_A ws sz) ws'
def wri (D : va_G) (ws : va_W) (sz : Nat) (post : Int32 → va_W → Prop) : Array Value → State → Outcome → State → Prop := va_Qi post (wB D ws sz) (va_A ws sz)
def wrl (D : va_G) (ws : va_W) (sz : Nat) (post : Int64 → va_W → Prop) : Array Value → State → Outcome → State → Prop := va_Ql post (wB D ws sz) (va_A ws sz)
def wrv (D : va_G) (ws : va_W) (sz : Nat) (post : va_W → Prop) : Array Value → State → Outcome → State → Prop := va_Qv post (wB D ws sz) (va_A ws sz)
/-- .. an answer that is a reference -/
def wrr (D : va_G) (ws : va_W) (sz : Nat) (post : Nat → va_W → Prop) : Array Value → State → Outcome → State → Prop := va_Qr (fun _ : va_W => True) (fun ws' a t => post a ws' ∧ wB D ws sz ws' t) (va_A ws sz)
def rod (post : UInt64 → Prop) : Array Value → State → Outcome → State → Prop := fun _ st oc t => ∃ r : UInt64, oc = .returned (some (.double r)) ∧ post r ∧ t.heap = st.heap
/-- a method of a class some of whose other methods have rows of their own (Math) -/
theorem MetF_ofW {l : Launch} {y : MethodName} {ws ws' : List Cond} {rm : Room} {Pc : Array Value → State → Prop} {Qc : Array Value → State → Outcome → State → Prop} {mc ms : Nat} {free : Addr → Prop} {cc : ByteArray} {maxL : Nat} {ret : Option FieldType}
    (hy : plainFor y = true) (hw : ws = Cond.code y cc maxL ret :: ws')
    (body : ∀ p e s m args below meth c s₁, BodyLoose p l y (headSpec ws rm) cc maxL ret e s m args below meth c s₁ → c.maxLocals = maxL → Pc args s →
      W p l e (headSpec ws rm).room s m args below meth c s.heap [] 0 0 (MQ below Qc args s mc ms free) (entryFrame m args maxL)) : Met l y ws rm Pc Qc mc ms free := by
  refine MetFree.of_bodySF (code := cc) (maxLocals := maxL) (ret := ret) hy ?_ ?_
  · intro args s m h hn
    obtain ⟨meth, c, h1, h2, h3, h4, h5, h6, -, -⟩ := Cond.code_spec hn (atoms_spec (ws := ws) h _ (by rw [hw]; exact List.mem_cons_self))
    exact ⟨meth, c, h1, h2, h3, h4, h5, h6⟩
  · intro p e s m args below meth c s₁ B hml hP _
    have hh0 : s₁.heap = s.heap := by rw [B.state]; rfl
    obtain ⟨t, a1, o, b1, b2, b3⟩ := body p e s m args below meth c s₁ B hml hP s₁ hh0 (Stand.of_body B)
    exact ⟨t, o, a1, b1, b2, ⟨b3.1, b3.2⟩⟩
section CORE
variable {p : Program} {l : Launch} {e : Env} {R : Room} {s : State} {m : MethodId} {args : Array Value} {below : List Frame} {meth : Method} {c : Code} {H : Heap} {locs : List Loc} {cells slots : Nat} {Q : State → Prop}
variable {pc : Nat} {ls : Array Slot} {rest st0 : List Value} {a : Array Value} {mc ms : Nat} {D : va_G} {K : State → Heap → Prop} {av : List Value} {ws wc : va_W}
theorem pre0 : PreS s H (va_Pc av (fun _ => True)) av := ⟨fun _ _ _ _ q => q, fun _ _ _ => ⟨rfl, trivial⟩⟩
theorem preS_ro (hk : KOk K) (hP : va_P D vwCl wc H) (hK : K s H) : PreS s H (cP D wc K av) av :=
  ⟨fun a U g mk q => ⟨q.1, q.2.1, hk.1 a U g mk q.2.2⟩, fun U hU hW => ⟨rfl, by rw [hU]; exact hP, by rw [hU]; exact hk.2 s U H hW hK⟩⟩
theorem preV_ro {C : String} {b : Addr} (hk : KOk K) (hP : va_P D vwCl wc H) (hK : K s H) (hr : ∃ cell : Cell, H[b]? = some cell ∧ cell.vm.isStatics = false ∧ s.vm.findClass C = some cell.cls) : PreV s H C b (cP D wc K (.ref b :: av)) av :=
  ⟨fun a U g mk q => ⟨q.1, q.2.1, hk.1 a U g mk q.2.2⟩, hr, fun U hU hW => ⟨rfl, by rw [hU]; exact hP, by rw [hU]; exact hk.2 s U H hW hK⟩⟩
theorem preV_wr {C : String} {b : Addr} {A : Nat → Prop} (hk : KOk K) (hP : va_P D vwCl wc H) (hD : va_D A wc) (hK : K s H) (hr : ∃ cell : Cell, H[b]? = some cell ∧ cell.vm.isStatics = false ∧ s.vm.findClass C = some cell.cls) : PreV s H C b (cPw D wc H.size K (.ref b :: av)) av :=
  ⟨fun a U g mk q => ⟨q.1, q.2.1, q.2.2.1, q.2.2.2.1, hk.1 a U g mk q.2.2.2.2⟩, hr, fun U hU hW => ⟨rfl, by rw [hU], by rw [hU]; exact hP, hD.weaken (fun _ _ _ _ => trivial), by rw [hU]; exact hk.2 s U H hW hK⟩⟩
theorem preS_wr {A : Nat → Prop} (hk : KOk K) (hP : va_P D vwCl wc H) (hD : va_D A wc) (hK : K s H) : PreS s H (cPw D wc H.size K av) av :=
  ⟨fun a U g mk q => ⟨q.1, q.2.1, q.2.2.1, q.2.2.2.1, hk.1 a U g mk q.2.2.2.2⟩, fun U hU hW => ⟨rfl, by rw [hU], by rw [hU]; exact hP, hD.weaken (fun _ _ _ _ => trivial), by rw [hU]; exact hk.2 s U H hW hK⟩⟩
theorem ro_i {post : Int32 → Prop} (hr : va_Run p l e R s m args below meth c H locs cells slots 0 0 (F0 m pc ls st0) rest (roi post a) (fun _ => False))
    (kk : ∀ r : Int32, post r → W p l e R s m args below meth c H locs cells slots Q (F0 m (pc + 3) ls (.int r :: rest))) : W p l e R s m args below meth c H locs cells slots Q (F0 m pc ls st0) := by
  intro T hT X
  obtain ⟨v, st₀, t, T', L, h0, X', hL, e1, e2, ⟨r, hv, hp, hh⟩, st⟩ := hr T hT X
  cases hv
  obtain ⟨t2, a1, b1⟩ := kk r hp T' (by rw [e1, hh, h0]) (Stand.forget X' (fun q h => (hL q h).elim))
  exact ⟨t2, st t2 a1, b1⟩
theorem ro_l {post : Int64 → Prop} (hr : va_Run p l e R s m args below meth c H locs cells slots 0 0 (F0 m pc ls st0) rest (rol post a) (fun _ => False))
    (kk : ∀ r : Int64, post r → W p l e R s m args below meth c H locs cells slots Q (F0 m (pc + 3) ls (.long r :: rest))) : W p l e R s m args below meth c H locs cells slots Q (F0 m pc ls st0) := by
  intro T hT X
  obtain ⟨v, st₀, t, T', L, h0, X', hL, e1, e2, ⟨r, hv, hp, hh⟩, st⟩ := hr T hT X
  cases hv
  obtain ⟨t2, a1, b1⟩ := kk r hp T' (by rw [e1, hh, h0]) (Stand.forget X' (fun q h => (hL q h).elim))
  exact ⟨t2, st t2 a1, b1⟩
theorem ro_iE {x : Int32} (hr : va_Run p l e R s m args below meth c H locs cells slots 0 0 (F0 m pc ls st0) rest (roi (fun r => r = x) a) (fun _ => False))
    (kk : W p l e R s m args below meth c H locs cells slots Q (F0 m (pc + 3) ls (.int x :: rest))) : W p l e R s m args below meth c H locs cells slots Q (F0 m pc ls st0) := ro_i hr (fun _ h => h ▸ kk)
theorem ro_lE {x : Int64} (hr : va_Run p l e R s m args below meth c H locs cells slots 0 0 (F0 m pc ls st0) rest (rol (fun r => r = x) a) (fun _ => False))
    (kk : W p l e R s m args below meth c H locs cells slots Q (F0 m (pc + 3) ls (.long x :: rest))) : W p l e R s m args below meth c H locs cells slots Q (F0 m pc ls st0) := ro_l hr (fun _ h => h ▸ kk)
theorem ro_v {post : Prop} (hr : va_Run p l e R s m args below meth c H locs cells slots 0 0 (F0 m pc ls st0) rest (rov post a) (fun _ => False))
    (kk : post → W p l e R s m args below meth c H locs cells slots Q (F0 m (pc + 3) ls rest)) : W p l e R s m args below meth c H locs cells slots Q (F0 m pc ls st0) := by
  intro T hT X
  obtain ⟨v, st₀, t, T', L, h0, X', hL, e1, e2, ⟨hv, hp, hh⟩, st⟩ := hr T hT X
  cases hv
  obtain ⟨t2, a1, b1⟩ := kk hp T' (by rw [e1, hh, h0]) (Stand.forget X' (fun q h => (hL q h).elim))
  exact ⟨t2, st t2 a1, b1⟩
/-- a counting loop over a changing heap -/
theorem loopW {σ : Type} {h : Nat} {st : List Value} (I : Nat → σ → Heap → List Loc → Array Slot → Prop) (N : Nat)
    (step : ∀ (i : Nat) (x : σ) (H : Heap) (locs : List Loc) (ls : Array Slot), i ≤ N → I i x H locs ls → (∀ (x' : σ) (H' : Heap) (locs' : List Loc) (ls' : Array Slot), i < N → I (i + 1) x' H' locs' ls' → W p l e R s m args below meth c H' locs' cells slots Q (F0 m h ls' st)) → W p l e R s m args below meth c H locs cells slots Q (F0 m h ls st)) :
    ∀ (i : Nat) (x : σ) (H : Heap) (locs : List Loc) (ls : Array Slot), i ≤ N → I i x H locs ls → W p l e R s m args below meth c H locs cells slots Q (F0 m h ls st) := by
  have key : ∀ (n i : Nat) (x : σ) (H : Heap) (locs : List Loc) (ls : Array Slot), i + n = N → I i x H locs ls → W p l e R s m args below meth c H locs cells slots Q (F0 m h ls st) := by
    intro n
    induction n with
    | zero => exact fun i x H locs ls hn hI => step i x H locs ls (by omega) hI (fun _ _ _ _ h => absurd h (by omega))
    | succ n ih => exact fun i x H locs ls hn hI => step i x H locs ls (by omega) hI (fun x' H' locs' ls' _ hI' => ih (i + 1) x' H' locs' ls' (by omega) hI')
  exact fun i x H locs ls hi hI => key (N - i) i x H locs ls (by omega) hI
/-- .. over a heap that stays -/
theorem loopR {σ : Type} {h : Nat} {st : List Value} (I : Nat → σ → Array Slot → Prop) (N : Nat)
    (step : ∀ (i : Nat) (x : σ) (ls : Array Slot), i ≤ N → I i x ls → (∀ (x' : σ) (ls' : Array Slot), i < N → I (i + 1) x' ls' → W p l e R s m args below meth c H locs cells slots Q (F0 m h ls' st)) → W p l e R s m args below meth c H locs cells slots Q (F0 m h ls st)) :
    ∀ (i : Nat) (x : σ) (ls : Array Slot), i ≤ N → I i x ls → W p l e R s m args below meth c H locs cells slots Q (F0 m h ls st) := by
  intro i x ls hi hI
  exact loopW (I := fun i x H' locs' ls => H' = H ∧ locs' = locs ∧ I i x ls) N (fun i x H' locs' ls hi hI kk => by
    obtain ⟨rfl, rfl, hI⟩ := hI
    exact step i x ls hi hI (fun x' ls' h1 h2 => kk x' _ _ ls' h1 ⟨rfl, rfl, h2⟩)) i x H locs ls hi ⟨rfl, rfl, hI⟩
variable {cc : ByteArray} {A : Nat → Prop} {tys : List (ClassId × FieldType)} {H0 : Heap} {ad : Nat} {cl : List vw_C}
theorem xa_iald (hexec : p.tables.exec = Jvm.exec) (hb : c.code = cc) (hK : va_K D cl tys s) (hP : va_P D cl ws H) (q0 t0 : Nat) {cA : ClassId} {n : Nat} {f : Nat → Int32} (ha : ws[q0]? = some (ad, .inl (cA, n, .inl f))) (ht : tys[t0]? = some (cA, .int)) {j : Nat} (hj : j < n) (hn : n < 2 ^ 31) (hdg : decode cc pc = .ok (.iaload, 1))
    (kk : W p l e R s m args below meth c H locs cells slots Q (F0 m (pc + 1) ls (.int (f j) :: rest))) : W p l e R s m args below meth c H locs cells slots Q (F0 m pc ls (.int (nI j) :: .ref ad :: rest)) :=
  va_iald hexec hb hK hP q0 t0 ha ht (vp_in_nI hj hn) hdg (by rw [nI_clamp (Nat.lt_trans hj hn)]; exact kk)
theorem xa_lald (hexec : p.tables.exec = Jvm.exec) (hb : c.code = cc) (hK : va_K D cl tys s) (hP : va_P D cl ws H) (q0 t0 : Nat) {cA : ClassId} {n : Nat} {f : Nat → Int64} (ha : ws[q0]? = some (ad, .inl (cA, n, .inr (.inl f)))) (ht : tys[t0]? = some (cA, .long)) {j : Nat} (hj : j < n) (hn : n < 2 ^ 31) (hdg : decode cc pc = .ok (.laload, 1))
    (kk : W p l e R s m args below meth c H locs cells slots Q (F0 m (pc + 1) ls (.long (f j) :: rest))) : W p l e R s m args below meth c H locs cells slots Q (F0 m pc ls (.int (nI j) :: .ref ad :: rest)) :=
  va_lald hexec hb hK hP q0 t0 ha ht (vp_in_nI hj hn) hdg (by rw [nI_clamp (Nat.lt_trans hj hn)]; exact kk)
theorem xa_iast (hexec : p.tables.exec = Jvm.exec) (hb : c.code = cc) (hK : va_K D cl tys s) (hP : va_P D cl ws H) (hD : va_D A ws) (hS : va_S A H0 H locs) (q0 t0 : Nat) {cA : ClassId} {n : Nat} {f : Nat → Int32} (ha : ws[q0]? = some (ad, .inl (cA, n, .inl f))) (ht : tys[t0]? = some (cA, .int)) {j : Nat} {x : Int32} (hj : j < n) (hn : n < 2 ^ 31) (hdg : decode cc pc = .ok (.iastore, 1))
    (kk : ∀ (H1 : Heap) (locs1 : List Loc), va_P D cl (ws.set q0 (ad, .inl (cA, n, .inl (upd f j x)))) H1 → va_D A (ws.set q0 (ad, .inl (cA, n, .inl (upd f j x)))) → va_S A H0 H1 locs1 → W p l e R s m args below meth c H1 locs1 cells slots Q (F0 m (pc + 1) ls rest)) : W p l e R s m args below meth c H locs cells slots Q (F0 m pc ls (.int x :: .int (nI j) :: .ref ad :: rest)) :=
  va_iast hexec hb hK hP hD hS q0 t0 ha ht (vp_in_nI hj hn) hdg (by rw [nI_clamp (Nat.lt_trans hj hn)]; exact kk)
theorem xa_last (hexec : p.tables.exec = Jvm.exec) (hb : c.code = cc) (hK : va_K D cl tys s) (hP : va_P D cl ws H) (hD : va_D A ws) (hS : va_S A H0 H locs) (q0 t0 : Nat) {cA : ClassId} {n : Nat} {f : Nat → Int64} (ha : ws[q0]? = some (ad, .inl (cA, n, .inr (.inl f)))) (ht : tys[t0]? = some (cA, .long)) {j : Nat} {x : Int64} (hj : j < n) (hn : n < 2 ^ 31) (hdg : decode cc pc = .ok (.lastore, 1))
    (kk : ∀ (H1 : Heap) (locs1 : List Loc), va_P D cl (ws.set q0 (ad, .inl (cA, n, .inr (.inl (vp_updL f j x))))) H1 → va_D A (ws.set q0 (ad, .inl (cA, n, .inr (.inl (vp_updL f j x))))) → va_S A H0 H1 locs1 → W p l e R s m args below meth c H1 locs1 cells slots Q (F0 m (pc + 1) ls rest)) : W p l e R s m args below meth c H locs cells slots Q (F0 m pc ls (.long x :: .int (nI j) :: .ref ad :: rest)) :=
  va_last hexec hb hK hP hD hS q0 t0 ha ht (vp_in_nI hj hn) hdg (by rw [nI_clamp (Nat.lt_trans hj hn)]; exact kk)
theorem topI {x y : Int32} (h : x = y) (k : W p l e R s m args below meth c H locs cells slots Q (F0 m pc ls (.int y :: rest))) : W p l e R s m args below meth c H locs cells slots Q (F0 m pc ls (.int x :: rest)) := h ▸ k
theorem topL {x y : Int64} (h : x = y) (k : W p l e R s m args below meth c H locs cells slots Q (F0 m pc ls (.long y :: rest))) : W p l e R s m args below meth c H locs cells slots Q (F0 m pc ls (.long x :: rest)) := h ▸ k
end CORE
theorem xv_eqI {cA : ClassId} {n : Nat} {f g : Nat → Int32} (h : ∀ j, j < n → f j = g j) : vp_cell cA (n, .inl f) = vp_cell cA (n, .inl g) := by
  rw [vp_cell_i, vp_cell_i]
  unfold arrV
  congr 2
  funext j
  exact congrArg Value.int (h j.val j.isLt)
theorem va_P.toI {D : va_G} {cl : List vw_C} {ws : va_W} {H : Heap} {a n : Nat} {cA : ClassId} {f g : Nat → Int32} (hP : va_P D cl ws H) (q : Nat) (ha : ws[q]? = some (a, .inl (cA, n, .inl f))) (h : ∀ j, j < n → f j = g j) : va_P D cl (ws.set q (a, .inl (cA, n, .inl g))) H := by
  have hl := (List.getElem?_eq_some_iff.mp ha).1
  intro k z hk
  by_cases hkq : k = q
  · subst hkq
    rw [List.getElem?_set_self hl] at hk
    cases hk
    have h1 := hP k _ ha
    show H[a]? = some (vp_cell cA (n, .inl g))
    rw [← xv_eqI h]
    exact h1
  · rw [List.getElem?_set_ne (Ne.symm hkq)] at hk
    exact hP k z hk
theorem fb_xorI (a b : Nat) : nI a ^^^ nI b = nI (a ^^^ b) := by
  apply Int32.toBitVec_inj.1
  show BitVec.ofNat 32 a ^^^ BitVec.ofNat 32 b = BitVec.ofNat 32 (a ^^^ b)
  apply BitVec.eq_of_getLsbD_eq
  intro i hi
  simp [hi]
theorem xor_nn {u v : Nat} (hu : u < 2 ^ 31) (hv : v < 2 ^ 31) : 0 ≤ (nI u ^^^ nI v).toInt := by
  rw [fb_xorI, nI_toInt (Nat.xor_lt_two_pow hu hv)]
  omega
def inR (lo hi : Int) (x : Int32) : Prop := lo ≤ x.toInt ∧ x.toInt ≤ hi
theorem inM_iff {k : Nat} {x : Int32} (hk : k ≤ 8) : ¬ (x.toInt < (0 : Int32).toInt ∨ (nI k - 1).toInt < x.toInt) ↔ inM k x := by
  rw [nI_subI (by omega) (by decide) (by decide), t_0]
  have e1 : (1 : Int32).toInt = 1 := rfl
  unfold inM
  omega
def absI (x : Int32) : Int32 := if 0 ≤ x then x else 0 - x
/-! what the methods reckon -/
/-- the length of the measure at a rank -/
def lnA (fL : Nat → Int64) (fO : Nat → Int32) (i : Nat) : Int64 := fL (fO i).toNatClampNeg
def MOk (k : Nat) (fL : Nat → Int64) (fO : Nat → Int32) : Prop := 1 ≤ k ∧ k ≤ 8 ∧ (∀ j, j < k → 0 < (fL j).toInt ∧ (fL j).toInt ≤ 4782969) ∧ ∀ i, i < k → inM k (fO i)
theorem inM_le {k n : Nat} {x : Int32} (h : inM k x) (hk : k ≤ n) : inM n x := ⟨h.1, by have := h.2; omega⟩
theorem inM_clamp {k : Nat} {x : Int32} (h : inM k x) : x.toNatClampNeg < k := by
  have e : x.toNatClampNeg = x.toInt.toNat := rfl
  have h1 := h.1
  have h2 := h.2
  rw [e]
  omega
theorem inM_eq {k : Nat} {x : Int32} (h : inM k x) : x = nI x.toNatClampNeg := by
  have e : x.toNatClampNeg = x.toInt.toNat := rfl
  have h1 := h.1
  have h3 := Int32.toInt_lt x
  refine Int32.toInt_inj.mp ?_
  rw [e, nI_toInt (by omega)]
  omega
theorem MOk.at {k : Nat} {fL : Nat → Int64} {fO : Nat → Int32} (h : MOk k fL fO) {i : Nat} (hi : i < k) : inM 8 (fO i) := inM_le (h.2.2.2 i hi) h.2.1
theorem MOk.pos {k : Nat} {fL : Nat → Int64} {fO : Nat → Int32} (h : MOk k fL fO) {i : Nat} (hi : i < k) : 0 < (lnA fL fO i).toInt := (h.2.2.1 _ (inM_clamp (h.2.2.2 i hi))).1
/-- a long by its number -/
theorem lN_of {x : Int64} {b : Nat} (h0 : 0 < x.toInt) (h1 : x.toInt ≤ b) : ∃ n : Nat, 0 < n ∧ n ≤ b ∧ x = lN n := by
  obtain ⟨n, hn, rfl⟩ := pk_lOf (x := x) (by rw [Int64.lt_iff_toInt_lt]; have : (0 : Int64).toInt = 0 := rfl; omega)
  rw [pk_lT hn] at h0 h1
  exact ⟨n, by omega, by omega, rfl⟩
theorem lN_ne0 {n : Nat} (h0 : 0 < n) (h : n < 2 ^ 63) : ¬ lN n = 0 := fun h1 => by
  have h2 := pk_lT h
  rw [h1] at h2
  have h3 : (0 : Int64).toInt = 0 := rfl
  omega
/-- a length's top in another's: both without a common divisor -/
def tp (x y : Int64) : Int64 := lN (x.toInt.toNat / Nat.gcd x.toInt.toNat y.toInt.toNat)
theorem tp_lN {u v : Nat} (hu : u < 2 ^ 63) (hv : v < 2 ^ 63) : tp (lN u) (lN v) = lN (u / Nat.gcd u v) := by
  unfold tp
  rw [pk_lT hu, pk_lT hv]
  rfl
def jrem (x y : Int64) : Int64 := x - x / y * y
/-- what is left behind the first ranks; how many pieces were taken in them -/
def lfT (g : Nat → Int64) (x : Int64) : Nat → Int64
  | 0 => x
  | i + 1 => jrem (lfT g x i) (g i)
def tkT (g : Nat → Int64) (x : Int64) : Nat → Int64
  | 0 => 0
  | i + 1 => tkT g x i + lfT g x i / g i
/-- the order holds each measure once -/
def MPm (k : Nat) (fO : Nat → Int32) : Prop := (∀ i j, i < k → j < k → fO i = fO j → i = j) ∧ ∀ x, x < k → ∃ i, i < k ∧ fO i = nI x
/-- pieces of one measure, if all are told -/
noncomputable def spO (g : Nat → Int64) (x : Int64) (fO : Nat → Int32) (z : Int32) : Nat → Int64
  | 0 => 0
  | i + 1 => ic (fO i = z) (spO g x fO z i + lfT g x i / g i) (spO g x fO z i)
/-- the first measure by rank that goes into x without a rest; d if there is none -/
noncomputable def bst (g : Nat → Int64) (x : Int64) (fO : Nat → Int32) (d : Int32) : Nat → Nat → Int32
  | 0, _ => d
  | n + 1, i => ic ((jrem x (g i)).toInt = (0 : Int64).toInt) (fO i) (bst g x fO d n (i + 1))
theorem spO_at {g : Nat → Int64} {x : Int64} {fO : Nat → Int32} {z : Int32} {k i : Nat} (hinj : ∀ i j, i < k → j < k → fO i = fO j → i = j) (hi : i < k) (e : fO i = z) : spO g x fO z k = lfT g x i / g i := by
  have key : ∀ n, n ≤ k → spO g x fO z n = if i < n then lfT g x i / g i else 0 := by
    intro n
    induction n with
    | zero => intro _; rw [if_neg (by omega)]; rfl
    | succ n ih =>
      intro hn
      unfold spO
      rw [ih (by omega)]
      by_cases h : fO n = z
      · have e2 : n = i := hinj n i (by omega) hi (h.trans e.symm)
        subst e2
        rw [ic_t h, if_neg (by omega), if_pos (by omega), Int64.zero_add]
      · rw [ic_f h]
        have : n ≠ i := fun q => h (by rw [q]; exact e)
        by_cases h2 : i < n
        · rw [if_pos h2, if_pos (by omega)]
        · rw [if_neg h2, if_neg (by omega)]
  rw [key k (Nat.le_refl k), if_pos hi]
/-- the shortest of the first, by number -/
noncomputable def shN (fL : Nat → Int64) : Nat → Nat
  | 0 => 0
  | i + 1 => ic ((fL (i + 1)).toInt < (fL (shN fL i)).toInt) (i + 1) (shN fL i)
theorem shN_le (fL : Nat → Int64) (i : Nat) : shN fL i ≤ i := by
  induction i with
  | zero => exact Nat.le_refl 0
  | succ i ih =>
    unfold shN
    by_cases h : (fL (i + 1)).toInt < (fL (shN fL i)).toInt
    · rw [ic_t h]; exact Nat.le_refl _
    · rw [ic_f h]; omega
/-- the stall whose drift is nearest to 0; with the greatest -/
noncomputable def bhN (fD : Nat → Int32) : Nat → Int32
  | 0 => -1
  | i + 1 => ic (bhN fD i = -1 ∨ (absI (fD i)).toInt < (absI (fD (bhN fD i).toNatClampNeg)).toInt) (nI i) (bhN fD i)
noncomputable def bhV (fD : Nat → Int32) (i : Nat) : Int32 := ic (bhN fD i = -1) 301 (absI (fD (bhN fD i).toNatClampNeg))
theorem bhV_0 (fD : Nat → Int32) : bhV fD 0 = 301 := ic_t rfl
theorem nI_nm1 {i : Nat} (h : i < 2 ^ 31) : ¬ nI i = -1 := fun q => by
  have h1 := nI_toInt h
  rw [q] at h1
  have h2 : (-1 : Int32).toInt = -1 := rfl
  omega
theorem bh_no {fD : Nat → Int32} {i : Nat} (h3 : (absI (fD i)).toInt ≤ 300) (h : (bhV fD i).toInt ≤ (absI (fD i)).toInt) : bhN fD (i + 1) = bhN fD i ∧ bhV fD (i + 1) = bhV fD i := by
  have e1 : (301 : Int32).toInt = 301 := rfl
  have hn : ¬ (bhN fD i = -1 ∨ (absI (fD i)).toInt < (absI (fD (bhN fD i).toNatClampNeg)).toInt) := by
    intro q
    unfold bhV at h
    by_cases q1 : bhN fD i = -1
    · rw [ic_t q1, e1] at h; omega
    · rw [ic_f q1] at h
      rcases q with q | q
      · exact q1 q
      · omega
  have e : bhN fD (i + 1) = bhN fD i := ic_f hn
  exact ⟨e, by unfold bhV; rw [e]⟩
theorem bh_yes {fD : Nat → Int32} {i : Nat} (hi : i < 2 ^ 31) (h : ¬ (bhV fD i).toInt ≤ (absI (fD i)).toInt) : bhN fD (i + 1) = nI i ∧ bhV fD (i + 1) = absI (fD i) := by
  have hy : bhN fD i = -1 ∨ (absI (fD i)).toInt < (absI (fD (bhN fD i).toNatClampNeg)).toInt := by
    unfold bhV at h
    by_cases q1 : bhN fD i = -1
    · exact Or.inl q1
    · rw [ic_f q1] at h; exact Or.inr (by omega)
  have e : bhN fD (i + 1) = nI i := ic_t hy
  exact ⟨e, by unfold bhV; rw [e, ic_f (nI_nm1 hi), nI_clamp hi]⟩
noncomputable def bgN (fD : Nat → Int32) : Nat → Int32
  | 0 => -1
  | i + 1 => ic (bgN fD i = -1 ∨ (fD (bgN fD i).toNatClampNeg).toInt < (fD i).toInt) (nI i) (bgN fD i)
/-- the newest measure put in its rank -/
noncomputable def insO (fL : Nat → Int64) (w : Int64) (v : Int32) : Nat → (Nat → Int32) → (Nat → Int32)
  | 0, o => upd o 0 v
  | r + 1, o => ic ((fL (o r).toNatClampNeg).toInt < w.toInt) (insO fL w v r (upd o (r + 1) (o r))) (upd o (r + 1) v)
def rfU (fL : Nat → Int64) (q : Int64) (i : Nat) : Nat → Int64 := fun j => if j < i then fL j * q else fL j
theorem rfU_0 (fL : Nat → Int64) (q : Int64) : rfU fL q 0 = fL := by funext j; simp [rfU]
theorem rfU_s (fL : Nat → Int64) (q : Int64) (i : Nat) : vp_updL (rfU fL q i) i (rfU fL q i i * q) = rfU fL q (i + 1) := by
  funext j
  simp only [vp_updL, rfU, Nat.lt_irrefl, if_false]
  by_cases h : j = i
  · subst h; simp
  · by_cases h2 : j < i
    · rw [if_neg h, if_pos h2, if_pos (by omega)]
    · rw [if_neg h, if_neg h2, if_neg (by omega)]
theorem eu_step {i a b : Nat} (hb : 0 < b) (ha2 : a < 2 ^ 40) (hb2 : b < 2 ^ 40) (h : i = 0 ∨ (b < a ∧ a * b * 2 ^ (i - 1) < 2 ^ 80)) : a % b < b ∧ b * (a % b) * 2 ^ i < 2 ^ 80 := by
  have hm : a % b < b := Nat.mod_lt _ hb
  refine ⟨hm, ?_⟩
  rcases h with rfl | ⟨h1, h2⟩
  · have h3 : b * (a % b) < 2 ^ 40 * 2 ^ 40 := Nat.mul_lt_mul'' hb2 (Nat.lt_trans hm hb2)
    simpa using h3
  · have h4 : 2 * (a % b) ≤ a := by
      have h5 := Nat.div_add_mod a b
      have h6 : 1 ≤ a / b := (Nat.le_div_iff_mul_le hb).mpr (by omega)
      have h7 : b * 1 ≤ b * (a / b) := Nat.mul_le_mul_left b h6
      omega
    cases i with
    | zero =>
      have h8 : b * (a % b) ≤ a * b := by
        rw [Nat.mul_comm a b]; exact Nat.mul_le_mul_left b (by omega)
      simp at h2 ⊢
      omega
    | succ n =>
      have e : b * (a % b) * 2 ^ (n + 1) = b * (2 * (a % b)) * 2 ^ n := by
        rw [Nat.pow_succ]
        simp only [Nat.mul_assoc, Nat.mul_comm, Nat.mul_left_comm]
      rw [e]
      have h9 : b * (2 * (a % b)) * 2 ^ n ≤ a * b * 2 ^ n := Nat.mul_le_mul_right _ (by rw [Nat.mul_comm a b]; exact Nat.mul_le_mul_left b h4)
      exact Nat.lt_of_le_of_lt h9 h2
theorem eu_end {a b : Nat} (ha : 0 < a) (h : a * b * 2 ^ 99 < 2 ^ 80) : b = 0 := by
  rcases Nat.eq_zero_or_pos b with h0 | h0
  · exact h0
  · have h1 : 1 ≤ a * b := Nat.mul_pos ha h0
    have h2 : 1 * 2 ^ 99 ≤ a * b * 2 ^ 99 := Nat.mul_le_mul_right _ h1
    omega
def hld (x : Int32) : Int32 := if (-300) < (if x < 300 then x else 300) then (if x < 300 then x else 300) else (-300)
def hdD (fW fD : Nat → Int32) (i : Nat) : Nat → Int32 := fun j => if j < i then hld (fD j + fW j) else fD j
theorem hdD_0 (fW fD : Nat → Int32) : hdD fW fD 0 = fD := by funext j; simp [hdD]
theorem hdD_s (fW fD : Nat → Int32) (i : Nat) : upd (hdD fW fD i) i (hld (hdD fW fD i i + fW i)) = hdD fW fD (i + 1) := by
  funext j
  simp only [upd, hdD, Nat.lt_irrefl, if_false]
  by_cases h : j = i
  · subst h; simp
  · by_cases h2 : j < i
    · rw [if_neg h, if_pos h2, if_pos (by omega)]
    · rw [if_neg h, if_neg h2, if_neg (by omega)]
noncomputable def bgV (fD : Nat → Int32) (i : Nat) : Int32 := ic (bgN fD i = -1) (-301) (fD (bgN fD i).toNatClampNeg)
theorem bgV_0 (fD : Nat → Int32) : bgV fD 0 = -301 := ic_t rfl
theorem bg_no {fD : Nat → Int32} {i : Nat} (h3 : -300 ≤ (fD i).toInt) (h : (fD i).toInt ≤ (bgV fD i).toInt) : bgN fD (i + 1) = bgN fD i ∧ bgV fD (i + 1) = bgV fD i := by
  have e1 : (-301 : Int32).toInt = -301 := rfl
  have hn : ¬ (bgN fD i = -1 ∨ (fD (bgN fD i).toNatClampNeg).toInt < (fD i).toInt) := by
    intro q
    unfold bgV at h
    by_cases q1 : bgN fD i = -1
    · rw [ic_t q1, e1] at h; omega
    · rw [ic_f q1] at h
      rcases q with q | q
      · exact q1 q
      · omega
  have e : bgN fD (i + 1) = bgN fD i := ic_f hn
  exact ⟨e, by unfold bgV; rw [e]⟩
theorem bg_yes {fD : Nat → Int32} {i : Nat} (hi : i < 2 ^ 31) (h : ¬ (fD i).toInt ≤ (bgV fD i).toInt) : bgN fD (i + 1) = nI i ∧ bgV fD (i + 1) = fD i := by
  have hy : bgN fD i = -1 ∨ (fD (bgN fD i).toNatClampNeg).toInt < (fD i).toInt := by
    unfold bgV at h
    by_cases q1 : bgN fD i = -1
    · exact Or.inl q1
    · rw [ic_f q1] at h; exact Or.inr (by omega)
  have e : bgN fD (i + 1) = nI i := ic_t hy
  exact ⟨e, by unfold bgV; rw [e, ic_f (nI_nm1 hi), nI_clamp hi]⟩
theorem absI_toInt {x : Int32} (h1 : -1000000 ≤ x.toInt) (h2 : x.toInt ≤ 1000000) : (absI x).toInt = if 0 ≤ x.toInt then x.toInt else -x.toInt := by
  unfold absI
  have e : 0 ≤ x ↔ 0 ≤ x.toInt := by rw [Int32.le_iff_toInt_le, t_0]
  by_cases h : 0 ≤ x.toInt
  · rw [if_pos h, if_pos (e.mpr h)]
  · rw [if_neg h, if_neg (fun q => h (e.mp q)), fb_subI (by rw [t_0]; omega) (by rw [t_0]; omega), t_0]; omega
theorem abs300 {x : Int32} (h : -300 ≤ x.toInt ∧ x.toInt ≤ 300) : (absI x).toInt ≤ 300 := by
  rw [absI_toInt (by omega) (by omega)]
  split <;> omega
/-- what one gets: so many of the length L, in the standard S, with the drift d -/
def gvn (L S : Int64) (w d : Int32) : Int64 := L * w.toInt64 * (1000 + d).toInt64 / S
theorem inR_n {x : Int32} {hi : Int} (h : inR 1 hi x) (h2 : hi ≤ 1000) : ∃ n : Nat, 1 ≤ n ∧ (n : Int) ≤ hi ∧ x = nI n := by
  obtain ⟨h0, h1⟩ := h
  obtain ⟨n, hn, rfl⟩ := nI_of (x := x) (by rw [Int32.lt_iff_toInt_lt, t_0]; omega)
  rw [nI_toInt hn] at h0 h1
  exact ⟨n, by omega, h1, rfl⟩
/-- no fine in the day's end: D1 the drifts behind their wear -/
def dNo (c y : Nat) (t : Int32) (D1 : Nat → Int32) : Prop := c = 0 ∨ (absI (D1 (y % c))).toInt ≤ t.toInt
noncomputable def dFine (c : Nat) (t : Int32) (y : Nat) (fW fD : Nat → Int32) : Int32 := ic (dNo c y t (hdD fW fD c)) 0 (absI (hdD fW fD c (y % c)))
noncomputable def dDr (c : Nat) (t : Int32) (y : Nat) (fW fD : Nat → Int32) : Nat → Int32 := ic (dNo c y t (hdD fW fD c)) (hdD fW fD c) (upd (hdD fW fD c) (y % c) 0)
theorem ic_or {α : Type} {A P : Prop} {x y : α} (h : ¬ A) : ic (A ∨ P) x y = ic P x y := by
  by_cases hp : P
  · rw [ic_t (Or.inr hp), ic_t hp]
  · rw [ic_f (fun z => z.elim h hp), ic_f hp]
theorem dFine_n {c : Nat} {t : Int32} {y : Nat} {fW fD : Nat → Int32} (h : c = 0) : dFine c t y fW fD = 0 := ic_t (Or.inl h)
theorem dFine_j {c : Nat} {t : Int32} {y : Nat} {fW fD : Nat → Int32} (h : ¬ c = 0) : dFine c t y fW fD = ic ((absI (hdD fW fD c (y % c))).toInt ≤ t.toInt) 0 (absI (hdD fW fD c (y % c))) := ic_or h
theorem dDr_n {c : Nat} {t : Int32} {y : Nat} {fW fD : Nat → Int32} (h : c = 0) : dDr c t y fW fD = hdD fW fD c := ic_t (Or.inl h)
theorem dDr_j {c : Nat} {t : Int32} {y : Nat} {fW fD : Nat → Int32} (h : ¬ c = 0) : dDr c t y fW fD = ic ((absI (hdD fW fD c (y % c))).toInt ≤ t.toInt) (hdD fW fD c) (upd (hdD fW fD c) (y % c) 0) := ic_or h
noncomputable def dIt (c : Nat) (t : Int32) (y : Nat) (fW fD : Nat → Int32) : Nat → Nat → Int32
  | 0 => fD
  | n + 1 => dDr c t (y + n) fW (dIt c t y fW fD n)
noncomputable def dSm (c : Nat) (t : Int32) (y : Nat) (fW fD : Nat → Int32) : Nat → Int32
  | 0 => 0
  | n + 1 => dSm c t y fW fD n + dFine c t (y + n) fW (dIt c t y fW fD n)
theorem dFine_pos {c : Nat} {t : Int32} {y : Nat} {fW fD : Nat → Int32} (h0 : ¬ c = 0) (ht : 0 ≤ t.toInt) : 0 < (dFine c t y fW fD).toInt ↔ ¬ (absI (hdD fW fD c (y % c))).toInt ≤ t.toInt := by
  rw [dFine_j h0]
  by_cases h : (absI (hdD fW fD c (y % c))).toInt ≤ t.toInt
  · rw [ic_t h, t_0]; omega
  · rw [ic_f h]; omega
def cpF (f g : Nat → Int32) (i : Nat) : Nat → Int32 := fun j => if j < i then f j else g j
theorem cpF_0 (f g : Nat → Int32) : cpF f g 0 = g := by funext j; simp [cpF]
theorem cpF_s (f g : Nat → Int32) (i : Nat) : upd (cpF f g i) i (f i) = cpF f g (i + 1) := by
  funext j
  simp only [upd, cpF]
  by_cases h : j = i
  · subst h; simp
  · by_cases h2 : j < i
    · rw [if_neg h, if_pos h2, if_pos (by omega)]
    · rw [if_neg h, if_neg h2, if_neg (by omega)]
theorem cpF_in (f g : Nat → Int32) {i j : Nat} (h : j < i) : cpF f g i j = f j := if_pos h

theorem newX1_ok : ∀ j, j < 9 → defaultValue (tyX1 j) = vp_V [.null, .null, .null, .null, .null, .null, .int 0, .int 0, .int 0] j := fun j hj => by rcases (show j = 0 ∨ j = 1 ∨ j = 2 ∨ j = 3 ∨ j = 4 ∨ j = 5 ∨ j = 6 ∨ j = 7 ∨ j = 8 by omega) with rfl | rfl | rfl | rfl | rfl | rfl | rfl | rfl | rfl <;> rfl
theorem newX2_ok : ∀ j, j < 6 → defaultValue (tyX2 j) = vp_V [.int 0, .int 0, .int 0, .int 0, .null, .null] j := fun j hj => by rcases (show j = 0 ∨ j = 1 ∨ j = 2 ∨ j = 3 ∨ j = 4 ∨ j = 5 by omega) with rfl | rfl | rfl | rfl | rfl | rfl <;> rfl
theorem newX0_ok : ∀ j, j < 5 → defaultValue (tyX0 j) = vp_V [.null, .null, .int 0, .int 0, .int 0] j := fun j hj => by rcases (show j = 0 ∨ j = 1 ∨ j = 2 ∨ j = 3 ∨ j = 4 by omega) with rfl | rfl | rfl | rfl | rfl <;> rfl
section CORE2
variable {p : Program} {l : Launch} {e : Env} {R : Room} {s : State} {m : MethodId} {args : Array Value} {below : List Frame} {meth : Method} {c : Code} {H : Heap} {locs : List Loc} {cells slots : Nat} {Q : State → Prop}
variable {pc : Nat} {ls : Array Slot} {rest st0 : List Value} {a : Array Value} {D : va_G} {ws : va_W} {cc : ByteArray} {A : Nat → Prop} {tys : List (ClassId × FieldType)} {H0 : Heap} {cl : List vw_C}
theorem ro_d {post : UInt64 → Prop} (hr : va_Run p l e R s m args below meth c H locs cells slots 0 0 (F0 m pc ls st0) rest (rod post a) (fun _ => False))
    (kk : ∀ r : UInt64, post r → W p l e R s m args below meth c H locs cells slots Q (F0 m (pc + 3) ls (.double r :: rest))) : W p l e R s m args below meth c H locs cells slots Q (F0 m pc ls st0) := by
  intro T hT X
  obtain ⟨v, st₀, t, T', L, h0, X', hL, e1, e2, ⟨r, hv, hp, hh⟩, st⟩ := hr T hT X
  cases hv
  obtain ⟨t2, a1, b1⟩ := kk r hp T' (by rw [e1, hh, h0]) (Stand.forget X' (fun q h => (hL q h).elim))
  exact ⟨t2, st t2 a1, b1⟩
theorem xa_newaI (hexec : p.tables.exec = Jvm.exec) (hb : c.code = cc) (harr : (Cond.arrayClass .int).before args s = true) (hK : va_K D cl tys s) (t0 : Nat) {cA : ClassId} (ht : tys[t0]? = some (cA, .int)) (hP : va_P D cl ws H) (hD : va_D A ws) (hS : va_S A H0 H locs) (hA : ∀ q, H0.size ≤ q → A q)
    {n : Int32} {N : Nat} (hn : ¬ n < 0) (hN : n.toNatClampNeg = N) (hbytes : N * 4 ≤ 536870912) (hcells : cells + 1 ≤ R.cells) (hslots : slots + N ≤ R.slots) (hdg : decode cc pc = .ok (.newarray .int, 2))
    (kk : ∀ (q : Nat) (H1 : Heap), va_P D cl (ws ++ [(q, .inl (cA, N, .inl (fun _ => (0 : Int32))))]) H1 → va_D A (ws ++ [(q, .inl (cA, N, .inl (fun _ => (0 : Int32))))]) → va_S A H0 H1 locs →
      W p l e R s m args below meth c H1 locs (cells + 1) (slots + N) Q (F0 m (pc + 2) ls (.ref q :: rest))) : W p l e R s m args below meth c H locs cells slots Q (F0 m pc ls (.int n :: rest)) := by
  refine va_newa (ty := .int) (atype := .int) (a0 := (N, .inl (fun _ => 0))) hexec hb harr rfl hK hP hD hS hA (fun cA => rfl) hn hN hbytes hcells hslots hdg (fun q cA' H1 hK' hP' hD' hS' => ?_)
  have e1 : s.vm.findClass ("[" ++ FieldType.int.toString) = some cA := (hK.2 t0 _ ht).2
  have e2 : s.vm.findClass ("[" ++ FieldType.int.toString) = some cA' := (hK'.2 tys.length (cA', .int) (by rw [List.getElem?_append_right (Nat.le_refl _), Nat.sub_self]; rfl)).2
  cases Option.some.inj (e1.symm.trans e2)
  exact kk q H1 hP' hD' hS'
theorem xa_newaJ (hexec : p.tables.exec = Jvm.exec) (hb : c.code = cc) (harr : (Cond.arrayClass .long).before args s = true) (hK : va_K D cl tys s) (t0 : Nat) {cA : ClassId} (ht : tys[t0]? = some (cA, .long)) (hP : va_P D cl ws H) (hD : va_D A ws) (hS : va_S A H0 H locs) (hA : ∀ q, H0.size ≤ q → A q)
    {n : Int32} {N : Nat} (hn : ¬ n < 0) (hN : n.toNatClampNeg = N) (hbytes : N * 8 ≤ 536870912) (hcells : cells + 1 ≤ R.cells) (hslots : slots + N ≤ R.slots) (hdg : decode cc pc = .ok (.newarray .long, 2))
    (kk : ∀ (q : Nat) (H1 : Heap), va_P D cl (ws ++ [(q, .inl (cA, N, .inr (.inl (fun _ => (0 : Int64)))))]) H1 → va_D A (ws ++ [(q, .inl (cA, N, .inr (.inl (fun _ => (0 : Int64)))))]) → va_S A H0 H1 locs →
      W p l e R s m args below meth c H1 locs (cells + 1) (slots + N) Q (F0 m (pc + 2) ls (.ref q :: rest))) : W p l e R s m args below meth c H locs cells slots Q (F0 m pc ls (.int n :: rest)) := by
  refine va_newa (ty := .long) (atype := .long) (a0 := (N, .inr (.inl (fun _ => 0)))) hexec hb harr rfl hK hP hD hS hA (fun cA => rfl) hn hN hbytes hcells hslots hdg (fun q cA' H1 hK' hP' hD' hS' => ?_)
  have e1 : s.vm.findClass ("[" ++ FieldType.long.toString) = some cA := (hK.2 t0 _ ht).2
  have e2 : s.vm.findClass ("[" ++ FieldType.long.toString) = some cA' := (hK'.2 tys.length (cA', .long) (by rw [List.getElem?_append_right (Nat.le_refl _), Nat.sub_self]; rfl)).2
  cases Option.some.inj (e1.symm.trans e2)
  exact kk q H1 hP' hD' hS'
end CORE2
/-- the sum of the first drifts; their mean -/
def smD (fD : Nat → Int32) : Nat → Int32
  | 0 => 0
  | i + 1 => smD fD i + fD i
noncomputable def mnD (c : Nat) (fD : Nat → Int32) : UInt64 := ic (c = 0) FP.dconst0 (FP.ddiv (FP.i2d (smD fD c)) (FP.i2d (nI c)))
set_option maxRecDepth 100000 in
theorem vf_chk : (List.range 3601).all (fun i => (List.range 6).all (fun j => decide (FP.ddiv (FP.i2d (Int32.ofInt ((i : Int) - 1800))) (FP.i2d (nI (j + 1))) &&& 0x7fffffffffffffff ≤ 0x7ff0000000000000))) = true := by decide +kernel
theorem vf_mean {x : Int32} {c : Nat} (h1 : -1800 ≤ x.toInt) (h2 : x.toInt ≤ 1800) (hc0 : ¬ c = 0) (hc : c ≤ 6) : vf_n64 (FP.ddiv (FP.i2d x) (FP.i2d (nI c))) := by
  have h3 := List.all_eq_true.mp vf_chk (x.toInt + 1800).toNat (List.mem_range.mpr (by omega))
  have h4 := List.all_eq_true.mp h3 (c - 1) (List.mem_range.mpr (by omega))
  have e : Int32.ofInt (((x.toInt + 1800).toNat : Int) - 1800) = x := by
    rw [show ((x.toInt + 1800).toNat : Int) - 1800 = x.toInt by omega]; exact fb_asI x
  rw [e, show c - 1 + 1 = c by omega] at h4
  have h5 := of_decide_eq_true h4
  exact h5
theorem smD_b {fD : Nat → Int32} {c : Nat} (hc : c ≤ 6) (h : ∀ j, j < c → -300 ≤ (fD j).toInt ∧ (fD j).toInt ≤ 300) : -1800 ≤ (smD fD c).toInt ∧ (smD fD c).toInt ≤ 1800 := by
  have key : ∀ i, i ≤ c → -(300 * (i : Int)) ≤ (smD fD i).toInt ∧ (smD fD i).toInt ≤ 300 * (i : Int) := by
    intro i
    induction i with
    | zero =>
      intro _
      show -(300 * ((0 : Nat) : Int)) ≤ (0 : Int32).toInt ∧ (0 : Int32).toInt ≤ 300 * ((0 : Nat) : Int)
      rw [t_0]
      omega
    | succ i ih =>
      intro hi
      have h1 := ih (by omega)
      have h2 := h i (by omega)
      have e : (smD fD i + fD i).toInt = (smD fD i).toInt + (fD i).toInt := fb_addI (by omega) (by omega)
      show -(300 * ((i + 1 : Nat) : Int)) ≤ (smD fD i + fD i).toInt ∧ (smD fD i + fD i).toInt ≤ 300 * ((i + 1 : Nat) : Int)
      rw [e]
      omega
  have := key c (Nat.le_refl c)
  omega
end
section
set_option maxHeartbeats 4000000 in
set_option maxRecDepth 100000 in
theorem c_X1_isOutside (l : Launch) (x y z : Int32) : Met l yX1_isOutside wsX1_isOutside ({ frames := 0, cells := 0, slots := 0, locals := 0 }) (va_Pc [.int x, .int y, .int z] (fun _ => True)) (roi (fun r => r = bz (x.toInt < y.toInt ∨ z.toInt < x.toInt))) 0 0 (fun _ => False) := by
  refine Met.ofW (cc := cX1_isOutside) (maxL := 3) (ret := (some .boolean)) (by decide +kernel) rfl ?_
  intro p e s m args below meth c9 s₁ B hml hv
  obtain ⟨rfl, -⟩ := hv
  have hx := B.exec
  have hb := B.bytes
  have hr := B.returns
  have hts := atoms_spec (ws := wsX1_isOutside) B.pre
  have hown : s.vm.findClass RX1 = some m.cls := findClass_of_methodNamed B.named
  have hlocks := B.notSynchronized
  have hl := lv_entry ([.int x, .int y, .int z]) (n := 3) (Nat.le_of_ble_eq_true rfl)
  rw [lg_entry_eq]
  generalize (lg_sl ([.int x, .int y, .int z]) ++ List.replicate (3 - (lg_sl ([.int x, .int y, .int z])).length) Slot.unset).toArray = ls at hl ⊢
  have hl : lv_has ls 3 [(0, .int x), (1, .int y), (2, .int z)] := hl
  refine lv_iload_n hx hb dX1_isOutside_0 rfl (lv_at hl 0 rfl) ?_
  refine lv_iload_n hx hb dX1_isOutside_1 rfl (lv_at hl 1 rfl) ?_
  refine lv_icmp_lt (tgt := 10) hx hb dX1_isOutside_2 (by decide) (fun c_2 => ?_) (fun c_2 => ?_)
  · skip
    simp only [Int32.lt_iff_toInt_lt] at c_2
    refine lv_iconst (v := 1) hx hb dX1_isOutside_10 (by decide) ?_
    refine lv_goto (tgt := 15) hx hb dX1_isOutside_11 (by decide) ?_
    exact W.zret (v := 1) hx hb hr rfl (fun t9 ht hW => ⟨_, rfl, by first | rfl | exact (bz_t (by omega)).symm | exact (bz_f (by omega)).symm, ht⟩) (fun q hq => absurd hq List.not_mem_nil) dX1_isOutside_15
  · skip
    simp only [Int32.lt_iff_toInt_lt] at c_2
    refine lv_iload_n hx hb dX1_isOutside_5 rfl (lv_at hl 0 rfl) ?_
    refine lv_iload_n hx hb dX1_isOutside_6 rfl (lv_at hl 2 rfl) ?_
    refine lv_icmp_le (tgt := 14) hx hb dX1_isOutside_7 (by decide) (fun c_7 => ?_) (fun c_7 => ?_)
    · skip
      simp only [Int32.le_iff_toInt_le] at c_7
      refine lv_iconst (v := 0) hx hb dX1_isOutside_14 (by decide) ?_
      exact W.zret (v := 0) hx hb hr rfl (fun t9 ht hW => ⟨_, rfl, by first | rfl | exact (bz_t (by omega)).symm | exact (bz_f (by omega)).symm, ht⟩) (fun q hq => absurd hq List.not_mem_nil) dX1_isOutside_15
    · skip
      simp only [Int32.le_iff_toInt_le] at c_7
      refine lv_iconst (v := 1) hx hb dX1_isOutside_10 (by decide) ?_
      refine lv_goto (tgt := 15) hx hb dX1_isOutside_11 (by decide) ?_
      exact W.zret (v := 1) hx hb hr rfl (fun t9 ht hW => ⟨_, rfl, by first | rfl | exact (bz_t (by omega)).symm | exact (bz_f (by omega)).symm, ht⟩) (fun q hq => absurd hq List.not_mem_nil) dX1_isOutside_15

set_option maxHeartbeats 4000000 in
set_option maxRecDepth 100000 in
theorem c_X1_timesIn (l : Launch) (x y : Int64) (hy : 0 < y.toInt) : Met l yX1_timesIn wsX1_timesIn ({ frames := 0, cells := 0, slots := 0, locals := 0 }) (va_Pc [.long x, .long y] (fun _ => True)) (rol (fun r => r = x / y)) 0 0 (fun _ => False) := by
  refine Met.ofW (cc := cX1_timesIn) (maxL := 4) (ret := (some .long)) (by decide +kernel) rfl ?_
  intro p e s m args below meth c9 s₁ B hml hv
  obtain ⟨rfl, -⟩ := hv
  have hx := B.exec
  have hb := B.bytes
  have hr := B.returns
  have hts := atoms_spec (ws := wsX1_timesIn) B.pre
  have hown : s.vm.findClass RX1 = some m.cls := findClass_of_methodNamed B.named
  have hlocks := B.notSynchronized
  have hl := lv_entry ([.long x, .long y]) (n := 4) (Nat.le_of_ble_eq_true rfl)
  rw [lg_entry_eq]
  generalize (lg_sl ([.long x, .long y]) ++ List.replicate (4 - (lg_sl ([.long x, .long y])).length) Slot.unset).toArray = ls at hl ⊢
  have hl : lv_has ls 4 [(0, .long x), (2, .long y)] := hl
  refine lv_lload_n hx hb dX1_timesIn_0 rfl (lv_at hl 1 rfl) ?_
  refine lv_lconst (v := 1) hx hb dX1_timesIn_1 (by decide) ?_
  refine W.lcmp hx hb dX1_timesIn_2 ?_
  refine lv_if_ge (tgt := 10) hx hb dX1_timesIn_3 (by decide) (fun c_3 => ?_) (fun c_3 => ?_)
  · skip
    have c_3 := (lgc_ge _ _).mp c_3
    refine lv_lload_n hx hb dX1_timesIn_10 rfl (lv_at hl 0 rfl) ?_
    refine lv_lload_n hx hb dX1_timesIn_11 rfl (lv_at hl 1 rfl) ?_
    refine lv_ldiv hx hb dX1_timesIn_12 (by intro h0; rw [h0] at hy; exact absurd hy (by decide)) ?_
    exact W.lret (v := (x / y)) hx hb hr (fun t9 ht hW => ⟨_, rfl, rfl, ht⟩) (fun q hq => absurd hq List.not_mem_nil) dX1_timesIn_13
  · skip
    have c_3 := (not_congr (lgc_ge _ _)).mp c_3
    exact absurd (show (1 : Int64).toInt ≤ y.toInt from hy) c_3

set_option maxHeartbeats 4000000 in
set_option maxRecDepth 100000 in
theorem c_X1_leftOf (l : Launch) (x y : Int64) (hy : 0 < y.toInt) : Met l yX1_leftOf wsX1_leftOf ({ frames := 0, cells := 0, slots := 0, locals := 0 }) (va_Pc [.long x, .long y] (fun _ => True)) (rol (fun r => r = jrem x y)) 0 0 (fun _ => False) := by
  refine Met.ofW (cc := cX1_leftOf) (maxL := 4) (ret := (some .long)) (by decide +kernel) rfl ?_
  intro p e s m args below meth c9 s₁ B hml hv
  obtain ⟨rfl, -⟩ := hv
  have hx := B.exec
  have hb := B.bytes
  have hr := B.returns
  have hts := atoms_spec (ws := wsX1_leftOf) B.pre
  have hown : s.vm.findClass RX1 = some m.cls := findClass_of_methodNamed B.named
  have hlocks := B.notSynchronized
  have hl := lv_entry ([.long x, .long y]) (n := 4) (Nat.le_of_ble_eq_true rfl)
  rw [lg_entry_eq]
  generalize (lg_sl ([.long x, .long y]) ++ List.replicate (4 - (lg_sl ([.long x, .long y])).length) Slot.unset).toArray = ls at hl ⊢
  have hl : lv_has ls 4 [(0, .long x), (2, .long y)] := hl
  refine lv_lload_n hx hb dX1_leftOf_0 rfl (lv_at hl 1 rfl) ?_
  refine lv_lconst (v := 1) hx hb dX1_leftOf_1 (by decide) ?_
  refine W.lcmp hx hb dX1_leftOf_2 ?_
  refine lv_if_ge (tgt := 10) hx hb dX1_leftOf_3 (by decide) (fun c_3 => ?_) (fun c_3 => ?_)
  · skip
    have c_3 := (lgc_ge _ _).mp c_3
    refine lv_lload_n hx hb dX1_leftOf_10 rfl (lv_at hl 0 rfl) ?_
    refine lv_lload_n hx hb dX1_leftOf_11 rfl (lv_at hl 1 rfl) ?_
    refine lv_lrem hx hb dX1_leftOf_12 (by intro h0; rw [h0] at hy; exact absurd hy (by decide)) ?_
    exact W.lret (v := (x - x / y * y)) hx hb hr (fun t9 ht hW => ⟨_, rfl, rfl, ht⟩) (fun q hq => absurd hq List.not_mem_nil) dX1_leftOf_13
  · skip
    have c_3 := (not_congr (lgc_ge _ _)).mp c_3
    exact absurd (show (1 : Int64).toInt ≤ y.toInt from hy) c_3
set_option maxHeartbeats 4000000 in
set_option maxRecDepth 100000 in
theorem c_J9_floorMod_7cf53 (l : Launch) (u v : Nat) (hu : u < 2 ^ 31) (hv0 : 0 < v) (hv2 : v < 2 ^ 31) : Met l yJ9_floorMod_7cf53 wsJ9_floorMod_7cf53 ({ frames := 0, cells := 0, slots := 0, locals := 0 }) (va_Pc [.int (nI u), .int (nI v)] (fun _ => True)) (roi (fun r => r = nI (u % v))) 0 0 (fun _ => False) := by
  refine MetF_ofW (cc := cJ9_floorMod_7cf53) (maxL := 3) (ret := (some .int)) (by decide +kernel) rfl ?_
  intro p e s m args below meth c9 s₁ B hml hv
  obtain ⟨rfl, -⟩ := hv
  have hx := B.exec
  have hb := B.bytes
  have hr := B.returns
  have hts := atoms_spec (ws := wsJ9_floorMod_7cf53) B.pre
  have hown : s.vm.findClass RJ9 = some m.cls := findClass_of_methodNamed B.named
  have hlocks := B.notSynchronized
  have hl := lv_entry ([.int (nI u), .int (nI v)]) (n := 3) (Nat.le_of_ble_eq_true rfl)
  rw [lg_entry_eq]
  generalize (lg_sl ([.int (nI u), .int (nI v)]) ++ List.replicate (3 - (lg_sl ([.int (nI u), .int (nI v)])).length) Slot.unset).toArray = ls at hl ⊢
  have hl : lv_has ls 3 [(0, .int (nI u)), (1, .int (nI v))] := hl
  refine lv_iload_n hx hb dJ9_floorMod_7cf53_0 rfl (lv_at hl 0 rfl) ?_
  refine lv_iload_n hx hb dJ9_floorMod_7cf53_1 rfl (lv_at hl 1 rfl) ?_
  refine lv_irem hx hb dJ9_floorMod_7cf53_2 (nI_ne0 hv0 hv2) ?_
  refine topI (pk_rem hu hv0 hv2) ?_
  refine lv_istore_n (lv' := [(2, .int (nI (u % v))), (0, .int (nI u)), (1, .int (nI v))]) hx hb dJ9_floorMod_7cf53_3 rfl hl (by decide) rfl (fun ls hl => ?_)
  refine lv_iload_n hx hb dJ9_floorMod_7cf53_4 rfl (lv_at hl 1 rfl) ?_
  refine lv_iload_n hx hb dJ9_floorMod_7cf53_5 rfl (lv_at hl 2 rfl) ?_
  refine lv_ixor hx hb dJ9_floorMod_7cf53_6 ?_
  refine lv_if_ge (tgt := 18) hx hb dJ9_floorMod_7cf53_7 (by decide) (fun c_7 => ?_) (fun c_7 => ?_)
  · skip
    simp only [Int32.le_iff_toInt_le] at c_7
    rw [(by decide : (0 : Int32).toInt = 0)] at c_7
    refine lv_iload_n hx hb dJ9_floorMod_7cf53_18 rfl (lv_at hl 0 rfl) ?_
    exact W.iret (v := (nI (u % v))) hx hb hr (fun t9 ht hW => ⟨_, rfl, rfl, ht⟩) (fun q hq => absurd hq List.not_mem_nil) dJ9_floorMod_7cf53_19
  · skip
    simp only [Int32.le_iff_toInt_le] at c_7
    rw [(by decide : (0 : Int32).toInt = 0)] at c_7
    exact absurd (xor_nn hu hv2) c_7

set_option maxHeartbeats 4000000 in
set_option maxRecDepth 100000 in
theorem c_X0_held (l : Launch) (x : Int32) : Met l yX0_held wsX0_held ({ frames := 1, cells := 0, slots := 0, locals := 14 }) (va_Pc [.int x] (fun _ => True)) (roi (fun r => r = hld x)) 0 0 (fun _ => False) := by
  refine Met.ofW (cc := cX0_held) (maxL := 1) (ret := (some .int)) (by decide +kernel) rfl ?_
  intro p e s m args below meth c9 s₁ B hml hv
  obtain ⟨rfl, -⟩ := hv
  have hx := B.exec
  have hb := B.bytes
  have hr := B.returns
  have hts := atoms_spec (ws := wsX0_held) B.pre
  have hown : s.vm.findClass RX0 = some m.cls := findClass_of_methodNamed B.named
  have hlocks := B.notSynchronized
  have hl := lv_entry ([.int x]) (n := 1) (Nat.le_of_ble_eq_true rfl)
  rw [lg_entry_eq]
  generalize (lg_sl ([.int x]) ++ List.replicate (1 - (lg_sl ([.int x])).length) Slot.unset).toArray = ls at hl ⊢
  have hl : lv_has ls 1 [(0, .int x)] := hl
  refine lv_sipush (v := (-300)) hx hb dX0_held_0 (by decide) ?_
  refine lv_sipush (v := 300) hx hb dX0_held_3 (by decide) ?_
  refine lv_iload_n hx hb dX0_held_6 rfl (lv_at hl 0 rfl) ?_
  refine va_mmin hx hb (by rw [hml]; exact hl.1.symm) hown (hts (.methodLink RX0 55 Lib.Math.min.name) (by decide +kernel)) (hts (.static Lib.Math.min.name) (by decide +kernel)) (hts (.initialized "java/lang/Math") (by decide +kernel)) (hts (.code Lib.Math.min.name Lib.Math.min.code 2 (some .int)) (by decide +kernel)) (by first | decide | exact Nat.le_of_ble_eq_true rfl) (by first | decide | exact Nat.le_of_ble_eq_true rfl) (by first | decide | exact Nat.le_of_ble_eq_true rfl) (by first | decide | exact Nat.le_of_ble_eq_true rfl) dX0_held_7 ?_
  refine va_mmax hx hb (by rw [hml]; exact hl.1.symm) hown (hts (.methodLink RX0 58 Lib.Math.max.name) (by decide +kernel)) (hts (.static Lib.Math.max.name) (by decide +kernel)) (hts (.initialized "java/lang/Math") (by decide +kernel)) (hts (.code Lib.Math.max.name Lib.Math.max.code 2 (some .int)) (by decide +kernel)) (by first | decide | exact Nat.le_of_ble_eq_true rfl) (by first | decide | exact Nat.le_of_ble_eq_true rfl) (by first | decide | exact Nat.le_of_ble_eq_true rfl) (by first | decide | exact Nat.le_of_ble_eq_true rfl) dX0_held_10 ?_
  exact W.iret (v := (if (-300) < (if x < 300 then x else 300) then (if x < 300 then x else 300) else (-300))) hx hb hr (fun t9 ht hW => ⟨_, rfl, rfl, ht⟩) (fun q hq => absurd hq List.not_mem_nil) dX0_held_13

set_option maxHeartbeats 4000000 in
set_option maxRecDepth 100000 in
theorem c_X0_visited (l : Launch) (D : va_G) (cI cJ cR : ClassId) (h hw hd : Nat) (c : Nat) (t : Int32) (y : Nat) (fW fD : Nat → Int32) (hc : c ≤ 6) (hy : y < 2 ^ 30) : Met l yX0_visited wsX0_visited ({ frames := 1, cells := 0, slots := 0, locals := 22 }) (cP D [(h, .inr (0, [.ref hw, .ref hd, .int (nI c), .int t, .int (nI y)])), (hw, .inl (cI, 6, .inl fW)), (hd, .inl (cI, 6, .inl fD))] (KM D cI cJ cR) [.ref h]) (roi (fun r => r = ic (c = 0) (-1) (nI (y % c)))) 0 0 (fun _ => False) := by
  refine Met.ofW (cc := cX0_visited) (maxL := 1) (ret := (some .int)) (by decide +kernel) rfl ?_
  intro p e s m args below meth c9 s₁ B hml hv
  obtain ⟨rfl, hP, hC⟩ := hv
  have hx := B.exec
  have hb := B.bytes
  have hr := B.returns
  have hts := atoms_spec (ws := wsX0_visited) B.pre
  have hown : s.vm.findClass RX0 = some m.cls := findClass_of_methodNamed B.named
  have hlocks := B.notSynchronized
  have hK : va_K D vwCl [(cI, .int), (cJ, .long), (cR, .array .int)] s := hC
  have hl := lv_entry ([.ref h]) (n := 1) (Nat.le_of_ble_eq_true rfl)
  rw [lg_entry_eq]
  generalize (lg_sl ([.ref h]) ++ List.replicate (1 - (lg_sl ([.ref h])).length) Slot.unset).toArray = ls at hl ⊢
  have hl : lv_has ls 1 [(0, .ref h)] := hl
  have hiX0 : ∀ w ∈ u_ws RX0 TX0 5, w ∈ wsX0_visited := by decide +kernel
  have hw22 : (Cond.fieldLink RX0 22 "OldMeasures$Stalls" "count" "I").before ([.ref h] : List Value).toArray s = true := hts _ (by decide +kernel)
  have hw25 : (Cond.fieldLink RX0 25 "OldMeasures$Stalls" "day" "I").before ([.ref h] : List Value).toArray s = true := hts _ (by decide +kernel)
  refine lv_aload_n hx hb dX0_visited_0 rfl (lv_at hl 0 rfl) ?_
  refine va_get (D := D) (ci := 0) (v := .int (nI c)) (C := RX0) (T := TX0) (N := 5) hx hb hts hiX0 hown hK hP 0 rfl rfl 2 (by decide) hw22 (fun _ h9 => h9) rfl dX0_visited_1 ?_
  refine lv_iconst (v := 1) hx hb dX0_visited_4 (by decide) ?_
  refine lv_icmp_ge (tgt := 12) hx hb dX0_visited_5 (by decide) (fun c_5 => ?_) (fun c_5 => ?_)
  · skip
    simp only [Int32.le_iff_toInt_le] at c_5
    rw [nI_toInt (n := c) (by omega)] at c_5
    rw [(by decide : (1 : Int32).toInt = 1)] at c_5
    refine lv_aload_n hx hb dX0_visited_12 rfl (lv_at hl 0 rfl) ?_
    refine va_get (D := D) (ci := 0) (v := .int (nI y)) (C := RX0) (T := TX0) (N := 5) hx hb hts hiX0 hown hK hP 0 rfl rfl 4 (by decide) hw25 (fun _ h9 => h9) rfl dX0_visited_13 ?_
    refine lv_aload_n hx hb dX0_visited_16 rfl (lv_at hl 0 rfl) ?_
    refine va_get (D := D) (ci := 0) (v := .int (nI c)) (C := RX0) (T := TX0) (N := 5) hx hb hts hiX0 hown hK hP 0 rfl rfl 2 (by decide) hw22 (fun _ h9 => h9) rfl dX0_visited_17 ?_
    refine ro_iE (va_runS (As := [.int (nI y), .int (nI c)]) (rest := []) ⟨hx, hb, hml, hown, hts⟩ (c_J9_floorMod_7cf53 l y c (by omega) (by omega) (by omega)) (va_cwS 2 hts gX0_visited_J9_floorMod_7cf53 rfl rfl rfl (by decide +kernel) ⟨Nat.le_of_ble_eq_true rfl, Nat.le_of_ble_eq_true rfl⟩) pre0 rfl rfl hl.1 rfl (lv_room (Nat.le_of_ble_eq_true rfl)) dX0_visited_20 ⟨by decide, by decide⟩) ?_
    exact W.iret (v := (nI (y % c))) hx hb hr (fun t9 ht hW => ⟨_, rfl, by first | exact (ic_t (by omega)).symm | exact (ic_f (by omega)).symm, ht⟩) (fun q hq => absurd hq List.not_mem_nil) dX0_visited_23
  · skip
    simp only [Int32.le_iff_toInt_le] at c_5
    rw [nI_toInt (n := c) (by omega)] at c_5
    rw [(by decide : (1 : Int32).toInt = 1)] at c_5
    refine lv_iconst (v := (-1)) hx hb dX0_visited_8 (by decide) ?_
    refine lv_goto (tgt := 23) hx hb dX0_visited_9 (by decide) ?_
    exact W.iret (v := (-1)) hx hb hr (fun t9 ht hW => ⟨_, rfl, by first | exact (ic_t (by omega)).symm | exact (ic_f (by omega)).symm, ht⟩) (fun q hq => absurd hq List.not_mem_nil) dX0_visited_23

set_option maxHeartbeats 4000000 in
set_option maxRecDepth 100000 in
theorem c_X0_isTolerated (l : Launch) (D : va_G) (cI cJ cR : ClassId) (h hw hd : Nat) (c : Nat) (t : Int32) (y : Nat) (fW fD : Nat → Int32) (x : Int32) : Met l yX0_isTolerated wsX0_isTolerated ({ frames := 1, cells := 0, slots := 0, locals := 13 }) (cP D [(h, .inr (0, [.ref hw, .ref hd, .int (nI c), .int t, .int (nI y)])), (hw, .inl (cI, 6, .inl fW)), (hd, .inl (cI, 6, .inl fD))] (KM D cI cJ cR) [.ref h, .int x]) (roi (fun r => r = bz ((absI x).toInt ≤ t.toInt))) 0 0 (fun _ => False) := by
  refine Met.ofW (cc := cX0_isTolerated) (maxL := 2) (ret := (some .boolean)) (by decide +kernel) rfl ?_
  intro p e s m args below meth c9 s₁ B hml hv
  obtain ⟨rfl, hP, hC⟩ := hv
  have hx := B.exec
  have hb := B.bytes
  have hr := B.returns
  have hts := atoms_spec (ws := wsX0_isTolerated) B.pre
  have hown : s.vm.findClass RX0 = some m.cls := findClass_of_methodNamed B.named
  have hlocks := B.notSynchronized
  have hK : va_K D vwCl [(cI, .int), (cJ, .long), (cR, .array .int)] s := hC
  have hl := lv_entry ([.ref h, .int x]) (n := 2) (Nat.le_of_ble_eq_true rfl)
  rw [lg_entry_eq]
  generalize (lg_sl ([.ref h, .int x]) ++ List.replicate (2 - (lg_sl ([.ref h, .int x])).length) Slot.unset).toArray = ls at hl ⊢
  have hl : lv_has ls 2 [(0, .ref h), (1, .int x)] := hl
  have hiX0 : ∀ w ∈ u_ws RX0 TX0 5, w ∈ wsX0_isTolerated := by decide +kernel
  have hw18 : (Cond.fieldLink RX0 18 "OldMeasures$Stalls" "tolerance" "I").before ([.ref h, .int x] : List Value).toArray s = true := hts _ (by decide +kernel)
  refine lv_iload_n hx hb dX0_isTolerated_0 rfl (lv_at hl 1 rfl) ?_
  refine va_mabs hx hb (by rw [hml]; exact hl.1.symm) hown (hts (.methodLink RX0 52 Lib.Math.abs.name) (by decide +kernel)) (hts (.static Lib.Math.abs.name) (by decide +kernel)) (hts (.initialized "java/lang/Math") (by decide +kernel)) (hts (.code Lib.Math.abs.name Lib.Math.abs.code 1 (some .int)) (by decide +kernel)) (by first | decide | exact Nat.le_of_ble_eq_true rfl) (by first | decide | exact Nat.le_of_ble_eq_true rfl) (by first | decide | exact Nat.le_of_ble_eq_true rfl) (by first | decide | exact Nat.le_of_ble_eq_true rfl) dX0_isTolerated_1 ?_
  refine topI (y := absI x) rfl ?_
  refine lv_aload_n hx hb dX0_isTolerated_4 rfl (lv_at hl 0 rfl) ?_
  refine va_get (D := D) (ci := 0) (v := .int t) (C := RX0) (T := TX0) (N := 5) hx hb hts hiX0 hown hK hP 0 rfl rfl 3 (by decide) hw18 (fun _ h9 => h9) rfl dX0_isTolerated_5 ?_
  refine lv_icmp_gt (tgt := 15) hx hb dX0_isTolerated_8 (by decide) (fun c_8 => ?_) (fun c_8 => ?_)
  · skip
    simp only [Int32.lt_iff_toInt_lt] at c_8
    refine lv_iconst (v := 0) hx hb dX0_isTolerated_15 (by decide) ?_
    exact W.zret (v := 0) hx hb hr rfl (fun t9 ht hW => ⟨_, rfl, by first | rfl | exact (bz_t (by omega)).symm | exact (bz_f (by omega)).symm, ht⟩) (fun q hq => absurd hq List.not_mem_nil) dX0_isTolerated_16
  · skip
    simp only [Int32.lt_iff_toInt_lt] at c_8
    refine lv_iconst (v := 1) hx hb dX0_isTolerated_11 (by decide) ?_
    refine lv_goto (tgt := 16) hx hb dX0_isTolerated_12 (by decide) ?_
    exact W.zret (v := 1) hx hb hr rfl (fun t9 ht hW => ⟨_, rfl, by first | rfl | exact (bz_t (by omega)).symm | exact (bz_f (by omega)).symm, ht⟩) (fun q hq => absurd hq List.not_mem_nil) dX0_isTolerated_16

set_option maxHeartbeats 4000000 in
set_option maxRecDepth 100000 in
theorem c_X0_finedAt_n (l : Launch) (D : va_G) (cI cJ cR : ClassId) (sz : Nat) (h hw hd : Nat) (c : Nat) (t : Int32) (y : Nat) (fW fD : Nat → Int32) (hc : c ≤ 6) : Met l yX0_finedAt wsX0_finedAt ({ frames := 2, cells := 0, slots := 0, locals := 34 }) (cPw D [(h, .inr (0, [.ref hw, .ref hd, .int (nI c), .int t, .int (nI y)])), (hw, .inl (cI, 6, .inl fW)), (hd, .inl (cI, 6, .inl fD))] sz (KM D cI cJ cR) [.ref h, .int (-1)]) (wri D [(h, .inr (0, [.ref hw, .ref hd, .int (nI c), .int t, .int (nI y)])), (hw, .inl (cI, 6, .inl fW)), (hd, .inl (cI, 6, .inl fD))] sz (fun r ws' => r = 0 ∧ ws' = [(h, .inr (0, [.ref hw, .ref hd, .int (nI c), .int t, .int (nI y)])), (hw, .inl (cI, 6, .inl fW)), (hd, .inl (cI, 6, .inl fD))])) 0 0 (va_A [(h, .inr (0, [.ref hw, .ref hd, .int (nI c), .int t, .int (nI y)])), (hw, .inl (cI, 6, .inl fW)), (hd, .inl (cI, 6, .inl fD))] sz) := by
  refine Met.ofW (cc := cX0_finedAt) (maxL := 3) (ret := (some .int)) (by decide +kernel) rfl ?_
  intro p e s m args below meth c9 s₁ B hml hv
  obtain ⟨rfl, hsz, hP, hD0, hC⟩ := hv
  have hx := B.exec
  have hb := B.bytes
  have hr := B.returns
  have hts := atoms_spec (ws := wsX0_finedAt) B.pre
  have hown : s.vm.findClass RX0 = some m.cls := findClass_of_methodNamed B.named
  have hlocks := B.notSynchronized
  have hK : va_K D vwCl [(cI, .int), (cJ, .long), (cR, .array .int)] s := hC
  subst hsz
  unfold wri wB
  have hD := hD0.self (sz := s.heap.size)
  generalize hAe : va_A [(h, .inr (0, [.ref hw, .ref hd, .int (nI c), .int t, .int (nI y)])), (hw, .inl (cI, 6, .inl fW)), (hd, .inl (cI, 6, .inl fD))] s.heap.size = A at hD ⊢
  have hA : ∀ q : Nat, s.heap.size ≤ q → A q := fun q h => by rw [← hAe]; exact Or.inr h
  have hS : va_S A s.heap s.heap [] := va_S.rf
  have hl := lv_entry ([.ref h, .int (-1)]) (n := 3) (Nat.le_of_ble_eq_true rfl)
  rw [lg_entry_eq]
  generalize (lg_sl ([.ref h, .int (-1)]) ++ List.replicate (3 - (lg_sl ([.ref h, .int (-1)])).length) Slot.unset).toArray = ls at hl ⊢
  have hl : lv_has ls 3 [(0, .ref h), (1, .int (-1))] := hl
  have hiX0 : ∀ w ∈ u_ws RX0 TX0 5, w ∈ wsX0_finedAt := by decide +kernel
  have hw15 : (Cond.fieldLink RX0 15 "OldMeasures$Stalls" "drifts" "[I").before ([.ref h, .int (-1)] : List Value).toArray s = true := hts _ (by decide +kernel)
  have hw22 : (Cond.fieldLink RX0 22 "OldMeasures$Stalls" "count" "I").before ([.ref h, .int (-1)] : List Value).toArray s = true := hts _ (by decide +kernel)
  refine lv_iload_n hx hb dX0_finedAt_0 rfl (lv_at hl 1 rfl) ?_
  refine lv_if_lt (tgt := 25) hx hb dX0_finedAt_1 (by decide) (fun c_1 => ?_) (fun c_1 => ?_)
  · skip
    refine lv_iconst (v := 0) hx hb dX0_finedAt_25 (by decide) ?_
    exact W.iret (v := 0) hx hb hr (fun t9 ht hW => ⟨⟨0, [(h, .inr (0, [.ref hw, .ref hd, .int (nI c), .int t, .int (nI y)])), (hw, .inl (cI, 6, .inl fW)), (hd, .inl (cI, 6, .inl fD))], rfl, ⟨rfl, rfl⟩, by rw [ht]; exact hP, hD⟩, hS.F ht⟩) hS.2.2 dX0_finedAt_26
  · skip
    exact absurd (by decide) c_1

set_option maxHeartbeats 4000000 in
set_option maxRecDepth 100000 in
theorem c_X0_finedAt_j (l : Launch) (D : va_G) (cI cJ cR : ClassId) (sz : Nat) (h hw hd : Nat) (c : Nat) (t : Int32) (y : Nat) (fW fD : Nat → Int32) (hc : c ≤ 6) (j : Nat) (hj : j < c) : Met l yX0_finedAt wsX0_finedAt ({ frames := 2, cells := 0, slots := 0, locals := 34 }) (cPw D [(h, .inr (0, [.ref hw, .ref hd, .int (nI c), .int t, .int (nI y)])), (hw, .inl (cI, 6, .inl fW)), (hd, .inl (cI, 6, .inl fD))] sz (KM D cI cJ cR) [.ref h, .int (nI j)]) (wri D [(h, .inr (0, [.ref hw, .ref hd, .int (nI c), .int t, .int (nI y)])), (hw, .inl (cI, 6, .inl fW)), (hd, .inl (cI, 6, .inl fD))] sz (fun r ws' => r = ic ((absI (fD j)).toInt ≤ t.toInt) 0 (absI (fD j)) ∧ ws' = [(h, .inr (0, [.ref hw, .ref hd, .int (nI c), .int t, .int (nI y)])), (hw, .inl (cI, 6, .inl fW)), (hd, .inl (cI, 6, .inl (ic ((absI (fD j)).toInt ≤ t.toInt) fD (upd fD j 0))))])) 0 0 (va_A [(h, .inr (0, [.ref hw, .ref hd, .int (nI c), .int t, .int (nI y)])), (hw, .inl (cI, 6, .inl fW)), (hd, .inl (cI, 6, .inl fD))] sz) := by
  refine Met.ofW (cc := cX0_finedAt) (maxL := 3) (ret := (some .int)) (by decide +kernel) rfl ?_
  intro p e s m args below meth c9 s₁ B hml hv
  obtain ⟨rfl, hsz, hP, hD0, hC⟩ := hv
  have hx := B.exec
  have hb := B.bytes
  have hr := B.returns
  have hts := atoms_spec (ws := wsX0_finedAt) B.pre
  have hown : s.vm.findClass RX0 = some m.cls := findClass_of_methodNamed B.named
  have hlocks := B.notSynchronized
  have hK : va_K D vwCl [(cI, .int), (cJ, .long), (cR, .array .int)] s := hC
  subst hsz
  unfold wri wB
  have hD := hD0.self (sz := s.heap.size)
  generalize hAe : va_A [(h, .inr (0, [.ref hw, .ref hd, .int (nI c), .int t, .int (nI y)])), (hw, .inl (cI, 6, .inl fW)), (hd, .inl (cI, 6, .inl fD))] s.heap.size = A at hD ⊢
  have hA : ∀ q : Nat, s.heap.size ≤ q → A q := fun q h => by rw [← hAe]; exact Or.inr h
  have hS : va_S A s.heap s.heap [] := va_S.rf
  have hl := lv_entry ([.ref h, .int (nI j)]) (n := 3) (Nat.le_of_ble_eq_true rfl)
  rw [lg_entry_eq]
  generalize (lg_sl ([.ref h, .int (nI j)]) ++ List.replicate (3 - (lg_sl ([.ref h, .int (nI j)])).length) Slot.unset).toArray = ls at hl ⊢
  have hl : lv_has ls 3 [(0, .ref h), (1, .int (nI j))] := hl
  have hiX0 : ∀ w ∈ u_ws RX0 TX0 5, w ∈ wsX0_finedAt := by decide +kernel
  have hw15 : (Cond.fieldLink RX0 15 "OldMeasures$Stalls" "drifts" "[I").before ([.ref h, .int (nI j)] : List Value).toArray s = true := hts _ (by decide +kernel)
  have hw22 : (Cond.fieldLink RX0 22 "OldMeasures$Stalls" "count" "I").before ([.ref h, .int (nI j)] : List Value).toArray s = true := hts _ (by decide +kernel)
  refine lv_iload_n hx hb dX0_finedAt_0 rfl (lv_at hl 1 rfl) ?_
  refine lv_if_lt (tgt := 25) hx hb dX0_finedAt_1 (by decide) (fun c_1 => ?_) (fun c_1 => ?_)
  · skip
    simp only [Int32.lt_iff_toInt_lt] at c_1
    rw [nI_toInt (n := j) (by omega)] at c_1
    rw [(by decide : (0 : Int32).toInt = 0)] at c_1
    exfalso; omega
  · skip
    simp only [Int32.lt_iff_toInt_lt] at c_1
    rw [nI_toInt (n := j) (by omega)] at c_1
    rw [(by decide : (0 : Int32).toInt = 0)] at c_1
    refine lv_iload_n hx hb dX0_finedAt_4 rfl (lv_at hl 1 rfl) ?_
    refine lv_aload_n hx hb dX0_finedAt_5 rfl (lv_at hl 0 rfl) ?_
    refine va_get (D := D) (ci := 0) (v := .int (nI c)) (C := RX0) (T := TX0) (N := 5) hx hb hts hiX0 hown hK hP 0 rfl rfl 2 (by decide) hw22 (fun _ h9 => h9) rfl dX0_finedAt_6 ?_
    refine lv_icmp_ge (tgt := 25) hx hb dX0_finedAt_9 (by decide) (fun c_9 => ?_) (fun c_9 => ?_)
    · skip
      simp only [Int32.le_iff_toInt_le] at c_9
      rw [nI_toInt (n := j) (by omega)] at c_9
      rw [nI_toInt (n := c) (by omega)] at c_9
      exfalso; omega
    · skip
      simp only [Int32.le_iff_toInt_le] at c_9
      rw [nI_toInt (n := j) (by omega)] at c_9
      rw [nI_toInt (n := c) (by omega)] at c_9
      refine lv_aload_n hx hb dX0_finedAt_12 rfl (lv_at hl 0 rfl) ?_
      refine lv_aload_n hx hb dX0_finedAt_13 rfl (lv_at hl 0 rfl) ?_
      refine va_get (D := D) (ci := 0) (v := .ref hd) (C := RX0) (T := TX0) (N := 5) hx hb hts hiX0 hown hK hP 0 rfl rfl 1 (by decide) hw15 (fun _ h9 => h9) rfl dX0_finedAt_14 ?_
      refine lv_iload_n hx hb dX0_finedAt_17 rfl (lv_at hl 1 rfl) ?_
      refine xa_iald hx hb hK hP 2 0 rfl rfl (by omega) (by decide) dX0_finedAt_18 ?_
      refine ro_iE (va_runV (As := [.int (fD j)]) (rest := []) ⟨hx, hb, hml, hown, hts⟩ (c_X0_isTolerated l D cI cJ cR h hw hd c t y fW fD (fD j)) (cwV 1 hts gX0_finedAt_X0_isTolerated rfl rfl rfl (by decide +kernel) ⟨Nat.le_of_ble_eq_true rfl, Nat.le_of_ble_eq_true rfl⟩) (preV_ro KM_ok (hP.sub (ws' := [(h, .inr (0, [.ref hw, .ref hd, .int (nI c), .int t, .int (nI y)])), (hw, .inl (cI, 6, .inl fW)), (hd, .inl (cI, 6, .inl fD))]) [0, 1, 2] rfl) hK (va_recv hK hP (ci := 0) (q0 := 0) rfl rfl)) rfl rfl hl.1 rfl (lv_room (Nat.le_of_ble_eq_true rfl)) dX0_finedAt_19 ⟨by decide, by decide⟩) ?_
      refine lv_if_eq (tgt := 27) hx hb dX0_finedAt_22 (by decide) (fun c_22 => ?_) (fun c_22 => ?_)
      · skip
        have c_22 := bz_0 c_22
        refine lv_aload_n hx hb dX0_finedAt_27 rfl (lv_at hl 0 rfl) ?_
        refine va_get (D := D) (ci := 0) (v := .ref hd) (C := RX0) (T := TX0) (N := 5) hx hb hts hiX0 hown hK hP 0 rfl rfl 1 (by decide) hw15 (fun _ h9 => h9) rfl dX0_finedAt_28 ?_
        refine lv_iload_n hx hb dX0_finedAt_31 rfl (lv_at hl 1 rfl) ?_
        refine xa_iald hx hb hK hP 2 0 rfl rfl (by omega) (by decide) dX0_finedAt_32 ?_
        refine va_mabs hx hb (by rw [hml]; exact hl.1.symm) hown (hts (.methodLink RX0 52 Lib.Math.abs.name) (by decide +kernel)) (hts (.static Lib.Math.abs.name) (by decide +kernel)) (hts (.initialized "java/lang/Math") (by decide +kernel)) (hts (.code Lib.Math.abs.name Lib.Math.abs.code 1 (some .int)) (by decide +kernel)) (by first | decide | exact Nat.le_of_ble_eq_true rfl) (by first | decide | exact Nat.le_of_ble_eq_true rfl) (by first | decide | exact Nat.le_of_ble_eq_true rfl) (by first | decide | exact Nat.le_of_ble_eq_true rfl) dX0_finedAt_33 ?_
        refine topI (y := absI (fD j)) rfl ?_
        refine lv_istore_n (lv' := [(2, .int (absI (fD j))), (0, .ref h), (1, .int (nI j))]) hx hb dX0_finedAt_36 rfl hl (by decide) rfl (fun ls hl => ?_)
        refine lv_aload_n hx hb dX0_finedAt_37 rfl (lv_at hl 1 rfl) ?_
        refine va_get (D := D) (ci := 0) (v := .ref hd) (C := RX0) (T := TX0) (N := 5) hx hb hts hiX0 hown hK hP 0 rfl rfl 1 (by decide) hw15 (fun _ h9 => h9) rfl dX0_finedAt_38 ?_
        refine lv_iload_n hx hb dX0_finedAt_41 rfl (lv_at hl 2 rfl) ?_
        refine lv_iconst (v := 0) hx hb dX0_finedAt_42 (by decide) ?_
        refine xa_iast hx hb hK hP hD hS 2 0 rfl rfl (by omega) (by decide) dX0_finedAt_43 (fun H locs hP hD hS => ?_)
        have hP : va_P D vwCl [(h, .inr (0, [.ref hw, .ref hd, .int (nI c), .int t, .int (nI y)])), (hw, .inl (cI, 6, .inl fW)), (hd, .inl (cI, 6, .inl (upd fD j 0)))] H := hP
        have hD : va_D A [(h, .inr (0, [.ref hw, .ref hd, .int (nI c), .int t, .int (nI y)])), (hw, .inl (cI, 6, .inl fW)), (hd, .inl (cI, 6, .inl (upd fD j 0)))] := hD
        refine lv_iload_n hx hb dX0_finedAt_44 rfl (lv_at hl 0 rfl) ?_
        exact W.iret (v := (absI (fD j))) hx hb hr (fun t9 ht hW => ⟨⟨(absI (fD j)), [(h, .inr (0, [.ref hw, .ref hd, .int (nI c), .int t, .int (nI y)])), (hw, .inl (cI, 6, .inl fW)), (hd, .inl (cI, 6, .inl (upd fD j 0)))], rfl, ⟨(ic_f c_22).symm, by rw [ic_f c_22]⟩, by rw [ht]; exact hP, hD⟩, hS.F ht⟩) hS.2.2 dX0_finedAt_45
      · skip
        have c_22 := bz_1 c_22
        refine lv_iconst (v := 0) hx hb dX0_finedAt_25 (by decide) ?_
        exact W.iret (v := 0) hx hb hr (fun t9 ht hW => ⟨⟨0, [(h, .inr (0, [.ref hw, .ref hd, .int (nI c), .int t, .int (nI y)])), (hw, .inl (cI, 6, .inl fW)), (hd, .inl (cI, 6, .inl fD))], rfl, ⟨(ic_t c_22).symm, by rw [ic_t c_22]⟩, by rw [ht]; exact hP, hD⟩, hS.F ht⟩) hS.2.2 dX0_finedAt_26

set_option maxHeartbeats 4000000 in
set_option maxRecDepth 100000 in
theorem c_X0_coinsPaidNextDay (l : Launch) (D : va_G) (cI cJ cR : ClassId) (sz : Nat) (h hw hd : Nat) (c : Nat) (t : Int32) (y : Nat) (fW fD : Nat → Int32) (hc : c ≤ 6) (hy : y < 2 ^ 29) : Met l yX0_coinsPaidNextDay wsX0_coinsPaidNextDay ({ frames := 3, cells := 0, slots := 0, locals := 56 }) (cPw D [(h, .inr (0, [.ref hw, .ref hd, .int (nI c), .int t, .int (nI y)])), (hw, .inl (cI, 6, .inl fW)), (hd, .inl (cI, 6, .inl fD))] sz (KM D cI cJ cR) [.ref h]) (wri D [(h, .inr (0, [.ref hw, .ref hd, .int (nI c), .int t, .int (nI y)])), (hw, .inl (cI, 6, .inl fW)), (hd, .inl (cI, 6, .inl fD))] sz (fun r ws' => r = dFine c t y fW fD ∧ ws' = [(h, .inr (0, [.ref hw, .ref hd, .int (nI c), .int t, .int (nI (y + 1))])), (hw, .inl (cI, 6, .inl fW)), (hd, .inl (cI, 6, .inl (dDr c t y fW fD)))])) 0 0 (va_A [(h, .inr (0, [.ref hw, .ref hd, .int (nI c), .int t, .int (nI y)])), (hw, .inl (cI, 6, .inl fW)), (hd, .inl (cI, 6, .inl fD))] sz) := by
  refine Met.ofW (cc := cX0_coinsPaidNextDay) (maxL := 2) (ret := (some .int)) (by decide +kernel) rfl ?_
  intro p e s m args below meth c9 s₁ B hml hv
  obtain ⟨rfl, hsz, hP, hD0, hC⟩ := hv
  have hx := B.exec
  have hb := B.bytes
  have hr := B.returns
  have hts := atoms_spec (ws := wsX0_coinsPaidNextDay) B.pre
  have hown : s.vm.findClass RX0 = some m.cls := findClass_of_methodNamed B.named
  have hlocks := B.notSynchronized
  have hK : va_K D vwCl [(cI, .int), (cJ, .long), (cR, .array .int)] s := hC
  subst hsz
  unfold wri wB
  have hD := hD0.self (sz := s.heap.size)
  generalize hAe : va_A [(h, .inr (0, [.ref hw, .ref hd, .int (nI c), .int t, .int (nI y)])), (hw, .inl (cI, 6, .inl fW)), (hd, .inl (cI, 6, .inl fD))] s.heap.size = A at hD ⊢
  have hA : ∀ q : Nat, s.heap.size ≤ q → A q := fun q h => by rw [← hAe]; exact Or.inr h
  have hS : va_S A s.heap s.heap [] := va_S.rf
  have hl := lv_entry ([.ref h]) (n := 2) (Nat.le_of_ble_eq_true rfl)
  rw [lg_entry_eq]
  generalize (lg_sl ([.ref h]) ++ List.replicate (2 - (lg_sl ([.ref h])).length) Slot.unset).toArray = ls at hl ⊢
  have hl : lv_has ls 2 [(0, .ref h)] := hl
  have hiX0 : ∀ w ∈ u_ws RX0 TX0 5, w ∈ wsX0_coinsPaidNextDay := by decide +kernel
  have hw9 : (Cond.fieldLink RX0 9 "OldMeasures$Stalls" "wears" "[I").before ([.ref h] : List Value).toArray s = true := hts _ (by decide +kernel)
  have hw15 : (Cond.fieldLink RX0 15 "OldMeasures$Stalls" "drifts" "[I").before ([.ref h] : List Value).toArray s = true := hts _ (by decide +kernel)
  have hw22 : (Cond.fieldLink RX0 22 "OldMeasures$Stalls" "count" "I").before ([.ref h] : List Value).toArray s = true := hts _ (by decide +kernel)
  have hw25 : (Cond.fieldLink RX0 25 "OldMeasures$Stalls" "day" "I").before ([.ref h] : List Value).toArray s = true := hts _ (by decide +kernel)
  refine lv_iconst (v := 0) hx hb dX0_coinsPaidNextDay_0 (by decide) ?_
  refine lv_istore_n (lv' := [(1, .int 0), (0, .ref h)]) hx hb dX0_coinsPaidNextDay_1 rfl hl (by decide) rfl (fun ls hl => ?_)
  have hP : va_P D vwCl [(h, .inr (0, [.ref hw, .ref hd, .int (nI c), .int t, .int (nI y)])), (hw, .inl (cI, 6, .inl fW)), (hd, .inl (cI, 6, .inl (hdD fW fD 0)))] s.heap := by rw [hdD_0]; exact hP
  have hD : va_D A [(h, .inr (0, [.ref hw, .ref hd, .int (nI c), .int t, .int (nI y)])), (hw, .inl (cI, 6, .inl fW)), (hd, .inl (cI, 6, .inl (hdD fW fD 0)))] := by rw [hdD_0]; exact hD
  refine loopW (σ := Unit) (I := fun i x H locs ls => lv_has ls 2 [(0, .ref h), (1, .int (nI i))] ∧ va_P D vwCl [(h, .inr (0, [.ref hw, .ref hd, .int (nI c), .int t, .int (nI y)])), (hw, .inl (cI, 6, .inl fW)), (hd, .inl (cI, 6, .inl (hdD fW fD i)))] H ∧ va_D A [(h, .inr (0, [.ref hw, .ref hd, .int (nI c), .int t, .int (nI y)])), (hw, .inl (cI, 6, .inl fW)), (hd, .inl (cI, 6, .inl (hdD fW fD i)))] ∧ va_S A s.heap H locs) c ?_ 0 () _ _ ls (by omega) ⟨lv_sub hl [1, 0] rfl, hP, hD, hS⟩
  intro i x H locs ls hi hI kk
  obtain ⟨hl, hP, hD, hS⟩ := hI
  refine lv_iload_n hx hb dX0_coinsPaidNextDay_2 rfl (lv_at hl 1 rfl) ?_
  refine lv_aload_n hx hb dX0_coinsPaidNextDay_3 rfl (lv_at hl 0 rfl) ?_
  refine va_get (D := D) (ci := 0) (v := .int (nI c)) (C := RX0) (T := TX0) (N := 5) hx hb hts hiX0 hown hK hP 0 rfl rfl 2 (by decide) hw22 (fun _ h9 => h9) rfl dX0_coinsPaidNextDay_4 ?_
  refine lv_icmp_ge (tgt := 38) hx hb dX0_coinsPaidNextDay_7 (by decide) (fun c_7 => ?_) (fun c_7 => ?_)
  · skip
    simp only [Int32.le_iff_toInt_le] at c_7
    rw [nI_toInt (n := i) (by omega)] at c_7
    rw [nI_toInt (n := c) (by omega)] at c_7
    have e9 : c = i := by omega
    subst e9
    refine lv_aload_n hx hb dX0_coinsPaidNextDay_38 rfl (lv_at hl 0 rfl) ?_
    refine lv_aload_n hx hb dX0_coinsPaidNextDay_39 rfl (lv_at hl 0 rfl) ?_
    refine ro_iE (va_runV (As := []) (rest := [.ref h]) ⟨hx, hb, hml, hown, hts⟩ (c_X0_visited l D cI cJ cR h hw hd c t y fW (hdD fW fD c) (by omega) (by omega)) (cwV 0 hts gX0_coinsPaidNextDay_X0_visited rfl rfl rfl (by decide +kernel) ⟨Nat.le_of_ble_eq_true rfl, Nat.le_of_ble_eq_true rfl⟩) (preV_ro KM_ok (hP.sub (ws' := [(h, .inr (0, [.ref hw, .ref hd, .int (nI c), .int t, .int (nI y)])), (hw, .inl (cI, 6, .inl fW)), (hd, .inl (cI, 6, .inl (hdD fW fD c)))]) [0, 1, 2] rfl) hK (va_recv hK hP (ci := 0) (q0 := 0) rfl rfl)) rfl rfl hl.1 rfl (lv_room (Nat.le_of_ble_eq_true rfl)) dX0_coinsPaidNextDay_40 ⟨by decide, by decide⟩) ?_
    by_cases hc0 : c = 0
    · skip
      refine topI (ic_t hc0) ?_
      have hFc := va_free (wc := [(h, .inr (0, [.ref hw, .ref hd, .int (nI c), .int t, .int (nI y)])), (hw, .inl (cI, 6, .inl fW)), (hd, .inl (cI, 6, .inl (hdD fW fD c)))]) hD hS hA [0, 1, 2] rfl
      refine va_calli (va_runV (As := [.int (-1)]) (rest := []) ⟨hx, hb, hml, hown, hts⟩ (c_X0_finedAt_n l D cI cJ cR H.size h hw hd c t y fW (hdD fW fD c) (by omega)) (cwV 1 hts gX0_coinsPaidNextDay_X0_finedAt rfl rfl rfl (by decide +kernel) ⟨Nat.le_of_ble_eq_true rfl, Nat.le_of_ble_eq_true rfl⟩) (preV_wr KM_ok (hP.sub (ws' := [(h, .inr (0, [.ref hw, .ref hd, .int (nI c), .int t, .int (nI y)])), (hw, .inl (cI, 6, .inl fW)), (hd, .inl (cI, 6, .inl (hdD fW fD c)))]) [0, 1, 2] rfl) (hD.sub (ws' := [(h, .inr (0, [.ref hw, .ref hd, .int (nI c), .int t, .int (nI y)])), (hw, .inl (cI, 6, .inl fW)), (hd, .inl (cI, 6, .inl (hdD fW fD c)))]) [0, 1, 2] (by decide) rfl) hK (va_recv hK hP (ci := 0) (q0 := 0) rfl rfl)) rfl rfl hl.1 rfl (lv_room (Nat.le_of_ble_eq_true rfl)) dX0_coinsPaidNextDay_43 ⟨by decide, by decide⟩) hS (fun q _ h => hFc q h) hFc (fun r_43 u t9 H1 locs ht hvm hw9 hB hz1 hk1 hS => ?_)
      obtain ⟨hr9, rfl⟩ := hw9
      have hr9 := hr9.symm
      subst hr9
      obtain ⟨hP1, hD1⟩ := hB
      rw [ht] at hP1
      obtain ⟨hP, hD⟩ := va_join (wr := []) (w1 := [(h, .inr (0, [.ref hw, .ref hd, .int (nI c), .int t, .int (nI y)])), (hw, .inl (cI, 6, .inl fW)), (hd, .inl (cI, 6, .inl (hdD fW fD c)))]) hP hD [0, 1, 2] [] rfl rfl (by decide) (by decide) hk1 hFc hP1 hD1
      clear hz1 hk1 ht hvm hFc
      generalize H1 = H at hP hS ⊢
      have hP : va_P D vwCl [(h, .inr (0, [.ref hw, .ref hd, .int (nI c), .int t, .int (nI y)])), (hw, .inl (cI, 6, .inl fW)), (hd, .inl (cI, 6, .inl (hdD fW fD c)))] H := hP
      have hD : va_D A [(h, .inr (0, [.ref hw, .ref hd, .int (nI c), .int t, .int (nI y)])), (hw, .inl (cI, 6, .inl fW)), (hd, .inl (cI, 6, .inl (hdD fW fD c)))] := hD
      refine lv_istore_n (lv' := [(1, .int 0), (0, .ref h)]) hx hb dX0_coinsPaidNextDay_46 rfl hl (by decide) rfl (fun ls hl => ?_)
      refine lv_aload_n hx hb dX0_coinsPaidNextDay_47 rfl (lv_at hl 1 rfl) ?_
      refine lv_dup hx hb dX0_coinsPaidNextDay_48 rfl ?_
      refine va_get (D := D) (ci := 0) (v := .int (nI y)) (C := RX0) (T := TX0) (N := 5) hx hb hts hiX0 hown hK hP 0 rfl rfl 4 (by decide) hw25 (fun _ h9 => h9) rfl dX0_coinsPaidNextDay_49 ?_
      refine lv_iconst (v := 1) hx hb dX0_coinsPaidNextDay_52 (by decide) ?_
      refine lv_iadd hx hb dX0_coinsPaidNextDay_53 ?_
      refine topI (nI_1 y) ?_
      refine va_put (D := D) (ci := 0) (v := .int (nI (y + 1))) (ty := .int) (C := RX0) (T := TX0) (N := 5) hx hb hts hiX0 tyX0 tyX0_ok nmX0 hown hK hP hD hS 0 rfl rfl 4 (by decide) hw25 (fun _ h9 => h9) rfl (by decide +kernel) rfl rfl (Nat.le_of_ble_eq_true rfl) dX0_coinsPaidNextDay_54 (fun H locs hP hD hS => ?_)
      have hP : va_P D vwCl [(h, .inr (0, [.ref hw, .ref hd, .int (nI c), .int t, .int (nI (y + 1))])), (hw, .inl (cI, 6, .inl fW)), (hd, .inl (cI, 6, .inl (hdD fW fD c)))] H := hP
      have hD : va_D A [(h, .inr (0, [.ref hw, .ref hd, .int (nI c), .int t, .int (nI (y + 1))])), (hw, .inl (cI, 6, .inl fW)), (hd, .inl (cI, 6, .inl (hdD fW fD c)))] := hD
      refine lv_iload_n hx hb dX0_coinsPaidNextDay_57 rfl (lv_at hl 0 rfl) ?_
      exact W.iret (v := 0) hx hb hr (fun t9 ht hW => ⟨⟨0, [(h, .inr (0, [.ref hw, .ref hd, .int (nI c), .int t, .int (nI (y + 1))])), (hw, .inl (cI, 6, .inl fW)), (hd, .inl (cI, 6, .inl (hdD fW fD c)))], rfl, ⟨(dFine_n hc0).symm, by rw [dDr_n hc0]⟩, by rw [ht]; exact hP, hD⟩, hS.F ht⟩) hS.2.2 dX0_coinsPaidNextDay_58
    · skip
      refine topI (ic_f hc0) ?_
      have hFc := va_free (wc := [(h, .inr (0, [.ref hw, .ref hd, .int (nI c), .int t, .int (nI y)])), (hw, .inl (cI, 6, .inl fW)), (hd, .inl (cI, 6, .inl (hdD fW fD c)))]) hD hS hA [0, 1, 2] rfl
      refine va_calli (va_runV (As := [.int (nI (y % c))]) (rest := []) ⟨hx, hb, hml, hown, hts⟩ (c_X0_finedAt_j l D cI cJ cR H.size h hw hd c t y fW (hdD fW fD c) (by omega) (y % c) (Nat.mod_lt _ (by omega))) (cwV 1 hts gX0_coinsPaidNextDay_X0_finedAt rfl rfl rfl (by decide +kernel) ⟨Nat.le_of_ble_eq_true rfl, Nat.le_of_ble_eq_true rfl⟩) (preV_wr KM_ok (hP.sub (ws' := [(h, .inr (0, [.ref hw, .ref hd, .int (nI c), .int t, .int (nI y)])), (hw, .inl (cI, 6, .inl fW)), (hd, .inl (cI, 6, .inl (hdD fW fD c)))]) [0, 1, 2] rfl) (hD.sub (ws' := [(h, .inr (0, [.ref hw, .ref hd, .int (nI c), .int t, .int (nI y)])), (hw, .inl (cI, 6, .inl fW)), (hd, .inl (cI, 6, .inl (hdD fW fD c)))]) [0, 1, 2] (by decide) rfl) hK (va_recv hK hP (ci := 0) (q0 := 0) rfl rfl)) rfl rfl hl.1 rfl (lv_room (Nat.le_of_ble_eq_true rfl)) dX0_coinsPaidNextDay_43 ⟨by decide, by decide⟩) hS (fun q _ h => hFc q h) hFc (fun r_43 u t9 H1 locs ht hvm hw9 hB hz1 hk1 hS => ?_)
      obtain ⟨hr9, rfl⟩ := hw9
      have hr9 := hr9.symm
      subst hr9
      obtain ⟨hP1, hD1⟩ := hB
      rw [ht] at hP1
      obtain ⟨hP, hD⟩ := va_join (wr := []) (w1 := [(h, .inr (0, [.ref hw, .ref hd, .int (nI c), .int t, .int (nI y)])), (hw, .inl (cI, 6, .inl fW)), (hd, .inl (cI, 6, .inl (ic ((absI ((hdD fW fD c) (y % c))).toInt ≤ t.toInt) (hdD fW fD c) (upd (hdD fW fD c) (y % c) 0))))]) hP hD [0, 1, 2] [] rfl rfl (by decide) (by decide) hk1 hFc hP1 hD1
      clear hz1 hk1 ht hvm hFc
      generalize H1 = H at hP hS ⊢
      have hP : va_P D vwCl [(h, .inr (0, [.ref hw, .ref hd, .int (nI c), .int t, .int (nI y)])), (hw, .inl (cI, 6, .inl fW)), (hd, .inl (cI, 6, .inl (ic ((absI ((hdD fW fD c) (y % c))).toInt ≤ t.toInt) (hdD fW fD c) (upd (hdD fW fD c) (y % c) 0))))] H := hP
      have hD : va_D A [(h, .inr (0, [.ref hw, .ref hd, .int (nI c), .int t, .int (nI y)])), (hw, .inl (cI, 6, .inl fW)), (hd, .inl (cI, 6, .inl (ic ((absI ((hdD fW fD c) (y % c))).toInt ≤ t.toInt) (hdD fW fD c) (upd (hdD fW fD c) (y % c) 0))))] := hD
      refine lv_istore_n (lv' := [(1, .int (ic ((absI ((hdD fW fD c) (y % c))).toInt ≤ t.toInt) 0 (absI ((hdD fW fD c) (y % c))))), (0, .ref h)]) hx hb dX0_coinsPaidNextDay_46 rfl hl (by decide) rfl (fun ls hl => ?_)
      refine lv_aload_n hx hb dX0_coinsPaidNextDay_47 rfl (lv_at hl 1 rfl) ?_
      refine lv_dup hx hb dX0_coinsPaidNextDay_48 rfl ?_
      refine va_get (D := D) (ci := 0) (v := .int (nI y)) (C := RX0) (T := TX0) (N := 5) hx hb hts hiX0 hown hK hP 0 rfl rfl 4 (by decide) hw25 (fun _ h9 => h9) rfl dX0_coinsPaidNextDay_49 ?_
      refine lv_iconst (v := 1) hx hb dX0_coinsPaidNextDay_52 (by decide) ?_
      refine lv_iadd hx hb dX0_coinsPaidNextDay_53 ?_
      refine topI (nI_1 y) ?_
      refine va_put (D := D) (ci := 0) (v := .int (nI (y + 1))) (ty := .int) (C := RX0) (T := TX0) (N := 5) hx hb hts hiX0 tyX0 tyX0_ok nmX0 hown hK hP hD hS 0 rfl rfl 4 (by decide) hw25 (fun _ h9 => h9) rfl (by decide +kernel) rfl rfl (Nat.le_of_ble_eq_true rfl) dX0_coinsPaidNextDay_54 (fun H locs hP hD hS => ?_)
      have hP : va_P D vwCl [(h, .inr (0, [.ref hw, .ref hd, .int (nI c), .int t, .int (nI (y + 1))])), (hw, .inl (cI, 6, .inl fW)), (hd, .inl (cI, 6, .inl (ic ((absI ((hdD fW fD c) (y % c))).toInt ≤ t.toInt) (hdD fW fD c) (upd (hdD fW fD c) (y % c) 0))))] H := hP
      have hD : va_D A [(h, .inr (0, [.ref hw, .ref hd, .int (nI c), .int t, .int (nI (y + 1))])), (hw, .inl (cI, 6, .inl fW)), (hd, .inl (cI, 6, .inl (ic ((absI ((hdD fW fD c) (y % c))).toInt ≤ t.toInt) (hdD fW fD c) (upd (hdD fW fD c) (y % c) 0))))] := hD
      refine lv_iload_n hx hb dX0_coinsPaidNextDay_57 rfl (lv_at hl 0 rfl) ?_
      exact W.iret (v := (ic ((absI ((hdD fW fD c) (y % c))).toInt ≤ t.toInt) 0 (absI ((hdD fW fD c) (y % c))))) hx hb hr (fun t9 ht hW => ⟨⟨(ic ((absI ((hdD fW fD c) (y % c))).toInt ≤ t.toInt) 0 (absI ((hdD fW fD c) (y % c)))), [(h, .inr (0, [.ref hw, .ref hd, .int (nI c), .int t, .int (nI (y + 1))])), (hw, .inl (cI, 6, .inl fW)), (hd, .inl (cI, 6, .inl (ic ((absI ((hdD fW fD c) (y % c))).toInt ≤ t.toInt) (hdD fW fD c) (upd (hdD fW fD c) (y % c) 0))))], rfl, ⟨(dFine_j hc0).symm, by rw [dDr_j hc0]⟩, by rw [ht]; exact hP, hD⟩, hS.F ht⟩) hS.2.2 dX0_coinsPaidNextDay_58
  · skip
    simp only [Int32.le_iff_toInt_le] at c_7
    rw [nI_toInt (n := i) (by omega)] at c_7
    rw [nI_toInt (n := c) (by omega)] at c_7
    refine lv_aload_n hx hb dX0_coinsPaidNextDay_10 rfl (lv_at hl 0 rfl) ?_
    refine va_get (D := D) (ci := 0) (v := .ref hd) (C := RX0) (T := TX0) (N := 5) hx hb hts hiX0 hown hK hP 0 rfl rfl 1 (by decide) hw15 (fun _ h9 => h9) rfl dX0_coinsPaidNextDay_11 ?_
    refine lv_iload_n hx hb dX0_coinsPaidNextDay_14 rfl (lv_at hl 1 rfl) ?_
    refine lv_aload_n hx hb dX0_coinsPaidNextDay_15 rfl (lv_at hl 0 rfl) ?_
    refine va_get (D := D) (ci := 0) (v := .ref hd) (C := RX0) (T := TX0) (N := 5) hx hb hts hiX0 hown hK hP 0 rfl rfl 1 (by decide) hw15 (fun _ h9 => h9) rfl dX0_coinsPaidNextDay_16 ?_
    refine lv_iload_n hx hb dX0_coinsPaidNextDay_19 rfl (lv_at hl 1 rfl) ?_
    refine xa_iald hx hb hK hP 2 0 rfl rfl (by omega) (by decide) dX0_coinsPaidNextDay_20 ?_
    refine lv_aload_n hx hb dX0_coinsPaidNextDay_21 rfl (lv_at hl 0 rfl) ?_
    refine va_get (D := D) (ci := 0) (v := .ref hw) (C := RX0) (T := TX0) (N := 5) hx hb hts hiX0 hown hK hP 0 rfl rfl 0 (by decide) hw9 (fun _ h9 => h9) rfl dX0_coinsPaidNextDay_22 ?_
    refine lv_iload_n hx hb dX0_coinsPaidNextDay_25 rfl (lv_at hl 1 rfl) ?_
    refine xa_iald hx hb hK hP 1 0 rfl rfl (by omega) (by decide) dX0_coinsPaidNextDay_26 ?_
    refine lv_iadd hx hb dX0_coinsPaidNextDay_27 ?_
    refine ro_iE (va_runS (As := [.int (((hdD fW fD i) i) + (fW i))]) (rest := [.int (nI i), .ref hd]) ⟨hx, hb, hml, hown, hts⟩ (c_X0_held l (((hdD fW fD i) i) + (fW i))) (va_cwS 1 hts gX0_coinsPaidNextDay_X0_held rfl rfl rfl (by decide +kernel) ⟨Nat.le_of_ble_eq_true rfl, Nat.le_of_ble_eq_true rfl⟩) pre0 rfl rfl hl.1 rfl (lv_room (Nat.le_of_ble_eq_true rfl)) dX0_coinsPaidNextDay_28 ⟨by decide, by decide⟩) ?_
    refine xa_iast hx hb hK hP hD hS 2 0 rfl rfl (by omega) (by decide) dX0_coinsPaidNextDay_31 (fun H locs hP hD hS => ?_)
    have hP : va_P D vwCl [(h, .inr (0, [.ref hw, .ref hd, .int (nI c), .int t, .int (nI y)])), (hw, .inl (cI, 6, .inl fW)), (hd, .inl (cI, 6, .inl (upd (hdD fW fD i) i (hld (((hdD fW fD i) i) + (fW i))))))] H := hP
    have hD : va_D A [(h, .inr (0, [.ref hw, .ref hd, .int (nI c), .int t, .int (nI y)])), (hw, .inl (cI, 6, .inl fW)), (hd, .inl (cI, 6, .inl (upd (hdD fW fD i) i (hld (((hdD fW fD i) i) + (fW i))))))] := hD
    have hP : va_P D vwCl [(h, .inr (0, [.ref hw, .ref hd, .int (nI c), .int t, .int (nI y)])), (hw, .inl (cI, 6, .inl fW)), (hd, .inl (cI, 6, .inl (hdD fW fD (i + 1))))] H := by rw [← hdD_s]; exact hP
    have hD : va_D A [(h, .inr (0, [.ref hw, .ref hd, .int (nI c), .int t, .int (nI y)])), (hw, .inl (cI, 6, .inl fW)), (hd, .inl (cI, 6, .inl (hdD fW fD (i + 1))))] := by rw [← hdD_s]; exact hD
    refine lv_iinc (v := (nI (i + 1))) (lv' := [(1, .int (nI (i + 1))), (0, .ref h)]) hx hb dX0_coinsPaidNextDay_32 hl (k := 1) rfl (nI_inc i) (by decide) rfl (fun ls hl => ?_)
    refine lv_goto (tgt := 2) hx hb dX0_coinsPaidNextDay_35 (by decide) ?_
    exact kk () _ _ ls (by omega) ⟨lv_sub hl [1, 0] rfl, hP, hD, hS⟩

set_option maxHeartbeats 4000000 in
set_option maxRecDepth 100000 in
theorem c_X0_coinsPaidIn (l : Launch) (D : va_G) (cI cJ cR : ClassId) (sz : Nat) (h hw hd : Nat) (c : Nat) (t : Int32) (y : Nat) (fW fD : Nat → Int32) (hc : c ≤ 6) (hy : y < 2 ^ 28) (n : Nat) (hn : n ≤ 60) : Met l yX0_coinsPaidIn wsX0_coinsPaidIn ({ frames := 4, cells := 0, slots := 0, locals := 77 }) (cPw D [(h, .inr (0, [.ref hw, .ref hd, .int (nI c), .int t, .int (nI y)])), (hw, .inl (cI, 6, .inl fW)), (hd, .inl (cI, 6, .inl fD))] sz (KM D cI cJ cR) [.ref h, .int (nI n)]) (wri D [(h, .inr (0, [.ref hw, .ref hd, .int (nI c), .int t, .int (nI y)])), (hw, .inl (cI, 6, .inl fW)), (hd, .inl (cI, 6, .inl fD))] sz (fun r ws' => r = dSm c t y fW fD n ∧ ws' = [(h, .inr (0, [.ref hw, .ref hd, .int (nI c), .int t, .int (nI (y + n))])), (hw, .inl (cI, 6, .inl fW)), (hd, .inl (cI, 6, .inl (dIt c t y fW fD n)))])) 0 0 (va_A [(h, .inr (0, [.ref hw, .ref hd, .int (nI c), .int t, .int (nI y)])), (hw, .inl (cI, 6, .inl fW)), (hd, .inl (cI, 6, .inl fD))] sz) := by
  refine Met.ofW (cc := cX0_coinsPaidIn) (maxL := 4) (ret := (some .int)) (by decide +kernel) rfl ?_
  intro p e s m args below meth c9 s₁ B hml hv
  obtain ⟨rfl, hsz, hP, hD0, hC⟩ := hv
  have hx := B.exec
  have hb := B.bytes
  have hr := B.returns
  have hts := atoms_spec (ws := wsX0_coinsPaidIn) B.pre
  have hown : s.vm.findClass RX0 = some m.cls := findClass_of_methodNamed B.named
  have hlocks := B.notSynchronized
  have hK : va_K D vwCl [(cI, .int), (cJ, .long), (cR, .array .int)] s := hC
  subst hsz
  unfold wri wB
  have hD := hD0.self (sz := s.heap.size)
  generalize hAe : va_A [(h, .inr (0, [.ref hw, .ref hd, .int (nI c), .int t, .int (nI y)])), (hw, .inl (cI, 6, .inl fW)), (hd, .inl (cI, 6, .inl fD))] s.heap.size = A at hD ⊢
  have hA : ∀ q : Nat, s.heap.size ≤ q → A q := fun q h => by rw [← hAe]; exact Or.inr h
  have hS : va_S A s.heap s.heap [] := va_S.rf
  have hl := lv_entry ([.ref h, .int (nI n)]) (n := 4) (Nat.le_of_ble_eq_true rfl)
  rw [lg_entry_eq]
  generalize (lg_sl ([.ref h, .int (nI n)]) ++ List.replicate (4 - (lg_sl ([.ref h, .int (nI n)])).length) Slot.unset).toArray = ls at hl ⊢
  have hl : lv_has ls 4 [(0, .ref h), (1, .int (nI n))] := hl
  refine lv_iconst (v := 0) hx hb dX0_coinsPaidIn_0 (by decide) ?_
  refine lv_istore_n (lv' := [(2, .int 0), (0, .ref h), (1, .int (nI n))]) hx hb dX0_coinsPaidIn_1 rfl hl (by decide) rfl (fun ls hl => ?_)
  refine lv_iconst (v := 0) hx hb dX0_coinsPaidIn_2 (by decide) ?_
  refine lv_istore_n (lv' := [(3, .int 0), (2, .int 0), (0, .ref h), (1, .int (nI n))]) hx hb dX0_coinsPaidIn_3 rfl hl (by decide) rfl (fun ls hl => ?_)
  have hH : ∃ H, H = s.heap := ⟨_, rfl⟩
  refine loopW (σ := Unit) (I := fun i x H locs ls => lv_has ls 4 [(0, .ref h), (1, .int (nI n)), (2, .int (dSm c t y fW fD i)), (3, .int (nI i))] ∧ va_P D vwCl [(h, .inr (0, [.ref hw, .ref hd, .int (nI c), .int t, .int (nI (y + i))])), (hw, .inl (cI, 6, .inl fW)), (hd, .inl (cI, 6, .inl (dIt c t y fW fD i)))] H ∧ va_D A [(h, .inr (0, [.ref hw, .ref hd, .int (nI c), .int t, .int (nI (y + i))])), (hw, .inl (cI, 6, .inl fW)), (hd, .inl (cI, 6, .inl (dIt c t y fW fD i)))] ∧ va_S A s.heap H locs) n ?_ 0 () _ _ ls (by omega) ⟨lv_sub hl [2, 3, 1, 0] rfl, hP, hD, hS⟩
  intro i x H locs ls hi hI kk
  obtain ⟨hl, hP, hD, hS⟩ := hI
  refine lv_iload_n hx hb dX0_coinsPaidIn_4 rfl (lv_at hl 3 rfl) ?_
  refine lv_iload_n hx hb dX0_coinsPaidIn_5 rfl (lv_at hl 1 rfl) ?_
  refine lv_icmp_ge (tgt := 22) hx hb dX0_coinsPaidIn_6 (by decide) (fun c_6 => ?_) (fun c_6 => ?_)
  · skip
    simp only [Int32.le_iff_toInt_le] at c_6
    rw [nI_toInt (n := i) (by omega)] at c_6
    rw [nI_toInt (n := n) (by omega)] at c_6
    have e9 : n = i := by omega
    subst e9
    refine lv_iload_n hx hb dX0_coinsPaidIn_22 rfl (lv_at hl 2 rfl) ?_
    exact W.iret (v := (dSm c t y fW fD n)) hx hb hr (fun t9 ht hW => ⟨⟨(dSm c t y fW fD n), [(h, .inr (0, [.ref hw, .ref hd, .int (nI c), .int t, .int (nI (y + n))])), (hw, .inl (cI, 6, .inl fW)), (hd, .inl (cI, 6, .inl (dIt c t y fW fD n)))], rfl, ⟨rfl, rfl⟩, by rw [ht]; exact hP, hD⟩, hS.F ht⟩) hS.2.2 dX0_coinsPaidIn_23
  · skip
    simp only [Int32.le_iff_toInt_le] at c_6
    rw [nI_toInt (n := i) (by omega)] at c_6
    rw [nI_toInt (n := n) (by omega)] at c_6
    refine lv_iload_n hx hb dX0_coinsPaidIn_9 rfl (lv_at hl 2 rfl) ?_
    refine lv_aload_n hx hb dX0_coinsPaidIn_10 rfl (lv_at hl 0 rfl) ?_
    have hFc := va_free (wc := [(h, .inr (0, [.ref hw, .ref hd, .int (nI c), .int t, .int (nI (y + i))])), (hw, .inl (cI, 6, .inl fW)), (hd, .inl (cI, 6, .inl (dIt c t y fW fD i)))]) hD hS hA [0, 1, 2] rfl
    refine va_calli (va_runV (As := []) (rest := [.int (dSm c t y fW fD i)]) ⟨hx, hb, hml, hown, hts⟩ (c_X0_coinsPaidNextDay l D cI cJ cR H.size h hw hd c t (y + i) fW (dIt c t y fW fD i) (by omega) (by omega)) (cwV 0 hts gX0_coinsPaidIn_X0_coinsPaidNextDay rfl rfl rfl (by decide +kernel) ⟨Nat.le_of_ble_eq_true rfl, Nat.le_of_ble_eq_true rfl⟩) (preV_wr KM_ok (hP.sub (ws' := [(h, .inr (0, [.ref hw, .ref hd, .int (nI c), .int t, .int (nI (y + i))])), (hw, .inl (cI, 6, .inl fW)), (hd, .inl (cI, 6, .inl (dIt c t y fW fD i)))]) [0, 1, 2] rfl) (hD.sub (ws' := [(h, .inr (0, [.ref hw, .ref hd, .int (nI c), .int t, .int (nI (y + i))])), (hw, .inl (cI, 6, .inl fW)), (hd, .inl (cI, 6, .inl (dIt c t y fW fD i)))]) [0, 1, 2] (by decide) rfl) hK (va_recv hK hP (ci := 0) (q0 := 0) rfl rfl)) rfl rfl hl.1 rfl (lv_room (Nat.le_of_ble_eq_true rfl)) dX0_coinsPaidIn_11 ⟨by decide, by decide⟩) hS (fun q _ h => hFc q h) hFc (fun r_11 u t9 H1 locs ht hvm hw9 hB hz1 hk1 hS => ?_)
    obtain ⟨hr9, rfl⟩ := hw9
    have hr9 := hr9.symm
    subst hr9
    obtain ⟨hP1, hD1⟩ := hB
    rw [ht] at hP1
    obtain ⟨hP, hD⟩ := va_join (wr := []) (w1 := [(h, .inr (0, [.ref hw, .ref hd, .int (nI c), .int t, .int (nI ((y + i) + 1))])), (hw, .inl (cI, 6, .inl fW)), (hd, .inl (cI, 6, .inl (dDr c t (y + i) fW (dIt c t y fW fD i))))]) hP hD [0, 1, 2] [] rfl rfl (by decide) (by decide) hk1 hFc hP1 hD1
    clear hz1 hk1 ht hvm hFc
    generalize H1 = H at hP hS ⊢
    have hP : va_P D vwCl [(h, .inr (0, [.ref hw, .ref hd, .int (nI c), .int t, .int (nI ((y + i) + 1))])), (hw, .inl (cI, 6, .inl fW)), (hd, .inl (cI, 6, .inl (dDr c t (y + i) fW (dIt c t y fW fD i))))] H := hP
    have hD : va_D A [(h, .inr (0, [.ref hw, .ref hd, .int (nI c), .int t, .int (nI ((y + i) + 1))])), (hw, .inl (cI, 6, .inl fW)), (hd, .inl (cI, 6, .inl (dDr c t (y + i) fW (dIt c t y fW fD i))))] := hD
    refine lv_iadd hx hb dX0_coinsPaidIn_14 ?_
    refine lv_istore_n (lv' := [(2, .int ((dSm c t y fW fD i) + (dFine c t (y + i) fW (dIt c t y fW fD i)))), (0, .ref h), (1, .int (nI n)), (3, .int (nI i))]) hx hb dX0_coinsPaidIn_15 rfl hl (by decide) rfl (fun ls hl => ?_)
    refine lv_iinc (v := (nI (i + 1))) (lv' := [(3, .int (nI (i + 1))), (2, .int ((dSm c t y fW fD i) + (dFine c t (y + i) fW (dIt c t y fW fD i)))), (0, .ref h), (1, .int (nI n))]) hx hb dX0_coinsPaidIn_16 hl (k := 3) rfl (nI_inc i) (by decide) rfl (fun ls hl => ?_)
    refine lv_goto (tgt := 4) hx hb dX0_coinsPaidIn_19 (by decide) ?_
    exact kk () _ _ ls (by omega) ⟨lv_sub hl [2, 3, 1, 0] rfl, hP, hD, hS⟩
end
section
set_option maxHeartbeats 4000000 in
set_option maxRecDepth 100000 in
theorem c_X1_lengthAt (l : Launch) (D : va_G) (cI cJ cR : ClassId) (a : Nat → Nat) (k st : Nat) (fi : Int32) (fB fS fO : Nat → Int32) (fL : Nat → Int64) (c : Nat) (t : Int32) (y : Nat) (fW fD : Nat → Int32) (c2 t2 y2 : Int32) (gW gD : Nat → Int32) (i : Nat) (hi : i < 8) (hO : inM 8 (fO i)) : Met l yX1_lengthAt wsX1_lengthAt ({ frames := 0, cells := 0, slots := 0, locals := 0 }) (cP D [((a 0), .inr (1, [.ref (a 1), .ref (a 2), .ref (a 3), .ref (a 4), .ref (a 5), .ref (a 8), .int (nI k), .int (nI st), .int fi])), ((a 1), .inl (cI, 8, .inl fB)), ((a 2), .inl (cI, 8, .inl fS)), ((a 3), .inl (cJ, 8, .inr (.inl fL))), ((a 4), .inl (cI, 8, .inl fO)), ((a 5), .inr (0, [.ref (a 6), .ref (a 7), .int (nI c), .int t, .int (nI y)])), ((a 6), .inl (cI, 6, .inl fW)), ((a 7), .inl (cI, 6, .inl fD)), ((a 8), .inr (0, [.ref (a 9), .ref (a 10), .int c2, .int t2, .int y2])), ((a 9), .inl (cI, 6, .inl gW)), ((a 10), .inl (cI, 6, .inl gD))] (KM D cI cJ cR) [.ref (a 0), .int (nI i)]) (rol (fun r => r = lnA fL fO i)) 0 0 (fun _ => False) := by
  refine Met.ofW (cc := cX1_lengthAt) (maxL := 2) (ret := (some .long)) (by decide +kernel) rfl ?_
  intro p e s m args below meth c9 s₁ B hml hv
  obtain ⟨rfl, hP, hC⟩ := hv
  have hx := B.exec
  have hb := B.bytes
  have hr := B.returns
  have hts := atoms_spec (ws := wsX1_lengthAt) B.pre
  have hown : s.vm.findClass RX1 = some m.cls := findClass_of_methodNamed B.named
  have hlocks := B.notSynchronized
  have hK : va_K D vwCl [(cI, .int), (cJ, .long), (cR, .array .int)] s := hC
  have hl := lv_entry ([.ref (a 0), .int (nI i)]) (n := 2) (Nat.le_of_ble_eq_true rfl)
  rw [lg_entry_eq]
  generalize (lg_sl ([.ref (a 0), .int (nI i)]) ++ List.replicate (2 - (lg_sl ([.ref (a 0), .int (nI i)])).length) Slot.unset).toArray = ls at hl ⊢
  have hl : lv_has ls 2 [(0, .ref (a 0)), (1, .int (nI i))] := hl
  have hiX1 : ∀ w ∈ u_ws RX1 TX1 9, w ∈ wsX1_lengthAt := by decide +kernel
  have hw16 : (Cond.fieldLink RX1 16 "OldMeasures" "lengths" "[J").before ([.ref (a 0), .int (nI i)] : List Value).toArray s = true := hts _ (by decide +kernel)
  have hw20 : (Cond.fieldLink RX1 20 "OldMeasures" "longestFirst" "[I").before ([.ref (a 0), .int (nI i)] : List Value).toArray s = true := hts _ (by decide +kernel)
  refine lv_aload_n hx hb dX1_lengthAt_0 rfl (lv_at hl 0 rfl) ?_
  refine va_get (D := D) (ci := 1) (v := .ref (a 3)) (C := RX1) (T := TX1) (N := 9) hx hb hts hiX1 hown hK hP 0 rfl rfl 2 (by decide) hw16 (fun _ h9 => h9) rfl dX1_lengthAt_1 ?_
  refine lv_aload_n hx hb dX1_lengthAt_4 rfl (lv_at hl 0 rfl) ?_
  refine va_get (D := D) (ci := 1) (v := .ref (a 4)) (C := RX1) (T := TX1) (N := 9) hx hb hts hiX1 hown hK hP 0 rfl rfl 3 (by decide) hw20 (fun _ h9 => h9) rfl dX1_lengthAt_5 ?_
  refine lv_iload_n hx hb dX1_lengthAt_8 rfl (lv_at hl 1 rfl) ?_
  refine xa_iald hx hb hK hP 4 0 rfl rfl (by omega) (by decide) dX1_lengthAt_9 ?_
  refine va_lald hx hb hK hP 3 1 rfl rfl (vp_in_iff.mpr hO) dX1_lengthAt_10 ?_
  exact W.lret (v := (fL (fO i).toNatClampNeg)) hx hb hr (fun t9 ht hW => ⟨_, rfl, rfl, ht⟩) (fun q hq => absurd hq List.not_mem_nil) dX1_lengthAt_11

set_option maxHeartbeats 4000000 in
set_option maxRecDepth 100000 in
theorem c_X1_greatestCommonDivisor (l : Launch) (u v : Nat) (hu : 0 < u) (hv : 0 < v) (hu2 : u < 2 ^ 40) (hv2 : v < 2 ^ 40) : Met l yX1_greatestCommonDivisor wsX1_greatestCommonDivisor ({ frames := 0, cells := 0, slots := 0, locals := 0 }) (va_Pc [.long (lN u), .long (lN v)] (fun _ => True)) (rol (fun r => r = lN (Nat.gcd u v))) 0 0 (fun _ => False) := by
  refine Met.ofW (cc := cX1_greatestCommonDivisor) (maxL := 11) (ret := (some .long)) (by decide +kernel) rfl ?_
  intro p e s m args below meth c9 s₁ B hml hv
  obtain ⟨rfl, -⟩ := hv
  have hx := B.exec
  have hb := B.bytes
  have hr := B.returns
  have hts := atoms_spec (ws := wsX1_greatestCommonDivisor) B.pre
  have hown : s.vm.findClass RX1 = some m.cls := findClass_of_methodNamed B.named
  have hlocks := B.notSynchronized
  have hl := lv_entry ([.long (lN u), .long (lN v)]) (n := 11) (Nat.le_of_ble_eq_true rfl)
  rw [lg_entry_eq]
  generalize (lg_sl ([.long (lN u), .long (lN v)]) ++ List.replicate (11 - (lg_sl ([.long (lN u), .long (lN v)])).length) Slot.unset).toArray = ls at hl ⊢
  have hl : lv_has ls 11 [(0, .long (lN u)), (2, .long (lN v))] := hl
  refine lv_lload_n hx hb dX1_greatestCommonDivisor_0 rfl (lv_at hl 0 rfl) ?_
  refine lv_lstore (lv' := [(4, .long (lN u)), (0, .long (lN u)), (2, .long (lN v))]) hx hb dX1_greatestCommonDivisor_1 hl (by decide) rfl (fun ls hl => ?_)
  refine lv_lload_n hx hb dX1_greatestCommonDivisor_3 rfl (lv_at hl 2 rfl) ?_
  refine lv_lstore (lv' := [(6, .long (lN v)), (4, .long (lN u)), (0, .long (lN u)), (2, .long (lN v))]) hx hb dX1_greatestCommonDivisor_4 hl (by decide) rfl (fun ls hl => ?_)
  refine lv_iconst (v := 0) hx hb dX1_greatestCommonDivisor_6 (by decide) ?_
  refine lv_istore (lv' := [(8, .int 0), (6, .long (lN v)), (4, .long (lN u)), (0, .long (lN u)), (2, .long (lN v))]) hx hb dX1_greatestCommonDivisor_7 hl (by decide) rfl (fun ls hl => ?_)
  refine loopR (σ := (Nat × Nat)) (I := fun i x ls => lv_has ls 11 [(4, .long (lN x.1)), (6, .long (lN x.2)), (8, .int (nI i))] ∧ (0 < x.1) ∧ (Nat.gcd x.1 x.2 = Nat.gcd u v) ∧ (x.1 < 2 ^ 40 ∧ x.2 < 2 ^ 40) ∧ ((i = 0 ∨ (x.2 < x.1 ∧ x.1 * x.2 * 2 ^ (i - 1) < 2 ^ 80)))) 100 ?_ 0 (u, v) ls (by omega) ⟨lv_sub hl [2, 1, 0] rfl, hu, rfl, ⟨hu2, hv2⟩, Or.inl rfl⟩
  intro i x ls hi hI kk
  obtain ⟨hl, h1, h2, h3, h4⟩ := hI
  refine lv_iload hx hb dX1_greatestCommonDivisor_9 (lv_at hl 2 rfl) ?_
  refine lv_bipush (v := 100) hx hb dX1_greatestCommonDivisor_11 (by decide) ?_
  refine lv_icmp_ge (tgt := 44) hx hb dX1_greatestCommonDivisor_13 (by decide) (fun c_13 => ?_) (fun c_13 => ?_)
  · skip
    simp only [Int32.le_iff_toInt_le] at c_13
    rw [nI_toInt (n := i) (by omega)] at c_13
    rw [(by decide : (100 : Int32).toInt = 100)] at c_13
    have h0 : x.2 = 0 := by
      have e9 : i = 100 := by omega
      subst e9
      rcases h4 with h4 | h4
      · omega
      · exact eu_end h1 h4.2
    refine lv_lload hx hb dX1_greatestCommonDivisor_44 (lv_at hl 0 rfl) ?_
    exact W.lret (v := (lN x.1)) hx hb hr (fun t9 ht hW => ⟨_, rfl, by rw [← h2, h0, Nat.gcd_zero_right], ht⟩) (fun q hq => absurd hq List.not_mem_nil) dX1_greatestCommonDivisor_46
  · skip
    simp only [Int32.le_iff_toInt_le] at c_13
    rw [nI_toInt (n := i) (by omega)] at c_13
    rw [(by decide : (100 : Int32).toInt = 100)] at c_13
    refine lv_lload hx hb dX1_greatestCommonDivisor_16 (lv_at hl 1 rfl) ?_
    refine lv_lconst (v := 0) hx hb dX1_greatestCommonDivisor_18 (by decide) ?_
    refine W.lcmp hx hb dX1_greatestCommonDivisor_19 ?_
    refine lv_if_le (tgt := 44) hx hb dX1_greatestCommonDivisor_20 (by decide) (fun c_20 => ?_) (fun c_20 => ?_)
    · skip
      have c_20 := (lgc_le _ _).mp c_20
      have h0 : x.2 = 0 := by
        rw [pk_lT (Nat.lt_trans h3.2 (by decide)), show (0 : Int64).toInt = 0 from rfl] at c_20
        omega
      refine lv_lload hx hb dX1_greatestCommonDivisor_44 (lv_at hl 0 rfl) ?_
      exact W.lret (v := (lN x.1)) hx hb hr (fun t9 ht hW => ⟨_, rfl, by rw [← h2, h0, Nat.gcd_zero_right], ht⟩) (fun q hq => absurd hq List.not_mem_nil) dX1_greatestCommonDivisor_46
    · skip
      have c_20 := (not_congr (lgc_le _ _)).mp c_20
      have hbp : 0 < x.2 := by
        rw [pk_lT (Nat.lt_trans h3.2 (by decide)), show (0 : Int64).toInt = 0 from rfl] at c_20
        omega
      refine lv_lload hx hb dX1_greatestCommonDivisor_23 (lv_at hl 0 rfl) ?_
      refine lv_lload hx hb dX1_greatestCommonDivisor_25 (lv_at hl 1 rfl) ?_
      refine lv_lrem hx hb dX1_greatestCommonDivisor_27 (lN_ne0 hbp (Nat.lt_trans h3.2 (by decide))) ?_
      refine topL (pk_lRem (Nat.lt_trans h3.1 (by decide)) hbp (Nat.lt_trans h3.2 (by decide))) ?_
      refine lv_lstore (lv' := [(9, .long (lN (x.1 % x.2))), (4, .long (lN x.1)), (6, .long (lN x.2)), (8, .int (nI i))]) hx hb dX1_greatestCommonDivisor_28 hl (by decide) rfl (fun ls hl => ?_)
      refine lv_lload hx hb dX1_greatestCommonDivisor_30 (lv_at hl 2 rfl) ?_
      refine lv_lstore (lv' := [(4, .long (lN x.2)), (9, .long (lN (x.1 % x.2))), (6, .long (lN x.2)), (8, .int (nI i))]) hx hb dX1_greatestCommonDivisor_32 hl (by decide) rfl (fun ls hl => ?_)
      refine lv_lload hx hb dX1_greatestCommonDivisor_34 (lv_at hl 1 rfl) ?_
      refine lv_lstore (lv' := [(6, .long (lN (x.1 % x.2))), (4, .long (lN x.2)), (9, .long (lN (x.1 % x.2))), (8, .int (nI i))]) hx hb dX1_greatestCommonDivisor_36 hl (by decide) rfl (fun ls hl => ?_)
      refine lv_iinc (v := (nI (i + 1))) (lv' := [(8, .int (nI (i + 1))), (6, .long (lN (x.1 % x.2))), (4, .long (lN x.2)), (9, .long (lN (x.1 % x.2)))]) hx hb dX1_greatestCommonDivisor_38 hl (k := 3) rfl (nI_inc i) (by decide) rfl (fun ls hl => ?_)
      refine lv_goto (tgt := 9) hx hb dX1_greatestCommonDivisor_41 (by decide) ?_
      exact kk (x.2, x.1 % x.2) ls (by omega) ⟨lv_sub hl [2, 1, 0] rfl, hbp, by rw [← h2, Nat.gcd_comm x.1 x.2, Nat.gcd_rec x.2 x.1, Nat.gcd_comm], ⟨h3.2, Nat.lt_trans (Nat.mod_lt _ hbp) h3.2⟩, Or.inr (eu_step hbp h3.1 h3.2 h4)⟩

set_option maxHeartbeats 4000000 in
set_option maxRecDepth 100000 in
theorem c_X1_withoutCommonDivisor (l : Launch) (u v : Nat) (hu : 0 < u) (hv : 0 < v) (hu2 : u < 2 ^ 40) (hv2 : v < 2 ^ 40) : Met l yX1_withoutCommonDivisor wsX1_withoutCommonDivisor ({ frames := 1, cells := 0, slots := 0, locals := 30 }) (va_Pc [.long (lN u), .long (lN v)] (fun _ => True)) (rol (fun r => r = lN (u / Nat.gcd u v))) 0 0 (fun _ => False) := by
  refine Met.ofW (cc := cX1_withoutCommonDivisor) (maxL := 4) (ret := (some .long)) (by decide +kernel) rfl ?_
  intro p e s m args below meth c9 s₁ B hml hv
  obtain ⟨rfl, -⟩ := hv
  have hx := B.exec
  have hb := B.bytes
  have hr := B.returns
  have hts := atoms_spec (ws := wsX1_withoutCommonDivisor) B.pre
  have hown : s.vm.findClass RX1 = some m.cls := findClass_of_methodNamed B.named
  have hlocks := B.notSynchronized
  have hl := lv_entry ([.long (lN u), .long (lN v)]) (n := 4) (Nat.le_of_ble_eq_true rfl)
  rw [lg_entry_eq]
  generalize (lg_sl ([.long (lN u), .long (lN v)]) ++ List.replicate (4 - (lg_sl ([.long (lN u), .long (lN v)])).length) Slot.unset).toArray = ls at hl ⊢
  have hl : lv_has ls 4 [(0, .long (lN u)), (2, .long (lN v))] := hl
  refine lv_lload_n hx hb dX1_withoutCommonDivisor_0 rfl (lv_at hl 0 rfl) ?_
  refine lv_lload_n hx hb dX1_withoutCommonDivisor_1 rfl (lv_at hl 0 rfl) ?_
  refine lv_lload_n hx hb dX1_withoutCommonDivisor_2 rfl (lv_at hl 1 rfl) ?_
  refine ro_lE (va_runS (As := [.long (lN u), .long (lN v)]) (rest := [.long (lN u)]) ⟨hx, hb, hml, hown, hts⟩ (c_X1_greatestCommonDivisor l u v hu hv hu2 hv2) (va_cwS 2 hts gX1_withoutCommonDivisor_X1_greatestCommonDivisor rfl rfl rfl (by decide +kernel) ⟨Nat.le_of_ble_eq_true rfl, Nat.le_of_ble_eq_true rfl⟩) pre0 rfl rfl hl.1 rfl (lv_room (Nat.le_of_ble_eq_true rfl)) dX1_withoutCommonDivisor_3 ⟨by decide, by decide⟩) ?_
  refine ro_lE (va_runS (As := [.long (lN u), .long (lN (Nat.gcd u v))]) (rest := []) ⟨hx, hb, hml, hown, hts⟩ (c_X1_timesIn l (lN u) (lN (Nat.gcd u v)) (by rw [pk_lT (Nat.lt_of_le_of_lt (Nat.gcd_le_left v hu) (Nat.lt_trans hu2 (by decide)))]; exact Int.ofNat_lt.mpr (Nat.gcd_pos_of_pos_left v hu))) (va_cwS 2 hts gX1_withoutCommonDivisor_X1_timesIn rfl rfl rfl (by decide +kernel) ⟨Nat.le_of_ble_eq_true rfl, Nat.le_of_ble_eq_true rfl⟩) pre0 rfl rfl hl.1 rfl (lv_room (Nat.le_of_ble_eq_true rfl)) dX1_withoutCommonDivisor_6 ⟨by decide, by decide⟩) ?_
  refine topL (pk_lDiv (Nat.lt_trans hu2 (by decide)) (Nat.gcd_pos_of_pos_left v hu) (Nat.lt_of_le_of_lt (Nat.gcd_le_left v hu) (Nat.lt_trans hu2 (by decide)))) ?_
  exact W.lret (v := (lN (u / Nat.gcd u v))) hx hb hr (fun t9 ht hW => ⟨_, rfl, rfl, ht⟩) (fun q hq => absurd hq List.not_mem_nil) dX1_withoutCommonDivisor_9

set_option maxHeartbeats 4000000 in
set_option maxRecDepth 100000 in
theorem c_X1_measures (l : Launch) (D : va_G) (cI cJ cR : ClassId) (a : Nat → Nat) (k st : Nat) (fi : Int32) (fB fS fO : Nat → Int32) (fL : Nat → Int64) (c : Nat) (t : Int32) (y : Nat) (fW fD : Nat → Int32) (c2 t2 y2 : Int32) (gW gD : Nat → Int32) : Met l yX1_measures wsX1_measures ({ frames := 0, cells := 0, slots := 0, locals := 0 }) (cP D [((a 0), .inr (1, [.ref (a 1), .ref (a 2), .ref (a 3), .ref (a 4), .ref (a 5), .ref (a 8), .int (nI k), .int (nI st), .int fi])), ((a 1), .inl (cI, 8, .inl fB)), ((a 2), .inl (cI, 8, .inl fS)), ((a 3), .inl (cJ, 8, .inr (.inl fL))), ((a 4), .inl (cI, 8, .inl fO)), ((a 5), .inr (0, [.ref (a 6), .ref (a 7), .int (nI c), .int t, .int (nI y)])), ((a 6), .inl (cI, 6, .inl fW)), ((a 7), .inl (cI, 6, .inl fD)), ((a 8), .inr (0, [.ref (a 9), .ref (a 10), .int c2, .int t2, .int y2])), ((a 9), .inl (cI, 6, .inl gW)), ((a 10), .inl (cI, 6, .inl gD))] (KC D cI cJ cR) [.ref (a 0)]) (roi (fun r => r = nI k)) 0 0 (fun _ => False) := by
  refine Met.ofW (cc := cX1_measures) (maxL := 1) (ret := (some .int)) (by decide +kernel) rfl ?_
  intro p e s m args below meth c9 s₁ B hml hv
  obtain ⟨rfl, hP, hC⟩ := hv
  have hx := B.exec
  have hb := B.bytes
  have hr := B.returns
  have hts := atoms_spec (ws := wsX1_measures) B.pre
  have hown : s.vm.findClass RX1 = some m.cls := findClass_of_methodNamed B.named
  have hlocks := B.notSynchronized
  have hK : va_K D vwCl [(cI, .int), (cJ, .long), (cR, .array .int)] s := hC.1
  have hl := lv_entry ([.ref (a 0)]) (n := 1) (Nat.le_of_ble_eq_true rfl)
  rw [lg_entry_eq]
  generalize (lg_sl ([.ref (a 0)]) ++ List.replicate (1 - (lg_sl ([.ref (a 0)])).length) Slot.unset).toArray = ls at hl ⊢
  have hl : lv_has ls 1 [(0, .ref (a 0))] := hl
  have hiX1 : ∀ w ∈ u_ws RX1 TX1 9, w ∈ wsX1_measures := by decide +kernel
  have hw33 : (Cond.fieldLink RX1 33 "OldMeasures" "measureCount" "I").before ([.ref (a 0)] : List Value).toArray s = true := hts _ (by decide +kernel)
  refine lv_aload_n hx hb dX1_measures_0 rfl (lv_at hl 0 rfl) ?_
  refine va_get (D := D) (ci := 1) (v := .int (nI k)) (C := RX1) (T := TX1) (N := 9) hx hb hts hiX1 hown hK hP 0 rfl rfl 6 (by decide) hw33 (fun _ h9 => h9) rfl dX1_measures_1 ?_
  exact W.iret (v := (nI k)) hx hb hr (fun t9 ht hW => ⟨_, rfl, rfl, ht⟩) (fun q hq => absurd hq List.not_mem_nil) dX1_measures_4

set_option maxHeartbeats 4000000 in
set_option maxRecDepth 100000 in
theorem c_X1_stalls (l : Launch) (D : va_G) (cI cJ cR : ClassId) (a : Nat → Nat) (k st : Nat) (fi : Int32) (fB fS fO : Nat → Int32) (fL : Nat → Int64) (c : Nat) (t : Int32) (y : Nat) (fW fD : Nat → Int32) (c2 t2 y2 : Int32) (gW gD : Nat → Int32) : Met l yX1_stalls wsX1_stalls ({ frames := 0, cells := 0, slots := 0, locals := 0 }) (cP D [((a 0), .inr (1, [.ref (a 1), .ref (a 2), .ref (a 3), .ref (a 4), .ref (a 5), .ref (a 8), .int (nI k), .int (nI st), .int fi])), ((a 1), .inl (cI, 8, .inl fB)), ((a 2), .inl (cI, 8, .inl fS)), ((a 3), .inl (cJ, 8, .inr (.inl fL))), ((a 4), .inl (cI, 8, .inl fO)), ((a 5), .inr (0, [.ref (a 6), .ref (a 7), .int (nI c), .int t, .int (nI y)])), ((a 6), .inl (cI, 6, .inl fW)), ((a 7), .inl (cI, 6, .inl fD)), ((a 8), .inr (0, [.ref (a 9), .ref (a 10), .int c2, .int t2, .int y2])), ((a 9), .inl (cI, 6, .inl gW)), ((a 10), .inl (cI, 6, .inl gD))] (KC D cI cJ cR) [.ref (a 0)]) (roi (fun r => r = nI c)) 0 0 (fun _ => False) := by
  refine Met.ofW (cc := cX1_stalls) (maxL := 1) (ret := (some .int)) (by decide +kernel) rfl ?_
  intro p e s m args below meth c9 s₁ B hml hv
  obtain ⟨rfl, hP, hC⟩ := hv
  have hx := B.exec
  have hb := B.bytes
  have hr := B.returns
  have hts := atoms_spec (ws := wsX1_stalls) B.pre
  have hown : s.vm.findClass RX1 = some m.cls := findClass_of_methodNamed B.named
  have hlocks := B.notSynchronized
  have hK : va_K D vwCl [(cI, .int), (cJ, .long), (cR, .array .int)] s := hC.1
  have hl := lv_entry ([.ref (a 0)]) (n := 1) (Nat.le_of_ble_eq_true rfl)
  rw [lg_entry_eq]
  generalize (lg_sl ([.ref (a 0)]) ++ List.replicate (1 - (lg_sl ([.ref (a 0)])).length) Slot.unset).toArray = ls at hl ⊢
  have hl : lv_has ls 1 [(0, .ref (a 0))] := hl
  have hiX0 : ∀ w ∈ u_ws RX0 TX0 5, w ∈ wsX1_stalls := by decide +kernel
  have hiX1 : ∀ w ∈ u_ws RX1 TX1 9, w ∈ wsX1_stalls := by decide +kernel
  have hw26 : (Cond.fieldLink RX1 26 "OldMeasures" "stalls" "LOldMeasures$Stalls;").before ([.ref (a 0)] : List Value).toArray s = true := hts _ (by decide +kernel)
  refine lv_aload_n hx hb dX1_stalls_0 rfl (lv_at hl 0 rfl) ?_
  refine va_get (D := D) (ci := 1) (v := .ref (a 5)) (C := RX1) (T := TX1) (N := 9) hx hb hts hiX1 hown hK hP 0 rfl rfl 4 (by decide) hw26 (fun _ h9 => h9) rfl dX1_stalls_1 ?_
  refine va_getN (host := RX1) (D := D) (ci := 0) (v := .int (nI c)) (C := RX0) (T := TX0) (N := 5) hx hb hts hiX0 hown hK hP 5 rfl rfl 2 (by decide) (va_Nw.use rfl hC.2.2.1) (fun _ h9 => h9) rfl dX1_stalls_4 ?_
  exact W.iret (v := (nI c)) hx hb hr (fun t9 ht hW => ⟨_, rfl, rfl, ht⟩) (fun q hq => absurd hq List.not_mem_nil) dX1_stalls_7

set_option maxHeartbeats 4000000 in
set_option maxRecDepth 100000 in
theorem c_X1_days (l : Launch) (D : va_G) (cI cJ cR : ClassId) (a : Nat → Nat) (k st : Nat) (fi : Int32) (fB fS fO : Nat → Int32) (fL : Nat → Int64) (c : Nat) (t : Int32) (y : Nat) (fW fD : Nat → Int32) (c2 t2 y2 : Int32) (gW gD : Nat → Int32) : Met l yX1_days wsX1_days ({ frames := 0, cells := 0, slots := 0, locals := 0 }) (cP D [((a 0), .inr (1, [.ref (a 1), .ref (a 2), .ref (a 3), .ref (a 4), .ref (a 5), .ref (a 8), .int (nI k), .int (nI st), .int fi])), ((a 1), .inl (cI, 8, .inl fB)), ((a 2), .inl (cI, 8, .inl fS)), ((a 3), .inl (cJ, 8, .inr (.inl fL))), ((a 4), .inl (cI, 8, .inl fO)), ((a 5), .inr (0, [.ref (a 6), .ref (a 7), .int (nI c), .int t, .int (nI y)])), ((a 6), .inl (cI, 6, .inl fW)), ((a 7), .inl (cI, 6, .inl fD)), ((a 8), .inr (0, [.ref (a 9), .ref (a 10), .int c2, .int t2, .int y2])), ((a 9), .inl (cI, 6, .inl gW)), ((a 10), .inl (cI, 6, .inl gD))] (KC D cI cJ cR) [.ref (a 0)]) (roi (fun r => r = nI y)) 0 0 (fun _ => False) := by
  refine Met.ofW (cc := cX1_days) (maxL := 1) (ret := (some .int)) (by decide +kernel) rfl ?_
  intro p e s m args below meth c9 s₁ B hml hv
  obtain ⟨rfl, hP, hC⟩ := hv
  have hx := B.exec
  have hb := B.bytes
  have hr := B.returns
  have hts := atoms_spec (ws := wsX1_days) B.pre
  have hown : s.vm.findClass RX1 = some m.cls := findClass_of_methodNamed B.named
  have hlocks := B.notSynchronized
  have hK : va_K D vwCl [(cI, .int), (cJ, .long), (cR, .array .int)] s := hC.1
  have hl := lv_entry ([.ref (a 0)]) (n := 1) (Nat.le_of_ble_eq_true rfl)
  rw [lg_entry_eq]
  generalize (lg_sl ([.ref (a 0)]) ++ List.replicate (1 - (lg_sl ([.ref (a 0)])).length) Slot.unset).toArray = ls at hl ⊢
  have hl : lv_has ls 1 [(0, .ref (a 0))] := hl
  have hiX0 : ∀ w ∈ u_ws RX0 TX0 5, w ∈ wsX1_days := by decide +kernel
  have hiX1 : ∀ w ∈ u_ws RX1 TX1 9, w ∈ wsX1_days := by decide +kernel
  have hw26 : (Cond.fieldLink RX1 26 "OldMeasures" "stalls" "LOldMeasures$Stalls;").before ([.ref (a 0)] : List Value).toArray s = true := hts _ (by decide +kernel)
  refine lv_aload_n hx hb dX1_days_0 rfl (lv_at hl 0 rfl) ?_
  refine va_get (D := D) (ci := 1) (v := .ref (a 5)) (C := RX1) (T := TX1) (N := 9) hx hb hts hiX1 hown hK hP 0 rfl rfl 4 (by decide) hw26 (fun _ h9 => h9) rfl dX1_days_1 ?_
  refine va_getN (host := RX1) (D := D) (ci := 0) (v := .int (nI y)) (C := RX0) (T := TX0) (N := 5) hx hb hts hiX0 hown hK hP 5 rfl rfl 4 (by decide) (va_Nw.use rfl hC.2.2.2.2.2.2.1) (fun _ h9 => h9) rfl dX1_days_4 ?_
  exact W.iret (v := (nI y)) hx hb hr (fun t9 ht hW => ⟨_, rfl, rfl, ht⟩) (fun q hq => absurd hq List.not_mem_nil) dX1_days_7

set_option maxHeartbeats 4000000 in
set_option maxRecDepth 100000 in
theorem c_X1_standard (l : Launch) (D : va_G) (cI cJ cR : ClassId) (a : Nat → Nat) (k st : Nat) (fi : Int32) (fB fS fO : Nat → Int32) (fL : Nat → Int64) (c : Nat) (t : Int32) (y : Nat) (fW fD : Nat → Int32) (c2 t2 y2 : Int32) (gW gD : Nat → Int32) : Met l yX1_standard wsX1_standard ({ frames := 0, cells := 0, slots := 0, locals := 0 }) (cP D [((a 0), .inr (1, [.ref (a 1), .ref (a 2), .ref (a 3), .ref (a 4), .ref (a 5), .ref (a 8), .int (nI k), .int (nI st), .int fi])), ((a 1), .inl (cI, 8, .inl fB)), ((a 2), .inl (cI, 8, .inl fS)), ((a 3), .inl (cJ, 8, .inr (.inl fL))), ((a 4), .inl (cI, 8, .inl fO)), ((a 5), .inr (0, [.ref (a 6), .ref (a 7), .int (nI c), .int t, .int (nI y)])), ((a 6), .inl (cI, 6, .inl fW)), ((a 7), .inl (cI, 6, .inl fD)), ((a 8), .inr (0, [.ref (a 9), .ref (a 10), .int c2, .int t2, .int y2])), ((a 9), .inl (cI, 6, .inl gW)), ((a 10), .inl (cI, 6, .inl gD))] (KC D cI cJ cR) [.ref (a 0)]) (roi (fun r => r = nI st)) 0 0 (fun _ => False) := by
  refine Met.ofW (cc := cX1_standard) (maxL := 1) (ret := (some .int)) (by decide +kernel) rfl ?_
  intro p e s m args below meth c9 s₁ B hml hv
  obtain ⟨rfl, hP, hC⟩ := hv
  have hx := B.exec
  have hb := B.bytes
  have hr := B.returns
  have hts := atoms_spec (ws := wsX1_standard) B.pre
  have hown : s.vm.findClass RX1 = some m.cls := findClass_of_methodNamed B.named
  have hlocks := B.notSynchronized
  have hK : va_K D vwCl [(cI, .int), (cJ, .long), (cR, .array .int)] s := hC.1
  have hl := lv_entry ([.ref (a 0)]) (n := 1) (Nat.le_of_ble_eq_true rfl)
  rw [lg_entry_eq]
  generalize (lg_sl ([.ref (a 0)]) ++ List.replicate (1 - (lg_sl ([.ref (a 0)])).length) Slot.unset).toArray = ls at hl ⊢
  have hl : lv_has ls 1 [(0, .ref (a 0))] := hl
  have hiX1 : ∀ w ∈ u_ws RX1 TX1 9, w ∈ wsX1_standard := by decide +kernel
  have hw37 : (Cond.fieldLink RX1 37 "OldMeasures" "standard" "I").before ([.ref (a 0)] : List Value).toArray s = true := hts _ (by decide +kernel)
  refine lv_aload_n hx hb dX1_standard_0 rfl (lv_at hl 0 rfl) ?_
  refine va_get (D := D) (ci := 1) (v := .int (nI st)) (C := RX1) (T := TX1) (N := 9) hx hb hts hiX1 hown hK hP 0 rfl rfl 7 (by decide) hw37 (fun _ h9 => h9) rfl dX1_standard_1 ?_
  exact W.iret (v := (nI st)) hx hb hr (fun t9 ht hW => ⟨_, rfl, rfl, ht⟩) (fun q hq => absurd hq List.not_mem_nil) dX1_standard_4

set_option maxHeartbeats 4000000 in
set_option maxRecDepth 100000 in
theorem c_X1_tolerance (l : Launch) (D : va_G) (cI cJ cR : ClassId) (a : Nat → Nat) (k st : Nat) (fi : Int32) (fB fS fO : Nat → Int32) (fL : Nat → Int64) (c : Nat) (t : Int32) (y : Nat) (fW fD : Nat → Int32) (c2 t2 y2 : Int32) (gW gD : Nat → Int32) : Met l yX1_tolerance wsX1_tolerance ({ frames := 0, cells := 0, slots := 0, locals := 0 }) (cP D [((a 0), .inr (1, [.ref (a 1), .ref (a 2), .ref (a 3), .ref (a 4), .ref (a 5), .ref (a 8), .int (nI k), .int (nI st), .int fi])), ((a 1), .inl (cI, 8, .inl fB)), ((a 2), .inl (cI, 8, .inl fS)), ((a 3), .inl (cJ, 8, .inr (.inl fL))), ((a 4), .inl (cI, 8, .inl fO)), ((a 5), .inr (0, [.ref (a 6), .ref (a 7), .int (nI c), .int t, .int (nI y)])), ((a 6), .inl (cI, 6, .inl fW)), ((a 7), .inl (cI, 6, .inl fD)), ((a 8), .inr (0, [.ref (a 9), .ref (a 10), .int c2, .int t2, .int y2])), ((a 9), .inl (cI, 6, .inl gW)), ((a 10), .inl (cI, 6, .inl gD))] (KC D cI cJ cR) [.ref (a 0)]) (roi (fun r => r = t)) 0 0 (fun _ => False) := by
  refine Met.ofW (cc := cX1_tolerance) (maxL := 1) (ret := (some .int)) (by decide +kernel) rfl ?_
  intro p e s m args below meth c9 s₁ B hml hv
  obtain ⟨rfl, hP, hC⟩ := hv
  have hx := B.exec
  have hb := B.bytes
  have hr := B.returns
  have hts := atoms_spec (ws := wsX1_tolerance) B.pre
  have hown : s.vm.findClass RX1 = some m.cls := findClass_of_methodNamed B.named
  have hlocks := B.notSynchronized
  have hK : va_K D vwCl [(cI, .int), (cJ, .long), (cR, .array .int)] s := hC.1
  have hl := lv_entry ([.ref (a 0)]) (n := 1) (Nat.le_of_ble_eq_true rfl)
  rw [lg_entry_eq]
  generalize (lg_sl ([.ref (a 0)]) ++ List.replicate (1 - (lg_sl ([.ref (a 0)])).length) Slot.unset).toArray = ls at hl ⊢
  have hl : lv_has ls 1 [(0, .ref (a 0))] := hl
  have hiX0 : ∀ w ∈ u_ws RX0 TX0 5, w ∈ wsX1_tolerance := by decide +kernel
  have hiX1 : ∀ w ∈ u_ws RX1 TX1 9, w ∈ wsX1_tolerance := by decide +kernel
  have hw26 : (Cond.fieldLink RX1 26 "OldMeasures" "stalls" "LOldMeasures$Stalls;").before ([.ref (a 0)] : List Value).toArray s = true := hts _ (by decide +kernel)
  refine lv_aload_n hx hb dX1_tolerance_0 rfl (lv_at hl 0 rfl) ?_
  refine va_get (D := D) (ci := 1) (v := .ref (a 5)) (C := RX1) (T := TX1) (N := 9) hx hb hts hiX1 hown hK hP 0 rfl rfl 4 (by decide) hw26 (fun _ h9 => h9) rfl dX1_tolerance_1 ?_
  refine va_getN (host := RX1) (D := D) (ci := 0) (v := .int t) (C := RX0) (T := TX0) (N := 5) hx hb hts hiX0 hown hK hP 5 rfl rfl 3 (by decide) (va_Nw.use rfl hC.2.2.2.2.2.1) (fun _ h9 => h9) rfl dX1_tolerance_4 ?_
  exact W.iret (v := t) hx hb hr (fun t9 ht hW => ⟨_, rfl, rfl, ht⟩) (fun q hq => absurd hq List.not_mem_nil) dX1_tolerance_7

set_option maxHeartbeats 4000000 in
set_option maxRecDepth 100000 in
theorem c_X1_fines (l : Launch) (D : va_G) (cI cJ cR : ClassId) (a : Nat → Nat) (k st : Nat) (fi : Int32) (fB fS fO : Nat → Int32) (fL : Nat → Int64) (c : Nat) (t : Int32) (y : Nat) (fW fD : Nat → Int32) (c2 t2 y2 : Int32) (gW gD : Nat → Int32) : Met l yX1_fines wsX1_fines ({ frames := 0, cells := 0, slots := 0, locals := 0 }) (cP D [((a 0), .inr (1, [.ref (a 1), .ref (a 2), .ref (a 3), .ref (a 4), .ref (a 5), .ref (a 8), .int (nI k), .int (nI st), .int fi])), ((a 1), .inl (cI, 8, .inl fB)), ((a 2), .inl (cI, 8, .inl fS)), ((a 3), .inl (cJ, 8, .inr (.inl fL))), ((a 4), .inl (cI, 8, .inl fO)), ((a 5), .inr (0, [.ref (a 6), .ref (a 7), .int (nI c), .int t, .int (nI y)])), ((a 6), .inl (cI, 6, .inl fW)), ((a 7), .inl (cI, 6, .inl fD)), ((a 8), .inr (0, [.ref (a 9), .ref (a 10), .int c2, .int t2, .int y2])), ((a 9), .inl (cI, 6, .inl gW)), ((a 10), .inl (cI, 6, .inl gD))] (KC D cI cJ cR) [.ref (a 0)]) (roi (fun r => r = fi)) 0 0 (fun _ => False) := by
  refine Met.ofW (cc := cX1_fines) (maxL := 1) (ret := (some .int)) (by decide +kernel) rfl ?_
  intro p e s m args below meth c9 s₁ B hml hv
  obtain ⟨rfl, hP, hC⟩ := hv
  have hx := B.exec
  have hb := B.bytes
  have hr := B.returns
  have hts := atoms_spec (ws := wsX1_fines) B.pre
  have hown : s.vm.findClass RX1 = some m.cls := findClass_of_methodNamed B.named
  have hlocks := B.notSynchronized
  have hK : va_K D vwCl [(cI, .int), (cJ, .long), (cR, .array .int)] s := hC.1
  have hl := lv_entry ([.ref (a 0)]) (n := 1) (Nat.le_of_ble_eq_true rfl)
  rw [lg_entry_eq]
  generalize (lg_sl ([.ref (a 0)]) ++ List.replicate (1 - (lg_sl ([.ref (a 0)])).length) Slot.unset).toArray = ls at hl ⊢
  have hl : lv_has ls 1 [(0, .ref (a 0))] := hl
  have hiX1 : ∀ w ∈ u_ws RX1 TX1 9, w ∈ wsX1_fines := by decide +kernel
  have hw95 : (Cond.fieldLink RX1 95 "OldMeasures" "fines" "I").before ([.ref (a 0)] : List Value).toArray s = true := hts _ (by decide +kernel)
  refine lv_aload_n hx hb dX1_fines_0 rfl (lv_at hl 0 rfl) ?_
  refine va_get (D := D) (ci := 1) (v := .int fi) (C := RX1) (T := TX1) (N := 9) hx hb hts hiX1 hown hK hP 0 rfl rfl 8 (by decide) hw95 (fun _ h9 => h9) rfl dX1_fines_1 ?_
  exact W.iret (v := fi) hx hb hr (fun t9 ht hW => ⟨_, rfl, rfl, ht⟩) (fun q hq => absurd hq List.not_mem_nil) dX1_fines_4

set_option maxHeartbeats 4000000 in
set_option maxRecDepth 100000 in
theorem c_X1_longest (l : Launch) (D : va_G) (cI cJ cR : ClassId) (a : Nat → Nat) (k st : Nat) (fi : Int32) (fB fS fO : Nat → Int32) (fL : Nat → Int64) (c : Nat) (t : Int32) (y : Nat) (fW fD : Nat → Int32) (c2 t2 y2 : Int32) (gW gD : Nat → Int32) : Met l yX1_longest wsX1_longest ({ frames := 0, cells := 0, slots := 0, locals := 0 }) (cP D [((a 0), .inr (1, [.ref (a 1), .ref (a 2), .ref (a 3), .ref (a 4), .ref (a 5), .ref (a 8), .int (nI k), .int (nI st), .int fi])), ((a 1), .inl (cI, 8, .inl fB)), ((a 2), .inl (cI, 8, .inl fS)), ((a 3), .inl (cJ, 8, .inr (.inl fL))), ((a 4), .inl (cI, 8, .inl fO)), ((a 5), .inr (0, [.ref (a 6), .ref (a 7), .int (nI c), .int t, .int (nI y)])), ((a 6), .inl (cI, 6, .inl fW)), ((a 7), .inl (cI, 6, .inl fD)), ((a 8), .inr (0, [.ref (a 9), .ref (a 10), .int c2, .int t2, .int y2])), ((a 9), .inl (cI, 6, .inl gW)), ((a 10), .inl (cI, 6, .inl gD))] (KC D cI cJ cR) [.ref (a 0)]) (roi (fun r => r = fO 0)) 0 0 (fun _ => False) := by
  refine Met.ofW (cc := cX1_longest) (maxL := 1) (ret := (some .int)) (by decide +kernel) rfl ?_
  intro p e s m args below meth c9 s₁ B hml hv
  obtain ⟨rfl, hP, hC⟩ := hv
  have hx := B.exec
  have hb := B.bytes
  have hr := B.returns
  have hts := atoms_spec (ws := wsX1_longest) B.pre
  have hown : s.vm.findClass RX1 = some m.cls := findClass_of_methodNamed B.named
  have hlocks := B.notSynchronized
  have hK : va_K D vwCl [(cI, .int), (cJ, .long), (cR, .array .int)] s := hC.1
  have hl := lv_entry ([.ref (a 0)]) (n := 1) (Nat.le_of_ble_eq_true rfl)
  rw [lg_entry_eq]
  generalize (lg_sl ([.ref (a 0)]) ++ List.replicate (1 - (lg_sl ([.ref (a 0)])).length) Slot.unset).toArray = ls at hl ⊢
  have hl : lv_has ls 1 [(0, .ref (a 0))] := hl
  have hiX1 : ∀ w ∈ u_ws RX1 TX1 9, w ∈ wsX1_longest := by decide +kernel
  have hw20 : (Cond.fieldLink RX1 20 "OldMeasures" "longestFirst" "[I").before ([.ref (a 0)] : List Value).toArray s = true := hts _ (by decide +kernel)
  refine lv_aload_n hx hb dX1_longest_0 rfl (lv_at hl 0 rfl) ?_
  refine va_get (D := D) (ci := 1) (v := .ref (a 4)) (C := RX1) (T := TX1) (N := 9) hx hb hts hiX1 hown hK hP 0 rfl rfl 3 (by decide) hw20 (fun _ h9 => h9) rfl dX1_longest_1 ?_
  refine lv_iconst (v := 0) hx hb dX1_longest_4 (by decide) ?_
  refine topI (y := nI 0) rfl ?_
  refine xa_iald hx hb hK hP 4 0 rfl rfl (by omega) (by decide) dX1_longest_5 ?_
  exact W.iret (v := (fO 0)) hx hb hr (fun t9 ht hW => ⟨_, rfl, rfl, ht⟩) (fun q hq => absurd hq List.not_mem_nil) dX1_longest_6

theorem c_X1_wcd (l : Launch) (X Y : Int64) (hX : 0 < X.toInt ∧ X.toInt ≤ 4782969) (hY : 0 < Y.toInt ∧ Y.toInt ≤ 4782969) : Met l yX1_withoutCommonDivisor wsX1_withoutCommonDivisor ({ frames := 1, cells := 0, slots := 0, locals := 30 }) (va_Pc [.long X, .long Y] (fun _ => True)) (rol (fun r => r = tp X Y)) 0 0 (fun _ => False) := by
  obtain ⟨u, hu, hu2, rfl⟩ := lN_of (b := 4782969) hX.1 hX.2
  obtain ⟨v, hv, hv2, rfl⟩ := lN_of (b := 4782969) hY.1 hY.2
  rw [tp_lN (by omega) (by omega)]
  exact c_X1_withoutCommonDivisor l u v hu hv (by omega) (by omega)

set_option maxHeartbeats 4000000 in
set_option maxRecDepth 100000 in
theorem c_X1_shortest (l : Launch) (D : va_G) (cI cJ cR : ClassId) (a : Nat → Nat) (k st : Nat) (fi : Int32) (fB fS fO : Nat → Int32) (fL : Nat → Int64) (c : Nat) (t : Int32) (y : Nat) (fW fD : Nat → Int32) (c2 t2 y2 : Int32) (gW gD : Nat → Int32) (hM : MOk k fL fO) : Met l yX1_shortest wsX1_shortest ({ frames := 3, cells := 0, slots := 0, locals := 60 }) (cP D [((a 0), .inr (1, [.ref (a 1), .ref (a 2), .ref (a 3), .ref (a 4), .ref (a 5), .ref (a 8), .int (nI k), .int (nI st), .int fi])), ((a 1), .inl (cI, 8, .inl fB)), ((a 2), .inl (cI, 8, .inl fS)), ((a 3), .inl (cJ, 8, .inr (.inl fL))), ((a 4), .inl (cI, 8, .inl fO)), ((a 5), .inr (0, [.ref (a 6), .ref (a 7), .int (nI c), .int t, .int (nI y)])), ((a 6), .inl (cI, 6, .inl fW)), ((a 7), .inl (cI, 6, .inl fD)), ((a 8), .inr (0, [.ref (a 9), .ref (a 10), .int c2, .int t2, .int y2])), ((a 9), .inl (cI, 6, .inl gW)), ((a 10), .inl (cI, 6, .inl gD))] (KC D cI cJ cR) [.ref (a 0)]) (roi (fun r => r = nI (shN fL (k - 1)))) 0 0 (fun _ => False) := by
  refine Met.ofW (cc := cX1_shortest) (maxL := 3) (ret := (some .int)) (by decide +kernel) rfl ?_
  intro p e s m args below meth c9 s₁ B hml hv
  obtain ⟨rfl, hP, hC⟩ := hv
  have hx := B.exec
  have hb := B.bytes
  have hr := B.returns
  have hts := atoms_spec (ws := wsX1_shortest) B.pre
  have hown : s.vm.findClass RX1 = some m.cls := findClass_of_methodNamed B.named
  have hlocks := B.notSynchronized
  have hK : va_K D vwCl [(cI, .int), (cJ, .long), (cR, .array .int)] s := hC.1
  have hl := lv_entry ([.ref (a 0)]) (n := 3) (Nat.le_of_ble_eq_true rfl)
  rw [lg_entry_eq]
  generalize (lg_sl ([.ref (a 0)]) ++ List.replicate (3 - (lg_sl ([.ref (a 0)])).length) Slot.unset).toArray = ls at hl ⊢
  have hl : lv_has ls 3 [(0, .ref (a 0))] := hl
  have hk8 : k ≤ 8 := hM.2.1
  have hk1 : 1 ≤ k := hM.1
  have hiX1 : ∀ w ∈ u_ws RX1 TX1 9, w ∈ wsX1_shortest := by decide +kernel
  have hw16 : (Cond.fieldLink RX1 16 "OldMeasures" "lengths" "[J").before ([.ref (a 0)] : List Value).toArray s = true := hts _ (by decide +kernel)
  have hw33 : (Cond.fieldLink RX1 33 "OldMeasures" "measureCount" "I").before ([.ref (a 0)] : List Value).toArray s = true := hts _ (by decide +kernel)
  refine lv_iconst (v := 0) hx hb dX1_shortest_0 (by decide) ?_
  refine lv_istore_n (lv' := [(1, .int 0), (0, .ref (a 0))]) hx hb dX1_shortest_1 rfl hl (by decide) rfl (fun ls hl => ?_)
  refine lv_iconst (v := 1) hx hb dX1_shortest_2 (by decide) ?_
  refine lv_istore_n (lv' := [(2, .int 1), (1, .int 0), (0, .ref (a 0))]) hx hb dX1_shortest_3 rfl hl (by decide) rfl (fun ls hl => ?_)
  refine loopR (σ := Unit) (I := fun i x ls => lv_has ls 3 [(0, .ref (a 0)), (1, .int (nI (shN fL i))), (2, .int (nI (i + 1)))] ∧ (True)) (k - 1) ?_ 0 () ls (by omega) ⟨lv_sub hl [2, 1, 0] rfl, trivial⟩
  intro i x ls hi hI kk
  obtain ⟨hl, _⟩ := hI
  refine lv_iload_n hx hb dX1_shortest_4 rfl (lv_at hl 2 rfl) ?_
  refine lv_aload_n hx hb dX1_shortest_5 rfl (lv_at hl 0 rfl) ?_
  refine va_get (D := D) (ci := 1) (v := .int (nI k)) (C := RX1) (T := TX1) (N := 9) hx hb hts hiX1 hown hK hP 0 rfl rfl 6 (by decide) hw33 (fun _ h9 => h9) rfl dX1_shortest_6 ?_
  refine lv_icmp_ge (tgt := 36) hx hb dX1_shortest_9 (by decide) (fun c_9 => ?_) (fun c_9 => ?_)
  · skip
    simp only [Int32.le_iff_toInt_le] at c_9
    rw [nI_toInt (n := (i + 1)) (by omega)] at c_9
    rw [nI_toInt (n := k) (by omega)] at c_9
    have e9 : (k - 1) = i := by omega
    subst e9
    refine lv_iload_n hx hb dX1_shortest_36 rfl (lv_at hl 1 rfl) ?_
    exact W.iret (v := (nI (shN fL (k - 1)))) hx hb hr (fun t9 ht hW => ⟨_, rfl, rfl, ht⟩) (fun q hq => absurd hq List.not_mem_nil) dX1_shortest_37
  · skip
    simp only [Int32.le_iff_toInt_le] at c_9
    rw [nI_toInt (n := (i + 1)) (by omega)] at c_9
    rw [nI_toInt (n := k) (by omega)] at c_9
    have hs := shN_le fL i
    refine lv_aload_n hx hb dX1_shortest_12 rfl (lv_at hl 0 rfl) ?_
    refine va_get (D := D) (ci := 1) (v := .ref (a 3)) (C := RX1) (T := TX1) (N := 9) hx hb hts hiX1 hown hK hP 0 rfl rfl 2 (by decide) hw16 (fun _ h9 => h9) rfl dX1_shortest_13 ?_
    refine lv_iload_n hx hb dX1_shortest_16 rfl (lv_at hl 2 rfl) ?_
    refine xa_lald hx hb hK hP 3 1 rfl rfl (by omega) (by decide) dX1_shortest_17 ?_
    refine lv_aload_n hx hb dX1_shortest_18 rfl (lv_at hl 0 rfl) ?_
    refine va_get (D := D) (ci := 1) (v := .ref (a 3)) (C := RX1) (T := TX1) (N := 9) hx hb hts hiX1 hown hK hP 0 rfl rfl 2 (by decide) hw16 (fun _ h9 => h9) rfl dX1_shortest_19 ?_
    refine lv_iload_n hx hb dX1_shortest_22 rfl (lv_at hl 1 rfl) ?_
    refine xa_lald hx hb hK hP 3 1 rfl rfl (by omega) (by decide) dX1_shortest_23 ?_
    refine W.lcmp hx hb dX1_shortest_24 ?_
    refine lv_if_ge (tgt := 30) hx hb dX1_shortest_25 (by decide) (fun c_25 => ?_) (fun c_25 => ?_)
    · skip
      have c_25 := (lgc_ge _ _).mp c_25
      have e7 : shN fL (i + 1) = shN fL i := ic_f (by omega)
      refine lv_iinc (v := (nI ((i + 1) + 1))) (lv' := [(2, .int (nI ((i + 1) + 1))), (0, .ref (a 0)), (1, .int (nI (shN fL i)))]) hx hb dX1_shortest_30 hl (k := 2) rfl (nI_inc (i + 1)) (by decide) rfl (fun ls hl => ?_)
      refine lv_goto (tgt := 4) hx hb dX1_shortest_33 (by decide) ?_
      exact kk () ls (by omega) ⟨by rw [e7]; exact lv_sub hl [1, 2, 0] rfl, trivial⟩
    · skip
      have c_25 := (not_congr (lgc_ge _ _)).mp c_25
      have e7 : shN fL (i + 1) = i + 1 := ic_t (by omega)
      refine lv_iload_n hx hb dX1_shortest_28 rfl (lv_at hl 2 rfl) ?_
      refine lv_istore_n (lv' := [(1, .int (nI (i + 1))), (0, .ref (a 0)), (2, .int (nI (i + 1)))]) hx hb dX1_shortest_29 rfl hl (by decide) rfl (fun ls hl => ?_)
      refine lv_iinc (v := (nI ((i + 1) + 1))) (lv' := [(2, .int (nI ((i + 1) + 1))), (1, .int (nI (i + 1))), (0, .ref (a 0))]) hx hb dX1_shortest_30 hl (k := 2) rfl (nI_inc (i + 1)) (by decide) rfl (fun ls hl => ?_)
      refine lv_goto (tgt := 4) hx hb dX1_shortest_33 (by decide) ?_
      exact kk () ls (by omega) ⟨by rw [e7]; exact lv_sub hl [2, 1, 0] rfl, trivial⟩

set_option maxHeartbeats 4000000 in
set_option maxRecDepth 100000 in
theorem c_X1_mostHonest (l : Launch) (D : va_G) (cI cJ cR : ClassId) (a : Nat → Nat) (k st : Nat) (fi : Int32) (fB fS fO : Nat → Int32) (fL : Nat → Int64) (c : Nat) (t : Int32) (y : Nat) (fW fD : Nat → Int32) (c2 t2 y2 : Int32) (gW gD : Nat → Int32) (hc : c ≤ 6) (hD3 : ∀ j, j < c → -300 ≤ (fD j).toInt ∧ (fD j).toInt ≤ 300) : Met l yX1_mostHonest wsX1_mostHonest ({ frames := 1, cells := 0, slots := 0, locals := 21 }) (cP D [((a 0), .inr (1, [.ref (a 1), .ref (a 2), .ref (a 3), .ref (a 4), .ref (a 5), .ref (a 8), .int (nI k), .int (nI st), .int fi])), ((a 1), .inl (cI, 8, .inl fB)), ((a 2), .inl (cI, 8, .inl fS)), ((a 3), .inl (cJ, 8, .inr (.inl fL))), ((a 4), .inl (cI, 8, .inl fO)), ((a 5), .inr (0, [.ref (a 6), .ref (a 7), .int (nI c), .int t, .int (nI y)])), ((a 6), .inl (cI, 6, .inl fW)), ((a 7), .inl (cI, 6, .inl fD)), ((a 8), .inr (0, [.ref (a 9), .ref (a 10), .int c2, .int t2, .int y2])), ((a 9), .inl (cI, 6, .inl gW)), ((a 10), .inl (cI, 6, .inl gD))] (KC D cI cJ cR) [.ref (a 0)]) (roi (fun r => r = bhN fD c)) 0 0 (fun _ => False) := by
  refine Met.ofW (cc := cX1_mostHonest) (maxL := 5) (ret := (some .int)) (by decide +kernel) rfl ?_
  intro p e s m args below meth c9 s₁ B hml hv
  obtain ⟨rfl, hP, hC⟩ := hv
  have hx := B.exec
  have hb := B.bytes
  have hr := B.returns
  have hts := atoms_spec (ws := wsX1_mostHonest) B.pre
  have hown : s.vm.findClass RX1 = some m.cls := findClass_of_methodNamed B.named
  have hlocks := B.notSynchronized
  have hK : va_K D vwCl [(cI, .int), (cJ, .long), (cR, .array .int)] s := hC.1
  have hl := lv_entry ([.ref (a 0)]) (n := 5) (Nat.le_of_ble_eq_true rfl)
  rw [lg_entry_eq]
  generalize (lg_sl ([.ref (a 0)]) ++ List.replicate (5 - (lg_sl ([.ref (a 0)])).length) Slot.unset).toArray = ls at hl ⊢
  have hl : lv_has ls 5 [(0, .ref (a 0))] := hl
  have hiX0 : ∀ w ∈ u_ws RX0 TX0 5, w ∈ wsX1_mostHonest := by decide +kernel
  have hiX1 : ∀ w ∈ u_ws RX1 TX1 9, w ∈ wsX1_mostHonest := by decide +kernel
  have hw26 : (Cond.fieldLink RX1 26 "OldMeasures" "stalls" "LOldMeasures$Stalls;").before ([.ref (a 0)] : List Value).toArray s = true := hts _ (by decide +kernel)
  refine lv_iconst (v := (-1)) hx hb dX1_mostHonest_0 (by decide) ?_
  refine lv_istore_n (lv' := [(1, .int (-1)), (0, .ref (a 0))]) hx hb dX1_mostHonest_1 rfl hl (by decide) rfl (fun ls hl => ?_)
  refine lv_sipush (v := 301) hx hb dX1_mostHonest_2 (by decide) ?_
  refine lv_istore_n (lv' := [(2, .int 301), (1, .int (-1)), (0, .ref (a 0))]) hx hb dX1_mostHonest_5 rfl hl (by decide) rfl (fun ls hl => ?_)
  refine lv_iconst (v := 0) hx hb dX1_mostHonest_6 (by decide) ?_
  refine lv_istore_n (lv' := [(3, .int 0), (2, .int 301), (1, .int (-1)), (0, .ref (a 0))]) hx hb dX1_mostHonest_7 rfl hl (by decide) rfl (fun ls hl => ?_)
  refine loopR (σ := Unit) (I := fun i x ls => lv_has ls 5 [(0, .ref (a 0)), (1, .int (bhN fD i)), (2, .int (bhV fD i)), (3, .int (nI i))] ∧ (True)) c ?_ 0 () ls (by omega) ⟨by rw [bhV_0]; exact lv_sub hl [3, 2, 1, 0] rfl, trivial⟩
  intro i x ls hi hI kk
  obtain ⟨hl, _⟩ := hI
  refine lv_iload_n hx hb dX1_mostHonest_8 rfl (lv_at hl 3 rfl) ?_
  refine lv_aload_n hx hb dX1_mostHonest_9 rfl (lv_at hl 0 rfl) ?_
  refine va_get (D := D) (ci := 1) (v := .ref (a 5)) (C := RX1) (T := TX1) (N := 9) hx hb hts hiX1 hown hK hP 0 rfl rfl 4 (by decide) hw26 (fun _ h9 => h9) rfl dX1_mostHonest_10 ?_
  refine va_getN (host := RX1) (D := D) (ci := 0) (v := .int (nI c)) (C := RX0) (T := TX0) (N := 5) hx hb hts hiX0 hown hK hP 5 rfl rfl 2 (by decide) (va_Nw.use rfl hC.2.2.1) (fun _ h9 => h9) rfl dX1_mostHonest_13 ?_
  refine lv_icmp_ge (tgt := 50) hx hb dX1_mostHonest_16 (by decide) (fun c_16 => ?_) (fun c_16 => ?_)
  · skip
    simp only [Int32.le_iff_toInt_le] at c_16
    rw [nI_toInt (n := i) (by omega)] at c_16
    rw [nI_toInt (n := c) (by omega)] at c_16
    have e9 : c = i := by omega
    subst e9
    refine lv_iload_n hx hb dX1_mostHonest_50 rfl (lv_at hl 1 rfl) ?_
    exact W.iret (v := (bhN fD c)) hx hb hr (fun t9 ht hW => ⟨_, rfl, rfl, ht⟩) (fun q hq => absurd hq List.not_mem_nil) dX1_mostHonest_51
  · skip
    simp only [Int32.le_iff_toInt_le] at c_16
    rw [nI_toInt (n := i) (by omega)] at c_16
    rw [nI_toInt (n := c) (by omega)] at c_16
    refine lv_aload_n hx hb dX1_mostHonest_19 rfl (lv_at hl 0 rfl) ?_
    refine va_get (D := D) (ci := 1) (v := .ref (a 5)) (C := RX1) (T := TX1) (N := 9) hx hb hts hiX1 hown hK hP 0 rfl rfl 4 (by decide) hw26 (fun _ h9 => h9) rfl dX1_mostHonest_20 ?_
    refine va_getN (host := RX1) (D := D) (ci := 0) (v := .ref (a 7)) (C := RX0) (T := TX0) (N := 5) hx hb hts hiX0 hown hK hP 5 rfl rfl 1 (by decide) (va_Nw.use rfl hC.2.2.2.2.1) (fun _ h9 => h9) rfl dX1_mostHonest_23 ?_
    refine lv_iload_n hx hb dX1_mostHonest_26 rfl (lv_at hl 3 rfl) ?_
    refine xa_iald hx hb hK hP 7 0 rfl rfl (by omega) (by decide) dX1_mostHonest_27 ?_
    refine va_mabs hx hb (by rw [hml]; exact hl.1.symm) hown (hts (.methodLink RX1 126 Lib.Math.abs.name) (by decide +kernel)) (hts (.static Lib.Math.abs.name) (by decide +kernel)) (hts (.initialized "java/lang/Math") (by decide +kernel)) (hts (.code Lib.Math.abs.name Lib.Math.abs.code 1 (some .int)) (by decide +kernel)) (by first | decide | exact Nat.le_of_ble_eq_true rfl) (by first | decide | exact Nat.le_of_ble_eq_true rfl) (by first | decide | exact Nat.le_of_ble_eq_true rfl) (by first | decide | exact Nat.le_of_ble_eq_true rfl) dX1_mostHonest_28 ?_
    refine topI (y := absI (fD i)) rfl ?_
    refine lv_istore (lv' := [(4, .int (absI (fD i))), (0, .ref (a 0)), (1, .int (bhN fD i)), (2, .int (bhV fD i)), (3, .int (nI i))]) hx hb dX1_mostHonest_31 hl (by decide) rfl (fun ls hl => ?_)
    refine lv_iload hx hb dX1_mostHonest_33 (lv_at hl 0 rfl) ?_
    refine lv_iload_n hx hb dX1_mostHonest_35 rfl (lv_at hl 3 rfl) ?_
    refine lv_icmp_ge (tgt := 44) hx hb dX1_mostHonest_36 (by decide) (fun c_36 => ?_) (fun c_36 => ?_)
    · skip
      simp only [Int32.le_iff_toInt_le] at c_36
      have e7 := bh_no (abs300 (hD3 i (by omega))) c_36
      refine lv_iinc (v := (nI (i + 1))) (lv' := [(3, .int (nI (i + 1))), (4, .int (absI (fD i))), (0, .ref (a 0)), (1, .int (bhN fD i)), (2, .int (bhV fD i))]) hx hb dX1_mostHonest_44 hl (k := 4) rfl (nI_inc i) (by decide) rfl (fun ls hl => ?_)
      refine lv_goto (tgt := 8) hx hb dX1_mostHonest_47 (by decide) ?_
      exact kk () ls (by omega) ⟨by rw [e7.1, e7.2]; exact lv_sub hl [2, 3, 4, 0] rfl, trivial⟩
    · skip
      simp only [Int32.le_iff_toInt_le] at c_36
      have e7 := bh_yes (fD := fD) (i := i) (by omega) c_36
      refine lv_iload hx hb dX1_mostHonest_39 (lv_at hl 0 rfl) ?_
      refine lv_istore_n (lv' := [(2, .int (absI (fD i))), (4, .int (absI (fD i))), (0, .ref (a 0)), (1, .int (bhN fD i)), (3, .int (nI i))]) hx hb dX1_mostHonest_41 rfl hl (by decide) rfl (fun ls hl => ?_)
      refine lv_iload_n hx hb dX1_mostHonest_42 rfl (lv_at hl 4 rfl) ?_
      refine lv_istore_n (lv' := [(1, .int (nI i)), (2, .int (absI (fD i))), (4, .int (absI (fD i))), (0, .ref (a 0)), (3, .int (nI i))]) hx hb dX1_mostHonest_43 rfl hl (by decide) rfl (fun ls hl => ?_)
      refine lv_iinc (v := (nI (i + 1))) (lv' := [(3, .int (nI (i + 1))), (1, .int (nI i)), (2, .int (absI (fD i))), (4, .int (absI (fD i))), (0, .ref (a 0))]) hx hb dX1_mostHonest_44 hl (k := 4) rfl (nI_inc i) (by decide) rfl (fun ls hl => ?_)
      refine lv_goto (tgt := 8) hx hb dX1_mostHonest_47 (by decide) ?_
      exact kk () ls (by omega) ⟨by rw [e7.1, e7.2]; exact lv_sub hl [4, 1, 2, 0] rfl, trivial⟩

set_option maxHeartbeats 4000000 in
set_option maxRecDepth 100000 in
theorem c_X1_mostGenerous (l : Launch) (D : va_G) (cI cJ cR : ClassId) (a : Nat → Nat) (k st : Nat) (fi : Int32) (fB fS fO : Nat → Int32) (fL : Nat → Int64) (c : Nat) (t : Int32) (y : Nat) (fW fD : Nat → Int32) (c2 t2 y2 : Int32) (gW gD : Nat → Int32) (hc : c ≤ 6) (hD3 : ∀ j, j < c → -300 ≤ (fD j).toInt ∧ (fD j).toInt ≤ 300) : Met l yX1_mostGenerous wsX1_mostGenerous ({ frames := 3, cells := 0, slots := 0, locals := 60 }) (cP D [((a 0), .inr (1, [.ref (a 1), .ref (a 2), .ref (a 3), .ref (a 4), .ref (a 5), .ref (a 8), .int (nI k), .int (nI st), .int fi])), ((a 1), .inl (cI, 8, .inl fB)), ((a 2), .inl (cI, 8, .inl fS)), ((a 3), .inl (cJ, 8, .inr (.inl fL))), ((a 4), .inl (cI, 8, .inl fO)), ((a 5), .inr (0, [.ref (a 6), .ref (a 7), .int (nI c), .int t, .int (nI y)])), ((a 6), .inl (cI, 6, .inl fW)), ((a 7), .inl (cI, 6, .inl fD)), ((a 8), .inr (0, [.ref (a 9), .ref (a 10), .int c2, .int t2, .int y2])), ((a 9), .inl (cI, 6, .inl gW)), ((a 10), .inl (cI, 6, .inl gD))] (KC D cI cJ cR) [.ref (a 0)]) (roi (fun r => r = bgN fD c)) 0 0 (fun _ => False) := by
  refine Met.ofW (cc := cX1_mostGenerous) (maxL := 4) (ret := (some .int)) (by decide +kernel) rfl ?_
  intro p e s m args below meth c9 s₁ B hml hv
  obtain ⟨rfl, hP, hC⟩ := hv
  have hx := B.exec
  have hb := B.bytes
  have hr := B.returns
  have hts := atoms_spec (ws := wsX1_mostGenerous) B.pre
  have hown : s.vm.findClass RX1 = some m.cls := findClass_of_methodNamed B.named
  have hlocks := B.notSynchronized
  have hK : va_K D vwCl [(cI, .int), (cJ, .long), (cR, .array .int)] s := hC.1
  have hl := lv_entry ([.ref (a 0)]) (n := 4) (Nat.le_of_ble_eq_true rfl)
  rw [lg_entry_eq]
  generalize (lg_sl ([.ref (a 0)]) ++ List.replicate (4 - (lg_sl ([.ref (a 0)])).length) Slot.unset).toArray = ls at hl ⊢
  have hl : lv_has ls 4 [(0, .ref (a 0))] := hl
  have hiX0 : ∀ w ∈ u_ws RX0 TX0 5, w ∈ wsX1_mostGenerous := by decide +kernel
  have hiX1 : ∀ w ∈ u_ws RX1 TX1 9, w ∈ wsX1_mostGenerous := by decide +kernel
  have hw26 : (Cond.fieldLink RX1 26 "OldMeasures" "stalls" "LOldMeasures$Stalls;").before ([.ref (a 0)] : List Value).toArray s = true := hts _ (by decide +kernel)
  refine lv_iconst (v := (-1)) hx hb dX1_mostGenerous_0 (by decide) ?_
  refine lv_istore_n (lv' := [(1, .int (-1)), (0, .ref (a 0))]) hx hb dX1_mostGenerous_1 rfl hl (by decide) rfl (fun ls hl => ?_)
  refine lv_sipush (v := (-301)) hx hb dX1_mostGenerous_2 (by decide) ?_
  refine lv_istore_n (lv' := [(2, .int (-301)), (1, .int (-1)), (0, .ref (a 0))]) hx hb dX1_mostGenerous_5 rfl hl (by decide) rfl (fun ls hl => ?_)
  refine lv_iconst (v := 0) hx hb dX1_mostGenerous_6 (by decide) ?_
  refine lv_istore_n (lv' := [(3, .int 0), (2, .int (-301)), (1, .int (-1)), (0, .ref (a 0))]) hx hb dX1_mostGenerous_7 rfl hl (by decide) rfl (fun ls hl => ?_)
  refine loopR (σ := Unit) (I := fun i x ls => lv_has ls 4 [(0, .ref (a 0)), (1, .int (bgN fD i)), (2, .int (bgV fD i)), (3, .int (nI i))] ∧ (True)) c ?_ 0 () ls (by omega) ⟨by rw [bgV_0]; exact lv_sub hl [3, 2, 1, 0] rfl, trivial⟩
  intro i x ls hi hI kk
  obtain ⟨hl, _⟩ := hI
  refine lv_iload_n hx hb dX1_mostGenerous_8 rfl (lv_at hl 3 rfl) ?_
  refine lv_aload_n hx hb dX1_mostGenerous_9 rfl (lv_at hl 0 rfl) ?_
  refine va_get (D := D) (ci := 1) (v := .ref (a 5)) (C := RX1) (T := TX1) (N := 9) hx hb hts hiX1 hown hK hP 0 rfl rfl 4 (by decide) hw26 (fun _ h9 => h9) rfl dX1_mostGenerous_10 ?_
  refine va_getN (host := RX1) (D := D) (ci := 0) (v := .int (nI c)) (C := RX0) (T := TX0) (N := 5) hx hb hts hiX0 hown hK hP 5 rfl rfl 2 (by decide) (va_Nw.use rfl hC.2.2.1) (fun _ h9 => h9) rfl dX1_mostGenerous_13 ?_
  refine lv_icmp_ge (tgt := 50) hx hb dX1_mostGenerous_16 (by decide) (fun c_16 => ?_) (fun c_16 => ?_)
  · skip
    simp only [Int32.le_iff_toInt_le] at c_16
    rw [nI_toInt (n := i) (by omega)] at c_16
    rw [nI_toInt (n := c) (by omega)] at c_16
    have e9 : c = i := by omega
    subst e9
    refine lv_iload_n hx hb dX1_mostGenerous_50 rfl (lv_at hl 1 rfl) ?_
    exact W.iret (v := (bgN fD c)) hx hb hr (fun t9 ht hW => ⟨_, rfl, rfl, ht⟩) (fun q hq => absurd hq List.not_mem_nil) dX1_mostGenerous_51
  · skip
    simp only [Int32.le_iff_toInt_le] at c_16
    rw [nI_toInt (n := i) (by omega)] at c_16
    rw [nI_toInt (n := c) (by omega)] at c_16
    refine lv_aload_n hx hb dX1_mostGenerous_19 rfl (lv_at hl 0 rfl) ?_
    refine va_get (D := D) (ci := 1) (v := .ref (a 5)) (C := RX1) (T := TX1) (N := 9) hx hb hts hiX1 hown hK hP 0 rfl rfl 4 (by decide) hw26 (fun _ h9 => h9) rfl dX1_mostGenerous_20 ?_
    refine va_getN (host := RX1) (D := D) (ci := 0) (v := .ref (a 7)) (C := RX0) (T := TX0) (N := 5) hx hb hts hiX0 hown hK hP 5 rfl rfl 1 (by decide) (va_Nw.use rfl hC.2.2.2.2.1) (fun _ h9 => h9) rfl dX1_mostGenerous_23 ?_
    refine lv_iload_n hx hb dX1_mostGenerous_26 rfl (lv_at hl 3 rfl) ?_
    refine xa_iald hx hb hK hP 7 0 rfl rfl (by omega) (by decide) dX1_mostGenerous_27 ?_
    refine lv_iload_n hx hb dX1_mostGenerous_28 rfl (lv_at hl 2 rfl) ?_
    refine lv_icmp_le (tgt := 44) hx hb dX1_mostGenerous_29 (by decide) (fun c_29 => ?_) (fun c_29 => ?_)
    · skip
      simp only [Int32.le_iff_toInt_le] at c_29
      have e7 := bg_no (hD3 i (by omega)).1 c_29
      refine lv_iinc (v := (nI (i + 1))) (lv' := [(3, .int (nI (i + 1))), (0, .ref (a 0)), (1, .int (bgN fD i)), (2, .int (bgV fD i))]) hx hb dX1_mostGenerous_44 hl (k := 3) rfl (nI_inc i) (by decide) rfl (fun ls hl => ?_)
      refine lv_goto (tgt := 8) hx hb dX1_mostGenerous_47 (by decide) ?_
      exact kk () ls (by omega) ⟨by rw [e7.1, e7.2]; exact lv_sub hl [1, 2, 3, 0] rfl, trivial⟩
    · skip
      simp only [Int32.le_iff_toInt_le] at c_29
      have e7 := bg_yes (fD := fD) (i := i) (by omega) c_29
      refine lv_aload_n hx hb dX1_mostGenerous_32 rfl (lv_at hl 0 rfl) ?_
      refine va_get (D := D) (ci := 1) (v := .ref (a 5)) (C := RX1) (T := TX1) (N := 9) hx hb hts hiX1 hown hK hP 0 rfl rfl 4 (by decide) hw26 (fun _ h9 => h9) rfl dX1_mostGenerous_33 ?_
      refine va_getN (host := RX1) (D := D) (ci := 0) (v := .ref (a 7)) (C := RX0) (T := TX0) (N := 5) hx hb hts hiX0 hown hK hP 5 rfl rfl 1 (by decide) (va_Nw.use rfl hC.2.2.2.2.1) (fun _ h9 => h9) rfl dX1_mostGenerous_36 ?_
      refine lv_iload_n hx hb dX1_mostGenerous_39 rfl (lv_at hl 3 rfl) ?_
      refine xa_iald hx hb hK hP 7 0 rfl rfl (by omega) (by decide) dX1_mostGenerous_40 ?_
      refine lv_istore_n (lv' := [(2, .int (fD i)), (0, .ref (a 0)), (1, .int (bgN fD i)), (3, .int (nI i))]) hx hb dX1_mostGenerous_41 rfl hl (by decide) rfl (fun ls hl => ?_)
      refine lv_iload_n hx hb dX1_mostGenerous_42 rfl (lv_at hl 3 rfl) ?_
      refine lv_istore_n (lv' := [(1, .int (nI i)), (2, .int (fD i)), (0, .ref (a 0)), (3, .int (nI i))]) hx hb dX1_mostGenerous_43 rfl hl (by decide) rfl (fun ls hl => ?_)
      refine lv_iinc (v := (nI (i + 1))) (lv' := [(3, .int (nI (i + 1))), (1, .int (nI i)), (2, .int (fD i)), (0, .ref (a 0))]) hx hb dX1_mostGenerous_44 hl (k := 3) rfl (nI_inc i) (by decide) rfl (fun ls hl => ?_)
      refine lv_goto (tgt := 8) hx hb dX1_mostGenerous_47 (by decide) ?_
      exact kk () ls (by omega) ⟨by rw [e7.1, e7.2]; exact lv_sub hl [3, 1, 2, 0] rfl, trivial⟩

set_option maxHeartbeats 4000000 in
set_option maxRecDepth 100000 in
theorem c_X1_givenWith (l : Launch) (D : va_G) (cI cJ cR : ClassId) (a : Nat → Nat) (k st : Nat) (fi : Int32) (fB fS fO : Nat → Int32) (fL : Nat → Int64) (c : Nat) (t : Int32) (y : Nat) (fW fD : Nat → Int32) (c2 t2 y2 : Int32) (gW gD : Nat → Int32) (hM : MOk k fL fO) (hst2 : st < k) (dr w : Int32) (j : Nat) (hj : j < k) : Met l yX1_givenWith wsX1_givenWith ({ frames := 1, cells := 0, slots := 0, locals := 30 }) (cP D [((a 0), .inr (1, [.ref (a 1), .ref (a 2), .ref (a 3), .ref (a 4), .ref (a 5), .ref (a 8), .int (nI k), .int (nI st), .int fi])), ((a 1), .inl (cI, 8, .inl fB)), ((a 2), .inl (cI, 8, .inl fS)), ((a 3), .inl (cJ, 8, .inr (.inl fL))), ((a 4), .inl (cI, 8, .inl fO)), ((a 5), .inr (0, [.ref (a 6), .ref (a 7), .int (nI c), .int t, .int (nI y)])), ((a 6), .inl (cI, 6, .inl fW)), ((a 7), .inl (cI, 6, .inl fD)), ((a 8), .inr (0, [.ref (a 9), .ref (a 10), .int c2, .int t2, .int y2])), ((a 9), .inl (cI, 6, .inl gW)), ((a 10), .inl (cI, 6, .inl gD))] (KC D cI cJ cR) [.ref (a 0), .int dr, .int w, .int (nI j)]) (rol (fun r => r = gvn (fL j) (fL st) w dr)) 0 0 (fun _ => False) := by
  refine Met.ofW (cc := cX1_givenWith) (maxL := 4) (ret := (some .long)) (by decide +kernel) rfl ?_
  intro p e s m args below meth c9 s₁ B hml hv
  obtain ⟨rfl, hP, hC⟩ := hv
  have hx := B.exec
  have hb := B.bytes
  have hr := B.returns
  have hts := atoms_spec (ws := wsX1_givenWith) B.pre
  have hown : s.vm.findClass RX1 = some m.cls := findClass_of_methodNamed B.named
  have hlocks := B.notSynchronized
  have hK : va_K D vwCl [(cI, .int), (cJ, .long), (cR, .array .int)] s := hC.1
  have hl := lv_entry ([.ref (a 0), .int dr, .int w, .int (nI j)]) (n := 4) (Nat.le_of_ble_eq_true rfl)
  rw [lg_entry_eq]
  generalize (lg_sl ([.ref (a 0), .int dr, .int w, .int (nI j)]) ++ List.replicate (4 - (lg_sl ([.ref (a 0), .int dr, .int w, .int (nI j)])).length) Slot.unset).toArray = ls at hl ⊢
  have hl : lv_has ls 4 [(0, .ref (a 0)), (1, .int dr), (2, .int w), (3, .int (nI j))] := hl
  have hk8 : k ≤ 8 := hM.2.1
  have hk1 : 1 ≤ k := hM.1
  have hiX1 : ∀ w ∈ u_ws RX1 TX1 9, w ∈ wsX1_givenWith := by decide +kernel
  have hw16 : (Cond.fieldLink RX1 16 "OldMeasures" "lengths" "[J").before ([.ref (a 0), .int dr, .int w, .int (nI j)] : List Value).toArray s = true := hts _ (by decide +kernel)
  have hw37 : (Cond.fieldLink RX1 37 "OldMeasures" "standard" "I").before ([.ref (a 0), .int dr, .int w, .int (nI j)] : List Value).toArray s = true := hts _ (by decide +kernel)
  refine lv_aload_n hx hb dX1_givenWith_0 rfl (lv_at hl 0 rfl) ?_
  refine va_get (D := D) (ci := 1) (v := .ref (a 3)) (C := RX1) (T := TX1) (N := 9) hx hb hts hiX1 hown hK hP 0 rfl rfl 2 (by decide) hw16 (fun _ h9 => h9) rfl dX1_givenWith_1 ?_
  refine lv_iload_n hx hb dX1_givenWith_4 rfl (lv_at hl 3 rfl) ?_
  refine xa_lald hx hb hK hP 3 1 rfl rfl (by omega) (by decide) dX1_givenWith_5 ?_
  refine lv_iload_n hx hb dX1_givenWith_6 rfl (lv_at hl 2 rfl) ?_
  refine lv_i2l (v := (w).toInt64) hx hb dX1_givenWith_7 rfl ?_
  refine lv_lmul hx hb dX1_givenWith_8 ?_
  refine lv_sipush (v := 1000) hx hb dX1_givenWith_9 (by decide) ?_
  refine lv_iload_n hx hb dX1_givenWith_12 rfl (lv_at hl 1 rfl) ?_
  refine lv_iadd hx hb dX1_givenWith_13 ?_
  refine lv_i2l (v := ((1000 + dr)).toInt64) hx hb dX1_givenWith_14 rfl ?_
  refine lv_lmul hx hb dX1_givenWith_15 ?_
  refine lv_aload_n hx hb dX1_givenWith_16 rfl (lv_at hl 0 rfl) ?_
  refine va_get (D := D) (ci := 1) (v := .ref (a 3)) (C := RX1) (T := TX1) (N := 9) hx hb hts hiX1 hown hK hP 0 rfl rfl 2 (by decide) hw16 (fun _ h9 => h9) rfl dX1_givenWith_17 ?_
  refine lv_aload_n hx hb dX1_givenWith_20 rfl (lv_at hl 0 rfl) ?_
  refine va_get (D := D) (ci := 1) (v := .int (nI st)) (C := RX1) (T := TX1) (N := 9) hx hb hts hiX1 hown hK hP 0 rfl rfl 7 (by decide) hw37 (fun _ h9 => h9) rfl dX1_givenWith_21 ?_
  refine xa_lald hx hb hK hP 3 1 rfl rfl (by omega) (by decide) dX1_givenWith_24 ?_
  refine ro_lE (va_runS (As := [.long (((fL j) * (w).toInt64) * ((1000 + dr)).toInt64), .long (fL st)]) (rest := []) ⟨hx, hb, hml, hown, hts⟩ (c_X1_timesIn l (((fL j) * (w).toInt64) * ((1000 + dr)).toInt64) (fL st) (hM.2.2.1 _ hst2).1) (va_cwS 2 hts gX1_givenWith_X1_timesIn rfl rfl rfl (by decide +kernel) ⟨Nat.le_of_ble_eq_true rfl, Nat.le_of_ble_eq_true rfl⟩) pre0 rfl rfl hl.1 rfl (lv_room (Nat.le_of_ble_eq_true rfl)) dX1_givenWith_25 ⟨by decide, by decide⟩) ?_
  exact W.lret (v := ((((fL j) * (w).toInt64) * ((1000 + dr)).toInt64) / (fL st))) hx hb hr (fun t9 ht hW => ⟨_, rfl, rfl, ht⟩) (fun q hq => absurd hq List.not_mem_nil) dX1_givenWith_28

set_option maxHeartbeats 4000000 in
set_option maxRecDepth 100000 in
theorem c_X1_meanDrift (l : Launch) (D : va_G) (cI cJ cR : ClassId) (a : Nat → Nat) (k st : Nat) (fi : Int32) (fB fS fO : Nat → Int32) (fL : Nat → Int64) (c : Nat) (t : Int32) (y : Nat) (fW fD : Nat → Int32) (c2 t2 y2 : Int32) (gW gD : Nat → Int32) (hc : c ≤ 6) (hD3 : ∀ j, j < c → -300 ≤ (fD j).toInt ∧ (fD j).toInt ≤ 300) : Met l yX1_meanDrift wsX1_meanDrift ({ frames := 0, cells := 0, slots := 0, locals := 0 }) (cP D [((a 0), .inr (1, [.ref (a 1), .ref (a 2), .ref (a 3), .ref (a 4), .ref (a 5), .ref (a 8), .int (nI k), .int (nI st), .int fi])), ((a 1), .inl (cI, 8, .inl fB)), ((a 2), .inl (cI, 8, .inl fS)), ((a 3), .inl (cJ, 8, .inr (.inl fL))), ((a 4), .inl (cI, 8, .inl fO)), ((a 5), .inr (0, [.ref (a 6), .ref (a 7), .int (nI c), .int t, .int (nI y)])), ((a 6), .inl (cI, 6, .inl fW)), ((a 7), .inl (cI, 6, .inl fD)), ((a 8), .inr (0, [.ref (a 9), .ref (a 10), .int c2, .int t2, .int y2])), ((a 9), .inl (cI, 6, .inl gW)), ((a 10), .inl (cI, 6, .inl gD))] (KC D cI cJ cR) [.ref (a 0)]) (rod (fun r => r = mnD c fD)) 0 0 (fun _ => False) := by
  refine Met.ofW (cc := cX1_meanDrift) (maxL := 3) (ret := (some .double)) (by decide +kernel) rfl ?_
  intro p e s m args below meth c9 s₁ B hml hv
  obtain ⟨rfl, hP, hC⟩ := hv
  have hx := B.exec
  have hb := B.bytes
  have hr := B.returns
  have hts := atoms_spec (ws := wsX1_meanDrift) B.pre
  have hown : s.vm.findClass RX1 = some m.cls := findClass_of_methodNamed B.named
  have hlocks := B.notSynchronized
  have hK : va_K D vwCl [(cI, .int), (cJ, .long), (cR, .array .int)] s := hC.1
  have hl := lv_entry ([.ref (a 0)]) (n := 3) (Nat.le_of_ble_eq_true rfl)
  rw [lg_entry_eq]
  generalize (lg_sl ([.ref (a 0)]) ++ List.replicate (3 - (lg_sl ([.ref (a 0)])).length) Slot.unset).toArray = ls at hl ⊢
  have hl : lv_has ls 3 [(0, .ref (a 0))] := hl
  have hiX0 : ∀ w ∈ u_ws RX0 TX0 5, w ∈ wsX1_meanDrift := by decide +kernel
  have hiX1 : ∀ w ∈ u_ws RX1 TX1 9, w ∈ wsX1_meanDrift := by decide +kernel
  have hw26 : (Cond.fieldLink RX1 26 "OldMeasures" "stalls" "LOldMeasures$Stalls;").before ([.ref (a 0)] : List Value).toArray s = true := hts _ (by decide +kernel)
  refine lv_aload_n hx hb dX1_meanDrift_0 rfl (lv_at hl 0 rfl) ?_
  refine va_get (D := D) (ci := 1) (v := .ref (a 5)) (C := RX1) (T := TX1) (N := 9) hx hb hts hiX1 hown hK hP 0 rfl rfl 4 (by decide) hw26 (fun _ h9 => h9) rfl dX1_meanDrift_1 ?_
  refine va_getN (host := RX1) (D := D) (ci := 0) (v := .int (nI c)) (C := RX0) (T := TX0) (N := 5) hx hb hts hiX0 hown hK hP 5 rfl rfl 2 (by decide) (va_Nw.use rfl hC.2.2.1) (fun _ h9 => h9) rfl dX1_meanDrift_4 ?_
  refine lv_iconst (v := 1) hx hb dX1_meanDrift_7 (by decide) ?_
  refine lv_icmp_ge (tgt := 13) hx hb dX1_meanDrift_8 (by decide) (fun c_8 => ?_) (fun c_8 => ?_)
  · skip
    simp only [Int32.le_iff_toInt_le] at c_8
    rw [nI_toInt (n := c) (by omega)] at c_8
    rw [(by decide : (1 : Int32).toInt = 1)] at c_8
    refine lv_iconst (v := 0) hx hb dX1_meanDrift_13 (by decide) ?_
    refine lv_istore_n (lv' := [(1, .int 0), (0, .ref (a 0))]) hx hb dX1_meanDrift_14 rfl hl (by decide) rfl (fun ls hl => ?_)
    refine lv_iconst (v := 0) hx hb dX1_meanDrift_15 (by decide) ?_
    refine lv_istore_n (lv' := [(2, .int 0), (1, .int 0), (0, .ref (a 0))]) hx hb dX1_meanDrift_16 rfl hl (by decide) rfl (fun ls hl => ?_)
    have hc0 : ¬ c = 0 := by omega
    refine loopR (σ := Unit) (I := fun i x ls => lv_has ls 3 [(0, .ref (a 0)), (1, .int (smD fD i)), (2, .int (nI i))] ∧ (True)) c ?_ 0 () ls (by omega) ⟨lv_sub hl [2, 1, 0] rfl, trivial⟩
    intro i x ls hi hI kk
    obtain ⟨hl, _⟩ := hI
    refine lv_iload_n hx hb dX1_meanDrift_17 rfl (lv_at hl 2 rfl) ?_
    refine lv_aload_n hx hb dX1_meanDrift_18 rfl (lv_at hl 0 rfl) ?_
    refine va_get (D := D) (ci := 1) (v := .ref (a 5)) (C := RX1) (T := TX1) (N := 9) hx hb hts hiX1 hown hK hP 0 rfl rfl 4 (by decide) hw26 (fun _ h9 => h9) rfl dX1_meanDrift_19 ?_
    refine va_getN (host := RX1) (D := D) (ci := 0) (v := .int (nI c)) (C := RX0) (T := TX0) (N := 5) hx hb hts hiX0 hown hK hP 5 rfl rfl 2 (by decide) (va_Nw.use rfl hC.2.2.1) (fun _ h9 => h9) rfl dX1_meanDrift_22 ?_
    refine lv_icmp_ge (tgt := 46) hx hb dX1_meanDrift_25 (by decide) (fun c_25 => ?_) (fun c_25 => ?_)
    · skip
      simp only [Int32.le_iff_toInt_le] at c_25
      rw [nI_toInt (n := i) (by omega)] at c_25
      rw [nI_toInt (n := c) (by omega)] at c_25
      have e9 : c = i := by omega
      subst e9
      refine lv_iload_n hx hb dX1_meanDrift_46 rfl (lv_at hl 1 rfl) ?_
      refine lv_i2d hx hb dX1_meanDrift_47 ?_
      refine lv_aload_n hx hb dX1_meanDrift_48 rfl (lv_at hl 0 rfl) ?_
      refine va_get (D := D) (ci := 1) (v := .ref (a 5)) (C := RX1) (T := TX1) (N := 9) hx hb hts hiX1 hown hK hP 0 rfl rfl 4 (by decide) hw26 (fun _ h9 => h9) rfl dX1_meanDrift_49 ?_
      refine va_getN (host := RX1) (D := D) (ci := 0) (v := .int (nI c)) (C := RX0) (T := TX0) (N := 5) hx hb hts hiX0 hown hK hP 5 rfl rfl 2 (by decide) (va_Nw.use rfl hC.2.2.1) (fun _ h9 => h9) rfl dX1_meanDrift_52 ?_
      refine lv_i2d hx hb dX1_meanDrift_55 ?_
      refine lv_ddiv hx hb dX1_meanDrift_56 (vf_mean (smD_b hc hD3).1 (smD_b hc hD3).2 hc0 hc) ?_
      exact W.dret (v := (FP.ddiv (FP.i2d (smD fD c)) (FP.i2d (nI c)))) hx hb hr (fun t9 ht hW => ⟨_, rfl, (ic_f hc0).symm, ht⟩) (fun q hq => absurd hq List.not_mem_nil) dX1_meanDrift_57
    · skip
      simp only [Int32.le_iff_toInt_le] at c_25
      rw [nI_toInt (n := i) (by omega)] at c_25
      rw [nI_toInt (n := c) (by omega)] at c_25
      refine lv_iload_n hx hb dX1_meanDrift_28 rfl (lv_at hl 1 rfl) ?_
      refine lv_aload_n hx hb dX1_meanDrift_29 rfl (lv_at hl 0 rfl) ?_
      refine va_get (D := D) (ci := 1) (v := .ref (a 5)) (C := RX1) (T := TX1) (N := 9) hx hb hts hiX1 hown hK hP 0 rfl rfl 4 (by decide) hw26 (fun _ h9 => h9) rfl dX1_meanDrift_30 ?_
      refine va_getN (host := RX1) (D := D) (ci := 0) (v := .ref (a 7)) (C := RX0) (T := TX0) (N := 5) hx hb hts hiX0 hown hK hP 5 rfl rfl 1 (by decide) (va_Nw.use rfl hC.2.2.2.2.1) (fun _ h9 => h9) rfl dX1_meanDrift_33 ?_
      refine lv_iload_n hx hb dX1_meanDrift_36 rfl (lv_at hl 2 rfl) ?_
      refine xa_iald hx hb hK hP 7 0 rfl rfl (by omega) (by decide) dX1_meanDrift_37 ?_
      refine lv_iadd hx hb dX1_meanDrift_38 ?_
      refine lv_istore_n (lv' := [(1, .int ((smD fD i) + (fD i))), (0, .ref (a 0)), (2, .int (nI i))]) hx hb dX1_meanDrift_39 rfl hl (by decide) rfl (fun ls hl => ?_)
      refine lv_iinc (v := (nI (i + 1))) (lv' := [(2, .int (nI (i + 1))), (1, .int ((smD fD i) + (fD i))), (0, .ref (a 0))]) hx hb dX1_meanDrift_40 hl (k := 2) rfl (nI_inc i) (by decide) rfl (fun ls hl => ?_)
      refine lv_goto (tgt := 17) hx hb dX1_meanDrift_43 (by decide) ?_
      exact kk () ls (by omega) ⟨lv_sub hl [2, 1, 0] rfl, trivial⟩
  · skip
    simp only [Int32.le_iff_toInt_le] at c_8
    rw [nI_toInt (n := c) (by omega)] at c_8
    rw [(by decide : (1 : Int32).toInt = 1)] at c_8
    refine lv_dconst0 hx hb dX1_meanDrift_11 ?_
    exact W.dret (v := FP.dconst0) hx hb hr (fun t9 ht hW => ⟨_, rfl, (ic_t (by omega)).symm, ht⟩) (fun q hq => absurd hq List.not_mem_nil) dX1_meanDrift_12

set_option maxHeartbeats 4000000 in
set_option maxRecDepth 100000 in
theorem k_X1_needMeasure (l : Launch) (D : va_G) (cI cJ cR : ClassId) (a : Nat → Nat) (k st : Nat) (fi : Int32) (fB fS fO : Nat → Int32) (fL : Nat → Int64) (c : Nat) (t : Int32) (y : Nat) (fW fD : Nat → Int32) (c2 t2 y2 : Int32) (gW gD : Nat → Int32) (hk : k ≤ 8) (j : Nat) (hj : j < k) : Met l yX1_needMeasure wsX1_needMeasure ({ frames := 1, cells := 0, slots := 0, locals := 22 }) (cP D [((a 0), .inr (1, [.ref (a 1), .ref (a 2), .ref (a 3), .ref (a 4), .ref (a 5), .ref (a 8), .int (nI k), .int (nI st), .int fi])), ((a 1), .inl (cI, 8, .inl fB)), ((a 2), .inl (cI, 8, .inl fS)), ((a 3), .inl (cJ, 8, .inr (.inl fL))), ((a 4), .inl (cI, 8, .inl fO)), ((a 5), .inr (0, [.ref (a 6), .ref (a 7), .int (nI c), .int t, .int (nI y)])), ((a 6), .inl (cI, 6, .inl fW)), ((a 7), .inl (cI, 6, .inl fD)), ((a 8), .inr (0, [.ref (a 9), .ref (a 10), .int c2, .int t2, .int y2])), ((a 9), .inl (cI, 6, .inl gW)), ((a 10), .inl (cI, 6, .inl gD))] (KC D cI cJ cR) [.ref (a 0), .int (nI j)]) (rov (True)) 0 0 (fun _ => False) := by
  refine Met.ofW (cc := cX1_needMeasure) (maxL := 2) (ret := none) (by decide +kernel) rfl ?_
  intro p e s m args below meth c9 s₁ B hml hv
  obtain ⟨rfl, hP, hC⟩ := hv
  have hx := B.exec
  have hb := B.bytes
  have hr := B.returns
  have hts := atoms_spec (ws := wsX1_needMeasure) B.pre
  have hown : s.vm.findClass RX1 = some m.cls := findClass_of_methodNamed B.named
  have hlocks := B.notSynchronized
  have hK : va_K D vwCl [(cI, .int), (cJ, .long), (cR, .array .int)] s := hC.1
  have hl := lv_entry ([.ref (a 0), .int (nI j)]) (n := 2) (Nat.le_of_ble_eq_true rfl)
  rw [lg_entry_eq]
  generalize (lg_sl ([.ref (a 0), .int (nI j)]) ++ List.replicate (2 - (lg_sl ([.ref (a 0), .int (nI j)])).length) Slot.unset).toArray = ls at hl ⊢
  have hl : lv_has ls 2 [(0, .ref (a 0)), (1, .int (nI j))] := hl
  have hiX1 : ∀ w ∈ u_ws RX1 TX1 9, w ∈ wsX1_needMeasure := by decide +kernel
  have hw33 : (Cond.fieldLink RX1 33 "OldMeasures" "measureCount" "I").before ([.ref (a 0), .int (nI j)] : List Value).toArray s = true := hts _ (by decide +kernel)
  refine lv_iload_n hx hb dX1_needMeasure_0 rfl (lv_at hl 1 rfl) ?_
  refine lv_iconst (v := 0) hx hb dX1_needMeasure_1 (by decide) ?_
  refine lv_aload_n hx hb dX1_needMeasure_2 rfl (lv_at hl 0 rfl) ?_
  refine va_get (D := D) (ci := 1) (v := .int (nI k)) (C := RX1) (T := TX1) (N := 9) hx hb hts hiX1 hown hK hP 0 rfl rfl 6 (by decide) hw33 (fun _ h9 => h9) rfl dX1_needMeasure_3 ?_
  refine lv_iconst (v := 1) hx hb dX1_needMeasure_6 (by decide) ?_
  refine lv_isub hx hb dX1_needMeasure_7 ?_
  refine ro_iE (va_runS (As := [.int (nI j), .int 0, .int ((nI k) - 1)]) (rest := []) ⟨hx, hb, hml, hown, hts⟩ (c_X1_isOutside l (nI j) 0 ((nI k) - 1)) (va_cwS 3 hts gX1_needMeasure_X1_isOutside rfl rfl rfl (by decide +kernel) ⟨Nat.le_of_ble_eq_true rfl, Nat.le_of_ble_eq_true rfl⟩) pre0 rfl rfl hl.1 rfl (lv_room (Nat.le_of_ble_eq_true rfl)) dX1_needMeasure_8 ⟨by decide, by decide⟩) ?_
  refine lv_if_eq (tgt := 24) hx hb dX1_needMeasure_11 (by decide) (fun c_11 => ?_) (fun c_11 => ?_)
  · skip
    have c_11 := bz_0 c_11
    exact W.vret hx hb hr (fun t9 ht hW => ⟨rfl, trivial, ht⟩) (fun q hq => absurd hq List.not_mem_nil) dX1_needMeasure_24
  · skip
    have c_11 := bz_1 c_11
    exact absurd c_11 ((inM_iff (by omega)).mpr (inM_nI hj (by omega)))

set_option maxHeartbeats 4000000 in
set_option maxRecDepth 100000 in
theorem k_X1_needStall (l : Launch) (D : va_G) (cI cJ cR : ClassId) (a : Nat → Nat) (k st : Nat) (fi : Int32) (fB fS fO : Nat → Int32) (fL : Nat → Int64) (c : Nat) (t : Int32) (y : Nat) (fW fD : Nat → Int32) (c2 t2 y2 : Int32) (gW gD : Nat → Int32) (hc : c ≤ 6) (j : Nat) (hj : j < c) : Met l yX1_needStall wsX1_needStall ({ frames := 1, cells := 0, slots := 0, locals := 22 }) (cP D [((a 0), .inr (1, [.ref (a 1), .ref (a 2), .ref (a 3), .ref (a 4), .ref (a 5), .ref (a 8), .int (nI k), .int (nI st), .int fi])), ((a 1), .inl (cI, 8, .inl fB)), ((a 2), .inl (cI, 8, .inl fS)), ((a 3), .inl (cJ, 8, .inr (.inl fL))), ((a 4), .inl (cI, 8, .inl fO)), ((a 5), .inr (0, [.ref (a 6), .ref (a 7), .int (nI c), .int t, .int (nI y)])), ((a 6), .inl (cI, 6, .inl fW)), ((a 7), .inl (cI, 6, .inl fD)), ((a 8), .inr (0, [.ref (a 9), .ref (a 10), .int c2, .int t2, .int y2])), ((a 9), .inl (cI, 6, .inl gW)), ((a 10), .inl (cI, 6, .inl gD))] (KC D cI cJ cR) [.ref (a 0), .int (nI j)]) (rov (True)) 0 0 (fun _ => False) := by
  refine Met.ofW (cc := cX1_needStall) (maxL := 2) (ret := none) (by decide +kernel) rfl ?_
  intro p e s m args below meth c9 s₁ B hml hv
  obtain ⟨rfl, hP, hC⟩ := hv
  have hx := B.exec
  have hb := B.bytes
  have hr := B.returns
  have hts := atoms_spec (ws := wsX1_needStall) B.pre
  have hown : s.vm.findClass RX1 = some m.cls := findClass_of_methodNamed B.named
  have hlocks := B.notSynchronized
  have hK : va_K D vwCl [(cI, .int), (cJ, .long), (cR, .array .int)] s := hC.1
  have hl := lv_entry ([.ref (a 0), .int (nI j)]) (n := 2) (Nat.le_of_ble_eq_true rfl)
  rw [lg_entry_eq]
  generalize (lg_sl ([.ref (a 0), .int (nI j)]) ++ List.replicate (2 - (lg_sl ([.ref (a 0), .int (nI j)])).length) Slot.unset).toArray = ls at hl ⊢
  have hl : lv_has ls 2 [(0, .ref (a 0)), (1, .int (nI j))] := hl
  have hiX0 : ∀ w ∈ u_ws RX0 TX0 5, w ∈ wsX1_needStall := by decide +kernel
  have hiX1 : ∀ w ∈ u_ws RX1 TX1 9, w ∈ wsX1_needStall := by decide +kernel
  have hw26 : (Cond.fieldLink RX1 26 "OldMeasures" "stalls" "LOldMeasures$Stalls;").before ([.ref (a 0), .int (nI j)] : List Value).toArray s = true := hts _ (by decide +kernel)
  refine lv_iload_n hx hb dX1_needStall_0 rfl (lv_at hl 1 rfl) ?_
  refine lv_iconst (v := 0) hx hb dX1_needStall_1 (by decide) ?_
  refine lv_aload_n hx hb dX1_needStall_2 rfl (lv_at hl 0 rfl) ?_
  refine va_get (D := D) (ci := 1) (v := .ref (a 5)) (C := RX1) (T := TX1) (N := 9) hx hb hts hiX1 hown hK hP 0 rfl rfl 4 (by decide) hw26 (fun _ h9 => h9) rfl dX1_needStall_3 ?_
  refine va_getN (host := RX1) (D := D) (ci := 0) (v := .int (nI c)) (C := RX0) (T := TX0) (N := 5) hx hb hts hiX0 hown hK hP 5 rfl rfl 2 (by decide) (va_Nw.use rfl hC.2.2.1) (fun _ h9 => h9) rfl dX1_needStall_6 ?_
  refine lv_iconst (v := 1) hx hb dX1_needStall_9 (by decide) ?_
  refine lv_isub hx hb dX1_needStall_10 ?_
  refine ro_iE (va_runS (As := [.int (nI j), .int 0, .int ((nI c) - 1)]) (rest := []) ⟨hx, hb, hml, hown, hts⟩ (c_X1_isOutside l (nI j) 0 ((nI c) - 1)) (va_cwS 3 hts gX1_needStall_X1_isOutside rfl rfl rfl (by decide +kernel) ⟨Nat.le_of_ble_eq_true rfl, Nat.le_of_ble_eq_true rfl⟩) pre0 rfl rfl hl.1 rfl (lv_room (Nat.le_of_ble_eq_true rfl)) dX1_needStall_11 ⟨by decide, by decide⟩) ?_
  refine lv_if_eq (tgt := 27) hx hb dX1_needStall_14 (by decide) (fun c_14 => ?_) (fun c_14 => ?_)
  · skip
    have c_14 := bz_0 c_14
    exact W.vret hx hb hr (fun t9 ht hW => ⟨rfl, trivial, ht⟩) (fun q hq => absurd hq List.not_mem_nil) dX1_needStall_27
  · skip
    have c_14 := bz_1 c_14
    exact absurd c_14 ((inM_iff (by omega)).mpr (inM_nI hj (by omega)))
end
section
set_option maxHeartbeats 4000000 in
set_option maxRecDepth 100000 in
theorem k_X1_needWear (l : Launch) (D : va_G) (cI cJ cR : ClassId) (a : Nat → Nat) (x : Int32) (hxx : inR (-9) 9 x) : Met l yX1_needWear wsX1_needWear ({ frames := 1, cells := 0, slots := 0, locals := 22 }) (cP D [] (KC D cI cJ cR) [.int x]) (rov (True)) 0 0 (fun _ => False) := by
  refine Met.ofW (cc := cX1_needWear) (maxL := 1) (ret := none) (by decide +kernel) rfl ?_
  intro p e s m args below meth c9 s₁ B hml hv
  obtain ⟨rfl, hP, hC⟩ := hv
  have hx := B.exec
  have hb := B.bytes
  have hr := B.returns
  have hts := atoms_spec (ws := wsX1_needWear) B.pre
  have hown : s.vm.findClass RX1 = some m.cls := findClass_of_methodNamed B.named
  have hlocks := B.notSynchronized
  have hK : va_K D vwCl [(cI, .int), (cJ, .long), (cR, .array .int)] s := hC.1
  have hl := lv_entry ([.int x]) (n := 1) (Nat.le_of_ble_eq_true rfl)
  rw [lg_entry_eq]
  generalize (lg_sl ([.int x]) ++ List.replicate (1 - (lg_sl ([.int x])).length) Slot.unset).toArray = ls at hl ⊢
  have hl : lv_has ls 1 [(0, .int x)] := hl
  refine lv_iload_n hx hb dX1_needWear_0 rfl (lv_at hl 0 rfl) ?_
  refine lv_bipush (v := (-9)) hx hb dX1_needWear_1 (by decide) ?_
  refine lv_bipush (v := 9) hx hb dX1_needWear_3 (by decide) ?_
  refine ro_iE (va_runS (As := [.int x, .int (-9), .int 9]) (rest := []) ⟨hx, hb, hml, hown, hts⟩ (c_X1_isOutside l x (-9) 9) (va_cwS 3 hts gX1_needWear_X1_isOutside rfl rfl rfl (by decide +kernel) ⟨Nat.le_of_ble_eq_true rfl, Nat.le_of_ble_eq_true rfl⟩) pre0 rfl rfl hl.1 rfl (lv_room (Nat.le_of_ble_eq_true rfl)) dX1_needWear_5 ⟨by decide, by decide⟩) ?_
  refine lv_if_eq (tgt := 21) hx hb dX1_needWear_8 (by decide) (fun c_8 => ?_) (fun c_8 => ?_)
  · skip
    have c_8 := bz_0 c_8
    exact W.vret hx hb hr (fun t9 ht hW => ⟨rfl, trivial, ht⟩) (fun q hq => absurd hq List.not_mem_nil) dX1_needWear_21
  · skip
    have c_8 := bz_1 c_8
    have e1 : ((-9) : Int32).toInt = -9 := rfl
    have e2 : (9 : Int32).toInt = 9 := rfl
    exfalso; unfold inR at hxx; omega

set_option maxHeartbeats 4000000 in
set_option maxRecDepth 100000 in
theorem k_X1_needDays (l : Launch) (D : va_G) (cI cJ cR : ClassId) (a : Nat → Nat) (x : Int32) (hxx : inR (1) 60 x) : Met l yX1_needDays wsX1_needDays ({ frames := 1, cells := 0, slots := 0, locals := 22 }) (cP D [] (KC D cI cJ cR) [.int x]) (rov (True)) 0 0 (fun _ => False) := by
  refine Met.ofW (cc := cX1_needDays) (maxL := 1) (ret := none) (by decide +kernel) rfl ?_
  intro p e s m args below meth c9 s₁ B hml hv
  obtain ⟨rfl, hP, hC⟩ := hv
  have hx := B.exec
  have hb := B.bytes
  have hr := B.returns
  have hts := atoms_spec (ws := wsX1_needDays) B.pre
  have hown : s.vm.findClass RX1 = some m.cls := findClass_of_methodNamed B.named
  have hlocks := B.notSynchronized
  have hK : va_K D vwCl [(cI, .int), (cJ, .long), (cR, .array .int)] s := hC.1
  have hl := lv_entry ([.int x]) (n := 1) (Nat.le_of_ble_eq_true rfl)
  rw [lg_entry_eq]
  generalize (lg_sl ([.int x]) ++ List.replicate (1 - (lg_sl ([.int x])).length) Slot.unset).toArray = ls at hl ⊢
  have hl : lv_has ls 1 [(0, .int x)] := hl
  refine lv_iload_n hx hb dX1_needDays_0 rfl (lv_at hl 0 rfl) ?_
  refine lv_iconst (v := 1) hx hb dX1_needDays_1 (by decide) ?_
  refine lv_bipush (v := 60) hx hb dX1_needDays_2 (by decide) ?_
  refine ro_iE (va_runS (As := [.int x, .int 1, .int 60]) (rest := []) ⟨hx, hb, hml, hown, hts⟩ (c_X1_isOutside l x 1 60) (va_cwS 3 hts gX1_needDays_X1_isOutside rfl rfl rfl (by decide +kernel) ⟨Nat.le_of_ble_eq_true rfl, Nat.le_of_ble_eq_true rfl⟩) pre0 rfl rfl hl.1 rfl (lv_room (Nat.le_of_ble_eq_true rfl)) dX1_needDays_4 ⟨by decide, by decide⟩) ?_
  refine lv_if_eq (tgt := 20) hx hb dX1_needDays_7 (by decide) (fun c_7 => ?_) (fun c_7 => ?_)
  · skip
    have c_7 := bz_0 c_7
    exact W.vret hx hb hr (fun t9 ht hW => ⟨rfl, trivial, ht⟩) (fun q hq => absurd hq List.not_mem_nil) dX1_needDays_20
  · skip
    have c_7 := bz_1 c_7
    have e1 : ((1) : Int32).toInt = 1 := rfl
    have e2 : (60 : Int32).toInt = 60 := rfl
    exfalso; unfold inR at hxx; omega

set_option maxHeartbeats 4000000 in
set_option maxRecDepth 100000 in
theorem k_X1_needMany (l : Launch) (D : va_G) (cI cJ cR : ClassId) (a : Nat → Nat) (x : Int32) (hxx : inR (1) 200 x) : Met l yX1_needMany wsX1_needMany ({ frames := 1, cells := 0, slots := 0, locals := 22 }) (cP D [] (KC D cI cJ cR) [.int x]) (rov (True)) 0 0 (fun _ => False) := by
  refine Met.ofW (cc := cX1_needMany) (maxL := 1) (ret := none) (by decide +kernel) rfl ?_
  intro p e s m args below meth c9 s₁ B hml hv
  obtain ⟨rfl, hP, hC⟩ := hv
  have hx := B.exec
  have hb := B.bytes
  have hr := B.returns
  have hts := atoms_spec (ws := wsX1_needMany) B.pre
  have hown : s.vm.findClass RX1 = some m.cls := findClass_of_methodNamed B.named
  have hlocks := B.notSynchronized
  have hK : va_K D vwCl [(cI, .int), (cJ, .long), (cR, .array .int)] s := hC.1
  have hl := lv_entry ([.int x]) (n := 1) (Nat.le_of_ble_eq_true rfl)
  rw [lg_entry_eq]
  generalize (lg_sl ([.int x]) ++ List.replicate (1 - (lg_sl ([.int x])).length) Slot.unset).toArray = ls at hl ⊢
  have hl : lv_has ls 1 [(0, .int x)] := hl
  refine lv_iload_n hx hb dX1_needMany_0 rfl (lv_at hl 0 rfl) ?_
  refine lv_iconst (v := 1) hx hb dX1_needMany_1 (by decide) ?_
  refine lv_sipush (v := 200) hx hb dX1_needMany_2 (by decide) ?_
  refine ro_iE (va_runS (As := [.int x, .int 1, .int 200]) (rest := []) ⟨hx, hb, hml, hown, hts⟩ (c_X1_isOutside l x 1 200) (va_cwS 3 hts gX1_needMany_X1_isOutside rfl rfl rfl (by decide +kernel) ⟨Nat.le_of_ble_eq_true rfl, Nat.le_of_ble_eq_true rfl⟩) pre0 rfl rfl hl.1 rfl (lv_room (Nat.le_of_ble_eq_true rfl)) dX1_needMany_5 ⟨by decide, by decide⟩) ?_
  refine lv_if_eq (tgt := 21) hx hb dX1_needMany_8 (by decide) (fun c_8 => ?_) (fun c_8 => ?_)
  · skip
    have c_8 := bz_0 c_8
    exact W.vret hx hb hr (fun t9 ht hW => ⟨rfl, trivial, ht⟩) (fun q hq => absurd hq List.not_mem_nil) dX1_needMany_21
  · skip
    have c_8 := bz_1 c_8
    have e1 : ((1) : Int32).toInt = 1 := rfl
    have e2 : (200 : Int32).toInt = 200 := rfl
    exfalso; unfold inR at hxx; omega

set_option maxHeartbeats 4000000 in
set_option maxRecDepth 100000 in
theorem k_X1_baseOf (l : Launch) (D : va_G) (cI cJ cR : ClassId) (a : Nat → Nat) (k st : Nat) (fi : Int32) (fB fS fO : Nat → Int32) (fL : Nat → Int64) (c : Nat) (t : Int32) (y : Nat) (fW fD : Nat → Int32) (c2 t2 y2 : Int32) (gW gD : Nat → Int32) (hk8 : k ≤ 8) (jx : Nat) (hj_x : jx < k) : Met l yX1_baseOf wsX1_baseOf ({ frames := 6, cells := 0, slots := 0, locals := 160 }) (cP D [((a 0), .inr (1, [.ref (a 1), .ref (a 2), .ref (a 3), .ref (a 4), .ref (a 5), .ref (a 8), .int (nI k), .int (nI st), .int fi])), ((a 1), .inl (cI, 8, .inl fB)), ((a 2), .inl (cI, 8, .inl fS)), ((a 3), .inl (cJ, 8, .inr (.inl fL))), ((a 4), .inl (cI, 8, .inl fO)), ((a 5), .inr (0, [.ref (a 6), .ref (a 7), .int (nI c), .int t, .int (nI y)])), ((a 6), .inl (cI, 6, .inl fW)), ((a 7), .inl (cI, 6, .inl fD)), ((a 8), .inr (0, [.ref (a 9), .ref (a 10), .int c2, .int t2, .int y2])), ((a 9), .inl (cI, 6, .inl gW)), ((a 10), .inl (cI, 6, .inl gD))] (KC D cI cJ cR) [.ref (a 0), .int (nI jx)]) (roi (fun r => r = fB jx)) 0 0 (fun _ => False) := by
  refine Met.ofW (cc := cX1_baseOf) (maxL := 2) (ret := (some .int)) (by decide +kernel) rfl ?_
  intro p e s m args below meth c9 s₁ B hml hv
  obtain ⟨rfl, hP, hC⟩ := hv
  have hx := B.exec
  have hb := B.bytes
  have hr := B.returns
  have hts := atoms_spec (ws := wsX1_baseOf) B.pre
  have hown : s.vm.findClass RX1 = some m.cls := findClass_of_methodNamed B.named
  have hlocks := B.notSynchronized
  have hK : va_K D vwCl [(cI, .int), (cJ, .long), (cR, .array .int)] s := hC.1
  have hl := lv_entry ([.ref (a 0), .int (nI jx)]) (n := 2) (Nat.le_of_ble_eq_true rfl)
  rw [lg_entry_eq]
  generalize (lg_sl ([.ref (a 0), .int (nI jx)]) ++ List.replicate (2 - (lg_sl ([.ref (a 0), .int (nI jx)])).length) Slot.unset).toArray = ls at hl ⊢
  have hl : lv_has ls 2 [(0, .ref (a 0)), (1, .int (nI jx))] := hl
  have hiX1 : ∀ w ∈ u_ws RX1 TX1 9, w ∈ wsX1_baseOf := by decide +kernel
  have hw9 : (Cond.fieldLink RX1 9 "OldMeasures" "bases" "[I").before ([.ref (a 0), .int (nI jx)] : List Value).toArray s = true := hts _ (by decide +kernel)
  refine lv_aload_n hx hb dX1_baseOf_0 rfl (lv_at hl 0 rfl) ?_
  refine lv_iload_n hx hb dX1_baseOf_1 rfl (lv_at hl 1 rfl) ?_
  refine ro_v (va_runV (As := [.int (nI jx)]) (rest := []) ⟨hx, hb, hml, hown, hts⟩ (k_X1_needMeasure l D cI cJ cR a k st fi fB fS fO fL c t y fW fD c2 t2 y2 gW gD hk8 jx (by omega)) (cwV 1 hts gX1_baseOf_X1_needMeasure rfl rfl rfl (by decide +kernel) ⟨Nat.le_of_ble_eq_true rfl, Nat.le_of_ble_eq_true rfl⟩) (preV_ro KC_ok hP hC (va_recv hK hP (ci := 1) (q0 := 0) rfl rfl)) rfl rfl hl.1 rfl (lv_room (Nat.le_of_ble_eq_true rfl)) dX1_baseOf_2 ⟨by decide, by decide⟩) (fun _ => ?_)
  refine lv_aload_n hx hb dX1_baseOf_5 rfl (lv_at hl 0 rfl) ?_
  refine va_get (D := D) (ci := 1) (v := .ref (a 1)) (C := RX1) (T := TX1) (N := 9) hx hb hts hiX1 hown hK hP 0 rfl rfl 0 (by decide) hw9 (fun _ h9 => h9) rfl dX1_baseOf_6 ?_
  refine lv_iload_n hx hb dX1_baseOf_9 rfl (lv_at hl 1 rfl) ?_
  refine xa_iald hx hb hK hP 1 0 rfl rfl (by omega) (by decide) dX1_baseOf_10 ?_
  exact W.iret (v := (fB jx)) hx hb hr (fun t9 ht hW => ⟨_, rfl, rfl, ht⟩) (fun q hq => absurd hq List.not_mem_nil) dX1_baseOf_11

set_option maxHeartbeats 4000000 in
set_option maxRecDepth 100000 in
theorem k_X1_lengthTop (l : Launch) (D : va_G) (cI cJ cR : ClassId) (a : Nat → Nat) (k st : Nat) (fi : Int32) (fB fS fO : Nat → Int32) (fL : Nat → Int64) (c : Nat) (t : Int32) (y : Nat) (fW fD : Nat → Int32) (c2 t2 y2 : Int32) (gW gD : Nat → Int32) (hM : MOk k fL fO) (hst2 : st < k) (jx : Nat) (hj_x : jx < k) : Met l yX1_lengthTop wsX1_lengthTop ({ frames := 6, cells := 0, slots := 0, locals := 160 }) (cP D [((a 0), .inr (1, [.ref (a 1), .ref (a 2), .ref (a 3), .ref (a 4), .ref (a 5), .ref (a 8), .int (nI k), .int (nI st), .int fi])), ((a 1), .inl (cI, 8, .inl fB)), ((a 2), .inl (cI, 8, .inl fS)), ((a 3), .inl (cJ, 8, .inr (.inl fL))), ((a 4), .inl (cI, 8, .inl fO)), ((a 5), .inr (0, [.ref (a 6), .ref (a 7), .int (nI c), .int t, .int (nI y)])), ((a 6), .inl (cI, 6, .inl fW)), ((a 7), .inl (cI, 6, .inl fD)), ((a 8), .inr (0, [.ref (a 9), .ref (a 10), .int c2, .int t2, .int y2])), ((a 9), .inl (cI, 6, .inl gW)), ((a 10), .inl (cI, 6, .inl gD))] (KC D cI cJ cR) [.ref (a 0), .int (nI jx)]) (rol (fun r => r = tp (fL jx) (fL st))) 0 0 (fun _ => False) := by
  refine Met.ofW (cc := cX1_lengthTop) (maxL := 2) (ret := (some .long)) (by decide +kernel) rfl ?_
  intro p e s m args below meth c9 s₁ B hml hv
  obtain ⟨rfl, hP, hC⟩ := hv
  have hx := B.exec
  have hb := B.bytes
  have hr := B.returns
  have hts := atoms_spec (ws := wsX1_lengthTop) B.pre
  have hown : s.vm.findClass RX1 = some m.cls := findClass_of_methodNamed B.named
  have hlocks := B.notSynchronized
  have hK : va_K D vwCl [(cI, .int), (cJ, .long), (cR, .array .int)] s := hC.1
  have hl := lv_entry ([.ref (a 0), .int (nI jx)]) (n := 2) (Nat.le_of_ble_eq_true rfl)
  rw [lg_entry_eq]
  generalize (lg_sl ([.ref (a 0), .int (nI jx)]) ++ List.replicate (2 - (lg_sl ([.ref (a 0), .int (nI jx)])).length) Slot.unset).toArray = ls at hl ⊢
  have hl : lv_has ls 2 [(0, .ref (a 0)), (1, .int (nI jx))] := hl
  have hk8 : k ≤ 8 := hM.2.1
  have hk1 : 1 ≤ k := hM.1
  have hiX1 : ∀ w ∈ u_ws RX1 TX1 9, w ∈ wsX1_lengthTop := by decide +kernel
  have hw16 : (Cond.fieldLink RX1 16 "OldMeasures" "lengths" "[J").before ([.ref (a 0), .int (nI jx)] : List Value).toArray s = true := hts _ (by decide +kernel)
  have hw37 : (Cond.fieldLink RX1 37 "OldMeasures" "standard" "I").before ([.ref (a 0), .int (nI jx)] : List Value).toArray s = true := hts _ (by decide +kernel)
  refine lv_aload_n hx hb dX1_lengthTop_0 rfl (lv_at hl 0 rfl) ?_
  refine lv_iload_n hx hb dX1_lengthTop_1 rfl (lv_at hl 1 rfl) ?_
  refine ro_v (va_runV (As := [.int (nI jx)]) (rest := []) ⟨hx, hb, hml, hown, hts⟩ (k_X1_needMeasure l D cI cJ cR a k st fi fB fS fO fL c t y fW fD c2 t2 y2 gW gD hk8 jx (by omega)) (cwV 1 hts gX1_lengthTop_X1_needMeasure rfl rfl rfl (by decide +kernel) ⟨Nat.le_of_ble_eq_true rfl, Nat.le_of_ble_eq_true rfl⟩) (preV_ro KC_ok hP hC (va_recv hK hP (ci := 1) (q0 := 0) rfl rfl)) rfl rfl hl.1 rfl (lv_room (Nat.le_of_ble_eq_true rfl)) dX1_lengthTop_2 ⟨by decide, by decide⟩) (fun _ => ?_)
  refine lv_aload_n hx hb dX1_lengthTop_5 rfl (lv_at hl 0 rfl) ?_
  refine va_get (D := D) (ci := 1) (v := .ref (a 3)) (C := RX1) (T := TX1) (N := 9) hx hb hts hiX1 hown hK hP 0 rfl rfl 2 (by decide) hw16 (fun _ h9 => h9) rfl dX1_lengthTop_6 ?_
  refine lv_iload_n hx hb dX1_lengthTop_9 rfl (lv_at hl 1 rfl) ?_
  refine xa_lald hx hb hK hP 3 1 rfl rfl (by omega) (by decide) dX1_lengthTop_10 ?_
  refine lv_aload_n hx hb dX1_lengthTop_11 rfl (lv_at hl 0 rfl) ?_
  refine va_get (D := D) (ci := 1) (v := .ref (a 3)) (C := RX1) (T := TX1) (N := 9) hx hb hts hiX1 hown hK hP 0 rfl rfl 2 (by decide) hw16 (fun _ h9 => h9) rfl dX1_lengthTop_12 ?_
  refine lv_aload_n hx hb dX1_lengthTop_15 rfl (lv_at hl 0 rfl) ?_
  refine va_get (D := D) (ci := 1) (v := .int (nI st)) (C := RX1) (T := TX1) (N := 9) hx hb hts hiX1 hown hK hP 0 rfl rfl 7 (by decide) hw37 (fun _ h9 => h9) rfl dX1_lengthTop_16 ?_
  refine xa_lald hx hb hK hP 3 1 rfl rfl (by omega) (by decide) dX1_lengthTop_19 ?_
  refine ro_lE (va_runS (As := [.long (fL jx), .long (fL st)]) (rest := []) ⟨hx, hb, hml, hown, hts⟩ (c_X1_wcd l (fL jx) (fL st) (hM.2.2.1 _ (by omega)) (hM.2.2.1 _ (by omega))) (va_cwS 2 hts gX1_lengthTop_X1_withoutCommonDivisor rfl rfl rfl (by decide +kernel) ⟨Nat.le_of_ble_eq_true rfl, Nat.le_of_ble_eq_true rfl⟩) pre0 rfl rfl hl.1 rfl (lv_room (Nat.le_of_ble_eq_true rfl)) dX1_lengthTop_20 ⟨by decide, by decide⟩) ?_
  exact W.lret (v := (tp (fL jx) (fL st))) hx hb hr (fun t9 ht hW => ⟨_, rfl, rfl, ht⟩) (fun q hq => absurd hq List.not_mem_nil) dX1_lengthTop_23

set_option maxHeartbeats 4000000 in
set_option maxRecDepth 100000 in
theorem k_X1_lengthBottom (l : Launch) (D : va_G) (cI cJ cR : ClassId) (a : Nat → Nat) (k st : Nat) (fi : Int32) (fB fS fO : Nat → Int32) (fL : Nat → Int64) (c : Nat) (t : Int32) (y : Nat) (fW fD : Nat → Int32) (c2 t2 y2 : Int32) (gW gD : Nat → Int32) (hM : MOk k fL fO) (hst2 : st < k) (jx : Nat) (hj_x : jx < k) : Met l yX1_lengthBottom wsX1_lengthBottom ({ frames := 6, cells := 0, slots := 0, locals := 160 }) (cP D [((a 0), .inr (1, [.ref (a 1), .ref (a 2), .ref (a 3), .ref (a 4), .ref (a 5), .ref (a 8), .int (nI k), .int (nI st), .int fi])), ((a 1), .inl (cI, 8, .inl fB)), ((a 2), .inl (cI, 8, .inl fS)), ((a 3), .inl (cJ, 8, .inr (.inl fL))), ((a 4), .inl (cI, 8, .inl fO)), ((a 5), .inr (0, [.ref (a 6), .ref (a 7), .int (nI c), .int t, .int (nI y)])), ((a 6), .inl (cI, 6, .inl fW)), ((a 7), .inl (cI, 6, .inl fD)), ((a 8), .inr (0, [.ref (a 9), .ref (a 10), .int c2, .int t2, .int y2])), ((a 9), .inl (cI, 6, .inl gW)), ((a 10), .inl (cI, 6, .inl gD))] (KC D cI cJ cR) [.ref (a 0), .int (nI jx)]) (rol (fun r => r = tp (fL st) (fL jx))) 0 0 (fun _ => False) := by
  refine Met.ofW (cc := cX1_lengthBottom) (maxL := 2) (ret := (some .long)) (by decide +kernel) rfl ?_
  intro p e s m args below meth c9 s₁ B hml hv
  obtain ⟨rfl, hP, hC⟩ := hv
  have hx := B.exec
  have hb := B.bytes
  have hr := B.returns
  have hts := atoms_spec (ws := wsX1_lengthBottom) B.pre
  have hown : s.vm.findClass RX1 = some m.cls := findClass_of_methodNamed B.named
  have hlocks := B.notSynchronized
  have hK : va_K D vwCl [(cI, .int), (cJ, .long), (cR, .array .int)] s := hC.1
  have hl := lv_entry ([.ref (a 0), .int (nI jx)]) (n := 2) (Nat.le_of_ble_eq_true rfl)
  rw [lg_entry_eq]
  generalize (lg_sl ([.ref (a 0), .int (nI jx)]) ++ List.replicate (2 - (lg_sl ([.ref (a 0), .int (nI jx)])).length) Slot.unset).toArray = ls at hl ⊢
  have hl : lv_has ls 2 [(0, .ref (a 0)), (1, .int (nI jx))] := hl
  have hk8 : k ≤ 8 := hM.2.1
  have hk1 : 1 ≤ k := hM.1
  have hiX1 : ∀ w ∈ u_ws RX1 TX1 9, w ∈ wsX1_lengthBottom := by decide +kernel
  have hw16 : (Cond.fieldLink RX1 16 "OldMeasures" "lengths" "[J").before ([.ref (a 0), .int (nI jx)] : List Value).toArray s = true := hts _ (by decide +kernel)
  have hw37 : (Cond.fieldLink RX1 37 "OldMeasures" "standard" "I").before ([.ref (a 0), .int (nI jx)] : List Value).toArray s = true := hts _ (by decide +kernel)
  refine lv_aload_n hx hb dX1_lengthBottom_0 rfl (lv_at hl 0 rfl) ?_
  refine lv_iload_n hx hb dX1_lengthBottom_1 rfl (lv_at hl 1 rfl) ?_
  refine ro_v (va_runV (As := [.int (nI jx)]) (rest := []) ⟨hx, hb, hml, hown, hts⟩ (k_X1_needMeasure l D cI cJ cR a k st fi fB fS fO fL c t y fW fD c2 t2 y2 gW gD hk8 jx (by omega)) (cwV 1 hts gX1_lengthBottom_X1_needMeasure rfl rfl rfl (by decide +kernel) ⟨Nat.le_of_ble_eq_true rfl, Nat.le_of_ble_eq_true rfl⟩) (preV_ro KC_ok hP hC (va_recv hK hP (ci := 1) (q0 := 0) rfl rfl)) rfl rfl hl.1 rfl (lv_room (Nat.le_of_ble_eq_true rfl)) dX1_lengthBottom_2 ⟨by decide, by decide⟩) (fun _ => ?_)
  refine lv_aload_n hx hb dX1_lengthBottom_5 rfl (lv_at hl 0 rfl) ?_
  refine va_get (D := D) (ci := 1) (v := .ref (a 3)) (C := RX1) (T := TX1) (N := 9) hx hb hts hiX1 hown hK hP 0 rfl rfl 2 (by decide) hw16 (fun _ h9 => h9) rfl dX1_lengthBottom_6 ?_
  refine lv_aload_n hx hb dX1_lengthBottom_9 rfl (lv_at hl 0 rfl) ?_
  refine va_get (D := D) (ci := 1) (v := .int (nI st)) (C := RX1) (T := TX1) (N := 9) hx hb hts hiX1 hown hK hP 0 rfl rfl 7 (by decide) hw37 (fun _ h9 => h9) rfl dX1_lengthBottom_10 ?_
  refine xa_lald hx hb hK hP 3 1 rfl rfl (by omega) (by decide) dX1_lengthBottom_13 ?_
  refine lv_aload_n hx hb dX1_lengthBottom_14 rfl (lv_at hl 0 rfl) ?_
  refine va_get (D := D) (ci := 1) (v := .ref (a 3)) (C := RX1) (T := TX1) (N := 9) hx hb hts hiX1 hown hK hP 0 rfl rfl 2 (by decide) hw16 (fun _ h9 => h9) rfl dX1_lengthBottom_15 ?_
  refine lv_iload_n hx hb dX1_lengthBottom_18 rfl (lv_at hl 1 rfl) ?_
  refine xa_lald hx hb hK hP 3 1 rfl rfl (by omega) (by decide) dX1_lengthBottom_19 ?_
  refine ro_lE (va_runS (As := [.long (fL st), .long (fL jx)]) (rest := []) ⟨hx, hb, hml, hown, hts⟩ (c_X1_wcd l (fL st) (fL jx) (hM.2.2.1 _ (by omega)) (hM.2.2.1 _ (by omega))) (va_cwS 2 hts gX1_lengthBottom_X1_withoutCommonDivisor rfl rfl rfl (by decide +kernel) ⟨Nat.le_of_ble_eq_true rfl, Nat.le_of_ble_eq_true rfl⟩) pre0 rfl rfl hl.1 rfl (lv_room (Nat.le_of_ble_eq_true rfl)) dX1_lengthBottom_20 ⟨by decide, by decide⟩) ?_
  exact W.lret (v := (tp (fL st) (fL jx))) hx hb hr (fun t9 ht hW => ⟨_, rfl, rfl, ht⟩) (fun q hq => absurd hq List.not_mem_nil) dX1_lengthBottom_23

set_option maxHeartbeats 4000000 in
set_option maxRecDepth 100000 in
theorem k_X1_driftOf (l : Launch) (D : va_G) (cI cJ cR : ClassId) (a : Nat → Nat) (k st : Nat) (fi : Int32) (fB fS fO : Nat → Int32) (fL : Nat → Int64) (c : Nat) (t : Int32) (y : Nat) (fW fD : Nat → Int32) (c2 t2 y2 : Int32) (gW gD : Nat → Int32) (hc : c ≤ 6) (jv : Nat) (hj_v : jv < c) : Met l yX1_driftOf wsX1_driftOf ({ frames := 6, cells := 0, slots := 0, locals := 160 }) (cP D [((a 0), .inr (1, [.ref (a 1), .ref (a 2), .ref (a 3), .ref (a 4), .ref (a 5), .ref (a 8), .int (nI k), .int (nI st), .int fi])), ((a 1), .inl (cI, 8, .inl fB)), ((a 2), .inl (cI, 8, .inl fS)), ((a 3), .inl (cJ, 8, .inr (.inl fL))), ((a 4), .inl (cI, 8, .inl fO)), ((a 5), .inr (0, [.ref (a 6), .ref (a 7), .int (nI c), .int t, .int (nI y)])), ((a 6), .inl (cI, 6, .inl fW)), ((a 7), .inl (cI, 6, .inl fD)), ((a 8), .inr (0, [.ref (a 9), .ref (a 10), .int c2, .int t2, .int y2])), ((a 9), .inl (cI, 6, .inl gW)), ((a 10), .inl (cI, 6, .inl gD))] (KC D cI cJ cR) [.ref (a 0), .int (nI jv)]) (roi (fun r => r = fD jv)) 0 0 (fun _ => False) := by
  refine Met.ofW (cc := cX1_driftOf) (maxL := 2) (ret := (some .int)) (by decide +kernel) rfl ?_
  intro p e s m args below meth c9 s₁ B hml hv
  obtain ⟨rfl, hP, hC⟩ := hv
  have hx := B.exec
  have hb := B.bytes
  have hr := B.returns
  have hts := atoms_spec (ws := wsX1_driftOf) B.pre
  have hown : s.vm.findClass RX1 = some m.cls := findClass_of_methodNamed B.named
  have hlocks := B.notSynchronized
  have hK : va_K D vwCl [(cI, .int), (cJ, .long), (cR, .array .int)] s := hC.1
  have hl := lv_entry ([.ref (a 0), .int (nI jv)]) (n := 2) (Nat.le_of_ble_eq_true rfl)
  rw [lg_entry_eq]
  generalize (lg_sl ([.ref (a 0), .int (nI jv)]) ++ List.replicate (2 - (lg_sl ([.ref (a 0), .int (nI jv)])).length) Slot.unset).toArray = ls at hl ⊢
  have hl : lv_has ls 2 [(0, .ref (a 0)), (1, .int (nI jv))] := hl
  have hiX0 : ∀ w ∈ u_ws RX0 TX0 5, w ∈ wsX1_driftOf := by decide +kernel
  have hiX1 : ∀ w ∈ u_ws RX1 TX1 9, w ∈ wsX1_driftOf := by decide +kernel
  have hw26 : (Cond.fieldLink RX1 26 "OldMeasures" "stalls" "LOldMeasures$Stalls;").before ([.ref (a 0), .int (nI jv)] : List Value).toArray s = true := hts _ (by decide +kernel)
  refine lv_aload_n hx hb dX1_driftOf_0 rfl (lv_at hl 0 rfl) ?_
  refine lv_iload_n hx hb dX1_driftOf_1 rfl (lv_at hl 1 rfl) ?_
  refine ro_v (va_runV (As := [.int (nI jv)]) (rest := []) ⟨hx, hb, hml, hown, hts⟩ (k_X1_needStall l D cI cJ cR a k st fi fB fS fO fL c t y fW fD c2 t2 y2 gW gD hc jv (by omega)) (cwV 1 hts gX1_driftOf_X1_needStall rfl rfl rfl (by decide +kernel) ⟨Nat.le_of_ble_eq_true rfl, Nat.le_of_ble_eq_true rfl⟩) (preV_ro KC_ok hP hC (va_recv hK hP (ci := 1) (q0 := 0) rfl rfl)) rfl rfl hl.1 rfl (lv_room (Nat.le_of_ble_eq_true rfl)) dX1_driftOf_2 ⟨by decide, by decide⟩) (fun _ => ?_)
  refine lv_aload_n hx hb dX1_driftOf_5 rfl (lv_at hl 0 rfl) ?_
  refine va_get (D := D) (ci := 1) (v := .ref (a 5)) (C := RX1) (T := TX1) (N := 9) hx hb hts hiX1 hown hK hP 0 rfl rfl 4 (by decide) hw26 (fun _ h9 => h9) rfl dX1_driftOf_6 ?_
  refine va_getN (host := RX1) (D := D) (ci := 0) (v := .ref (a 7)) (C := RX0) (T := TX0) (N := 5) hx hb hts hiX0 hown hK hP 5 rfl rfl 1 (by decide) (va_Nw.use rfl hC.2.2.2.2.1) (fun _ h9 => h9) rfl dX1_driftOf_9 ?_
  refine lv_iload_n hx hb dX1_driftOf_12 rfl (lv_at hl 1 rfl) ?_
  refine xa_iald hx hb hK hP 7 0 rfl rfl (by omega) (by decide) dX1_driftOf_13 ?_
  exact W.iret (v := (fD jv)) hx hb hr (fun t9 ht hW => ⟨_, rfl, rfl, ht⟩) (fun q hq => absurd hq List.not_mem_nil) dX1_driftOf_14

set_option maxHeartbeats 4000000 in
set_option maxRecDepth 100000 in
theorem k_X1_wearOf (l : Launch) (D : va_G) (cI cJ cR : ClassId) (a : Nat → Nat) (k st : Nat) (fi : Int32) (fB fS fO : Nat → Int32) (fL : Nat → Int64) (c : Nat) (t : Int32) (y : Nat) (fW fD : Nat → Int32) (c2 t2 y2 : Int32) (gW gD : Nat → Int32) (hc : c ≤ 6) (jv : Nat) (hj_v : jv < c) : Met l yX1_wearOf wsX1_wearOf ({ frames := 6, cells := 0, slots := 0, locals := 160 }) (cP D [((a 0), .inr (1, [.ref (a 1), .ref (a 2), .ref (a 3), .ref (a 4), .ref (a 5), .ref (a 8), .int (nI k), .int (nI st), .int fi])), ((a 1), .inl (cI, 8, .inl fB)), ((a 2), .inl (cI, 8, .inl fS)), ((a 3), .inl (cJ, 8, .inr (.inl fL))), ((a 4), .inl (cI, 8, .inl fO)), ((a 5), .inr (0, [.ref (a 6), .ref (a 7), .int (nI c), .int t, .int (nI y)])), ((a 6), .inl (cI, 6, .inl fW)), ((a 7), .inl (cI, 6, .inl fD)), ((a 8), .inr (0, [.ref (a 9), .ref (a 10), .int c2, .int t2, .int y2])), ((a 9), .inl (cI, 6, .inl gW)), ((a 10), .inl (cI, 6, .inl gD))] (KC D cI cJ cR) [.ref (a 0), .int (nI jv)]) (roi (fun r => r = fW jv)) 0 0 (fun _ => False) := by
  refine Met.ofW (cc := cX1_wearOf) (maxL := 2) (ret := (some .int)) (by decide +kernel) rfl ?_
  intro p e s m args below meth c9 s₁ B hml hv
  obtain ⟨rfl, hP, hC⟩ := hv
  have hx := B.exec
  have hb := B.bytes
  have hr := B.returns
  have hts := atoms_spec (ws := wsX1_wearOf) B.pre
  have hown : s.vm.findClass RX1 = some m.cls := findClass_of_methodNamed B.named
  have hlocks := B.notSynchronized
  have hK : va_K D vwCl [(cI, .int), (cJ, .long), (cR, .array .int)] s := hC.1
  have hl := lv_entry ([.ref (a 0), .int (nI jv)]) (n := 2) (Nat.le_of_ble_eq_true rfl)
  rw [lg_entry_eq]
  generalize (lg_sl ([.ref (a 0), .int (nI jv)]) ++ List.replicate (2 - (lg_sl ([.ref (a 0), .int (nI jv)])).length) Slot.unset).toArray = ls at hl ⊢
  have hl : lv_has ls 2 [(0, .ref (a 0)), (1, .int (nI jv))] := hl
  have hiX0 : ∀ w ∈ u_ws RX0 TX0 5, w ∈ wsX1_wearOf := by decide +kernel
  have hiX1 : ∀ w ∈ u_ws RX1 TX1 9, w ∈ wsX1_wearOf := by decide +kernel
  have hw26 : (Cond.fieldLink RX1 26 "OldMeasures" "stalls" "LOldMeasures$Stalls;").before ([.ref (a 0), .int (nI jv)] : List Value).toArray s = true := hts _ (by decide +kernel)
  refine lv_aload_n hx hb dX1_wearOf_0 rfl (lv_at hl 0 rfl) ?_
  refine lv_iload_n hx hb dX1_wearOf_1 rfl (lv_at hl 1 rfl) ?_
  refine ro_v (va_runV (As := [.int (nI jv)]) (rest := []) ⟨hx, hb, hml, hown, hts⟩ (k_X1_needStall l D cI cJ cR a k st fi fB fS fO fL c t y fW fD c2 t2 y2 gW gD hc jv (by omega)) (cwV 1 hts gX1_wearOf_X1_needStall rfl rfl rfl (by decide +kernel) ⟨Nat.le_of_ble_eq_true rfl, Nat.le_of_ble_eq_true rfl⟩) (preV_ro KC_ok hP hC (va_recv hK hP (ci := 1) (q0 := 0) rfl rfl)) rfl rfl hl.1 rfl (lv_room (Nat.le_of_ble_eq_true rfl)) dX1_wearOf_2 ⟨by decide, by decide⟩) (fun _ => ?_)
  refine lv_aload_n hx hb dX1_wearOf_5 rfl (lv_at hl 0 rfl) ?_
  refine va_get (D := D) (ci := 1) (v := .ref (a 5)) (C := RX1) (T := TX1) (N := 9) hx hb hts hiX1 hown hK hP 0 rfl rfl 4 (by decide) hw26 (fun _ h9 => h9) rfl dX1_wearOf_6 ?_
  refine va_getN (host := RX1) (D := D) (ci := 0) (v := .ref (a 6)) (C := RX0) (T := TX0) (N := 5) hx hb hts hiX0 hown hK hP 5 rfl rfl 0 (by decide) (va_Nw.use rfl hC.2.2.2.1) (fun _ h9 => h9) rfl dX1_wearOf_9 ?_
  refine lv_iload_n hx hb dX1_wearOf_12 rfl (lv_at hl 1 rfl) ?_
  refine xa_iald hx hb hK hP 6 0 rfl rfl (by omega) (by decide) dX1_wearOf_13 ?_
  exact W.iret (v := (fW jv)) hx hb hr (fun t9 ht hW => ⟨_, rfl, rfl, ht⟩) (fun q hq => absurd hq List.not_mem_nil) dX1_wearOf_14

set_option maxHeartbeats 4000000 in
set_option maxRecDepth 100000 in
theorem k_X1_isHonest (l : Launch) (D : va_G) (cI cJ cR : ClassId) (a : Nat → Nat) (k st : Nat) (fi : Int32) (fB fS fO : Nat → Int32) (fL : Nat → Int64) (c : Nat) (t : Int32) (y : Nat) (fW fD : Nat → Int32) (c2 t2 y2 : Int32) (gW gD : Nat → Int32) (hc : c ≤ 6) (jv : Nat) (hj_v : jv < c) : Met l yX1_isHonest wsX1_isHonest ({ frames := 6, cells := 0, slots := 0, locals := 160 }) (cP D [((a 0), .inr (1, [.ref (a 1), .ref (a 2), .ref (a 3), .ref (a 4), .ref (a 5), .ref (a 8), .int (nI k), .int (nI st), .int fi])), ((a 1), .inl (cI, 8, .inl fB)), ((a 2), .inl (cI, 8, .inl fS)), ((a 3), .inl (cJ, 8, .inr (.inl fL))), ((a 4), .inl (cI, 8, .inl fO)), ((a 5), .inr (0, [.ref (a 6), .ref (a 7), .int (nI c), .int t, .int (nI y)])), ((a 6), .inl (cI, 6, .inl fW)), ((a 7), .inl (cI, 6, .inl fD)), ((a 8), .inr (0, [.ref (a 9), .ref (a 10), .int c2, .int t2, .int y2])), ((a 9), .inl (cI, 6, .inl gW)), ((a 10), .inl (cI, 6, .inl gD))] (KC D cI cJ cR) [.ref (a 0), .int (nI jv)]) (roi (fun r => r = bz ((absI (fD jv)).toInt ≤ t.toInt))) 0 0 (fun _ => False) := by
  refine Met.ofW (cc := cX1_isHonest) (maxL := 2) (ret := (some .boolean)) (by decide +kernel) rfl ?_
  intro p e s m args below meth c9 s₁ B hml hv
  obtain ⟨rfl, hP, hC⟩ := hv
  have hx := B.exec
  have hb := B.bytes
  have hr := B.returns
  have hts := atoms_spec (ws := wsX1_isHonest) B.pre
  have hown : s.vm.findClass RX1 = some m.cls := findClass_of_methodNamed B.named
  have hlocks := B.notSynchronized
  have hK : va_K D vwCl [(cI, .int), (cJ, .long), (cR, .array .int)] s := hC.1
  have hl := lv_entry ([.ref (a 0), .int (nI jv)]) (n := 2) (Nat.le_of_ble_eq_true rfl)
  rw [lg_entry_eq]
  generalize (lg_sl ([.ref (a 0), .int (nI jv)]) ++ List.replicate (2 - (lg_sl ([.ref (a 0), .int (nI jv)])).length) Slot.unset).toArray = ls at hl ⊢
  have hl : lv_has ls 2 [(0, .ref (a 0)), (1, .int (nI jv))] := hl
  have hiX0 : ∀ w ∈ u_ws RX0 TX0 5, w ∈ wsX1_isHonest := by decide +kernel
  have hiX1 : ∀ w ∈ u_ws RX1 TX1 9, w ∈ wsX1_isHonest := by decide +kernel
  have hw26 : (Cond.fieldLink RX1 26 "OldMeasures" "stalls" "LOldMeasures$Stalls;").before ([.ref (a 0), .int (nI jv)] : List Value).toArray s = true := hts _ (by decide +kernel)
  refine lv_aload_n hx hb dX1_isHonest_0 rfl (lv_at hl 0 rfl) ?_
  refine lv_iload_n hx hb dX1_isHonest_1 rfl (lv_at hl 1 rfl) ?_
  refine ro_v (va_runV (As := [.int (nI jv)]) (rest := []) ⟨hx, hb, hml, hown, hts⟩ (k_X1_needStall l D cI cJ cR a k st fi fB fS fO fL c t y fW fD c2 t2 y2 gW gD hc jv (by omega)) (cwV 1 hts gX1_isHonest_X1_needStall rfl rfl rfl (by decide +kernel) ⟨Nat.le_of_ble_eq_true rfl, Nat.le_of_ble_eq_true rfl⟩) (preV_ro KC_ok hP hC (va_recv hK hP (ci := 1) (q0 := 0) rfl rfl)) rfl rfl hl.1 rfl (lv_room (Nat.le_of_ble_eq_true rfl)) dX1_isHonest_2 ⟨by decide, by decide⟩) (fun _ => ?_)
  refine lv_aload_n hx hb dX1_isHonest_5 rfl (lv_at hl 0 rfl) ?_
  refine va_get (D := D) (ci := 1) (v := .ref (a 5)) (C := RX1) (T := TX1) (N := 9) hx hb hts hiX1 hown hK hP 0 rfl rfl 4 (by decide) hw26 (fun _ h9 => h9) rfl dX1_isHonest_6 ?_
  refine lv_aload_n hx hb dX1_isHonest_9 rfl (lv_at hl 0 rfl) ?_
  refine va_get (D := D) (ci := 1) (v := .ref (a 5)) (C := RX1) (T := TX1) (N := 9) hx hb hts hiX1 hown hK hP 0 rfl rfl 4 (by decide) hw26 (fun _ h9 => h9) rfl dX1_isHonest_10 ?_
  refine va_getN (host := RX1) (D := D) (ci := 0) (v := .ref (a 7)) (C := RX0) (T := TX0) (N := 5) hx hb hts hiX0 hown hK hP 5 rfl rfl 1 (by decide) (va_Nw.use rfl hC.2.2.2.2.1) (fun _ h9 => h9) rfl dX1_isHonest_13 ?_
  refine lv_iload_n hx hb dX1_isHonest_16 rfl (lv_at hl 1 rfl) ?_
  refine xa_iald hx hb hK hP 7 0 rfl rfl (by omega) (by decide) dX1_isHonest_17 ?_
  refine ro_iE (va_runVN (As := [.int (fD jv)]) (rest := []) ⟨hx, hb, hml, hown, hts⟩ (c_X0_isTolerated l D cI cJ cR (a 5) (a 6) (a 7) c t y fW fD (fD jv)) ⟨va_cnB (host := RX1) 1 hts ggX1_isHonest_X0_isTolerated rfl rfl rfl hC.2.2.2.2.2.2.2.2.2.1 (hts (.initialized RX0) (by decide +kernel)) (by decide +kernel) ⟨Nat.le_of_ble_eq_true rfl, Nat.le_of_ble_eq_true rfl⟩, hts (.instanceMethod yX0_isTolerated) (by decide +kernel), hts (.selects RX0 yX0_isTolerated yX0_isTolerated) (by decide +kernel)⟩ (preV_ro KM_ok (hP.sub (ws' := [((a 5), .inr (0, [.ref (a 6), .ref (a 7), .int (nI c), .int t, .int (nI y)])), ((a 6), .inl (cI, 6, .inl fW)), ((a 7), .inl (cI, 6, .inl fD))]) [5, 6, 7] rfl) hK (va_recv hK hP (ci := 0) (q0 := 5) rfl rfl)) rfl rfl hl.1 rfl (lv_room (Nat.le_of_ble_eq_true rfl)) dX1_isHonest_18 ⟨by decide, by decide⟩) ?_
  exact W.zret (v := (bz ((absI (fD jv)).toInt ≤ t.toInt))) hx hb hr (bz_nar _) (fun t9 ht hW => ⟨_, rfl, rfl, ht⟩) (fun q hq => absurd hq List.not_mem_nil) dX1_isHonest_21

set_option maxHeartbeats 4000000 in
set_option maxRecDepth 100000 in
theorem k_X1_getsAt (l : Launch) (D : va_G) (cI cJ cR : ClassId) (a : Nat → Nat) (k st : Nat) (fi : Int32) (fB fS fO : Nat → Int32) (fL : Nat → Int64) (c : Nat) (t : Int32) (y : Nat) (fW fD : Nat → Int32) (c2 t2 y2 : Int32) (gW gD : Nat → Int32) (hM : MOk k fL fO) (hst2 : st < k) (hc : c ≤ 6) (jv : Nat) (hj_v : jv < c) (w : Int32) (hw9 : inR 1 200 w) (jx : Nat) (hj_x : jx < k) : Met l yX1_getsAt wsX1_getsAt ({ frames := 6, cells := 0, slots := 0, locals := 160 }) (cP D [((a 0), .inr (1, [.ref (a 1), .ref (a 2), .ref (a 3), .ref (a 4), .ref (a 5), .ref (a 8), .int (nI k), .int (nI st), .int fi])), ((a 1), .inl (cI, 8, .inl fB)), ((a 2), .inl (cI, 8, .inl fS)), ((a 3), .inl (cJ, 8, .inr (.inl fL))), ((a 4), .inl (cI, 8, .inl fO)), ((a 5), .inr (0, [.ref (a 6), .ref (a 7), .int (nI c), .int t, .int (nI y)])), ((a 6), .inl (cI, 6, .inl fW)), ((a 7), .inl (cI, 6, .inl fD)), ((a 8), .inr (0, [.ref (a 9), .ref (a 10), .int c2, .int t2, .int y2])), ((a 9), .inl (cI, 6, .inl gW)), ((a 10), .inl (cI, 6, .inl gD))] (KC D cI cJ cR) [.ref (a 0), .int (nI jv), .int w, .int (nI jx)]) (rol (fun r => r = gvn (fL jx) (fL st) w (fD jv))) 0 0 (fun _ => False) := by
  refine Met.ofW (cc := cX1_getsAt) (maxL := 4) (ret := (some .long)) (by decide +kernel) rfl ?_
  intro p e s m args below meth c9 s₁ B hml hv
  obtain ⟨rfl, hP, hC⟩ := hv
  have hx := B.exec
  have hb := B.bytes
  have hr := B.returns
  have hts := atoms_spec (ws := wsX1_getsAt) B.pre
  have hown : s.vm.findClass RX1 = some m.cls := findClass_of_methodNamed B.named
  have hlocks := B.notSynchronized
  have hK : va_K D vwCl [(cI, .int), (cJ, .long), (cR, .array .int)] s := hC.1
  have hl := lv_entry ([.ref (a 0), .int (nI jv), .int w, .int (nI jx)]) (n := 4) (Nat.le_of_ble_eq_true rfl)
  rw [lg_entry_eq]
  generalize (lg_sl ([.ref (a 0), .int (nI jv), .int w, .int (nI jx)]) ++ List.replicate (4 - (lg_sl ([.ref (a 0), .int (nI jv), .int w, .int (nI jx)])).length) Slot.unset).toArray = ls at hl ⊢
  have hl : lv_has ls 4 [(0, .ref (a 0)), (1, .int (nI jv)), (2, .int w), (3, .int (nI jx))] := hl
  have hk8 : k ≤ 8 := hM.2.1
  have hk1 : 1 ≤ k := hM.1
  have hiX0 : ∀ w ∈ u_ws RX0 TX0 5, w ∈ wsX1_getsAt := by decide +kernel
  have hiX1 : ∀ w ∈ u_ws RX1 TX1 9, w ∈ wsX1_getsAt := by decide +kernel
  have hw26 : (Cond.fieldLink RX1 26 "OldMeasures" "stalls" "LOldMeasures$Stalls;").before ([.ref (a 0), .int (nI jv), .int w, .int (nI jx)] : List Value).toArray s = true := hts _ (by decide +kernel)
  refine lv_aload_n hx hb dX1_getsAt_0 rfl (lv_at hl 0 rfl) ?_
  refine lv_iload_n hx hb dX1_getsAt_1 rfl (lv_at hl 1 rfl) ?_
  refine ro_v (va_runV (As := [.int (nI jv)]) (rest := []) ⟨hx, hb, hml, hown, hts⟩ (k_X1_needStall l D cI cJ cR a k st fi fB fS fO fL c t y fW fD c2 t2 y2 gW gD hc jv (by omega)) (cwV 1 hts gX1_getsAt_X1_needStall rfl rfl rfl (by decide +kernel) ⟨Nat.le_of_ble_eq_true rfl, Nat.le_of_ble_eq_true rfl⟩) (preV_ro KC_ok hP hC (va_recv hK hP (ci := 1) (q0 := 0) rfl rfl)) rfl rfl hl.1 rfl (lv_room (Nat.le_of_ble_eq_true rfl)) dX1_getsAt_2 ⟨by decide, by decide⟩) (fun _ => ?_)
  refine lv_aload_n hx hb dX1_getsAt_5 rfl (lv_at hl 0 rfl) ?_
  refine lv_iload_n hx hb dX1_getsAt_6 rfl (lv_at hl 3 rfl) ?_
  refine ro_v (va_runV (As := [.int (nI jx)]) (rest := []) ⟨hx, hb, hml, hown, hts⟩ (k_X1_needMeasure l D cI cJ cR a k st fi fB fS fO fL c t y fW fD c2 t2 y2 gW gD hk8 jx (by omega)) (cwV 1 hts gX1_getsAt_X1_needMeasure rfl rfl rfl (by decide +kernel) ⟨Nat.le_of_ble_eq_true rfl, Nat.le_of_ble_eq_true rfl⟩) (preV_ro KC_ok hP hC (va_recv hK hP (ci := 1) (q0 := 0) rfl rfl)) rfl rfl hl.1 rfl (lv_room (Nat.le_of_ble_eq_true rfl)) dX1_getsAt_7 ⟨by decide, by decide⟩) (fun _ => ?_)
  refine lv_iload_n hx hb dX1_getsAt_10 rfl (lv_at hl 2 rfl) ?_
  refine ro_v (va_runS (As := [.int w]) (rest := []) ⟨hx, hb, hml, hown, hts⟩ (k_X1_needMany l D cI cJ cR a w hw9) (va_cwS 1 hts gX1_getsAt_X1_needMany rfl rfl rfl (by decide +kernel) ⟨Nat.le_of_ble_eq_true rfl, Nat.le_of_ble_eq_true rfl⟩) (preS_ro KC_ok (hP.sub (ws' := []) [] rfl) hC) rfl rfl hl.1 rfl (lv_room (Nat.le_of_ble_eq_true rfl)) dX1_getsAt_11 ⟨by decide, by decide⟩) (fun _ => ?_)
  refine lv_aload_n hx hb dX1_getsAt_14 rfl (lv_at hl 0 rfl) ?_
  refine lv_aload_n hx hb dX1_getsAt_15 rfl (lv_at hl 0 rfl) ?_
  refine va_get (D := D) (ci := 1) (v := .ref (a 5)) (C := RX1) (T := TX1) (N := 9) hx hb hts hiX1 hown hK hP 0 rfl rfl 4 (by decide) hw26 (fun _ h9 => h9) rfl dX1_getsAt_16 ?_
  refine va_getN (host := RX1) (D := D) (ci := 0) (v := .ref (a 7)) (C := RX0) (T := TX0) (N := 5) hx hb hts hiX0 hown hK hP 5 rfl rfl 1 (by decide) (va_Nw.use rfl hC.2.2.2.2.1) (fun _ h9 => h9) rfl dX1_getsAt_19 ?_
  refine lv_iload_n hx hb dX1_getsAt_22 rfl (lv_at hl 1 rfl) ?_
  refine xa_iald hx hb hK hP 7 0 rfl rfl (by omega) (by decide) dX1_getsAt_23 ?_
  refine lv_iload_n hx hb dX1_getsAt_24 rfl (lv_at hl 2 rfl) ?_
  refine lv_iload_n hx hb dX1_getsAt_25 rfl (lv_at hl 3 rfl) ?_
  refine ro_lE (va_runV (As := [.int (fD jv), .int w, .int (nI jx)]) (rest := []) ⟨hx, hb, hml, hown, hts⟩ (c_X1_givenWith l D cI cJ cR a k st fi fB fS fO fL c t y fW fD c2 t2 y2 gW gD hM hst2 (fD jv) w jx (by omega)) (cwV 3 hts gX1_getsAt_X1_givenWith rfl rfl rfl (by decide +kernel) ⟨Nat.le_of_ble_eq_true rfl, Nat.le_of_ble_eq_true rfl⟩) (preV_ro KC_ok (hP.sub (ws' := [((a 0), .inr (1, [.ref (a 1), .ref (a 2), .ref (a 3), .ref (a 4), .ref (a 5), .ref (a 8), .int (nI k), .int (nI st), .int fi])), ((a 1), .inl (cI, 8, .inl fB)), ((a 2), .inl (cI, 8, .inl fS)), ((a 3), .inl (cJ, 8, .inr (.inl fL))), ((a 4), .inl (cI, 8, .inl fO)), ((a 5), .inr (0, [.ref (a 6), .ref (a 7), .int (nI c), .int t, .int (nI y)])), ((a 6), .inl (cI, 6, .inl fW)), ((a 7), .inl (cI, 6, .inl fD)), ((a 8), .inr (0, [.ref (a 9), .ref (a 10), .int c2, .int t2, .int y2])), ((a 9), .inl (cI, 6, .inl gW)), ((a 10), .inl (cI, 6, .inl gD))]) [0, 1, 2, 3, 4, 5, 6, 7, 8, 9, 10] rfl) hC (va_recv hK hP (ci := 1) (q0 := 0) rfl rfl)) rfl rfl hl.1 rfl (lv_room (Nat.le_of_ble_eq_true rfl)) dX1_getsAt_26 ⟨by decide, by decide⟩) ?_
  exact W.lret (v := (gvn (fL jx) (fL st) w (fD jv))) hx hb hr (fun t9 ht hW => ⟨_, rfl, rfl, ht⟩) (fun q hq => absurd hq List.not_mem_nil) dX1_getsAt_29

set_option maxHeartbeats 4000000 in
set_option maxRecDepth 100000 in
theorem k_X1_stepsToEll (l : Launch) (D : va_G) (cI cJ cR : ClassId) (a : Nat → Nat) (k st : Nat) (fi : Int32) (fB fS fO : Nat → Int32) (fL : Nat → Int64) (c : Nat) (t : Int32) (y : Nat) (fW fD : Nat → Int32) (c2 t2 y2 : Int32) (gW gD : Nat → Int32) (hk8 : k ≤ 8) (jx : Nat) (hj_x : jx < k) : Met l yX1_stepsToEll wsX1_stepsToEll ({ frames := 6, cells := 0, slots := 0, locals := 160 }) (cP D [((a 0), .inr (1, [.ref (a 1), .ref (a 2), .ref (a 3), .ref (a 4), .ref (a 5), .ref (a 8), .int (nI k), .int (nI st), .int fi])), ((a 1), .inl (cI, 8, .inl fB)), ((a 2), .inl (cI, 8, .inl fS)), ((a 3), .inl (cJ, 8, .inr (.inl fL))), ((a 4), .inl (cI, 8, .inl fO)), ((a 5), .inr (0, [.ref (a 6), .ref (a 7), .int (nI c), .int t, .int (nI y)])), ((a 6), .inl (cI, 6, .inl fW)), ((a 7), .inl (cI, 6, .inl fD)), ((a 8), .inr (0, [.ref (a 9), .ref (a 10), .int c2, .int t2, .int y2])), ((a 9), .inl (cI, 6, .inl gW)), ((a 10), .inl (cI, 6, .inl gD))] (KC D cI cJ cR) [.ref (a 0), .int (nI jx)]) (roi (fun r => r = fS jx)) 0 0 (fun _ => False) := by
  refine Met.ofW (cc := cX1_stepsToEll) (maxL := 2) (ret := (some .int)) (by decide +kernel) rfl ?_
  intro p e s m args below meth c9 s₁ B hml hv
  obtain ⟨rfl, hP, hC⟩ := hv
  have hx := B.exec
  have hb := B.bytes
  have hr := B.returns
  have hts := atoms_spec (ws := wsX1_stepsToEll) B.pre
  have hown : s.vm.findClass RX1 = some m.cls := findClass_of_methodNamed B.named
  have hlocks := B.notSynchronized
  have hK : va_K D vwCl [(cI, .int), (cJ, .long), (cR, .array .int)] s := hC.1
  have hl := lv_entry ([.ref (a 0), .int (nI jx)]) (n := 2) (Nat.le_of_ble_eq_true rfl)
  rw [lg_entry_eq]
  generalize (lg_sl ([.ref (a 0), .int (nI jx)]) ++ List.replicate (2 - (lg_sl ([.ref (a 0), .int (nI jx)])).length) Slot.unset).toArray = ls at hl ⊢
  have hl : lv_has ls 2 [(0, .ref (a 0)), (1, .int (nI jx))] := hl
  have hiX1 : ∀ w ∈ u_ws RX1 TX1 9, w ∈ wsX1_stepsToEll := by decide +kernel
  have hw13 : (Cond.fieldLink RX1 13 "OldMeasures" "steps" "[I").before ([.ref (a 0), .int (nI jx)] : List Value).toArray s = true := hts _ (by decide +kernel)
  refine lv_aload_n hx hb dX1_stepsToEll_0 rfl (lv_at hl 0 rfl) ?_
  refine lv_iload_n hx hb dX1_stepsToEll_1 rfl (lv_at hl 1 rfl) ?_
  refine ro_v (va_runV (As := [.int (nI jx)]) (rest := []) ⟨hx, hb, hml, hown, hts⟩ (k_X1_needMeasure l D cI cJ cR a k st fi fB fS fO fL c t y fW fD c2 t2 y2 gW gD hk8 jx (by omega)) (cwV 1 hts gX1_stepsToEll_X1_needMeasure rfl rfl rfl (by decide +kernel) ⟨Nat.le_of_ble_eq_true rfl, Nat.le_of_ble_eq_true rfl⟩) (preV_ro KC_ok hP hC (va_recv hK hP (ci := 1) (q0 := 0) rfl rfl)) rfl rfl hl.1 rfl (lv_room (Nat.le_of_ble_eq_true rfl)) dX1_stepsToEll_2 ⟨by decide, by decide⟩) (fun _ => ?_)
  refine lv_aload_n hx hb dX1_stepsToEll_5 rfl (lv_at hl 0 rfl) ?_
  refine va_get (D := D) (ci := 1) (v := .ref (a 2)) (C := RX1) (T := TX1) (N := 9) hx hb hts hiX1 hown hK hP 0 rfl rfl 1 (by decide) hw13 (fun _ h9 => h9) rfl dX1_stepsToEll_6 ?_
  refine lv_iload_n hx hb dX1_stepsToEll_9 rfl (lv_at hl 1 rfl) ?_
  refine xa_iald hx hb hK hP 2 0 rfl rfl (by omega) (by decide) dX1_stepsToEll_10 ?_
  exact W.iret (v := (fS jx)) hx hb hr (fun t9 ht hW => ⟨_, rfl, rfl, ht⟩) (fun q hq => absurd hq List.not_mem_nil) dX1_stepsToEll_11

set_option maxHeartbeats 4000000 in
set_option maxRecDepth 100000 in
theorem k_X1_isLonger (l : Launch) (D : va_G) (cI cJ cR : ClassId) (a : Nat → Nat) (k st : Nat) (fi : Int32) (fB fS fO : Nat → Int32) (fL : Nat → Int64) (c : Nat) (t : Int32) (y : Nat) (fW fD : Nat → Int32) (c2 t2 y2 : Int32) (gW gD : Nat → Int32) (hM : MOk k fL fO) (hst2 : st < k) (jx : Nat) (hj_x : jx < k) (jz : Nat) (hj_z : jz < k) : Met l yX1_isLonger wsX1_isLonger ({ frames := 6, cells := 0, slots := 0, locals := 160 }) (cP D [((a 0), .inr (1, [.ref (a 1), .ref (a 2), .ref (a 3), .ref (a 4), .ref (a 5), .ref (a 8), .int (nI k), .int (nI st), .int fi])), ((a 1), .inl (cI, 8, .inl fB)), ((a 2), .inl (cI, 8, .inl fS)), ((a 3), .inl (cJ, 8, .inr (.inl fL))), ((a 4), .inl (cI, 8, .inl fO)), ((a 5), .inr (0, [.ref (a 6), .ref (a 7), .int (nI c), .int t, .int (nI y)])), ((a 6), .inl (cI, 6, .inl fW)), ((a 7), .inl (cI, 6, .inl fD)), ((a 8), .inr (0, [.ref (a 9), .ref (a 10), .int c2, .int t2, .int y2])), ((a 9), .inl (cI, 6, .inl gW)), ((a 10), .inl (cI, 6, .inl gD))] (KC D cI cJ cR) [.ref (a 0), .int (nI jx), .int (nI jz)]) (roi (fun r => r = bz ((fL jz).toInt < (fL jx).toInt))) 0 0 (fun _ => False) := by
  refine Met.ofW (cc := cX1_isLonger) (maxL := 3) (ret := (some .boolean)) (by decide +kernel) rfl ?_
  intro p e s m args below meth c9 s₁ B hml hv
  obtain ⟨rfl, hP, hC⟩ := hv
  have hx := B.exec
  have hb := B.bytes
  have hr := B.returns
  have hts := atoms_spec (ws := wsX1_isLonger) B.pre
  have hown : s.vm.findClass RX1 = some m.cls := findClass_of_methodNamed B.named
  have hlocks := B.notSynchronized
  have hK : va_K D vwCl [(cI, .int), (cJ, .long), (cR, .array .int)] s := hC.1
  have hl := lv_entry ([.ref (a 0), .int (nI jx), .int (nI jz)]) (n := 3) (Nat.le_of_ble_eq_true rfl)
  rw [lg_entry_eq]
  generalize (lg_sl ([.ref (a 0), .int (nI jx), .int (nI jz)]) ++ List.replicate (3 - (lg_sl ([.ref (a 0), .int (nI jx), .int (nI jz)])).length) Slot.unset).toArray = ls at hl ⊢
  have hl : lv_has ls 3 [(0, .ref (a 0)), (1, .int (nI jx)), (2, .int (nI jz))] := hl
  have hk8 : k ≤ 8 := hM.2.1
  have hk1 : 1 ≤ k := hM.1
  have hiX1 : ∀ w ∈ u_ws RX1 TX1 9, w ∈ wsX1_isLonger := by decide +kernel
  have hw16 : (Cond.fieldLink RX1 16 "OldMeasures" "lengths" "[J").before ([.ref (a 0), .int (nI jx), .int (nI jz)] : List Value).toArray s = true := hts _ (by decide +kernel)
  refine lv_aload_n hx hb dX1_isLonger_0 rfl (lv_at hl 0 rfl) ?_
  refine lv_iload_n hx hb dX1_isLonger_1 rfl (lv_at hl 1 rfl) ?_
  refine ro_v (va_runV (As := [.int (nI jx)]) (rest := []) ⟨hx, hb, hml, hown, hts⟩ (k_X1_needMeasure l D cI cJ cR a k st fi fB fS fO fL c t y fW fD c2 t2 y2 gW gD hk8 jx (by omega)) (cwV 1 hts gX1_isLonger_X1_needMeasure rfl rfl rfl (by decide +kernel) ⟨Nat.le_of_ble_eq_true rfl, Nat.le_of_ble_eq_true rfl⟩) (preV_ro KC_ok hP hC (va_recv hK hP (ci := 1) (q0 := 0) rfl rfl)) rfl rfl hl.1 rfl (lv_room (Nat.le_of_ble_eq_true rfl)) dX1_isLonger_2 ⟨by decide, by decide⟩) (fun _ => ?_)
  refine lv_aload_n hx hb dX1_isLonger_5 rfl (lv_at hl 0 rfl) ?_
  refine lv_iload_n hx hb dX1_isLonger_6 rfl (lv_at hl 2 rfl) ?_
  refine ro_v (va_runV (As := [.int (nI jz)]) (rest := []) ⟨hx, hb, hml, hown, hts⟩ (k_X1_needMeasure l D cI cJ cR a k st fi fB fS fO fL c t y fW fD c2 t2 y2 gW gD hk8 jz (by omega)) (cwV 1 hts gX1_isLonger_X1_needMeasure rfl rfl rfl (by decide +kernel) ⟨Nat.le_of_ble_eq_true rfl, Nat.le_of_ble_eq_true rfl⟩) (preV_ro KC_ok hP hC (va_recv hK hP (ci := 1) (q0 := 0) rfl rfl)) rfl rfl hl.1 rfl (lv_room (Nat.le_of_ble_eq_true rfl)) dX1_isLonger_7 ⟨by decide, by decide⟩) (fun _ => ?_)
  refine lv_aload_n hx hb dX1_isLonger_10 rfl (lv_at hl 0 rfl) ?_
  refine va_get (D := D) (ci := 1) (v := .ref (a 3)) (C := RX1) (T := TX1) (N := 9) hx hb hts hiX1 hown hK hP 0 rfl rfl 2 (by decide) hw16 (fun _ h9 => h9) rfl dX1_isLonger_11 ?_
  refine lv_iload_n hx hb dX1_isLonger_14 rfl (lv_at hl 1 rfl) ?_
  refine xa_lald hx hb hK hP 3 1 rfl rfl (by omega) (by decide) dX1_isLonger_15 ?_
  refine lv_aload_n hx hb dX1_isLonger_16 rfl (lv_at hl 0 rfl) ?_
  refine va_get (D := D) (ci := 1) (v := .ref (a 3)) (C := RX1) (T := TX1) (N := 9) hx hb hts hiX1 hown hK hP 0 rfl rfl 2 (by decide) hw16 (fun _ h9 => h9) rfl dX1_isLonger_17 ?_
  refine lv_iload_n hx hb dX1_isLonger_20 rfl (lv_at hl 2 rfl) ?_
  refine xa_lald hx hb hK hP 3 1 rfl rfl (by omega) (by decide) dX1_isLonger_21 ?_
  refine W.lcmp hx hb dX1_isLonger_22 ?_
  refine lv_if_le (tgt := 30) hx hb dX1_isLonger_23 (by decide) (fun c_23 => ?_) (fun c_23 => ?_)
  · skip
    have c_23 := (lgc_le _ _).mp c_23
    refine lv_iconst (v := 0) hx hb dX1_isLonger_30 (by decide) ?_
    exact W.zret (v := 0) hx hb hr rfl (fun t9 ht hW => ⟨_, rfl, by first | exact (bz_t (by omega)).symm | exact (bz_f (by omega)).symm, ht⟩) (fun q hq => absurd hq List.not_mem_nil) dX1_isLonger_31
  · skip
    have c_23 := (not_congr (lgc_le _ _)).mp c_23
    refine lv_iconst (v := 1) hx hb dX1_isLonger_26 (by decide) ?_
    refine lv_goto (tgt := 31) hx hb dX1_isLonger_27 (by decide) ?_
    exact W.zret (v := 1) hx hb hr rfl (fun t9 ht hW => ⟨_, rfl, by first | exact (bz_t (by omega)).symm | exact (bz_f (by omega)).symm, ht⟩) (fun q hq => absurd hq List.not_mem_nil) dX1_isLonger_31

set_option maxHeartbeats 4000000 in
set_option maxRecDepth 100000 in
theorem k_X1_fewestToMeet (l : Launch) (D : va_G) (cI cJ cR : ClassId) (a : Nat → Nat) (k st : Nat) (fi : Int32) (fB fS fO : Nat → Int32) (fL : Nat → Int64) (c : Nat) (t : Int32) (y : Nat) (fW fD : Nat → Int32) (c2 t2 y2 : Int32) (gW gD : Nat → Int32) (hM : MOk k fL fO) (hst2 : st < k) (jx : Nat) (hj_x : jx < k) (jz : Nat) (hj_z : jz < k) : Met l yX1_fewestToMeet wsX1_fewestToMeet ({ frames := 6, cells := 0, slots := 0, locals := 160 }) (cP D [((a 0), .inr (1, [.ref (a 1), .ref (a 2), .ref (a 3), .ref (a 4), .ref (a 5), .ref (a 8), .int (nI k), .int (nI st), .int fi])), ((a 1), .inl (cI, 8, .inl fB)), ((a 2), .inl (cI, 8, .inl fS)), ((a 3), .inl (cJ, 8, .inr (.inl fL))), ((a 4), .inl (cI, 8, .inl fO)), ((a 5), .inr (0, [.ref (a 6), .ref (a 7), .int (nI c), .int t, .int (nI y)])), ((a 6), .inl (cI, 6, .inl fW)), ((a 7), .inl (cI, 6, .inl fD)), ((a 8), .inr (0, [.ref (a 9), .ref (a 10), .int c2, .int t2, .int y2])), ((a 9), .inl (cI, 6, .inl gW)), ((a 10), .inl (cI, 6, .inl gD))] (KC D cI cJ cR) [.ref (a 0), .int (nI jx), .int (nI jz)]) (rol (fun r => r = tp (fL jz) (fL jx))) 0 0 (fun _ => False) := by
  refine Met.ofW (cc := cX1_fewestToMeet) (maxL := 3) (ret := (some .long)) (by decide +kernel) rfl ?_
  intro p e s m args below meth c9 s₁ B hml hv
  obtain ⟨rfl, hP, hC⟩ := hv
  have hx := B.exec
  have hb := B.bytes
  have hr := B.returns
  have hts := atoms_spec (ws := wsX1_fewestToMeet) B.pre
  have hown : s.vm.findClass RX1 = some m.cls := findClass_of_methodNamed B.named
  have hlocks := B.notSynchronized
  have hK : va_K D vwCl [(cI, .int), (cJ, .long), (cR, .array .int)] s := hC.1
  have hl := lv_entry ([.ref (a 0), .int (nI jx), .int (nI jz)]) (n := 3) (Nat.le_of_ble_eq_true rfl)
  rw [lg_entry_eq]
  generalize (lg_sl ([.ref (a 0), .int (nI jx), .int (nI jz)]) ++ List.replicate (3 - (lg_sl ([.ref (a 0), .int (nI jx), .int (nI jz)])).length) Slot.unset).toArray = ls at hl ⊢
  have hl : lv_has ls 3 [(0, .ref (a 0)), (1, .int (nI jx)), (2, .int (nI jz))] := hl
  have hk8 : k ≤ 8 := hM.2.1
  have hk1 : 1 ≤ k := hM.1
  have hiX1 : ∀ w ∈ u_ws RX1 TX1 9, w ∈ wsX1_fewestToMeet := by decide +kernel
  have hw16 : (Cond.fieldLink RX1 16 "OldMeasures" "lengths" "[J").before ([.ref (a 0), .int (nI jx), .int (nI jz)] : List Value).toArray s = true := hts _ (by decide +kernel)
  refine lv_aload_n hx hb dX1_fewestToMeet_0 rfl (lv_at hl 0 rfl) ?_
  refine lv_iload_n hx hb dX1_fewestToMeet_1 rfl (lv_at hl 1 rfl) ?_
  refine ro_v (va_runV (As := [.int (nI jx)]) (rest := []) ⟨hx, hb, hml, hown, hts⟩ (k_X1_needMeasure l D cI cJ cR a k st fi fB fS fO fL c t y fW fD c2 t2 y2 gW gD hk8 jx (by omega)) (cwV 1 hts gX1_fewestToMeet_X1_needMeasure rfl rfl rfl (by decide +kernel) ⟨Nat.le_of_ble_eq_true rfl, Nat.le_of_ble_eq_true rfl⟩) (preV_ro KC_ok hP hC (va_recv hK hP (ci := 1) (q0 := 0) rfl rfl)) rfl rfl hl.1 rfl (lv_room (Nat.le_of_ble_eq_true rfl)) dX1_fewestToMeet_2 ⟨by decide, by decide⟩) (fun _ => ?_)
  refine lv_aload_n hx hb dX1_fewestToMeet_5 rfl (lv_at hl 0 rfl) ?_
  refine lv_iload_n hx hb dX1_fewestToMeet_6 rfl (lv_at hl 2 rfl) ?_
  refine ro_v (va_runV (As := [.int (nI jz)]) (rest := []) ⟨hx, hb, hml, hown, hts⟩ (k_X1_needMeasure l D cI cJ cR a k st fi fB fS fO fL c t y fW fD c2 t2 y2 gW gD hk8 jz (by omega)) (cwV 1 hts gX1_fewestToMeet_X1_needMeasure rfl rfl rfl (by decide +kernel) ⟨Nat.le_of_ble_eq_true rfl, Nat.le_of_ble_eq_true rfl⟩) (preV_ro KC_ok hP hC (va_recv hK hP (ci := 1) (q0 := 0) rfl rfl)) rfl rfl hl.1 rfl (lv_room (Nat.le_of_ble_eq_true rfl)) dX1_fewestToMeet_7 ⟨by decide, by decide⟩) (fun _ => ?_)
  refine lv_aload_n hx hb dX1_fewestToMeet_10 rfl (lv_at hl 0 rfl) ?_
  refine va_get (D := D) (ci := 1) (v := .ref (a 3)) (C := RX1) (T := TX1) (N := 9) hx hb hts hiX1 hown hK hP 0 rfl rfl 2 (by decide) hw16 (fun _ h9 => h9) rfl dX1_fewestToMeet_11 ?_
  refine lv_iload_n hx hb dX1_fewestToMeet_14 rfl (lv_at hl 2 rfl) ?_
  refine xa_lald hx hb hK hP 3 1 rfl rfl (by omega) (by decide) dX1_fewestToMeet_15 ?_
  refine lv_aload_n hx hb dX1_fewestToMeet_16 rfl (lv_at hl 0 rfl) ?_
  refine va_get (D := D) (ci := 1) (v := .ref (a 3)) (C := RX1) (T := TX1) (N := 9) hx hb hts hiX1 hown hK hP 0 rfl rfl 2 (by decide) hw16 (fun _ h9 => h9) rfl dX1_fewestToMeet_17 ?_
  refine lv_iload_n hx hb dX1_fewestToMeet_20 rfl (lv_at hl 1 rfl) ?_
  refine xa_lald hx hb hK hP 3 1 rfl rfl (by omega) (by decide) dX1_fewestToMeet_21 ?_
  refine ro_lE (va_runS (As := [.long (fL jz), .long (fL jx)]) (rest := []) ⟨hx, hb, hml, hown, hts⟩ (c_X1_wcd l (fL jz) (fL jx) (hM.2.2.1 _ (by omega)) (hM.2.2.1 _ (by omega))) (va_cwS 2 hts gX1_fewestToMeet_X1_withoutCommonDivisor rfl rfl rfl (by decide +kernel) ⟨Nat.le_of_ble_eq_true rfl, Nat.le_of_ble_eq_true rfl⟩) pre0 rfl rfl hl.1 rfl (lv_room (Nat.le_of_ble_eq_true rfl)) dX1_fewestToMeet_22 ⟨by decide, by decide⟩) ?_
  exact W.lret (v := (tp (fL jz) (fL jx))) hx hb hr (fun t9 ht hW => ⟨_, rfl, rfl, ht⟩) (fun q hq => absurd hq List.not_mem_nil) dX1_fewestToMeet_25

set_option maxHeartbeats 4000000 in
set_option maxRecDepth 100000 in
theorem k_X1_convert (l : Launch) (D : va_G) (cI cJ cR : ClassId) (a : Nat → Nat) (k st : Nat) (fi : Int32) (fB fS fO : Nat → Int32) (fL : Nat → Int64) (c : Nat) (t : Int32) (y : Nat) (fW fD : Nat → Int32) (c2 t2 y2 : Int32) (gW gD : Nat → Int32) (hM : MOk k fL fO) (hst2 : st < k) (w : Int32) (hw9 : inR 1 200 w) (jx : Nat) (hj_x : jx < k) (jz : Nat) (hj_z : jz < k) : Met l yX1_convert wsX1_convert ({ frames := 6, cells := 0, slots := 0, locals := 160 }) (cP D [((a 0), .inr (1, [.ref (a 1), .ref (a 2), .ref (a 3), .ref (a 4), .ref (a 5), .ref (a 8), .int (nI k), .int (nI st), .int fi])), ((a 1), .inl (cI, 8, .inl fB)), ((a 2), .inl (cI, 8, .inl fS)), ((a 3), .inl (cJ, 8, .inr (.inl fL))), ((a 4), .inl (cI, 8, .inl fO)), ((a 5), .inr (0, [.ref (a 6), .ref (a 7), .int (nI c), .int t, .int (nI y)])), ((a 6), .inl (cI, 6, .inl fW)), ((a 7), .inl (cI, 6, .inl fD)), ((a 8), .inr (0, [.ref (a 9), .ref (a 10), .int c2, .int t2, .int y2])), ((a 9), .inl (cI, 6, .inl gW)), ((a 10), .inl (cI, 6, .inl gD))] (KC D cI cJ cR) [.ref (a 0), .int w, .int (nI jx), .int (nI jz)]) (rol (fun r => r = fL jx * w.toInt64 / fL jz)) 0 0 (fun _ => False) := by
  refine Met.ofW (cc := cX1_convert) (maxL := 4) (ret := (some .long)) (by decide +kernel) rfl ?_
  intro p e s m args below meth c9 s₁ B hml hv
  obtain ⟨rfl, hP, hC⟩ := hv
  have hx := B.exec
  have hb := B.bytes
  have hr := B.returns
  have hts := atoms_spec (ws := wsX1_convert) B.pre
  have hown : s.vm.findClass RX1 = some m.cls := findClass_of_methodNamed B.named
  have hlocks := B.notSynchronized
  have hK : va_K D vwCl [(cI, .int), (cJ, .long), (cR, .array .int)] s := hC.1
  have hl := lv_entry ([.ref (a 0), .int w, .int (nI jx), .int (nI jz)]) (n := 4) (Nat.le_of_ble_eq_true rfl)
  rw [lg_entry_eq]
  generalize (lg_sl ([.ref (a 0), .int w, .int (nI jx), .int (nI jz)]) ++ List.replicate (4 - (lg_sl ([.ref (a 0), .int w, .int (nI jx), .int (nI jz)])).length) Slot.unset).toArray = ls at hl ⊢
  have hl : lv_has ls 4 [(0, .ref (a 0)), (1, .int w), (2, .int (nI jx)), (3, .int (nI jz))] := hl
  have hk8 : k ≤ 8 := hM.2.1
  have hk1 : 1 ≤ k := hM.1
  have hiX1 : ∀ w ∈ u_ws RX1 TX1 9, w ∈ wsX1_convert := by decide +kernel
  have hw16 : (Cond.fieldLink RX1 16 "OldMeasures" "lengths" "[J").before ([.ref (a 0), .int w, .int (nI jx), .int (nI jz)] : List Value).toArray s = true := hts _ (by decide +kernel)
  refine lv_aload_n hx hb dX1_convert_0 rfl (lv_at hl 0 rfl) ?_
  refine lv_iload_n hx hb dX1_convert_1 rfl (lv_at hl 2 rfl) ?_
  refine ro_v (va_runV (As := [.int (nI jx)]) (rest := []) ⟨hx, hb, hml, hown, hts⟩ (k_X1_needMeasure l D cI cJ cR a k st fi fB fS fO fL c t y fW fD c2 t2 y2 gW gD hk8 jx (by omega)) (cwV 1 hts gX1_convert_X1_needMeasure rfl rfl rfl (by decide +kernel) ⟨Nat.le_of_ble_eq_true rfl, Nat.le_of_ble_eq_true rfl⟩) (preV_ro KC_ok hP hC (va_recv hK hP (ci := 1) (q0 := 0) rfl rfl)) rfl rfl hl.1 rfl (lv_room (Nat.le_of_ble_eq_true rfl)) dX1_convert_2 ⟨by decide, by decide⟩) (fun _ => ?_)
  refine lv_aload_n hx hb dX1_convert_5 rfl (lv_at hl 0 rfl) ?_
  refine lv_iload_n hx hb dX1_convert_6 rfl (lv_at hl 3 rfl) ?_
  refine ro_v (va_runV (As := [.int (nI jz)]) (rest := []) ⟨hx, hb, hml, hown, hts⟩ (k_X1_needMeasure l D cI cJ cR a k st fi fB fS fO fL c t y fW fD c2 t2 y2 gW gD hk8 jz (by omega)) (cwV 1 hts gX1_convert_X1_needMeasure rfl rfl rfl (by decide +kernel) ⟨Nat.le_of_ble_eq_true rfl, Nat.le_of_ble_eq_true rfl⟩) (preV_ro KC_ok hP hC (va_recv hK hP (ci := 1) (q0 := 0) rfl rfl)) rfl rfl hl.1 rfl (lv_room (Nat.le_of_ble_eq_true rfl)) dX1_convert_7 ⟨by decide, by decide⟩) (fun _ => ?_)
  refine lv_iload_n hx hb dX1_convert_10 rfl (lv_at hl 1 rfl) ?_
  refine ro_v (va_runS (As := [.int w]) (rest := []) ⟨hx, hb, hml, hown, hts⟩ (k_X1_needMany l D cI cJ cR a w hw9) (va_cwS 1 hts gX1_convert_X1_needMany rfl rfl rfl (by decide +kernel) ⟨Nat.le_of_ble_eq_true rfl, Nat.le_of_ble_eq_true rfl⟩) (preS_ro KC_ok (hP.sub (ws' := []) [] rfl) hC) rfl rfl hl.1 rfl (lv_room (Nat.le_of_ble_eq_true rfl)) dX1_convert_11 ⟨by decide, by decide⟩) (fun _ => ?_)
  refine lv_aload_n hx hb dX1_convert_14 rfl (lv_at hl 0 rfl) ?_
  refine va_get (D := D) (ci := 1) (v := .ref (a 3)) (C := RX1) (T := TX1) (N := 9) hx hb hts hiX1 hown hK hP 0 rfl rfl 2 (by decide) hw16 (fun _ h9 => h9) rfl dX1_convert_15 ?_
  refine lv_iload_n hx hb dX1_convert_18 rfl (lv_at hl 2 rfl) ?_
  refine xa_lald hx hb hK hP 3 1 rfl rfl (by omega) (by decide) dX1_convert_19 ?_
  refine lv_iload_n hx hb dX1_convert_20 rfl (lv_at hl 1 rfl) ?_
  refine lv_i2l (v := (w).toInt64) hx hb dX1_convert_21 rfl ?_
  refine lv_lmul hx hb dX1_convert_22 ?_
  refine lv_aload_n hx hb dX1_convert_23 rfl (lv_at hl 0 rfl) ?_
  refine va_get (D := D) (ci := 1) (v := .ref (a 3)) (C := RX1) (T := TX1) (N := 9) hx hb hts hiX1 hown hK hP 0 rfl rfl 2 (by decide) hw16 (fun _ h9 => h9) rfl dX1_convert_24 ?_
  refine lv_iload_n hx hb dX1_convert_27 rfl (lv_at hl 3 rfl) ?_
  refine xa_lald hx hb hK hP 3 1 rfl rfl (by omega) (by decide) dX1_convert_28 ?_
  refine ro_lE (va_runS (As := [.long ((fL jx) * (w).toInt64), .long (fL jz)]) (rest := []) ⟨hx, hb, hml, hown, hts⟩ (c_X1_timesIn l ((fL jx) * (w).toInt64) (fL jz) (hM.2.2.1 _ (by omega)).1) (va_cwS 2 hts gX1_convert_X1_timesIn rfl rfl rfl (by decide +kernel) ⟨Nat.le_of_ble_eq_true rfl, Nat.le_of_ble_eq_true rfl⟩) pre0 rfl rfl hl.1 rfl (lv_room (Nat.le_of_ble_eq_true rfl)) dX1_convert_29 ⟨by decide, by decide⟩) ?_
  exact W.lret (v := (((fL jx) * (w).toInt64) / (fL jz))) hx hb hr (fun t9 ht hW => ⟨_, rfl, rfl, ht⟩) (fun q hq => absurd hq List.not_mem_nil) dX1_convert_32

set_option maxHeartbeats 4000000 in
set_option maxRecDepth 100000 in
theorem k_X1_isExact (l : Launch) (D : va_G) (cI cJ cR : ClassId) (a : Nat → Nat) (k st : Nat) (fi : Int32) (fB fS fO : Nat → Int32) (fL : Nat → Int64) (c : Nat) (t : Int32) (y : Nat) (fW fD : Nat → Int32) (c2 t2 y2 : Int32) (gW gD : Nat → Int32) (hM : MOk k fL fO) (hst2 : st < k) (w : Int32) (hw9 : inR 1 200 w) (jx : Nat) (hj_x : jx < k) (jz : Nat) (hj_z : jz < k) : Met l yX1_isExact wsX1_isExact ({ frames := 6, cells := 0, slots := 0, locals := 160 }) (cP D [((a 0), .inr (1, [.ref (a 1), .ref (a 2), .ref (a 3), .ref (a 4), .ref (a 5), .ref (a 8), .int (nI k), .int (nI st), .int fi])), ((a 1), .inl (cI, 8, .inl fB)), ((a 2), .inl (cI, 8, .inl fS)), ((a 3), .inl (cJ, 8, .inr (.inl fL))), ((a 4), .inl (cI, 8, .inl fO)), ((a 5), .inr (0, [.ref (a 6), .ref (a 7), .int (nI c), .int t, .int (nI y)])), ((a 6), .inl (cI, 6, .inl fW)), ((a 7), .inl (cI, 6, .inl fD)), ((a 8), .inr (0, [.ref (a 9), .ref (a 10), .int c2, .int t2, .int y2])), ((a 9), .inl (cI, 6, .inl gW)), ((a 10), .inl (cI, 6, .inl gD))] (KC D cI cJ cR) [.ref (a 0), .int w, .int (nI jx), .int (nI jz)]) (roi (fun r => r = bz ((jrem (fL jx * w.toInt64) (fL jz)).toInt = (0 : Int64).toInt))) 0 0 (fun _ => False) := by
  refine Met.ofW (cc := cX1_isExact) (maxL := 4) (ret := (some .boolean)) (by decide +kernel) rfl ?_
  intro p e s m args below meth c9 s₁ B hml hv
  obtain ⟨rfl, hP, hC⟩ := hv
  have hx := B.exec
  have hb := B.bytes
  have hr := B.returns
  have hts := atoms_spec (ws := wsX1_isExact) B.pre
  have hown : s.vm.findClass RX1 = some m.cls := findClass_of_methodNamed B.named
  have hlocks := B.notSynchronized
  have hK : va_K D vwCl [(cI, .int), (cJ, .long), (cR, .array .int)] s := hC.1
  have hl := lv_entry ([.ref (a 0), .int w, .int (nI jx), .int (nI jz)]) (n := 4) (Nat.le_of_ble_eq_true rfl)
  rw [lg_entry_eq]
  generalize (lg_sl ([.ref (a 0), .int w, .int (nI jx), .int (nI jz)]) ++ List.replicate (4 - (lg_sl ([.ref (a 0), .int w, .int (nI jx), .int (nI jz)])).length) Slot.unset).toArray = ls at hl ⊢
  have hl : lv_has ls 4 [(0, .ref (a 0)), (1, .int w), (2, .int (nI jx)), (3, .int (nI jz))] := hl
  have hk8 : k ≤ 8 := hM.2.1
  have hk1 : 1 ≤ k := hM.1
  have hiX1 : ∀ w ∈ u_ws RX1 TX1 9, w ∈ wsX1_isExact := by decide +kernel
  have hw16 : (Cond.fieldLink RX1 16 "OldMeasures" "lengths" "[J").before ([.ref (a 0), .int w, .int (nI jx), .int (nI jz)] : List Value).toArray s = true := hts _ (by decide +kernel)
  refine lv_aload_n hx hb dX1_isExact_0 rfl (lv_at hl 0 rfl) ?_
  refine lv_iload_n hx hb dX1_isExact_1 rfl (lv_at hl 2 rfl) ?_
  refine ro_v (va_runV (As := [.int (nI jx)]) (rest := []) ⟨hx, hb, hml, hown, hts⟩ (k_X1_needMeasure l D cI cJ cR a k st fi fB fS fO fL c t y fW fD c2 t2 y2 gW gD hk8 jx (by omega)) (cwV 1 hts gX1_isExact_X1_needMeasure rfl rfl rfl (by decide +kernel) ⟨Nat.le_of_ble_eq_true rfl, Nat.le_of_ble_eq_true rfl⟩) (preV_ro KC_ok hP hC (va_recv hK hP (ci := 1) (q0 := 0) rfl rfl)) rfl rfl hl.1 rfl (lv_room (Nat.le_of_ble_eq_true rfl)) dX1_isExact_2 ⟨by decide, by decide⟩) (fun _ => ?_)
  refine lv_aload_n hx hb dX1_isExact_5 rfl (lv_at hl 0 rfl) ?_
  refine lv_iload_n hx hb dX1_isExact_6 rfl (lv_at hl 3 rfl) ?_
  refine ro_v (va_runV (As := [.int (nI jz)]) (rest := []) ⟨hx, hb, hml, hown, hts⟩ (k_X1_needMeasure l D cI cJ cR a k st fi fB fS fO fL c t y fW fD c2 t2 y2 gW gD hk8 jz (by omega)) (cwV 1 hts gX1_isExact_X1_needMeasure rfl rfl rfl (by decide +kernel) ⟨Nat.le_of_ble_eq_true rfl, Nat.le_of_ble_eq_true rfl⟩) (preV_ro KC_ok hP hC (va_recv hK hP (ci := 1) (q0 := 0) rfl rfl)) rfl rfl hl.1 rfl (lv_room (Nat.le_of_ble_eq_true rfl)) dX1_isExact_7 ⟨by decide, by decide⟩) (fun _ => ?_)
  refine lv_iload_n hx hb dX1_isExact_10 rfl (lv_at hl 1 rfl) ?_
  refine ro_v (va_runS (As := [.int w]) (rest := []) ⟨hx, hb, hml, hown, hts⟩ (k_X1_needMany l D cI cJ cR a w hw9) (va_cwS 1 hts gX1_isExact_X1_needMany rfl rfl rfl (by decide +kernel) ⟨Nat.le_of_ble_eq_true rfl, Nat.le_of_ble_eq_true rfl⟩) (preS_ro KC_ok (hP.sub (ws' := []) [] rfl) hC) rfl rfl hl.1 rfl (lv_room (Nat.le_of_ble_eq_true rfl)) dX1_isExact_11 ⟨by decide, by decide⟩) (fun _ => ?_)
  refine lv_aload_n hx hb dX1_isExact_14 rfl (lv_at hl 0 rfl) ?_
  refine va_get (D := D) (ci := 1) (v := .ref (a 3)) (C := RX1) (T := TX1) (N := 9) hx hb hts hiX1 hown hK hP 0 rfl rfl 2 (by decide) hw16 (fun _ h9 => h9) rfl dX1_isExact_15 ?_
  refine lv_iload_n hx hb dX1_isExact_18 rfl (lv_at hl 2 rfl) ?_
  refine xa_lald hx hb hK hP 3 1 rfl rfl (by omega) (by decide) dX1_isExact_19 ?_
  refine lv_iload_n hx hb dX1_isExact_20 rfl (lv_at hl 1 rfl) ?_
  refine lv_i2l (v := (w).toInt64) hx hb dX1_isExact_21 rfl ?_
  refine lv_lmul hx hb dX1_isExact_22 ?_
  refine lv_aload_n hx hb dX1_isExact_23 rfl (lv_at hl 0 rfl) ?_
  refine va_get (D := D) (ci := 1) (v := .ref (a 3)) (C := RX1) (T := TX1) (N := 9) hx hb hts hiX1 hown hK hP 0 rfl rfl 2 (by decide) hw16 (fun _ h9 => h9) rfl dX1_isExact_24 ?_
  refine lv_iload_n hx hb dX1_isExact_27 rfl (lv_at hl 3 rfl) ?_
  refine xa_lald hx hb hK hP 3 1 rfl rfl (by omega) (by decide) dX1_isExact_28 ?_
  refine ro_lE (va_runS (As := [.long ((fL jx) * (w).toInt64), .long (fL jz)]) (rest := []) ⟨hx, hb, hml, hown, hts⟩ (c_X1_leftOf l ((fL jx) * (w).toInt64) (fL jz) (hM.2.2.1 _ (by omega)).1) (va_cwS 2 hts gX1_isExact_X1_leftOf rfl rfl rfl (by decide +kernel) ⟨Nat.le_of_ble_eq_true rfl, Nat.le_of_ble_eq_true rfl⟩) pre0 rfl rfl hl.1 rfl (lv_room (Nat.le_of_ble_eq_true rfl)) dX1_isExact_29 ⟨by decide, by decide⟩) ?_
  refine lv_lconst (v := 0) hx hb dX1_isExact_32 (by decide) ?_
  refine W.lcmp hx hb dX1_isExact_33 ?_
  refine lv_if_ne (tgt := 41) hx hb dX1_isExact_34 (by decide) (fun c_34 => ?_) (fun c_34 => ?_)
  · skip
    have c_34 := (lgc_ne _ _).mp c_34
    refine lv_iconst (v := 0) hx hb dX1_isExact_41 (by decide) ?_
    exact W.zret (v := 0) hx hb hr rfl (fun t9 ht hW => ⟨_, rfl, by first | exact (bz_t (by omega)).symm | exact (bz_f (by omega)).symm, ht⟩) (fun q hq => absurd hq List.not_mem_nil) dX1_isExact_42
  · skip
    have c_34 := (lgc_eq _ _).mp c_34
    refine lv_iconst (v := 1) hx hb dX1_isExact_37 (by decide) ?_
    refine lv_goto (tgt := 42) hx hb dX1_isExact_38 (by decide) ?_
    exact W.zret (v := 1) hx hb hr rfl (fun t9 ht hW => ⟨_, rfl, by first | exact (bz_t (by omega)).symm | exact (bz_f (by omega)).symm, ht⟩) (fun q hq => absurd hq List.not_mem_nil) dX1_isExact_42
end
section
set_option maxHeartbeats 4000000 in
set_option maxRecDepth 100000 in
theorem k_X1_lossAt (l : Launch) (D : va_G) (cI cJ cR : ClassId) (a : Nat → Nat) (k st : Nat) (fi : Int32) (fB fS fO : Nat → Int32) (fL : Nat → Int64) (c : Nat) (t : Int32) (y : Nat) (fW fD : Nat → Int32) (c2 t2 y2 : Int32) (gW gD : Nat → Int32) (hM : MOk k fL fO) (hst2 : st < k) (hc : c ≤ 6) (jv : Nat) (hj_v : jv < c) (w : Int32) (hw9 : inR 1 200 w) (jx : Nat) (hj_x : jx < k) : Met l yX1_lossAt wsX1_lossAt ({ frames := 6, cells := 0, slots := 0, locals := 160 }) (cP D [((a 0), .inr (1, [.ref (a 1), .ref (a 2), .ref (a 3), .ref (a 4), .ref (a 5), .ref (a 8), .int (nI k), .int (nI st), .int fi])), ((a 1), .inl (cI, 8, .inl fB)), ((a 2), .inl (cI, 8, .inl fS)), ((a 3), .inl (cJ, 8, .inr (.inl fL))), ((a 4), .inl (cI, 8, .inl fO)), ((a 5), .inr (0, [.ref (a 6), .ref (a 7), .int (nI c), .int t, .int (nI y)])), ((a 6), .inl (cI, 6, .inl fW)), ((a 7), .inl (cI, 6, .inl fD)), ((a 8), .inr (0, [.ref (a 9), .ref (a 10), .int c2, .int t2, .int y2])), ((a 9), .inl (cI, 6, .inl gW)), ((a 10), .inl (cI, 6, .inl gD))] (KC D cI cJ cR) [.ref (a 0), .int (nI jv), .int w, .int (nI jx)]) (rol (fun r => r = gvn (fL jx) (fL st) w 0 - gvn (fL jx) (fL st) w (fD jv))) 0 0 (fun _ => False) := by
  refine Met.ofW (cc := cX1_lossAt) (maxL := 4) (ret := (some .long)) (by decide +kernel) rfl ?_
  intro p e s m args below meth c9 s₁ B hml hv
  obtain ⟨rfl, hP, hC⟩ := hv
  have hx := B.exec
  have hb := B.bytes
  have hr := B.returns
  have hts := atoms_spec (ws := wsX1_lossAt) B.pre
  have hown : s.vm.findClass RX1 = some m.cls := findClass_of_methodNamed B.named
  have hlocks := B.notSynchronized
  have hK : va_K D vwCl [(cI, .int), (cJ, .long), (cR, .array .int)] s := hC.1
  have hl := lv_entry ([.ref (a 0), .int (nI jv), .int w, .int (nI jx)]) (n := 4) (Nat.le_of_ble_eq_true rfl)
  rw [lg_entry_eq]
  generalize (lg_sl ([.ref (a 0), .int (nI jv), .int w, .int (nI jx)]) ++ List.replicate (4 - (lg_sl ([.ref (a 0), .int (nI jv), .int w, .int (nI jx)])).length) Slot.unset).toArray = ls at hl ⊢
  have hl : lv_has ls 4 [(0, .ref (a 0)), (1, .int (nI jv)), (2, .int w), (3, .int (nI jx))] := hl
  have hk8 : k ≤ 8 := hM.2.1
  have hk1 : 1 ≤ k := hM.1
  have hiX0 : ∀ w ∈ u_ws RX0 TX0 5, w ∈ wsX1_lossAt := by decide +kernel
  have hiX1 : ∀ w ∈ u_ws RX1 TX1 9, w ∈ wsX1_lossAt := by decide +kernel
  have hw26 : (Cond.fieldLink RX1 26 "OldMeasures" "stalls" "LOldMeasures$Stalls;").before ([.ref (a 0), .int (nI jv), .int w, .int (nI jx)] : List Value).toArray s = true := hts _ (by decide +kernel)
  refine lv_aload_n hx hb dX1_lossAt_0 rfl (lv_at hl 0 rfl) ?_
  refine lv_iload_n hx hb dX1_lossAt_1 rfl (lv_at hl 1 rfl) ?_
  refine ro_v (va_runV (As := [.int (nI jv)]) (rest := []) ⟨hx, hb, hml, hown, hts⟩ (k_X1_needStall l D cI cJ cR a k st fi fB fS fO fL c t y fW fD c2 t2 y2 gW gD hc jv (by omega)) (cwV 1 hts gX1_lossAt_X1_needStall rfl rfl rfl (by decide +kernel) ⟨Nat.le_of_ble_eq_true rfl, Nat.le_of_ble_eq_true rfl⟩) (preV_ro KC_ok hP hC (va_recv hK hP (ci := 1) (q0 := 0) rfl rfl)) rfl rfl hl.1 rfl (lv_room (Nat.le_of_ble_eq_true rfl)) dX1_lossAt_2 ⟨by decide, by decide⟩) (fun _ => ?_)
  refine lv_aload_n hx hb dX1_lossAt_5 rfl (lv_at hl 0 rfl) ?_
  refine lv_iload_n hx hb dX1_lossAt_6 rfl (lv_at hl 3 rfl) ?_
  refine ro_v (va_runV (As := [.int (nI jx)]) (rest := []) ⟨hx, hb, hml, hown, hts⟩ (k_X1_needMeasure l D cI cJ cR a k st fi fB fS fO fL c t y fW fD c2 t2 y2 gW gD hk8 jx (by omega)) (cwV 1 hts gX1_lossAt_X1_needMeasure rfl rfl rfl (by decide +kernel) ⟨Nat.le_of_ble_eq_true rfl, Nat.le_of_ble_eq_true rfl⟩) (preV_ro KC_ok hP hC (va_recv hK hP (ci := 1) (q0 := 0) rfl rfl)) rfl rfl hl.1 rfl (lv_room (Nat.le_of_ble_eq_true rfl)) dX1_lossAt_7 ⟨by decide, by decide⟩) (fun _ => ?_)
  refine lv_iload_n hx hb dX1_lossAt_10 rfl (lv_at hl 2 rfl) ?_
  refine ro_v (va_runS (As := [.int w]) (rest := []) ⟨hx, hb, hml, hown, hts⟩ (k_X1_needMany l D cI cJ cR a w hw9) (va_cwS 1 hts gX1_lossAt_X1_needMany rfl rfl rfl (by decide +kernel) ⟨Nat.le_of_ble_eq_true rfl, Nat.le_of_ble_eq_true rfl⟩) (preS_ro KC_ok (hP.sub (ws' := []) [] rfl) hC) rfl rfl hl.1 rfl (lv_room (Nat.le_of_ble_eq_true rfl)) dX1_lossAt_11 ⟨by decide, by decide⟩) (fun _ => ?_)
  refine lv_aload_n hx hb dX1_lossAt_14 rfl (lv_at hl 0 rfl) ?_
  refine lv_iconst (v := 0) hx hb dX1_lossAt_15 (by decide) ?_
  refine lv_iload_n hx hb dX1_lossAt_16 rfl (lv_at hl 2 rfl) ?_
  refine lv_iload_n hx hb dX1_lossAt_17 rfl (lv_at hl 3 rfl) ?_
  refine ro_lE (va_runV (As := [.int 0, .int w, .int (nI jx)]) (rest := []) ⟨hx, hb, hml, hown, hts⟩ (c_X1_givenWith l D cI cJ cR a k st fi fB fS fO fL c t y fW fD c2 t2 y2 gW gD hM hst2 0 w jx (by omega)) (cwV 3 hts gX1_lossAt_X1_givenWith rfl rfl rfl (by decide +kernel) ⟨Nat.le_of_ble_eq_true rfl, Nat.le_of_ble_eq_true rfl⟩) (preV_ro KC_ok (hP.sub (ws' := [((a 0), .inr (1, [.ref (a 1), .ref (a 2), .ref (a 3), .ref (a 4), .ref (a 5), .ref (a 8), .int (nI k), .int (nI st), .int fi])), ((a 1), .inl (cI, 8, .inl fB)), ((a 2), .inl (cI, 8, .inl fS)), ((a 3), .inl (cJ, 8, .inr (.inl fL))), ((a 4), .inl (cI, 8, .inl fO)), ((a 5), .inr (0, [.ref (a 6), .ref (a 7), .int (nI c), .int t, .int (nI y)])), ((a 6), .inl (cI, 6, .inl fW)), ((a 7), .inl (cI, 6, .inl fD)), ((a 8), .inr (0, [.ref (a 9), .ref (a 10), .int c2, .int t2, .int y2])), ((a 9), .inl (cI, 6, .inl gW)), ((a 10), .inl (cI, 6, .inl gD))]) [0, 1, 2, 3, 4, 5, 6, 7, 8, 9, 10] rfl) hC (va_recv hK hP (ci := 1) (q0 := 0) rfl rfl)) rfl rfl hl.1 rfl (lv_room (Nat.le_of_ble_eq_true rfl)) dX1_lossAt_18 ⟨by decide, by decide⟩) ?_
  refine lv_aload_n hx hb dX1_lossAt_21 rfl (lv_at hl 0 rfl) ?_
  refine lv_aload_n hx hb dX1_lossAt_22 rfl (lv_at hl 0 rfl) ?_
  refine va_get (D := D) (ci := 1) (v := .ref (a 5)) (C := RX1) (T := TX1) (N := 9) hx hb hts hiX1 hown hK hP 0 rfl rfl 4 (by decide) hw26 (fun _ h9 => h9) rfl dX1_lossAt_23 ?_
  refine va_getN (host := RX1) (D := D) (ci := 0) (v := .ref (a 7)) (C := RX0) (T := TX0) (N := 5) hx hb hts hiX0 hown hK hP 5 rfl rfl 1 (by decide) (va_Nw.use rfl hC.2.2.2.2.1) (fun _ h9 => h9) rfl dX1_lossAt_26 ?_
  refine lv_iload_n hx hb dX1_lossAt_29 rfl (lv_at hl 1 rfl) ?_
  refine xa_iald hx hb hK hP 7 0 rfl rfl (by omega) (by decide) dX1_lossAt_30 ?_
  refine lv_iload_n hx hb dX1_lossAt_31 rfl (lv_at hl 2 rfl) ?_
  refine lv_iload_n hx hb dX1_lossAt_32 rfl (lv_at hl 3 rfl) ?_
  refine ro_lE (va_runV (As := [.int (fD jv), .int w, .int (nI jx)]) (rest := [.long (gvn (fL jx) (fL st) w 0)]) ⟨hx, hb, hml, hown, hts⟩ (c_X1_givenWith l D cI cJ cR a k st fi fB fS fO fL c t y fW fD c2 t2 y2 gW gD hM hst2 (fD jv) w jx (by omega)) (cwV 3 hts gX1_lossAt_X1_givenWith rfl rfl rfl (by decide +kernel) ⟨Nat.le_of_ble_eq_true rfl, Nat.le_of_ble_eq_true rfl⟩) (preV_ro KC_ok (hP.sub (ws' := [((a 0), .inr (1, [.ref (a 1), .ref (a 2), .ref (a 3), .ref (a 4), .ref (a 5), .ref (a 8), .int (nI k), .int (nI st), .int fi])), ((a 1), .inl (cI, 8, .inl fB)), ((a 2), .inl (cI, 8, .inl fS)), ((a 3), .inl (cJ, 8, .inr (.inl fL))), ((a 4), .inl (cI, 8, .inl fO)), ((a 5), .inr (0, [.ref (a 6), .ref (a 7), .int (nI c), .int t, .int (nI y)])), ((a 6), .inl (cI, 6, .inl fW)), ((a 7), .inl (cI, 6, .inl fD)), ((a 8), .inr (0, [.ref (a 9), .ref (a 10), .int c2, .int t2, .int y2])), ((a 9), .inl (cI, 6, .inl gW)), ((a 10), .inl (cI, 6, .inl gD))]) [0, 1, 2, 3, 4, 5, 6, 7, 8, 9, 10] rfl) hC (va_recv hK hP (ci := 1) (q0 := 0) rfl rfl)) rfl rfl hl.1 rfl (lv_room (Nat.le_of_ble_eq_true rfl)) dX1_lossAt_33 ⟨by decide, by decide⟩) ?_
  refine lv_lsub hx hb dX1_lossAt_36 ?_
  exact W.lret (v := ((gvn (fL jx) (fL st) w 0) - (gvn (fL jx) (fL st) w (fD jv)))) hx hb hr (fun t9 ht hW => ⟨_, rfl, rfl, ht⟩) (fun q hq => absurd hq List.not_mem_nil) dX1_lossAt_37

set_option maxHeartbeats 4000000 in
set_option maxRecDepth 100000 in
theorem k_X1_setStandard (l : Launch) (D : va_G) (cI cJ cR : ClassId) (sz : Nat) (a : Nat → Nat) (k st : Nat) (fi : Int32) (fB fS fO : Nat → Int32) (fL : Nat → Int64) (c : Nat) (t : Int32) (y : Nat) (fW fD : Nat → Int32) (c2 t2 y2 : Int32) (gW gD : Nat → Int32) (hk8 : k ≤ 8) (jx : Nat) (hj_x : jx < k) : Met l yX1_setStandard wsX1_setStandard ({ frames := 6, cells := 0, slots := 0, locals := 160 }) (cPw D [((a 0), .inr (1, [.ref (a 1), .ref (a 2), .ref (a 3), .ref (a 4), .ref (a 5), .ref (a 8), .int (nI k), .int (nI st), .int fi])), ((a 1), .inl (cI, 8, .inl fB)), ((a 2), .inl (cI, 8, .inl fS)), ((a 3), .inl (cJ, 8, .inr (.inl fL))), ((a 4), .inl (cI, 8, .inl fO)), ((a 5), .inr (0, [.ref (a 6), .ref (a 7), .int (nI c), .int t, .int (nI y)])), ((a 6), .inl (cI, 6, .inl fW)), ((a 7), .inl (cI, 6, .inl fD)), ((a 8), .inr (0, [.ref (a 9), .ref (a 10), .int c2, .int t2, .int y2])), ((a 9), .inl (cI, 6, .inl gW)), ((a 10), .inl (cI, 6, .inl gD))] sz (KC D cI cJ cR) [.ref (a 0), .int (nI jx)]) (wri D [((a 0), .inr (1, [.ref (a 1), .ref (a 2), .ref (a 3), .ref (a 4), .ref (a 5), .ref (a 8), .int (nI k), .int (nI st), .int fi])), ((a 1), .inl (cI, 8, .inl fB)), ((a 2), .inl (cI, 8, .inl fS)), ((a 3), .inl (cJ, 8, .inr (.inl fL))), ((a 4), .inl (cI, 8, .inl fO)), ((a 5), .inr (0, [.ref (a 6), .ref (a 7), .int (nI c), .int t, .int (nI y)])), ((a 6), .inl (cI, 6, .inl fW)), ((a 7), .inl (cI, 6, .inl fD)), ((a 8), .inr (0, [.ref (a 9), .ref (a 10), .int c2, .int t2, .int y2])), ((a 9), .inl (cI, 6, .inl gW)), ((a 10), .inl (cI, 6, .inl gD))] sz (fun r ws' => r = nI st ∧ ws' = [((a 0), .inr (1, [.ref (a 1), .ref (a 2), .ref (a 3), .ref (a 4), .ref (a 5), .ref (a 8), .int (nI k), .int (nI jx), .int fi])), ((a 1), .inl (cI, 8, .inl fB)), ((a 2), .inl (cI, 8, .inl fS)), ((a 3), .inl (cJ, 8, .inr (.inl fL))), ((a 4), .inl (cI, 8, .inl fO)), ((a 5), .inr (0, [.ref (a 6), .ref (a 7), .int (nI c), .int t, .int (nI y)])), ((a 6), .inl (cI, 6, .inl fW)), ((a 7), .inl (cI, 6, .inl fD)), ((a 8), .inr (0, [.ref (a 9), .ref (a 10), .int c2, .int t2, .int y2])), ((a 9), .inl (cI, 6, .inl gW)), ((a 10), .inl (cI, 6, .inl gD))])) 0 0 (va_A [((a 0), .inr (1, [.ref (a 1), .ref (a 2), .ref (a 3), .ref (a 4), .ref (a 5), .ref (a 8), .int (nI k), .int (nI st), .int fi])), ((a 1), .inl (cI, 8, .inl fB)), ((a 2), .inl (cI, 8, .inl fS)), ((a 3), .inl (cJ, 8, .inr (.inl fL))), ((a 4), .inl (cI, 8, .inl fO)), ((a 5), .inr (0, [.ref (a 6), .ref (a 7), .int (nI c), .int t, .int (nI y)])), ((a 6), .inl (cI, 6, .inl fW)), ((a 7), .inl (cI, 6, .inl fD)), ((a 8), .inr (0, [.ref (a 9), .ref (a 10), .int c2, .int t2, .int y2])), ((a 9), .inl (cI, 6, .inl gW)), ((a 10), .inl (cI, 6, .inl gD))] sz) := by
  refine Met.ofW (cc := cX1_setStandard) (maxL := 3) (ret := (some .int)) (by decide +kernel) rfl ?_
  intro p e s m args below meth c9 s₁ B hml hv
  obtain ⟨rfl, hsz, hP, hD0, hC⟩ := hv
  have hx := B.exec
  have hb := B.bytes
  have hr := B.returns
  have hts := atoms_spec (ws := wsX1_setStandard) B.pre
  have hown : s.vm.findClass RX1 = some m.cls := findClass_of_methodNamed B.named
  have hlocks := B.notSynchronized
  have hK : va_K D vwCl [(cI, .int), (cJ, .long), (cR, .array .int)] s := hC.1
  subst hsz
  unfold wri wB
  have hD := hD0.self (sz := s.heap.size)
  generalize hAe : va_A [((a 0), .inr (1, [.ref (a 1), .ref (a 2), .ref (a 3), .ref (a 4), .ref (a 5), .ref (a 8), .int (nI k), .int (nI st), .int fi])), ((a 1), .inl (cI, 8, .inl fB)), ((a 2), .inl (cI, 8, .inl fS)), ((a 3), .inl (cJ, 8, .inr (.inl fL))), ((a 4), .inl (cI, 8, .inl fO)), ((a 5), .inr (0, [.ref (a 6), .ref (a 7), .int (nI c), .int t, .int (nI y)])), ((a 6), .inl (cI, 6, .inl fW)), ((a 7), .inl (cI, 6, .inl fD)), ((a 8), .inr (0, [.ref (a 9), .ref (a 10), .int c2, .int t2, .int y2])), ((a 9), .inl (cI, 6, .inl gW)), ((a 10), .inl (cI, 6, .inl gD))] s.heap.size = A at hD ⊢
  have hA : ∀ q : Nat, s.heap.size ≤ q → A q := fun q h => by rw [← hAe]; exact Or.inr h
  have hS : va_S A s.heap s.heap [] := va_S.rf
  have hl := lv_entry ([.ref (a 0), .int (nI jx)]) (n := 3) (Nat.le_of_ble_eq_true rfl)
  rw [lg_entry_eq]
  generalize (lg_sl ([.ref (a 0), .int (nI jx)]) ++ List.replicate (3 - (lg_sl ([.ref (a 0), .int (nI jx)])).length) Slot.unset).toArray = ls at hl ⊢
  have hl : lv_has ls 3 [(0, .ref (a 0)), (1, .int (nI jx))] := hl
  have hiX1 : ∀ w ∈ u_ws RX1 TX1 9, w ∈ wsX1_setStandard := by decide +kernel
  have hw37 : (Cond.fieldLink RX1 37 "OldMeasures" "standard" "I").before ([.ref (a 0), .int (nI jx)] : List Value).toArray s = true := hts _ (by decide +kernel)
  refine lv_aload_n hx hb dX1_setStandard_0 rfl (lv_at hl 0 rfl) ?_
  refine lv_iload_n hx hb dX1_setStandard_1 rfl (lv_at hl 1 rfl) ?_
  refine ro_v (va_runV (As := [.int (nI jx)]) (rest := []) ⟨hx, hb, hml, hown, hts⟩ (k_X1_needMeasure l D cI cJ cR a k st fi fB fS fO fL c t y fW fD c2 t2 y2 gW gD hk8 jx (by omega)) (cwV 1 hts gX1_setStandard_X1_needMeasure rfl rfl rfl (by decide +kernel) ⟨Nat.le_of_ble_eq_true rfl, Nat.le_of_ble_eq_true rfl⟩) (preV_ro KC_ok hP hC (va_recv hK hP (ci := 1) (q0 := 0) rfl rfl)) rfl rfl hl.1 rfl (lv_room (Nat.le_of_ble_eq_true rfl)) dX1_setStandard_2 ⟨by decide, by decide⟩) (fun _ => ?_)
  refine lv_aload_n hx hb dX1_setStandard_5 rfl (lv_at hl 0 rfl) ?_
  refine va_get (D := D) (ci := 1) (v := .int (nI st)) (C := RX1) (T := TX1) (N := 9) hx hb hts hiX1 hown hK hP 0 rfl rfl 7 (by decide) hw37 (fun _ h9 => h9) rfl dX1_setStandard_6 ?_
  refine lv_istore_n (lv' := [(2, .int (nI st)), (0, .ref (a 0)), (1, .int (nI jx))]) hx hb dX1_setStandard_9 rfl hl (by decide) rfl (fun ls hl => ?_)
  refine lv_aload_n hx hb dX1_setStandard_10 rfl (lv_at hl 1 rfl) ?_
  refine lv_iload_n hx hb dX1_setStandard_11 rfl (lv_at hl 2 rfl) ?_
  refine va_put (D := D) (ci := 1) (v := .int (nI jx)) (ty := .int) (C := RX1) (T := TX1) (N := 9) hx hb hts hiX1 tyX1 tyX1_ok nmX1 hown hK hP hD hS 0 rfl rfl 7 (by decide) hw37 (fun _ h9 => h9) rfl (by decide +kernel) rfl rfl (Nat.le_of_ble_eq_true rfl) dX1_setStandard_12 (fun H locs hP hD hS => ?_)
  have hP : va_P D vwCl [((a 0), .inr (1, [.ref (a 1), .ref (a 2), .ref (a 3), .ref (a 4), .ref (a 5), .ref (a 8), .int (nI k), .int (nI jx), .int fi])), ((a 1), .inl (cI, 8, .inl fB)), ((a 2), .inl (cI, 8, .inl fS)), ((a 3), .inl (cJ, 8, .inr (.inl fL))), ((a 4), .inl (cI, 8, .inl fO)), ((a 5), .inr (0, [.ref (a 6), .ref (a 7), .int (nI c), .int t, .int (nI y)])), ((a 6), .inl (cI, 6, .inl fW)), ((a 7), .inl (cI, 6, .inl fD)), ((a 8), .inr (0, [.ref (a 9), .ref (a 10), .int c2, .int t2, .int y2])), ((a 9), .inl (cI, 6, .inl gW)), ((a 10), .inl (cI, 6, .inl gD))] H := hP
  have hD : va_D A [((a 0), .inr (1, [.ref (a 1), .ref (a 2), .ref (a 3), .ref (a 4), .ref (a 5), .ref (a 8), .int (nI k), .int (nI jx), .int fi])), ((a 1), .inl (cI, 8, .inl fB)), ((a 2), .inl (cI, 8, .inl fS)), ((a 3), .inl (cJ, 8, .inr (.inl fL))), ((a 4), .inl (cI, 8, .inl fO)), ((a 5), .inr (0, [.ref (a 6), .ref (a 7), .int (nI c), .int t, .int (nI y)])), ((a 6), .inl (cI, 6, .inl fW)), ((a 7), .inl (cI, 6, .inl fD)), ((a 8), .inr (0, [.ref (a 9), .ref (a 10), .int c2, .int t2, .int y2])), ((a 9), .inl (cI, 6, .inl gW)), ((a 10), .inl (cI, 6, .inl gD))] := hD
  refine lv_iload_n hx hb dX1_setStandard_15 rfl (lv_at hl 0 rfl) ?_
  exact W.iret (v := (nI st)) hx hb hr (fun t9 ht hW => ⟨⟨(nI st), [((a 0), .inr (1, [.ref (a 1), .ref (a 2), .ref (a 3), .ref (a 4), .ref (a 5), .ref (a 8), .int (nI k), .int (nI jx), .int fi])), ((a 1), .inl (cI, 8, .inl fB)), ((a 2), .inl (cI, 8, .inl fS)), ((a 3), .inl (cJ, 8, .inr (.inl fL))), ((a 4), .inl (cI, 8, .inl fO)), ((a 5), .inr (0, [.ref (a 6), .ref (a 7), .int (nI c), .int t, .int (nI y)])), ((a 6), .inl (cI, 6, .inl fW)), ((a 7), .inl (cI, 6, .inl fD)), ((a 8), .inr (0, [.ref (a 9), .ref (a 10), .int c2, .int t2, .int y2])), ((a 9), .inl (cI, 6, .inl gW)), ((a 10), .inl (cI, 6, .inl gD))], rfl, ⟨rfl, rfl⟩, by rw [ht]; exact hP, hD⟩, hS.F ht⟩) hS.2.2 dX1_setStandard_16

set_option maxHeartbeats 4000000 in
set_option maxRecDepth 100000 in
theorem k_X1_addStall (l : Launch) (D : va_G) (cI cJ cR : ClassId) (sz : Nat) (a : Nat → Nat) (k st : Nat) (fi : Int32) (fB fS fO : Nat → Int32) (fL : Nat → Int64) (c : Nat) (t : Int32) (y : Nat) (fW fD : Nat → Int32) (c2 t2 y2 : Int32) (gW gD : Nat → Int32) (hc : c ≤ 6) (x : Int32) (hw9 : inR (-9) 9 x) (hc6 : c < 6) : Met l yX1_addStall wsX1_addStall ({ frames := 6, cells := 0, slots := 0, locals := 160 }) (cPw D [((a 0), .inr (1, [.ref (a 1), .ref (a 2), .ref (a 3), .ref (a 4), .ref (a 5), .ref (a 8), .int (nI k), .int (nI st), .int fi])), ((a 1), .inl (cI, 8, .inl fB)), ((a 2), .inl (cI, 8, .inl fS)), ((a 3), .inl (cJ, 8, .inr (.inl fL))), ((a 4), .inl (cI, 8, .inl fO)), ((a 5), .inr (0, [.ref (a 6), .ref (a 7), .int (nI c), .int t, .int (nI y)])), ((a 6), .inl (cI, 6, .inl fW)), ((a 7), .inl (cI, 6, .inl fD)), ((a 8), .inr (0, [.ref (a 9), .ref (a 10), .int c2, .int t2, .int y2])), ((a 9), .inl (cI, 6, .inl gW)), ((a 10), .inl (cI, 6, .inl gD))] sz (KC D cI cJ cR) [.ref (a 0), .int x]) (wri D [((a 0), .inr (1, [.ref (a 1), .ref (a 2), .ref (a 3), .ref (a 4), .ref (a 5), .ref (a 8), .int (nI k), .int (nI st), .int fi])), ((a 1), .inl (cI, 8, .inl fB)), ((a 2), .inl (cI, 8, .inl fS)), ((a 3), .inl (cJ, 8, .inr (.inl fL))), ((a 4), .inl (cI, 8, .inl fO)), ((a 5), .inr (0, [.ref (a 6), .ref (a 7), .int (nI c), .int t, .int (nI y)])), ((a 6), .inl (cI, 6, .inl fW)), ((a 7), .inl (cI, 6, .inl fD)), ((a 8), .inr (0, [.ref (a 9), .ref (a 10), .int c2, .int t2, .int y2])), ((a 9), .inl (cI, 6, .inl gW)), ((a 10), .inl (cI, 6, .inl gD))] sz (fun r ws' => r = nI c ∧ ws' = [((a 0), .inr (1, [.ref (a 1), .ref (a 2), .ref (a 3), .ref (a 4), .ref (a 5), .ref (a 8), .int (nI k), .int (nI st), .int fi])), ((a 1), .inl (cI, 8, .inl fB)), ((a 2), .inl (cI, 8, .inl fS)), ((a 3), .inl (cJ, 8, .inr (.inl fL))), ((a 4), .inl (cI, 8, .inl fO)), ((a 5), .inr (0, [.ref (a 6), .ref (a 7), .int (nI (c + 1)), .int t, .int (nI y)])), ((a 6), .inl (cI, 6, .inl (upd fW c x))), ((a 7), .inl (cI, 6, .inl (upd fD c 0))), ((a 8), .inr (0, [.ref (a 9), .ref (a 10), .int c2, .int t2, .int y2])), ((a 9), .inl (cI, 6, .inl gW)), ((a 10), .inl (cI, 6, .inl gD))])) 0 0 (va_A [((a 0), .inr (1, [.ref (a 1), .ref (a 2), .ref (a 3), .ref (a 4), .ref (a 5), .ref (a 8), .int (nI k), .int (nI st), .int fi])), ((a 1), .inl (cI, 8, .inl fB)), ((a 2), .inl (cI, 8, .inl fS)), ((a 3), .inl (cJ, 8, .inr (.inl fL))), ((a 4), .inl (cI, 8, .inl fO)), ((a 5), .inr (0, [.ref (a 6), .ref (a 7), .int (nI c), .int t, .int (nI y)])), ((a 6), .inl (cI, 6, .inl fW)), ((a 7), .inl (cI, 6, .inl fD)), ((a 8), .inr (0, [.ref (a 9), .ref (a 10), .int c2, .int t2, .int y2])), ((a 9), .inl (cI, 6, .inl gW)), ((a 10), .inl (cI, 6, .inl gD))] sz) := by
  refine Met.ofW (cc := cX1_addStall) (maxL := 3) (ret := (some .int)) (by decide +kernel) rfl ?_
  intro p e s m args below meth c9 s₁ B hml hv
  obtain ⟨rfl, hsz, hP, hD0, hC⟩ := hv
  have hx := B.exec
  have hb := B.bytes
  have hr := B.returns
  have hts := atoms_spec (ws := wsX1_addStall) B.pre
  have hown : s.vm.findClass RX1 = some m.cls := findClass_of_methodNamed B.named
  have hlocks := B.notSynchronized
  have hK : va_K D vwCl [(cI, .int), (cJ, .long), (cR, .array .int)] s := hC.1
  subst hsz
  unfold wri wB
  have hD := hD0.self (sz := s.heap.size)
  generalize hAe : va_A [((a 0), .inr (1, [.ref (a 1), .ref (a 2), .ref (a 3), .ref (a 4), .ref (a 5), .ref (a 8), .int (nI k), .int (nI st), .int fi])), ((a 1), .inl (cI, 8, .inl fB)), ((a 2), .inl (cI, 8, .inl fS)), ((a 3), .inl (cJ, 8, .inr (.inl fL))), ((a 4), .inl (cI, 8, .inl fO)), ((a 5), .inr (0, [.ref (a 6), .ref (a 7), .int (nI c), .int t, .int (nI y)])), ((a 6), .inl (cI, 6, .inl fW)), ((a 7), .inl (cI, 6, .inl fD)), ((a 8), .inr (0, [.ref (a 9), .ref (a 10), .int c2, .int t2, .int y2])), ((a 9), .inl (cI, 6, .inl gW)), ((a 10), .inl (cI, 6, .inl gD))] s.heap.size = A at hD ⊢
  have hA : ∀ q : Nat, s.heap.size ≤ q → A q := fun q h => by rw [← hAe]; exact Or.inr h
  have hS : va_S A s.heap s.heap [] := va_S.rf
  have hl := lv_entry ([.ref (a 0), .int x]) (n := 3) (Nat.le_of_ble_eq_true rfl)
  rw [lg_entry_eq]
  generalize (lg_sl ([.ref (a 0), .int x]) ++ List.replicate (3 - (lg_sl ([.ref (a 0), .int x])).length) Slot.unset).toArray = ls at hl ⊢
  have hl : lv_has ls 3 [(0, .ref (a 0)), (1, .int x)] := hl
  have hiX0 : ∀ w ∈ u_ws RX0 TX0 5, w ∈ wsX1_addStall := by decide +kernel
  have hiX1 : ∀ w ∈ u_ws RX1 TX1 9, w ∈ wsX1_addStall := by decide +kernel
  have hw26 : (Cond.fieldLink RX1 26 "OldMeasures" "stalls" "LOldMeasures$Stalls;").before ([.ref (a 0), .int x] : List Value).toArray s = true := hts _ (by decide +kernel)
  refine lv_iload_n hx hb dX1_addStall_0 rfl (lv_at hl 1 rfl) ?_
  refine ro_v (va_runS (As := [.int x]) (rest := []) ⟨hx, hb, hml, hown, hts⟩ (k_X1_needWear l D cI cJ cR a x hw9) (va_cwS 1 hts gX1_addStall_X1_needWear rfl rfl rfl (by decide +kernel) ⟨Nat.le_of_ble_eq_true rfl, Nat.le_of_ble_eq_true rfl⟩) (preS_ro KC_ok (hP.sub (ws' := []) [] rfl) hC) rfl rfl hl.1 rfl (lv_room (Nat.le_of_ble_eq_true rfl)) dX1_addStall_1 ⟨by decide, by decide⟩) (fun _ => ?_)
  refine lv_aload_n hx hb dX1_addStall_4 rfl (lv_at hl 0 rfl) ?_
  refine va_get (D := D) (ci := 1) (v := .ref (a 5)) (C := RX1) (T := TX1) (N := 9) hx hb hts hiX1 hown hK hP 0 rfl rfl 4 (by decide) hw26 (fun _ h9 => h9) rfl dX1_addStall_5 ?_
  refine va_getN (host := RX1) (D := D) (ci := 0) (v := .int (nI c)) (C := RX0) (T := TX0) (N := 5) hx hb hts hiX0 hown hK hP 5 rfl rfl 2 (by decide) (va_Nw.use rfl hC.2.2.1) (fun _ h9 => h9) rfl dX1_addStall_8 ?_
  refine lv_bipush (v := 6) hx hb dX1_addStall_11 (by decide) ?_
  refine lv_icmp_lt (tgt := 26) hx hb dX1_addStall_13 (by decide) (fun c_13 => ?_) (fun c_13 => ?_)
  · skip
    simp only [Int32.lt_iff_toInt_lt] at c_13
    rw [nI_toInt (n := c) (by omega)] at c_13
    rw [(by decide : (6 : Int32).toInt = 6)] at c_13
    refine lv_aload_n hx hb dX1_addStall_26 rfl (lv_at hl 0 rfl) ?_
    refine va_get (D := D) (ci := 1) (v := .ref (a 5)) (C := RX1) (T := TX1) (N := 9) hx hb hts hiX1 hown hK hP 0 rfl rfl 4 (by decide) hw26 (fun _ h9 => h9) rfl dX1_addStall_27 ?_
    refine va_getN (host := RX1) (D := D) (ci := 0) (v := .int (nI c)) (C := RX0) (T := TX0) (N := 5) hx hb hts hiX0 hown hK hP 5 rfl rfl 2 (by decide) (va_Nw.use rfl hC.2.2.1) (fun _ h9 => h9) rfl dX1_addStall_30 ?_
    refine lv_istore_n (lv' := [(2, .int (nI c)), (0, .ref (a 0)), (1, .int x)]) hx hb dX1_addStall_33 rfl hl (by decide) rfl (fun ls hl => ?_)
    refine lv_aload_n hx hb dX1_addStall_34 rfl (lv_at hl 1 rfl) ?_
    refine va_get (D := D) (ci := 1) (v := .ref (a 5)) (C := RX1) (T := TX1) (N := 9) hx hb hts hiX1 hown hK hP 0 rfl rfl 4 (by decide) hw26 (fun _ h9 => h9) rfl dX1_addStall_35 ?_
    refine va_getN (host := RX1) (D := D) (ci := 0) (v := .ref (a 6)) (C := RX0) (T := TX0) (N := 5) hx hb hts hiX0 hown hK hP 5 rfl rfl 0 (by decide) (va_Nw.use rfl hC.2.2.2.1) (fun _ h9 => h9) rfl dX1_addStall_38 ?_
    refine lv_iload_n hx hb dX1_addStall_41 rfl (lv_at hl 0 rfl) ?_
    refine lv_iload_n hx hb dX1_addStall_42 rfl (lv_at hl 2 rfl) ?_
    refine xa_iast hx hb hK hP hD hS 6 0 rfl rfl (by omega) (by decide) dX1_addStall_43 (fun H locs hP hD hS => ?_)
    have hP : va_P D vwCl [((a 0), .inr (1, [.ref (a 1), .ref (a 2), .ref (a 3), .ref (a 4), .ref (a 5), .ref (a 8), .int (nI k), .int (nI st), .int fi])), ((a 1), .inl (cI, 8, .inl fB)), ((a 2), .inl (cI, 8, .inl fS)), ((a 3), .inl (cJ, 8, .inr (.inl fL))), ((a 4), .inl (cI, 8, .inl fO)), ((a 5), .inr (0, [.ref (a 6), .ref (a 7), .int (nI c), .int t, .int (nI y)])), ((a 6), .inl (cI, 6, .inl (upd fW c x))), ((a 7), .inl (cI, 6, .inl fD)), ((a 8), .inr (0, [.ref (a 9), .ref (a 10), .int c2, .int t2, .int y2])), ((a 9), .inl (cI, 6, .inl gW)), ((a 10), .inl (cI, 6, .inl gD))] H := hP
    have hD : va_D A [((a 0), .inr (1, [.ref (a 1), .ref (a 2), .ref (a 3), .ref (a 4), .ref (a 5), .ref (a 8), .int (nI k), .int (nI st), .int fi])), ((a 1), .inl (cI, 8, .inl fB)), ((a 2), .inl (cI, 8, .inl fS)), ((a 3), .inl (cJ, 8, .inr (.inl fL))), ((a 4), .inl (cI, 8, .inl fO)), ((a 5), .inr (0, [.ref (a 6), .ref (a 7), .int (nI c), .int t, .int (nI y)])), ((a 6), .inl (cI, 6, .inl (upd fW c x))), ((a 7), .inl (cI, 6, .inl fD)), ((a 8), .inr (0, [.ref (a 9), .ref (a 10), .int c2, .int t2, .int y2])), ((a 9), .inl (cI, 6, .inl gW)), ((a 10), .inl (cI, 6, .inl gD))] := hD
    refine lv_aload_n hx hb dX1_addStall_44 rfl (lv_at hl 1 rfl) ?_
    refine va_get (D := D) (ci := 1) (v := .ref (a 5)) (C := RX1) (T := TX1) (N := 9) hx hb hts hiX1 hown hK hP 0 rfl rfl 4 (by decide) hw26 (fun _ h9 => h9) rfl dX1_addStall_45 ?_
    refine va_getN (host := RX1) (D := D) (ci := 0) (v := .ref (a 7)) (C := RX0) (T := TX0) (N := 5) hx hb hts hiX0 hown hK hP 5 rfl rfl 1 (by decide) (va_Nw.use rfl hC.2.2.2.2.1) (fun _ h9 => h9) rfl dX1_addStall_48 ?_
    refine lv_iload_n hx hb dX1_addStall_51 rfl (lv_at hl 0 rfl) ?_
    refine lv_iconst (v := 0) hx hb dX1_addStall_52 (by decide) ?_
    refine xa_iast hx hb hK hP hD hS 7 0 rfl rfl (by omega) (by decide) dX1_addStall_53 (fun H locs hP hD hS => ?_)
    have hP : va_P D vwCl [((a 0), .inr (1, [.ref (a 1), .ref (a 2), .ref (a 3), .ref (a 4), .ref (a 5), .ref (a 8), .int (nI k), .int (nI st), .int fi])), ((a 1), .inl (cI, 8, .inl fB)), ((a 2), .inl (cI, 8, .inl fS)), ((a 3), .inl (cJ, 8, .inr (.inl fL))), ((a 4), .inl (cI, 8, .inl fO)), ((a 5), .inr (0, [.ref (a 6), .ref (a 7), .int (nI c), .int t, .int (nI y)])), ((a 6), .inl (cI, 6, .inl (upd fW c x))), ((a 7), .inl (cI, 6, .inl (upd fD c 0))), ((a 8), .inr (0, [.ref (a 9), .ref (a 10), .int c2, .int t2, .int y2])), ((a 9), .inl (cI, 6, .inl gW)), ((a 10), .inl (cI, 6, .inl gD))] H := hP
    have hD : va_D A [((a 0), .inr (1, [.ref (a 1), .ref (a 2), .ref (a 3), .ref (a 4), .ref (a 5), .ref (a 8), .int (nI k), .int (nI st), .int fi])), ((a 1), .inl (cI, 8, .inl fB)), ((a 2), .inl (cI, 8, .inl fS)), ((a 3), .inl (cJ, 8, .inr (.inl fL))), ((a 4), .inl (cI, 8, .inl fO)), ((a 5), .inr (0, [.ref (a 6), .ref (a 7), .int (nI c), .int t, .int (nI y)])), ((a 6), .inl (cI, 6, .inl (upd fW c x))), ((a 7), .inl (cI, 6, .inl (upd fD c 0))), ((a 8), .inr (0, [.ref (a 9), .ref (a 10), .int c2, .int t2, .int y2])), ((a 9), .inl (cI, 6, .inl gW)), ((a 10), .inl (cI, 6, .inl gD))] := hD
    refine lv_aload_n hx hb dX1_addStall_54 rfl (lv_at hl 1 rfl) ?_
    refine va_get (D := D) (ci := 1) (v := .ref (a 5)) (C := RX1) (T := TX1) (N := 9) hx hb hts hiX1 hown hK hP 0 rfl rfl 4 (by decide) hw26 (fun _ h9 => h9) rfl dX1_addStall_55 ?_
    refine lv_iload_n hx hb dX1_addStall_58 rfl (lv_at hl 0 rfl) ?_
    refine lv_iconst (v := 1) hx hb dX1_addStall_59 (by decide) ?_
    refine lv_iadd hx hb dX1_addStall_60 ?_
    refine topI (nI_1 c) ?_
    refine va_putN (host := RX1) (D := D) (ci := 0) (v := .int (nI (c + 1))) (ty := .int) (C := RX0) (T := TX0) (N := 5) hx hb hts hiX0 tyX0 tyX0_ok nmX0 hown hK hP hD hS 5 rfl rfl 2 (by decide) (va_Nw.use rfl hC.2.2.1) (fun _ h9 => h9) rfl (by decide +kernel) rfl rfl (Nat.le_of_ble_eq_true rfl) dX1_addStall_61 (fun H locs hP hD hS => ?_)
    have hP : va_P D vwCl [((a 0), .inr (1, [.ref (a 1), .ref (a 2), .ref (a 3), .ref (a 4), .ref (a 5), .ref (a 8), .int (nI k), .int (nI st), .int fi])), ((a 1), .inl (cI, 8, .inl fB)), ((a 2), .inl (cI, 8, .inl fS)), ((a 3), .inl (cJ, 8, .inr (.inl fL))), ((a 4), .inl (cI, 8, .inl fO)), ((a 5), .inr (0, [.ref (a 6), .ref (a 7), .int (nI (c + 1)), .int t, .int (nI y)])), ((a 6), .inl (cI, 6, .inl (upd fW c x))), ((a 7), .inl (cI, 6, .inl (upd fD c 0))), ((a 8), .inr (0, [.ref (a 9), .ref (a 10), .int c2, .int t2, .int y2])), ((a 9), .inl (cI, 6, .inl gW)), ((a 10), .inl (cI, 6, .inl gD))] H := hP
    have hD : va_D A [((a 0), .inr (1, [.ref (a 1), .ref (a 2), .ref (a 3), .ref (a 4), .ref (a 5), .ref (a 8), .int (nI k), .int (nI st), .int fi])), ((a 1), .inl (cI, 8, .inl fB)), ((a 2), .inl (cI, 8, .inl fS)), ((a 3), .inl (cJ, 8, .inr (.inl fL))), ((a 4), .inl (cI, 8, .inl fO)), ((a 5), .inr (0, [.ref (a 6), .ref (a 7), .int (nI (c + 1)), .int t, .int (nI y)])), ((a 6), .inl (cI, 6, .inl (upd fW c x))), ((a 7), .inl (cI, 6, .inl (upd fD c 0))), ((a 8), .inr (0, [.ref (a 9), .ref (a 10), .int c2, .int t2, .int y2])), ((a 9), .inl (cI, 6, .inl gW)), ((a 10), .inl (cI, 6, .inl gD))] := hD
    refine lv_iload_n hx hb dX1_addStall_64 rfl (lv_at hl 0 rfl) ?_
    exact W.iret (v := (nI c)) hx hb hr (fun t9 ht hW => ⟨⟨(nI c), [((a 0), .inr (1, [.ref (a 1), .ref (a 2), .ref (a 3), .ref (a 4), .ref (a 5), .ref (a 8), .int (nI k), .int (nI st), .int fi])), ((a 1), .inl (cI, 8, .inl fB)), ((a 2), .inl (cI, 8, .inl fS)), ((a 3), .inl (cJ, 8, .inr (.inl fL))), ((a 4), .inl (cI, 8, .inl fO)), ((a 5), .inr (0, [.ref (a 6), .ref (a 7), .int (nI (c + 1)), .int t, .int (nI y)])), ((a 6), .inl (cI, 6, .inl (upd fW c x))), ((a 7), .inl (cI, 6, .inl (upd fD c 0))), ((a 8), .inr (0, [.ref (a 9), .ref (a 10), .int c2, .int t2, .int y2])), ((a 9), .inl (cI, 6, .inl gW)), ((a 10), .inl (cI, 6, .inl gD))], rfl, ⟨rfl, rfl⟩, by rw [ht]; exact hP, hD⟩, hS.F ht⟩) hS.2.2 dX1_addStall_65
  · skip
    simp only [Int32.lt_iff_toInt_lt] at c_13
    rw [nI_toInt (n := c) (by omega)] at c_13
    rw [(by decide : (6 : Int32).toInt = 6)] at c_13
    exfalso; omega

set_option maxHeartbeats 4000000 in
set_option maxRecDepth 100000 in
theorem k_X1_setWear (l : Launch) (D : va_G) (cI cJ cR : ClassId) (sz : Nat) (a : Nat → Nat) (k st : Nat) (fi : Int32) (fB fS fO : Nat → Int32) (fL : Nat → Int64) (c : Nat) (t : Int32) (y : Nat) (fW fD : Nat → Int32) (c2 t2 y2 : Int32) (gW gD : Nat → Int32) (hc : c ≤ 6) (jv : Nat) (hj_v : jv < c) (x : Int32) (hw9 : inR (-9) 9 x) : Met l yX1_setWear wsX1_setWear ({ frames := 6, cells := 0, slots := 0, locals := 160 }) (cPw D [((a 0), .inr (1, [.ref (a 1), .ref (a 2), .ref (a 3), .ref (a 4), .ref (a 5), .ref (a 8), .int (nI k), .int (nI st), .int fi])), ((a 1), .inl (cI, 8, .inl fB)), ((a 2), .inl (cI, 8, .inl fS)), ((a 3), .inl (cJ, 8, .inr (.inl fL))), ((a 4), .inl (cI, 8, .inl fO)), ((a 5), .inr (0, [.ref (a 6), .ref (a 7), .int (nI c), .int t, .int (nI y)])), ((a 6), .inl (cI, 6, .inl fW)), ((a 7), .inl (cI, 6, .inl fD)), ((a 8), .inr (0, [.ref (a 9), .ref (a 10), .int c2, .int t2, .int y2])), ((a 9), .inl (cI, 6, .inl gW)), ((a 10), .inl (cI, 6, .inl gD))] sz (KC D cI cJ cR) [.ref (a 0), .int (nI jv), .int x]) (wri D [((a 0), .inr (1, [.ref (a 1), .ref (a 2), .ref (a 3), .ref (a 4), .ref (a 5), .ref (a 8), .int (nI k), .int (nI st), .int fi])), ((a 1), .inl (cI, 8, .inl fB)), ((a 2), .inl (cI, 8, .inl fS)), ((a 3), .inl (cJ, 8, .inr (.inl fL))), ((a 4), .inl (cI, 8, .inl fO)), ((a 5), .inr (0, [.ref (a 6), .ref (a 7), .int (nI c), .int t, .int (nI y)])), ((a 6), .inl (cI, 6, .inl fW)), ((a 7), .inl (cI, 6, .inl fD)), ((a 8), .inr (0, [.ref (a 9), .ref (a 10), .int c2, .int t2, .int y2])), ((a 9), .inl (cI, 6, .inl gW)), ((a 10), .inl (cI, 6, .inl gD))] sz (fun r ws' => r = fW jv ∧ ws' = [((a 0), .inr (1, [.ref (a 1), .ref (a 2), .ref (a 3), .ref (a 4), .ref (a 5), .ref (a 8), .int (nI k), .int (nI st), .int fi])), ((a 1), .inl (cI, 8, .inl fB)), ((a 2), .inl (cI, 8, .inl fS)), ((a 3), .inl (cJ, 8, .inr (.inl fL))), ((a 4), .inl (cI, 8, .inl fO)), ((a 5), .inr (0, [.ref (a 6), .ref (a 7), .int (nI c), .int t, .int (nI y)])), ((a 6), .inl (cI, 6, .inl (upd fW jv x))), ((a 7), .inl (cI, 6, .inl fD)), ((a 8), .inr (0, [.ref (a 9), .ref (a 10), .int c2, .int t2, .int y2])), ((a 9), .inl (cI, 6, .inl gW)), ((a 10), .inl (cI, 6, .inl gD))])) 0 0 (va_A [((a 0), .inr (1, [.ref (a 1), .ref (a 2), .ref (a 3), .ref (a 4), .ref (a 5), .ref (a 8), .int (nI k), .int (nI st), .int fi])), ((a 1), .inl (cI, 8, .inl fB)), ((a 2), .inl (cI, 8, .inl fS)), ((a 3), .inl (cJ, 8, .inr (.inl fL))), ((a 4), .inl (cI, 8, .inl fO)), ((a 5), .inr (0, [.ref (a 6), .ref (a 7), .int (nI c), .int t, .int (nI y)])), ((a 6), .inl (cI, 6, .inl fW)), ((a 7), .inl (cI, 6, .inl fD)), ((a 8), .inr (0, [.ref (a 9), .ref (a 10), .int c2, .int t2, .int y2])), ((a 9), .inl (cI, 6, .inl gW)), ((a 10), .inl (cI, 6, .inl gD))] sz) := by
  refine Met.ofW (cc := cX1_setWear) (maxL := 4) (ret := (some .int)) (by decide +kernel) rfl ?_
  intro p e s m args below meth c9 s₁ B hml hv
  obtain ⟨rfl, hsz, hP, hD0, hC⟩ := hv
  have hx := B.exec
  have hb := B.bytes
  have hr := B.returns
  have hts := atoms_spec (ws := wsX1_setWear) B.pre
  have hown : s.vm.findClass RX1 = some m.cls := findClass_of_methodNamed B.named
  have hlocks := B.notSynchronized
  have hK : va_K D vwCl [(cI, .int), (cJ, .long), (cR, .array .int)] s := hC.1
  subst hsz
  unfold wri wB
  have hD := hD0.self (sz := s.heap.size)
  generalize hAe : va_A [((a 0), .inr (1, [.ref (a 1), .ref (a 2), .ref (a 3), .ref (a 4), .ref (a 5), .ref (a 8), .int (nI k), .int (nI st), .int fi])), ((a 1), .inl (cI, 8, .inl fB)), ((a 2), .inl (cI, 8, .inl fS)), ((a 3), .inl (cJ, 8, .inr (.inl fL))), ((a 4), .inl (cI, 8, .inl fO)), ((a 5), .inr (0, [.ref (a 6), .ref (a 7), .int (nI c), .int t, .int (nI y)])), ((a 6), .inl (cI, 6, .inl fW)), ((a 7), .inl (cI, 6, .inl fD)), ((a 8), .inr (0, [.ref (a 9), .ref (a 10), .int c2, .int t2, .int y2])), ((a 9), .inl (cI, 6, .inl gW)), ((a 10), .inl (cI, 6, .inl gD))] s.heap.size = A at hD ⊢
  have hA : ∀ q : Nat, s.heap.size ≤ q → A q := fun q h => by rw [← hAe]; exact Or.inr h
  have hS : va_S A s.heap s.heap [] := va_S.rf
  have hl := lv_entry ([.ref (a 0), .int (nI jv), .int x]) (n := 4) (Nat.le_of_ble_eq_true rfl)
  rw [lg_entry_eq]
  generalize (lg_sl ([.ref (a 0), .int (nI jv), .int x]) ++ List.replicate (4 - (lg_sl ([.ref (a 0), .int (nI jv), .int x])).length) Slot.unset).toArray = ls at hl ⊢
  have hl : lv_has ls 4 [(0, .ref (a 0)), (1, .int (nI jv)), (2, .int x)] := hl
  have hiX0 : ∀ w ∈ u_ws RX0 TX0 5, w ∈ wsX1_setWear := by decide +kernel
  have hiX1 : ∀ w ∈ u_ws RX1 TX1 9, w ∈ wsX1_setWear := by decide +kernel
  have hw26 : (Cond.fieldLink RX1 26 "OldMeasures" "stalls" "LOldMeasures$Stalls;").before ([.ref (a 0), .int (nI jv), .int x] : List Value).toArray s = true := hts _ (by decide +kernel)
  refine lv_aload_n hx hb dX1_setWear_0 rfl (lv_at hl 0 rfl) ?_
  refine lv_iload_n hx hb dX1_setWear_1 rfl (lv_at hl 1 rfl) ?_
  refine ro_v (va_runV (As := [.int (nI jv)]) (rest := []) ⟨hx, hb, hml, hown, hts⟩ (k_X1_needStall l D cI cJ cR a k st fi fB fS fO fL c t y fW fD c2 t2 y2 gW gD hc jv (by omega)) (cwV 1 hts gX1_setWear_X1_needStall rfl rfl rfl (by decide +kernel) ⟨Nat.le_of_ble_eq_true rfl, Nat.le_of_ble_eq_true rfl⟩) (preV_ro KC_ok hP hC (va_recv hK hP (ci := 1) (q0 := 0) rfl rfl)) rfl rfl hl.1 rfl (lv_room (Nat.le_of_ble_eq_true rfl)) dX1_setWear_2 ⟨by decide, by decide⟩) (fun _ => ?_)
  refine lv_iload_n hx hb dX1_setWear_5 rfl (lv_at hl 2 rfl) ?_
  refine ro_v (va_runS (As := [.int x]) (rest := []) ⟨hx, hb, hml, hown, hts⟩ (k_X1_needWear l D cI cJ cR a x hw9) (va_cwS 1 hts gX1_setWear_X1_needWear rfl rfl rfl (by decide +kernel) ⟨Nat.le_of_ble_eq_true rfl, Nat.le_of_ble_eq_true rfl⟩) (preS_ro KC_ok (hP.sub (ws' := []) [] rfl) hC) rfl rfl hl.1 rfl (lv_room (Nat.le_of_ble_eq_true rfl)) dX1_setWear_6 ⟨by decide, by decide⟩) (fun _ => ?_)
  refine lv_aload_n hx hb dX1_setWear_9 rfl (lv_at hl 0 rfl) ?_
  refine va_get (D := D) (ci := 1) (v := .ref (a 5)) (C := RX1) (T := TX1) (N := 9) hx hb hts hiX1 hown hK hP 0 rfl rfl 4 (by decide) hw26 (fun _ h9 => h9) rfl dX1_setWear_10 ?_
  refine va_getN (host := RX1) (D := D) (ci := 0) (v := .ref (a 6)) (C := RX0) (T := TX0) (N := 5) hx hb hts hiX0 hown hK hP 5 rfl rfl 0 (by decide) (va_Nw.use rfl hC.2.2.2.1) (fun _ h9 => h9) rfl dX1_setWear_13 ?_
  refine lv_iload_n hx hb dX1_setWear_16 rfl (lv_at hl 1 rfl) ?_
  refine xa_iald hx hb hK hP 6 0 rfl rfl (by omega) (by decide) dX1_setWear_17 ?_
  refine lv_istore_n (lv' := [(3, .int (fW jv)), (0, .ref (a 0)), (1, .int (nI jv)), (2, .int x)]) hx hb dX1_setWear_18 rfl hl (by decide) rfl (fun ls hl => ?_)
  refine lv_aload_n hx hb dX1_setWear_19 rfl (lv_at hl 1 rfl) ?_
  refine va_get (D := D) (ci := 1) (v := .ref (a 5)) (C := RX1) (T := TX1) (N := 9) hx hb hts hiX1 hown hK hP 0 rfl rfl 4 (by decide) hw26 (fun _ h9 => h9) rfl dX1_setWear_20 ?_
  refine va_getN (host := RX1) (D := D) (ci := 0) (v := .ref (a 6)) (C := RX0) (T := TX0) (N := 5) hx hb hts hiX0 hown hK hP 5 rfl rfl 0 (by decide) (va_Nw.use rfl hC.2.2.2.1) (fun _ h9 => h9) rfl dX1_setWear_23 ?_
  refine lv_iload_n hx hb dX1_setWear_26 rfl (lv_at hl 2 rfl) ?_
  refine lv_iload_n hx hb dX1_setWear_27 rfl (lv_at hl 3 rfl) ?_
  refine xa_iast hx hb hK hP hD hS 6 0 rfl rfl (by omega) (by decide) dX1_setWear_28 (fun H locs hP hD hS => ?_)
  have hP : va_P D vwCl [((a 0), .inr (1, [.ref (a 1), .ref (a 2), .ref (a 3), .ref (a 4), .ref (a 5), .ref (a 8), .int (nI k), .int (nI st), .int fi])), ((a 1), .inl (cI, 8, .inl fB)), ((a 2), .inl (cI, 8, .inl fS)), ((a 3), .inl (cJ, 8, .inr (.inl fL))), ((a 4), .inl (cI, 8, .inl fO)), ((a 5), .inr (0, [.ref (a 6), .ref (a 7), .int (nI c), .int t, .int (nI y)])), ((a 6), .inl (cI, 6, .inl (upd fW jv x))), ((a 7), .inl (cI, 6, .inl fD)), ((a 8), .inr (0, [.ref (a 9), .ref (a 10), .int c2, .int t2, .int y2])), ((a 9), .inl (cI, 6, .inl gW)), ((a 10), .inl (cI, 6, .inl gD))] H := hP
  have hD : va_D A [((a 0), .inr (1, [.ref (a 1), .ref (a 2), .ref (a 3), .ref (a 4), .ref (a 5), .ref (a 8), .int (nI k), .int (nI st), .int fi])), ((a 1), .inl (cI, 8, .inl fB)), ((a 2), .inl (cI, 8, .inl fS)), ((a 3), .inl (cJ, 8, .inr (.inl fL))), ((a 4), .inl (cI, 8, .inl fO)), ((a 5), .inr (0, [.ref (a 6), .ref (a 7), .int (nI c), .int t, .int (nI y)])), ((a 6), .inl (cI, 6, .inl (upd fW jv x))), ((a 7), .inl (cI, 6, .inl fD)), ((a 8), .inr (0, [.ref (a 9), .ref (a 10), .int c2, .int t2, .int y2])), ((a 9), .inl (cI, 6, .inl gW)), ((a 10), .inl (cI, 6, .inl gD))] := hD
  refine lv_iload_n hx hb dX1_setWear_29 rfl (lv_at hl 0 rfl) ?_
  exact W.iret (v := (fW jv)) hx hb hr (fun t9 ht hW => ⟨⟨(fW jv), [((a 0), .inr (1, [.ref (a 1), .ref (a 2), .ref (a 3), .ref (a 4), .ref (a 5), .ref (a 8), .int (nI k), .int (nI st), .int fi])), ((a 1), .inl (cI, 8, .inl fB)), ((a 2), .inl (cI, 8, .inl fS)), ((a 3), .inl (cJ, 8, .inr (.inl fL))), ((a 4), .inl (cI, 8, .inl fO)), ((a 5), .inr (0, [.ref (a 6), .ref (a 7), .int (nI c), .int t, .int (nI y)])), ((a 6), .inl (cI, 6, .inl (upd fW jv x))), ((a 7), .inl (cI, 6, .inl fD)), ((a 8), .inr (0, [.ref (a 9), .ref (a 10), .int c2, .int t2, .int y2])), ((a 9), .inl (cI, 6, .inl gW)), ((a 10), .inl (cI, 6, .inl gD))], rfl, ⟨rfl, rfl⟩, by rw [ht]; exact hP, hD⟩, hS.F ht⟩) hS.2.2 dX1_setWear_30

set_option maxHeartbeats 4000000 in
set_option maxRecDepth 100000 in
theorem k_X1_seal (l : Launch) (D : va_G) (cI cJ cR : ClassId) (sz : Nat) (a : Nat → Nat) (k st : Nat) (fi : Int32) (fB fS fO : Nat → Int32) (fL : Nat → Int64) (c : Nat) (t : Int32) (y : Nat) (fW fD : Nat → Int32) (c2 t2 y2 : Int32) (gW gD : Nat → Int32) (hc : c ≤ 6) (jv : Nat) (hj_v : jv < c) : Met l yX1_seal wsX1_seal ({ frames := 6, cells := 0, slots := 0, locals := 160 }) (cPw D [((a 0), .inr (1, [.ref (a 1), .ref (a 2), .ref (a 3), .ref (a 4), .ref (a 5), .ref (a 8), .int (nI k), .int (nI st), .int fi])), ((a 1), .inl (cI, 8, .inl fB)), ((a 2), .inl (cI, 8, .inl fS)), ((a 3), .inl (cJ, 8, .inr (.inl fL))), ((a 4), .inl (cI, 8, .inl fO)), ((a 5), .inr (0, [.ref (a 6), .ref (a 7), .int (nI c), .int t, .int (nI y)])), ((a 6), .inl (cI, 6, .inl fW)), ((a 7), .inl (cI, 6, .inl fD)), ((a 8), .inr (0, [.ref (a 9), .ref (a 10), .int c2, .int t2, .int y2])), ((a 9), .inl (cI, 6, .inl gW)), ((a 10), .inl (cI, 6, .inl gD))] sz (KC D cI cJ cR) [.ref (a 0), .int (nI jv)]) (wri D [((a 0), .inr (1, [.ref (a 1), .ref (a 2), .ref (a 3), .ref (a 4), .ref (a 5), .ref (a 8), .int (nI k), .int (nI st), .int fi])), ((a 1), .inl (cI, 8, .inl fB)), ((a 2), .inl (cI, 8, .inl fS)), ((a 3), .inl (cJ, 8, .inr (.inl fL))), ((a 4), .inl (cI, 8, .inl fO)), ((a 5), .inr (0, [.ref (a 6), .ref (a 7), .int (nI c), .int t, .int (nI y)])), ((a 6), .inl (cI, 6, .inl fW)), ((a 7), .inl (cI, 6, .inl fD)), ((a 8), .inr (0, [.ref (a 9), .ref (a 10), .int c2, .int t2, .int y2])), ((a 9), .inl (cI, 6, .inl gW)), ((a 10), .inl (cI, 6, .inl gD))] sz (fun r ws' => r = fD jv ∧ ws' = [((a 0), .inr (1, [.ref (a 1), .ref (a 2), .ref (a 3), .ref (a 4), .ref (a 5), .ref (a 8), .int (nI k), .int (nI st), .int fi])), ((a 1), .inl (cI, 8, .inl fB)), ((a 2), .inl (cI, 8, .inl fS)), ((a 3), .inl (cJ, 8, .inr (.inl fL))), ((a 4), .inl (cI, 8, .inl fO)), ((a 5), .inr (0, [.ref (a 6), .ref (a 7), .int (nI c), .int t, .int (nI y)])), ((a 6), .inl (cI, 6, .inl fW)), ((a 7), .inl (cI, 6, .inl (upd fD jv 0))), ((a 8), .inr (0, [.ref (a 9), .ref (a 10), .int c2, .int t2, .int y2])), ((a 9), .inl (cI, 6, .inl gW)), ((a 10), .inl (cI, 6, .inl gD))])) 0 0 (va_A [((a 0), .inr (1, [.ref (a 1), .ref (a 2), .ref (a 3), .ref (a 4), .ref (a 5), .ref (a 8), .int (nI k), .int (nI st), .int fi])), ((a 1), .inl (cI, 8, .inl fB)), ((a 2), .inl (cI, 8, .inl fS)), ((a 3), .inl (cJ, 8, .inr (.inl fL))), ((a 4), .inl (cI, 8, .inl fO)), ((a 5), .inr (0, [.ref (a 6), .ref (a 7), .int (nI c), .int t, .int (nI y)])), ((a 6), .inl (cI, 6, .inl fW)), ((a 7), .inl (cI, 6, .inl fD)), ((a 8), .inr (0, [.ref (a 9), .ref (a 10), .int c2, .int t2, .int y2])), ((a 9), .inl (cI, 6, .inl gW)), ((a 10), .inl (cI, 6, .inl gD))] sz) := by
  refine Met.ofW (cc := cX1_seal) (maxL := 3) (ret := (some .int)) (by decide +kernel) rfl ?_
  intro p e s m args below meth c9 s₁ B hml hv
  obtain ⟨rfl, hsz, hP, hD0, hC⟩ := hv
  have hx := B.exec
  have hb := B.bytes
  have hr := B.returns
  have hts := atoms_spec (ws := wsX1_seal) B.pre
  have hown : s.vm.findClass RX1 = some m.cls := findClass_of_methodNamed B.named
  have hlocks := B.notSynchronized
  have hK : va_K D vwCl [(cI, .int), (cJ, .long), (cR, .array .int)] s := hC.1
  subst hsz
  unfold wri wB
  have hD := hD0.self (sz := s.heap.size)
  generalize hAe : va_A [((a 0), .inr (1, [.ref (a 1), .ref (a 2), .ref (a 3), .ref (a 4), .ref (a 5), .ref (a 8), .int (nI k), .int (nI st), .int fi])), ((a 1), .inl (cI, 8, .inl fB)), ((a 2), .inl (cI, 8, .inl fS)), ((a 3), .inl (cJ, 8, .inr (.inl fL))), ((a 4), .inl (cI, 8, .inl fO)), ((a 5), .inr (0, [.ref (a 6), .ref (a 7), .int (nI c), .int t, .int (nI y)])), ((a 6), .inl (cI, 6, .inl fW)), ((a 7), .inl (cI, 6, .inl fD)), ((a 8), .inr (0, [.ref (a 9), .ref (a 10), .int c2, .int t2, .int y2])), ((a 9), .inl (cI, 6, .inl gW)), ((a 10), .inl (cI, 6, .inl gD))] s.heap.size = A at hD ⊢
  have hA : ∀ q : Nat, s.heap.size ≤ q → A q := fun q h => by rw [← hAe]; exact Or.inr h
  have hS : va_S A s.heap s.heap [] := va_S.rf
  have hl := lv_entry ([.ref (a 0), .int (nI jv)]) (n := 3) (Nat.le_of_ble_eq_true rfl)
  rw [lg_entry_eq]
  generalize (lg_sl ([.ref (a 0), .int (nI jv)]) ++ List.replicate (3 - (lg_sl ([.ref (a 0), .int (nI jv)])).length) Slot.unset).toArray = ls at hl ⊢
  have hl : lv_has ls 3 [(0, .ref (a 0)), (1, .int (nI jv))] := hl
  have hiX0 : ∀ w ∈ u_ws RX0 TX0 5, w ∈ wsX1_seal := by decide +kernel
  have hiX1 : ∀ w ∈ u_ws RX1 TX1 9, w ∈ wsX1_seal := by decide +kernel
  have hw26 : (Cond.fieldLink RX1 26 "OldMeasures" "stalls" "LOldMeasures$Stalls;").before ([.ref (a 0), .int (nI jv)] : List Value).toArray s = true := hts _ (by decide +kernel)
  refine lv_aload_n hx hb dX1_seal_0 rfl (lv_at hl 0 rfl) ?_
  refine lv_iload_n hx hb dX1_seal_1 rfl (lv_at hl 1 rfl) ?_
  refine ro_v (va_runV (As := [.int (nI jv)]) (rest := []) ⟨hx, hb, hml, hown, hts⟩ (k_X1_needStall l D cI cJ cR a k st fi fB fS fO fL c t y fW fD c2 t2 y2 gW gD hc jv (by omega)) (cwV 1 hts gX1_seal_X1_needStall rfl rfl rfl (by decide +kernel) ⟨Nat.le_of_ble_eq_true rfl, Nat.le_of_ble_eq_true rfl⟩) (preV_ro KC_ok hP hC (va_recv hK hP (ci := 1) (q0 := 0) rfl rfl)) rfl rfl hl.1 rfl (lv_room (Nat.le_of_ble_eq_true rfl)) dX1_seal_2 ⟨by decide, by decide⟩) (fun _ => ?_)
  refine lv_aload_n hx hb dX1_seal_5 rfl (lv_at hl 0 rfl) ?_
  refine va_get (D := D) (ci := 1) (v := .ref (a 5)) (C := RX1) (T := TX1) (N := 9) hx hb hts hiX1 hown hK hP 0 rfl rfl 4 (by decide) hw26 (fun _ h9 => h9) rfl dX1_seal_6 ?_
  refine va_getN (host := RX1) (D := D) (ci := 0) (v := .ref (a 7)) (C := RX0) (T := TX0) (N := 5) hx hb hts hiX0 hown hK hP 5 rfl rfl 1 (by decide) (va_Nw.use rfl hC.2.2.2.2.1) (fun _ h9 => h9) rfl dX1_seal_9 ?_
  refine lv_iload_n hx hb dX1_seal_12 rfl (lv_at hl 1 rfl) ?_
  refine xa_iald hx hb hK hP 7 0 rfl rfl (by omega) (by decide) dX1_seal_13 ?_
  refine lv_istore_n (lv' := [(2, .int (fD jv)), (0, .ref (a 0)), (1, .int (nI jv))]) hx hb dX1_seal_14 rfl hl (by decide) rfl (fun ls hl => ?_)
  refine lv_aload_n hx hb dX1_seal_15 rfl (lv_at hl 1 rfl) ?_
  refine va_get (D := D) (ci := 1) (v := .ref (a 5)) (C := RX1) (T := TX1) (N := 9) hx hb hts hiX1 hown hK hP 0 rfl rfl 4 (by decide) hw26 (fun _ h9 => h9) rfl dX1_seal_16 ?_
  refine va_getN (host := RX1) (D := D) (ci := 0) (v := .ref (a 7)) (C := RX0) (T := TX0) (N := 5) hx hb hts hiX0 hown hK hP 5 rfl rfl 1 (by decide) (va_Nw.use rfl hC.2.2.2.2.1) (fun _ h9 => h9) rfl dX1_seal_19 ?_
  refine lv_iload_n hx hb dX1_seal_22 rfl (lv_at hl 2 rfl) ?_
  refine lv_iconst (v := 0) hx hb dX1_seal_23 (by decide) ?_
  refine xa_iast hx hb hK hP hD hS 7 0 rfl rfl (by omega) (by decide) dX1_seal_24 (fun H locs hP hD hS => ?_)
  have hP : va_P D vwCl [((a 0), .inr (1, [.ref (a 1), .ref (a 2), .ref (a 3), .ref (a 4), .ref (a 5), .ref (a 8), .int (nI k), .int (nI st), .int fi])), ((a 1), .inl (cI, 8, .inl fB)), ((a 2), .inl (cI, 8, .inl fS)), ((a 3), .inl (cJ, 8, .inr (.inl fL))), ((a 4), .inl (cI, 8, .inl fO)), ((a 5), .inr (0, [.ref (a 6), .ref (a 7), .int (nI c), .int t, .int (nI y)])), ((a 6), .inl (cI, 6, .inl fW)), ((a 7), .inl (cI, 6, .inl (upd fD jv 0))), ((a 8), .inr (0, [.ref (a 9), .ref (a 10), .int c2, .int t2, .int y2])), ((a 9), .inl (cI, 6, .inl gW)), ((a 10), .inl (cI, 6, .inl gD))] H := hP
  have hD : va_D A [((a 0), .inr (1, [.ref (a 1), .ref (a 2), .ref (a 3), .ref (a 4), .ref (a 5), .ref (a 8), .int (nI k), .int (nI st), .int fi])), ((a 1), .inl (cI, 8, .inl fB)), ((a 2), .inl (cI, 8, .inl fS)), ((a 3), .inl (cJ, 8, .inr (.inl fL))), ((a 4), .inl (cI, 8, .inl fO)), ((a 5), .inr (0, [.ref (a 6), .ref (a 7), .int (nI c), .int t, .int (nI y)])), ((a 6), .inl (cI, 6, .inl fW)), ((a 7), .inl (cI, 6, .inl (upd fD jv 0))), ((a 8), .inr (0, [.ref (a 9), .ref (a 10), .int c2, .int t2, .int y2])), ((a 9), .inl (cI, 6, .inl gW)), ((a 10), .inl (cI, 6, .inl gD))] := hD
  refine lv_iload_n hx hb dX1_seal_25 rfl (lv_at hl 0 rfl) ?_
  exact W.iret (v := (fD jv)) hx hb hr (fun t9 ht hW => ⟨⟨(fD jv), [((a 0), .inr (1, [.ref (a 1), .ref (a 2), .ref (a 3), .ref (a 4), .ref (a 5), .ref (a 8), .int (nI k), .int (nI st), .int fi])), ((a 1), .inl (cI, 8, .inl fB)), ((a 2), .inl (cI, 8, .inl fS)), ((a 3), .inl (cJ, 8, .inr (.inl fL))), ((a 4), .inl (cI, 8, .inl fO)), ((a 5), .inr (0, [.ref (a 6), .ref (a 7), .int (nI c), .int t, .int (nI y)])), ((a 6), .inl (cI, 6, .inl fW)), ((a 7), .inl (cI, 6, .inl (upd fD jv 0))), ((a 8), .inr (0, [.ref (a 9), .ref (a 10), .int c2, .int t2, .int y2])), ((a 9), .inl (cI, 6, .inl gW)), ((a 10), .inl (cI, 6, .inl gD))], rfl, ⟨rfl, rfl⟩, by rw [ht]; exact hP, hD⟩, hS.F ht⟩) hS.2.2 dX1_seal_26

set_option maxHeartbeats 4000000 in
set_option maxRecDepth 100000 in
theorem k_X1_setTolerance (l : Launch) (D : va_G) (cI cJ cR : ClassId) (sz : Nat) (a : Nat → Nat) (k st : Nat) (fi : Int32) (fB fS fO : Nat → Int32) (fL : Nat → Int64) (c : Nat) (t : Int32) (y : Nat) (fW fD : Nat → Int32) (c2 t2 y2 : Int32) (gW gD : Nat → Int32)  (x : Int32) (hxx : inR 0 100 x) : Met l yX1_setTolerance wsX1_setTolerance ({ frames := 6, cells := 0, slots := 0, locals := 160 }) (cPw D [((a 0), .inr (1, [.ref (a 1), .ref (a 2), .ref (a 3), .ref (a 4), .ref (a 5), .ref (a 8), .int (nI k), .int (nI st), .int fi])), ((a 1), .inl (cI, 8, .inl fB)), ((a 2), .inl (cI, 8, .inl fS)), ((a 3), .inl (cJ, 8, .inr (.inl fL))), ((a 4), .inl (cI, 8, .inl fO)), ((a 5), .inr (0, [.ref (a 6), .ref (a 7), .int (nI c), .int t, .int (nI y)])), ((a 6), .inl (cI, 6, .inl fW)), ((a 7), .inl (cI, 6, .inl fD)), ((a 8), .inr (0, [.ref (a 9), .ref (a 10), .int c2, .int t2, .int y2])), ((a 9), .inl (cI, 6, .inl gW)), ((a 10), .inl (cI, 6, .inl gD))] sz (KC D cI cJ cR) [.ref (a 0), .int x]) (wri D [((a 0), .inr (1, [.ref (a 1), .ref (a 2), .ref (a 3), .ref (a 4), .ref (a 5), .ref (a 8), .int (nI k), .int (nI st), .int fi])), ((a 1), .inl (cI, 8, .inl fB)), ((a 2), .inl (cI, 8, .inl fS)), ((a 3), .inl (cJ, 8, .inr (.inl fL))), ((a 4), .inl (cI, 8, .inl fO)), ((a 5), .inr (0, [.ref (a 6), .ref (a 7), .int (nI c), .int t, .int (nI y)])), ((a 6), .inl (cI, 6, .inl fW)), ((a 7), .inl (cI, 6, .inl fD)), ((a 8), .inr (0, [.ref (a 9), .ref (a 10), .int c2, .int t2, .int y2])), ((a 9), .inl (cI, 6, .inl gW)), ((a 10), .inl (cI, 6, .inl gD))] sz (fun r ws' => r = t ∧ ws' = [((a 0), .inr (1, [.ref (a 1), .ref (a 2), .ref (a 3), .ref (a 4), .ref (a 5), .ref (a 8), .int (nI k), .int (nI st), .int fi])), ((a 1), .inl (cI, 8, .inl fB)), ((a 2), .inl (cI, 8, .inl fS)), ((a 3), .inl (cJ, 8, .inr (.inl fL))), ((a 4), .inl (cI, 8, .inl fO)), ((a 5), .inr (0, [.ref (a 6), .ref (a 7), .int (nI c), .int x, .int (nI y)])), ((a 6), .inl (cI, 6, .inl fW)), ((a 7), .inl (cI, 6, .inl fD)), ((a 8), .inr (0, [.ref (a 9), .ref (a 10), .int c2, .int t2, .int y2])), ((a 9), .inl (cI, 6, .inl gW)), ((a 10), .inl (cI, 6, .inl gD))])) 0 0 (va_A [((a 0), .inr (1, [.ref (a 1), .ref (a 2), .ref (a 3), .ref (a 4), .ref (a 5), .ref (a 8), .int (nI k), .int (nI st), .int fi])), ((a 1), .inl (cI, 8, .inl fB)), ((a 2), .inl (cI, 8, .inl fS)), ((a 3), .inl (cJ, 8, .inr (.inl fL))), ((a 4), .inl (cI, 8, .inl fO)), ((a 5), .inr (0, [.ref (a 6), .ref (a 7), .int (nI c), .int t, .int (nI y)])), ((a 6), .inl (cI, 6, .inl fW)), ((a 7), .inl (cI, 6, .inl fD)), ((a 8), .inr (0, [.ref (a 9), .ref (a 10), .int c2, .int t2, .int y2])), ((a 9), .inl (cI, 6, .inl gW)), ((a 10), .inl (cI, 6, .inl gD))] sz) := by
  refine Met.ofW (cc := cX1_setTolerance) (maxL := 3) (ret := (some .int)) (by decide +kernel) rfl ?_
  intro p e s m args below meth c9 s₁ B hml hv
  obtain ⟨rfl, hsz, hP, hD0, hC⟩ := hv
  have hx := B.exec
  have hb := B.bytes
  have hr := B.returns
  have hts := atoms_spec (ws := wsX1_setTolerance) B.pre
  have hown : s.vm.findClass RX1 = some m.cls := findClass_of_methodNamed B.named
  have hlocks := B.notSynchronized
  have hK : va_K D vwCl [(cI, .int), (cJ, .long), (cR, .array .int)] s := hC.1
  subst hsz
  unfold wri wB
  have hD := hD0.self (sz := s.heap.size)
  generalize hAe : va_A [((a 0), .inr (1, [.ref (a 1), .ref (a 2), .ref (a 3), .ref (a 4), .ref (a 5), .ref (a 8), .int (nI k), .int (nI st), .int fi])), ((a 1), .inl (cI, 8, .inl fB)), ((a 2), .inl (cI, 8, .inl fS)), ((a 3), .inl (cJ, 8, .inr (.inl fL))), ((a 4), .inl (cI, 8, .inl fO)), ((a 5), .inr (0, [.ref (a 6), .ref (a 7), .int (nI c), .int t, .int (nI y)])), ((a 6), .inl (cI, 6, .inl fW)), ((a 7), .inl (cI, 6, .inl fD)), ((a 8), .inr (0, [.ref (a 9), .ref (a 10), .int c2, .int t2, .int y2])), ((a 9), .inl (cI, 6, .inl gW)), ((a 10), .inl (cI, 6, .inl gD))] s.heap.size = A at hD ⊢
  have hA : ∀ q : Nat, s.heap.size ≤ q → A q := fun q h => by rw [← hAe]; exact Or.inr h
  have hS : va_S A s.heap s.heap [] := va_S.rf
  have hl := lv_entry ([.ref (a 0), .int x]) (n := 3) (Nat.le_of_ble_eq_true rfl)
  rw [lg_entry_eq]
  generalize (lg_sl ([.ref (a 0), .int x]) ++ List.replicate (3 - (lg_sl ([.ref (a 0), .int x])).length) Slot.unset).toArray = ls at hl ⊢
  have hl : lv_has ls 3 [(0, .ref (a 0)), (1, .int x)] := hl
  have hiX0 : ∀ w ∈ u_ws RX0 TX0 5, w ∈ wsX1_setTolerance := by decide +kernel
  have hiX1 : ∀ w ∈ u_ws RX1 TX1 9, w ∈ wsX1_setTolerance := by decide +kernel
  have hw26 : (Cond.fieldLink RX1 26 "OldMeasures" "stalls" "LOldMeasures$Stalls;").before ([.ref (a 0), .int x] : List Value).toArray s = true := hts _ (by decide +kernel)
  refine lv_iload_n hx hb dX1_setTolerance_0 rfl (lv_at hl 1 rfl) ?_
  refine lv_iconst (v := 0) hx hb dX1_setTolerance_1 (by decide) ?_
  refine lv_bipush (v := 100) hx hb dX1_setTolerance_2 (by decide) ?_
  refine ro_iE (va_runS (As := [.int x, .int 0, .int 100]) (rest := []) ⟨hx, hb, hml, hown, hts⟩ (c_X1_isOutside l x 0 100) (va_cwS 3 hts gX1_setTolerance_X1_isOutside rfl rfl rfl (by decide +kernel) ⟨Nat.le_of_ble_eq_true rfl, Nat.le_of_ble_eq_true rfl⟩) pre0 rfl rfl hl.1 rfl (lv_room (Nat.le_of_ble_eq_true rfl)) dX1_setTolerance_4 ⟨by decide, by decide⟩) ?_
  refine lv_if_eq (tgt := 20) hx hb dX1_setTolerance_7 (by decide) (fun c_7 => ?_) (fun c_7 => ?_)
  · skip
    have c_7 := bz_0 c_7
    refine lv_aload_n hx hb dX1_setTolerance_20 rfl (lv_at hl 0 rfl) ?_
    refine va_get (D := D) (ci := 1) (v := .ref (a 5)) (C := RX1) (T := TX1) (N := 9) hx hb hts hiX1 hown hK hP 0 rfl rfl 4 (by decide) hw26 (fun _ h9 => h9) rfl dX1_setTolerance_21 ?_
    refine va_getN (host := RX1) (D := D) (ci := 0) (v := .int t) (C := RX0) (T := TX0) (N := 5) hx hb hts hiX0 hown hK hP 5 rfl rfl 3 (by decide) (va_Nw.use rfl hC.2.2.2.2.2.1) (fun _ h9 => h9) rfl dX1_setTolerance_24 ?_
    refine lv_istore_n (lv' := [(2, .int t), (0, .ref (a 0)), (1, .int x)]) hx hb dX1_setTolerance_27 rfl hl (by decide) rfl (fun ls hl => ?_)
    refine lv_aload_n hx hb dX1_setTolerance_28 rfl (lv_at hl 1 rfl) ?_
    refine va_get (D := D) (ci := 1) (v := .ref (a 5)) (C := RX1) (T := TX1) (N := 9) hx hb hts hiX1 hown hK hP 0 rfl rfl 4 (by decide) hw26 (fun _ h9 => h9) rfl dX1_setTolerance_29 ?_
    refine lv_iload_n hx hb dX1_setTolerance_32 rfl (lv_at hl 2 rfl) ?_
    refine va_putN (host := RX1) (D := D) (ci := 0) (v := .int x) (ty := .int) (C := RX0) (T := TX0) (N := 5) hx hb hts hiX0 tyX0 tyX0_ok nmX0 hown hK hP hD hS 5 rfl rfl 3 (by decide) (va_Nw.use rfl hC.2.2.2.2.2.1) (fun _ h9 => h9) rfl (by decide +kernel) rfl rfl (Nat.le_of_ble_eq_true rfl) dX1_setTolerance_33 (fun H locs hP hD hS => ?_)
    have hP : va_P D vwCl [((a 0), .inr (1, [.ref (a 1), .ref (a 2), .ref (a 3), .ref (a 4), .ref (a 5), .ref (a 8), .int (nI k), .int (nI st), .int fi])), ((a 1), .inl (cI, 8, .inl fB)), ((a 2), .inl (cI, 8, .inl fS)), ((a 3), .inl (cJ, 8, .inr (.inl fL))), ((a 4), .inl (cI, 8, .inl fO)), ((a 5), .inr (0, [.ref (a 6), .ref (a 7), .int (nI c), .int x, .int (nI y)])), ((a 6), .inl (cI, 6, .inl fW)), ((a 7), .inl (cI, 6, .inl fD)), ((a 8), .inr (0, [.ref (a 9), .ref (a 10), .int c2, .int t2, .int y2])), ((a 9), .inl (cI, 6, .inl gW)), ((a 10), .inl (cI, 6, .inl gD))] H := hP
    have hD : va_D A [((a 0), .inr (1, [.ref (a 1), .ref (a 2), .ref (a 3), .ref (a 4), .ref (a 5), .ref (a 8), .int (nI k), .int (nI st), .int fi])), ((a 1), .inl (cI, 8, .inl fB)), ((a 2), .inl (cI, 8, .inl fS)), ((a 3), .inl (cJ, 8, .inr (.inl fL))), ((a 4), .inl (cI, 8, .inl fO)), ((a 5), .inr (0, [.ref (a 6), .ref (a 7), .int (nI c), .int x, .int (nI y)])), ((a 6), .inl (cI, 6, .inl fW)), ((a 7), .inl (cI, 6, .inl fD)), ((a 8), .inr (0, [.ref (a 9), .ref (a 10), .int c2, .int t2, .int y2])), ((a 9), .inl (cI, 6, .inl gW)), ((a 10), .inl (cI, 6, .inl gD))] := hD
    refine lv_iload_n hx hb dX1_setTolerance_36 rfl (lv_at hl 0 rfl) ?_
    exact W.iret (v := t) hx hb hr (fun t9 ht hW => ⟨⟨t, [((a 0), .inr (1, [.ref (a 1), .ref (a 2), .ref (a 3), .ref (a 4), .ref (a 5), .ref (a 8), .int (nI k), .int (nI st), .int fi])), ((a 1), .inl (cI, 8, .inl fB)), ((a 2), .inl (cI, 8, .inl fS)), ((a 3), .inl (cJ, 8, .inr (.inl fL))), ((a 4), .inl (cI, 8, .inl fO)), ((a 5), .inr (0, [.ref (a 6), .ref (a 7), .int (nI c), .int x, .int (nI y)])), ((a 6), .inl (cI, 6, .inl fW)), ((a 7), .inl (cI, 6, .inl fD)), ((a 8), .inr (0, [.ref (a 9), .ref (a 10), .int c2, .int t2, .int y2])), ((a 9), .inl (cI, 6, .inl gW)), ((a 10), .inl (cI, 6, .inl gD))], rfl, ⟨rfl, rfl⟩, by rw [ht]; exact hP, hD⟩, hS.F ht⟩) hS.2.2 dX1_setTolerance_37
  · skip
    have c_7 := bz_1 c_7
    have e1 : (0 : Int32).toInt = 0 := rfl
    have e2 : (100 : Int32).toInt = 100 := rfl
    exfalso; unfold inR at hxx; omega

set_option maxHeartbeats 4000000 in
set_option maxRecDepth 100000 in
theorem k_X1_passDays (l : Launch) (D : va_G) (cI cJ cR : ClassId) (sz : Nat) (a : Nat → Nat) (k st : Nat) (fi : Int32) (fB fS fO : Nat → Int32) (fL : Nat → Int64) (c : Nat) (t : Int32) (y : Nat) (fW fD : Nat → Int32) (c2 t2 y2 : Int32) (gW gD : Nat → Int32) (hc : c ≤ 6) (hy : y < 2 ^ 27) (n9 : Nat) (hn9 : 1 ≤ n9) (hn8 : n9 ≤ 60) : Met l yX1_passDays wsX1_passDays ({ frames := 6, cells := 0, slots := 0, locals := 160 }) (cPw D [((a 0), .inr (1, [.ref (a 1), .ref (a 2), .ref (a 3), .ref (a 4), .ref (a 5), .ref (a 8), .int (nI k), .int (nI st), .int fi])), ((a 1), .inl (cI, 8, .inl fB)), ((a 2), .inl (cI, 8, .inl fS)), ((a 3), .inl (cJ, 8, .inr (.inl fL))), ((a 4), .inl (cI, 8, .inl fO)), ((a 5), .inr (0, [.ref (a 6), .ref (a 7), .int (nI c), .int t, .int (nI y)])), ((a 6), .inl (cI, 6, .inl fW)), ((a 7), .inl (cI, 6, .inl fD)), ((a 8), .inr (0, [.ref (a 9), .ref (a 10), .int c2, .int t2, .int y2])), ((a 9), .inl (cI, 6, .inl gW)), ((a 10), .inl (cI, 6, .inl gD))] sz (KC D cI cJ cR) [.ref (a 0), .int (nI n9)]) (wri D [((a 0), .inr (1, [.ref (a 1), .ref (a 2), .ref (a 3), .ref (a 4), .ref (a 5), .ref (a 8), .int (nI k), .int (nI st), .int fi])), ((a 1), .inl (cI, 8, .inl fB)), ((a 2), .inl (cI, 8, .inl fS)), ((a 3), .inl (cJ, 8, .inr (.inl fL))), ((a 4), .inl (cI, 8, .inl fO)), ((a 5), .inr (0, [.ref (a 6), .ref (a 7), .int (nI c), .int t, .int (nI y)])), ((a 6), .inl (cI, 6, .inl fW)), ((a 7), .inl (cI, 6, .inl fD)), ((a 8), .inr (0, [.ref (a 9), .ref (a 10), .int c2, .int t2, .int y2])), ((a 9), .inl (cI, 6, .inl gW)), ((a 10), .inl (cI, 6, .inl gD))] sz (fun r ws' => r = dSm c t y fW fD n9 ∧ ws' = [((a 0), .inr (1, [.ref (a 1), .ref (a 2), .ref (a 3), .ref (a 4), .ref (a 5), .ref (a 8), .int (nI k), .int (nI st), .int (fi + dSm c t y fW fD n9)])), ((a 1), .inl (cI, 8, .inl fB)), ((a 2), .inl (cI, 8, .inl fS)), ((a 3), .inl (cJ, 8, .inr (.inl fL))), ((a 4), .inl (cI, 8, .inl fO)), ((a 5), .inr (0, [.ref (a 6), .ref (a 7), .int (nI c), .int t, .int (nI (y + n9))])), ((a 6), .inl (cI, 6, .inl fW)), ((a 7), .inl (cI, 6, .inl (dIt c t y fW fD n9))), ((a 8), .inr (0, [.ref (a 9), .ref (a 10), .int c2, .int t2, .int y2])), ((a 9), .inl (cI, 6, .inl gW)), ((a 10), .inl (cI, 6, .inl gD))])) 0 0 (va_A [((a 0), .inr (1, [.ref (a 1), .ref (a 2), .ref (a 3), .ref (a 4), .ref (a 5), .ref (a 8), .int (nI k), .int (nI st), .int fi])), ((a 1), .inl (cI, 8, .inl fB)), ((a 2), .inl (cI, 8, .inl fS)), ((a 3), .inl (cJ, 8, .inr (.inl fL))), ((a 4), .inl (cI, 8, .inl fO)), ((a 5), .inr (0, [.ref (a 6), .ref (a 7), .int (nI c), .int t, .int (nI y)])), ((a 6), .inl (cI, 6, .inl fW)), ((a 7), .inl (cI, 6, .inl fD)), ((a 8), .inr (0, [.ref (a 9), .ref (a 10), .int c2, .int t2, .int y2])), ((a 9), .inl (cI, 6, .inl gW)), ((a 10), .inl (cI, 6, .inl gD))] sz) := by
  refine Met.ofW (cc := cX1_passDays) (maxL := 3) (ret := (some .int)) (by decide +kernel) rfl ?_
  intro p e s m args below meth c9 s₁ B hml hv
  obtain ⟨rfl, hsz, hP, hD0, hC⟩ := hv
  have hx := B.exec
  have hb := B.bytes
  have hr := B.returns
  have hts := atoms_spec (ws := wsX1_passDays) B.pre
  have hown : s.vm.findClass RX1 = some m.cls := findClass_of_methodNamed B.named
  have hlocks := B.notSynchronized
  have hK : va_K D vwCl [(cI, .int), (cJ, .long), (cR, .array .int)] s := hC.1
  subst hsz
  unfold wri wB
  have hD := hD0.self (sz := s.heap.size)
  generalize hAe : va_A [((a 0), .inr (1, [.ref (a 1), .ref (a 2), .ref (a 3), .ref (a 4), .ref (a 5), .ref (a 8), .int (nI k), .int (nI st), .int fi])), ((a 1), .inl (cI, 8, .inl fB)), ((a 2), .inl (cI, 8, .inl fS)), ((a 3), .inl (cJ, 8, .inr (.inl fL))), ((a 4), .inl (cI, 8, .inl fO)), ((a 5), .inr (0, [.ref (a 6), .ref (a 7), .int (nI c), .int t, .int (nI y)])), ((a 6), .inl (cI, 6, .inl fW)), ((a 7), .inl (cI, 6, .inl fD)), ((a 8), .inr (0, [.ref (a 9), .ref (a 10), .int c2, .int t2, .int y2])), ((a 9), .inl (cI, 6, .inl gW)), ((a 10), .inl (cI, 6, .inl gD))] s.heap.size = A at hD ⊢
  have hA : ∀ q : Nat, s.heap.size ≤ q → A q := fun q h => by rw [← hAe]; exact Or.inr h
  have hS : va_S A s.heap s.heap [] := va_S.rf
  have hl := lv_entry ([.ref (a 0), .int (nI n9)]) (n := 3) (Nat.le_of_ble_eq_true rfl)
  rw [lg_entry_eq]
  generalize (lg_sl ([.ref (a 0), .int (nI n9)]) ++ List.replicate (3 - (lg_sl ([.ref (a 0), .int (nI n9)])).length) Slot.unset).toArray = ls at hl ⊢
  have hl : lv_has ls 3 [(0, .ref (a 0)), (1, .int (nI n9))] := hl
  have hw9 : inR 1 60 (nI n9) := by unfold inR; rw [nI_toInt (by omega)]; omega
  have hiX1 : ∀ w ∈ u_ws RX1 TX1 9, w ∈ wsX1_passDays := by decide +kernel
  have hw26 : (Cond.fieldLink RX1 26 "OldMeasures" "stalls" "LOldMeasures$Stalls;").before ([.ref (a 0), .int (nI n9)] : List Value).toArray s = true := hts _ (by decide +kernel)
  have hw95 : (Cond.fieldLink RX1 95 "OldMeasures" "fines" "I").before ([.ref (a 0), .int (nI n9)] : List Value).toArray s = true := hts _ (by decide +kernel)
  refine lv_iload_n hx hb dX1_passDays_0 rfl (lv_at hl 1 rfl) ?_
  refine ro_v (va_runS (As := [.int (nI n9)]) (rest := []) ⟨hx, hb, hml, hown, hts⟩ (k_X1_needDays l D cI cJ cR a (nI n9) hw9) (va_cwS 1 hts gX1_passDays_X1_needDays rfl rfl rfl (by decide +kernel) ⟨Nat.le_of_ble_eq_true rfl, Nat.le_of_ble_eq_true rfl⟩) (preS_ro KC_ok (hP.sub (ws' := []) [] rfl) hC) rfl rfl hl.1 rfl (lv_room (Nat.le_of_ble_eq_true rfl)) dX1_passDays_1 ⟨by decide, by decide⟩) (fun _ => ?_)
  refine lv_aload_n hx hb dX1_passDays_4 rfl (lv_at hl 0 rfl) ?_
  refine va_get (D := D) (ci := 1) (v := .ref (a 5)) (C := RX1) (T := TX1) (N := 9) hx hb hts hiX1 hown hK hP 0 rfl rfl 4 (by decide) hw26 (fun _ h9 => h9) rfl dX1_passDays_5 ?_
  refine lv_iload_n hx hb dX1_passDays_8 rfl (lv_at hl 1 rfl) ?_
  have hFc := va_free (wc := [((a 5), .inr (0, [.ref (a 6), .ref (a 7), .int (nI c), .int t, .int (nI y)])), ((a 6), .inl (cI, 6, .inl fW)), ((a 7), .inl (cI, 6, .inl fD))]) hD hS hA [5, 6, 7] rfl
  refine va_calli (va_runVN (As := [.int (nI n9)]) (rest := []) ⟨hx, hb, hml, hown, hts⟩ (c_X0_coinsPaidIn l D cI cJ cR s.heap.size (a 5) (a 6) (a 7) c t y fW fD (by omega) (by omega) n9 (by omega)) ⟨va_cnB (host := RX1) 1 hts ggX1_passDays_X0_coinsPaidIn rfl rfl rfl hC.2.2.2.2.2.2.2.2.1 (hts (.initialized RX0) (by decide +kernel)) (by decide +kernel) ⟨Nat.le_of_ble_eq_true rfl, Nat.le_of_ble_eq_true rfl⟩, hts (.instanceMethod yX0_coinsPaidIn) (by decide +kernel), hts (.selects RX0 yX0_coinsPaidIn yX0_coinsPaidIn) (by decide +kernel)⟩ (preV_wr KM_ok (hP.sub (ws' := [((a 5), .inr (0, [.ref (a 6), .ref (a 7), .int (nI c), .int t, .int (nI y)])), ((a 6), .inl (cI, 6, .inl fW)), ((a 7), .inl (cI, 6, .inl fD))]) [5, 6, 7] rfl) (hD.sub (ws' := [((a 5), .inr (0, [.ref (a 6), .ref (a 7), .int (nI c), .int t, .int (nI y)])), ((a 6), .inl (cI, 6, .inl fW)), ((a 7), .inl (cI, 6, .inl fD))]) [5, 6, 7] (by decide) rfl) hK (va_recv hK hP (ci := 0) (q0 := 5) rfl rfl)) rfl rfl hl.1 rfl (lv_room (Nat.le_of_ble_eq_true rfl)) dX1_passDays_9 ⟨by decide, by decide⟩) hS (fun q _ h => hFc q h) hFc (fun r_9 u t9 H1 locs ht hvm hw9 hB hz1 hk1 hS => ?_)
  obtain ⟨hr9, rfl⟩ := hw9
  have hr9 := hr9.symm
  subst hr9
  obtain ⟨hP1, hD1⟩ := hB
  rw [ht] at hP1
  obtain ⟨hP, hD⟩ := va_join (wr := [((a 0), .inr (1, [.ref (a 1), .ref (a 2), .ref (a 3), .ref (a 4), .ref (a 5), .ref (a 8), .int (nI k), .int (nI st), .int fi])), ((a 1), .inl (cI, 8, .inl fB)), ((a 2), .inl (cI, 8, .inl fS)), ((a 3), .inl (cJ, 8, .inr (.inl fL))), ((a 4), .inl (cI, 8, .inl fO)), ((a 8), .inr (0, [.ref (a 9), .ref (a 10), .int c2, .int t2, .int y2])), ((a 9), .inl (cI, 6, .inl gW)), ((a 10), .inl (cI, 6, .inl gD))]) (w1 := [((a 5), .inr (0, [.ref (a 6), .ref (a 7), .int (nI c), .int t, .int (nI (y + n9))])), ((a 6), .inl (cI, 6, .inl fW)), ((a 7), .inl (cI, 6, .inl (dIt c t y fW fD n9)))]) hP hD [5, 6, 7] [0, 1, 2, 3, 4, 8, 9, 10] rfl rfl (by decide) (by decide) hk1 hFc hP1 hD1
  clear hz1 hk1 ht hvm hFc
  generalize H1 = H at hP hS ⊢
  have hP : va_P D vwCl [((a 0), .inr (1, [.ref (a 1), .ref (a 2), .ref (a 3), .ref (a 4), .ref (a 5), .ref (a 8), .int (nI k), .int (nI st), .int fi])), ((a 1), .inl (cI, 8, .inl fB)), ((a 2), .inl (cI, 8, .inl fS)), ((a 3), .inl (cJ, 8, .inr (.inl fL))), ((a 4), .inl (cI, 8, .inl fO)), ((a 8), .inr (0, [.ref (a 9), .ref (a 10), .int c2, .int t2, .int y2])), ((a 9), .inl (cI, 6, .inl gW)), ((a 10), .inl (cI, 6, .inl gD)), ((a 5), .inr (0, [.ref (a 6), .ref (a 7), .int (nI c), .int t, .int (nI (y + n9))])), ((a 6), .inl (cI, 6, .inl fW)), ((a 7), .inl (cI, 6, .inl (dIt c t y fW fD n9)))] H := hP
  have hD : va_D A [((a 0), .inr (1, [.ref (a 1), .ref (a 2), .ref (a 3), .ref (a 4), .ref (a 5), .ref (a 8), .int (nI k), .int (nI st), .int fi])), ((a 1), .inl (cI, 8, .inl fB)), ((a 2), .inl (cI, 8, .inl fS)), ((a 3), .inl (cJ, 8, .inr (.inl fL))), ((a 4), .inl (cI, 8, .inl fO)), ((a 8), .inr (0, [.ref (a 9), .ref (a 10), .int c2, .int t2, .int y2])), ((a 9), .inl (cI, 6, .inl gW)), ((a 10), .inl (cI, 6, .inl gD)), ((a 5), .inr (0, [.ref (a 6), .ref (a 7), .int (nI c), .int t, .int (nI (y + n9))])), ((a 6), .inl (cI, 6, .inl fW)), ((a 7), .inl (cI, 6, .inl (dIt c t y fW fD n9)))] := hD
  refine lv_istore_n (lv' := [(2, .int (dSm c t y fW fD n9)), (0, .ref (a 0)), (1, .int (nI n9))]) hx hb dX1_passDays_12 rfl hl (by decide) rfl (fun ls hl => ?_)
  refine lv_aload_n hx hb dX1_passDays_13 rfl (lv_at hl 1 rfl) ?_
  refine lv_dup hx hb dX1_passDays_14 rfl ?_
  refine va_get (D := D) (ci := 1) (v := .int fi) (C := RX1) (T := TX1) (N := 9) hx hb hts hiX1 hown hK hP 0 rfl rfl 8 (by decide) hw95 (fun _ h9 => h9) rfl dX1_passDays_15 ?_
  refine lv_iload_n hx hb dX1_passDays_18 rfl (lv_at hl 0 rfl) ?_
  refine lv_iadd hx hb dX1_passDays_19 ?_
  refine va_put (D := D) (ci := 1) (v := .int (fi + (dSm c t y fW fD n9))) (ty := .int) (C := RX1) (T := TX1) (N := 9) hx hb hts hiX1 tyX1 tyX1_ok nmX1 hown hK hP hD hS 0 rfl rfl 8 (by decide) hw95 (fun _ h9 => h9) rfl (by decide +kernel) rfl rfl (Nat.le_of_ble_eq_true rfl) dX1_passDays_20 (fun H locs hP hD hS => ?_)
  have hP : va_P D vwCl [((a 0), .inr (1, [.ref (a 1), .ref (a 2), .ref (a 3), .ref (a 4), .ref (a 5), .ref (a 8), .int (nI k), .int (nI st), .int (fi + (dSm c t y fW fD n9))])), ((a 1), .inl (cI, 8, .inl fB)), ((a 2), .inl (cI, 8, .inl fS)), ((a 3), .inl (cJ, 8, .inr (.inl fL))), ((a 4), .inl (cI, 8, .inl fO)), ((a 8), .inr (0, [.ref (a 9), .ref (a 10), .int c2, .int t2, .int y2])), ((a 9), .inl (cI, 6, .inl gW)), ((a 10), .inl (cI, 6, .inl gD)), ((a 5), .inr (0, [.ref (a 6), .ref (a 7), .int (nI c), .int t, .int (nI (y + n9))])), ((a 6), .inl (cI, 6, .inl fW)), ((a 7), .inl (cI, 6, .inl (dIt c t y fW fD n9)))] H := hP
  have hD : va_D A [((a 0), .inr (1, [.ref (a 1), .ref (a 2), .ref (a 3), .ref (a 4), .ref (a 5), .ref (a 8), .int (nI k), .int (nI st), .int (fi + (dSm c t y fW fD n9))])), ((a 1), .inl (cI, 8, .inl fB)), ((a 2), .inl (cI, 8, .inl fS)), ((a 3), .inl (cJ, 8, .inr (.inl fL))), ((a 4), .inl (cI, 8, .inl fO)), ((a 8), .inr (0, [.ref (a 9), .ref (a 10), .int c2, .int t2, .int y2])), ((a 9), .inl (cI, 6, .inl gW)), ((a 10), .inl (cI, 6, .inl gD)), ((a 5), .inr (0, [.ref (a 6), .ref (a 7), .int (nI c), .int t, .int (nI (y + n9))])), ((a 6), .inl (cI, 6, .inl fW)), ((a 7), .inl (cI, 6, .inl (dIt c t y fW fD n9)))] := hD
  refine lv_iload_n hx hb dX1_passDays_23 rfl (lv_at hl 0 rfl) ?_
  have hP := hP.sub (ws' := [((a 0), .inr (1, [.ref (a 1), .ref (a 2), .ref (a 3), .ref (a 4), .ref (a 5), .ref (a 8), .int (nI k), .int (nI st), .int (fi + (dSm c t y fW fD n9))])), ((a 1), .inl (cI, 8, .inl fB)), ((a 2), .inl (cI, 8, .inl fS)), ((a 3), .inl (cJ, 8, .inr (.inl fL))), ((a 4), .inl (cI, 8, .inl fO)), ((a 5), .inr (0, [.ref (a 6), .ref (a 7), .int (nI c), .int t, .int (nI (y + n9))])), ((a 6), .inl (cI, 6, .inl fW)), ((a 7), .inl (cI, 6, .inl (dIt c t y fW fD n9))), ((a 8), .inr (0, [.ref (a 9), .ref (a 10), .int c2, .int t2, .int y2])), ((a 9), .inl (cI, 6, .inl gW)), ((a 10), .inl (cI, 6, .inl gD))]) [0, 1, 2, 3, 4, 8, 9, 10, 5, 6, 7] rfl
  have hD := hD.sub (ws' := [((a 0), .inr (1, [.ref (a 1), .ref (a 2), .ref (a 3), .ref (a 4), .ref (a 5), .ref (a 8), .int (nI k), .int (nI st), .int (fi + (dSm c t y fW fD n9))])), ((a 1), .inl (cI, 8, .inl fB)), ((a 2), .inl (cI, 8, .inl fS)), ((a 3), .inl (cJ, 8, .inr (.inl fL))), ((a 4), .inl (cI, 8, .inl fO)), ((a 5), .inr (0, [.ref (a 6), .ref (a 7), .int (nI c), .int t, .int (nI (y + n9))])), ((a 6), .inl (cI, 6, .inl fW)), ((a 7), .inl (cI, 6, .inl (dIt c t y fW fD n9))), ((a 8), .inr (0, [.ref (a 9), .ref (a 10), .int c2, .int t2, .int y2])), ((a 9), .inl (cI, 6, .inl gW)), ((a 10), .inl (cI, 6, .inl gD))]) [0, 1, 2, 3, 4, 8, 9, 10, 5, 6, 7] (by decide) rfl
  exact W.iret (v := (dSm c t y fW fD n9)) hx hb hr (fun t9 ht hW => ⟨⟨(dSm c t y fW fD n9), [((a 0), .inr (1, [.ref (a 1), .ref (a 2), .ref (a 3), .ref (a 4), .ref (a 5), .ref (a 8), .int (nI k), .int (nI st), .int (fi + (dSm c t y fW fD n9))])), ((a 1), .inl (cI, 8, .inl fB)), ((a 2), .inl (cI, 8, .inl fS)), ((a 3), .inl (cJ, 8, .inr (.inl fL))), ((a 4), .inl (cI, 8, .inl fO)), ((a 5), .inr (0, [.ref (a 6), .ref (a 7), .int (nI c), .int t, .int (nI (y + n9))])), ((a 6), .inl (cI, 6, .inl fW)), ((a 7), .inl (cI, 6, .inl (dIt c t y fW fD n9))), ((a 8), .inr (0, [.ref (a 9), .ref (a 10), .int c2, .int t2, .int y2])), ((a 9), .inl (cI, 6, .inl gW)), ((a 10), .inl (cI, 6, .inl gD))], rfl, ⟨rfl, rfl⟩, by rw [ht]; exact hP, hD⟩, hS.F ht⟩) hS.2.2 dX1_passDays_24
end
section
set_option maxHeartbeats 4000000 in
set_option maxRecDepth 100000 in
theorem c_X1_refineUnit (l : Launch) (D : va_G) (cI cJ cR : ClassId) (sz : Nat) (a : Nat → Nat) (k st : Nat) (fi : Int32) (fB fS fO : Nat → Int32) (fL : Nat → Int64) (c : Nat) (t : Int32) (y : Nat) (fW fD : Nat → Int32) (c2 t2 y2 : Int32) (gW gD : Nat → Int32) (hk : k ≤ 8) (q : Int32) : Met l yX1_refineUnit wsX1_refineUnit ({ frames := 0, cells := 0, slots := 0, locals := 0 }) (cPw D [((a 0), .inr (1, [.ref (a 1), .ref (a 2), .ref (a 3), .ref (a 4), .ref (a 5), .ref (a 8), .int (nI k), .int (nI st), .int fi])), ((a 1), .inl (cI, 8, .inl fB)), ((a 2), .inl (cI, 8, .inl fS)), ((a 3), .inl (cJ, 8, .inr (.inl fL))), ((a 4), .inl (cI, 8, .inl fO)), ((a 5), .inr (0, [.ref (a 6), .ref (a 7), .int (nI c), .int t, .int (nI y)])), ((a 6), .inl (cI, 6, .inl fW)), ((a 7), .inl (cI, 6, .inl fD)), ((a 8), .inr (0, [.ref (a 9), .ref (a 10), .int c2, .int t2, .int y2])), ((a 9), .inl (cI, 6, .inl gW)), ((a 10), .inl (cI, 6, .inl gD))] sz (KM D cI cJ cR) [.ref (a 0), .int q]) (wrv D [((a 0), .inr (1, [.ref (a 1), .ref (a 2), .ref (a 3), .ref (a 4), .ref (a 5), .ref (a 8), .int (nI k), .int (nI st), .int fi])), ((a 1), .inl (cI, 8, .inl fB)), ((a 2), .inl (cI, 8, .inl fS)), ((a 3), .inl (cJ, 8, .inr (.inl fL))), ((a 4), .inl (cI, 8, .inl fO)), ((a 5), .inr (0, [.ref (a 6), .ref (a 7), .int (nI c), .int t, .int (nI y)])), ((a 6), .inl (cI, 6, .inl fW)), ((a 7), .inl (cI, 6, .inl fD)), ((a 8), .inr (0, [.ref (a 9), .ref (a 10), .int c2, .int t2, .int y2])), ((a 9), .inl (cI, 6, .inl gW)), ((a 10), .inl (cI, 6, .inl gD))] sz (fun ws' => ws' = [((a 0), .inr (1, [.ref (a 1), .ref (a 2), .ref (a 3), .ref (a 4), .ref (a 5), .ref (a 8), .int (nI k), .int (nI st), .int fi])), ((a 1), .inl (cI, 8, .inl fB)), ((a 2), .inl (cI, 8, .inl fS)), ((a 3), .inl (cJ, 8, .inr (.inl (rfU fL (q).toInt64 k)))), ((a 4), .inl (cI, 8, .inl fO)), ((a 5), .inr (0, [.ref (a 6), .ref (a 7), .int (nI c), .int t, .int (nI y)])), ((a 6), .inl (cI, 6, .inl fW)), ((a 7), .inl (cI, 6, .inl fD)), ((a 8), .inr (0, [.ref (a 9), .ref (a 10), .int c2, .int t2, .int y2])), ((a 9), .inl (cI, 6, .inl gW)), ((a 10), .inl (cI, 6, .inl gD))])) 0 0 (va_A [((a 0), .inr (1, [.ref (a 1), .ref (a 2), .ref (a 3), .ref (a 4), .ref (a 5), .ref (a 8), .int (nI k), .int (nI st), .int fi])), ((a 1), .inl (cI, 8, .inl fB)), ((a 2), .inl (cI, 8, .inl fS)), ((a 3), .inl (cJ, 8, .inr (.inl fL))), ((a 4), .inl (cI, 8, .inl fO)), ((a 5), .inr (0, [.ref (a 6), .ref (a 7), .int (nI c), .int t, .int (nI y)])), ((a 6), .inl (cI, 6, .inl fW)), ((a 7), .inl (cI, 6, .inl fD)), ((a 8), .inr (0, [.ref (a 9), .ref (a 10), .int c2, .int t2, .int y2])), ((a 9), .inl (cI, 6, .inl gW)), ((a 10), .inl (cI, 6, .inl gD))] sz) := by
  refine Met.ofW (cc := cX1_refineUnit) (maxL := 3) (ret := none) (by decide +kernel) rfl ?_
  intro p e s m args below meth c9 s₁ B hml hv
  obtain ⟨rfl, hsz, hP, hD0, hC⟩ := hv
  have hx := B.exec
  have hb := B.bytes
  have hr := B.returns
  have hts := atoms_spec (ws := wsX1_refineUnit) B.pre
  have hown : s.vm.findClass RX1 = some m.cls := findClass_of_methodNamed B.named
  have hlocks := B.notSynchronized
  have hK : va_K D vwCl [(cI, .int), (cJ, .long), (cR, .array .int)] s := hC
  subst hsz
  unfold wrv wB
  have hD := hD0.self (sz := s.heap.size)
  generalize hAe : va_A [((a 0), .inr (1, [.ref (a 1), .ref (a 2), .ref (a 3), .ref (a 4), .ref (a 5), .ref (a 8), .int (nI k), .int (nI st), .int fi])), ((a 1), .inl (cI, 8, .inl fB)), ((a 2), .inl (cI, 8, .inl fS)), ((a 3), .inl (cJ, 8, .inr (.inl fL))), ((a 4), .inl (cI, 8, .inl fO)), ((a 5), .inr (0, [.ref (a 6), .ref (a 7), .int (nI c), .int t, .int (nI y)])), ((a 6), .inl (cI, 6, .inl fW)), ((a 7), .inl (cI, 6, .inl fD)), ((a 8), .inr (0, [.ref (a 9), .ref (a 10), .int c2, .int t2, .int y2])), ((a 9), .inl (cI, 6, .inl gW)), ((a 10), .inl (cI, 6, .inl gD))] s.heap.size = A at hD ⊢
  have hA : ∀ q : Nat, s.heap.size ≤ q → A q := fun q h => by rw [← hAe]; exact Or.inr h
  have hS : va_S A s.heap s.heap [] := va_S.rf
  have hl := lv_entry ([.ref (a 0), .int q]) (n := 3) (Nat.le_of_ble_eq_true rfl)
  rw [lg_entry_eq]
  generalize (lg_sl ([.ref (a 0), .int q]) ++ List.replicate (3 - (lg_sl ([.ref (a 0), .int q])).length) Slot.unset).toArray = ls at hl ⊢
  have hl : lv_has ls 3 [(0, .ref (a 0)), (1, .int q)] := hl
  have hiX1 : ∀ w ∈ u_ws RX1 TX1 9, w ∈ wsX1_refineUnit := by decide +kernel
  have hw16 : (Cond.fieldLink RX1 16 "OldMeasures" "lengths" "[J").before ([.ref (a 0), .int q] : List Value).toArray s = true := hts _ (by decide +kernel)
  have hw33 : (Cond.fieldLink RX1 33 "OldMeasures" "measureCount" "I").before ([.ref (a 0), .int q] : List Value).toArray s = true := hts _ (by decide +kernel)
  refine lv_iconst (v := 0) hx hb dX1_refineUnit_0 (by decide) ?_
  refine lv_istore_n (lv' := [(2, .int 0), (0, .ref (a 0)), (1, .int q)]) hx hb dX1_refineUnit_1 rfl hl (by decide) rfl (fun ls hl => ?_)
  have hP : va_P D vwCl [((a 0), .inr (1, [.ref (a 1), .ref (a 2), .ref (a 3), .ref (a 4), .ref (a 5), .ref (a 8), .int (nI k), .int (nI st), .int fi])), ((a 1), .inl (cI, 8, .inl fB)), ((a 2), .inl (cI, 8, .inl fS)), ((a 3), .inl (cJ, 8, .inr (.inl (rfU fL (q).toInt64 0)))), ((a 4), .inl (cI, 8, .inl fO)), ((a 5), .inr (0, [.ref (a 6), .ref (a 7), .int (nI c), .int t, .int (nI y)])), ((a 6), .inl (cI, 6, .inl fW)), ((a 7), .inl (cI, 6, .inl fD)), ((a 8), .inr (0, [.ref (a 9), .ref (a 10), .int c2, .int t2, .int y2])), ((a 9), .inl (cI, 6, .inl gW)), ((a 10), .inl (cI, 6, .inl gD))] s.heap := by rw [rfU_0]; exact hP
  have hD : va_D A [((a 0), .inr (1, [.ref (a 1), .ref (a 2), .ref (a 3), .ref (a 4), .ref (a 5), .ref (a 8), .int (nI k), .int (nI st), .int fi])), ((a 1), .inl (cI, 8, .inl fB)), ((a 2), .inl (cI, 8, .inl fS)), ((a 3), .inl (cJ, 8, .inr (.inl (rfU fL (q).toInt64 0)))), ((a 4), .inl (cI, 8, .inl fO)), ((a 5), .inr (0, [.ref (a 6), .ref (a 7), .int (nI c), .int t, .int (nI y)])), ((a 6), .inl (cI, 6, .inl fW)), ((a 7), .inl (cI, 6, .inl fD)), ((a 8), .inr (0, [.ref (a 9), .ref (a 10), .int c2, .int t2, .int y2])), ((a 9), .inl (cI, 6, .inl gW)), ((a 10), .inl (cI, 6, .inl gD))] := by rw [rfU_0]; exact hD
  refine loopW (σ := Unit) (I := fun i x H locs ls => lv_has ls 3 [(0, .ref (a 0)), (1, .int q), (2, .int (nI i))] ∧ va_P D vwCl [((a 0), .inr (1, [.ref (a 1), .ref (a 2), .ref (a 3), .ref (a 4), .ref (a 5), .ref (a 8), .int (nI k), .int (nI st), .int fi])), ((a 1), .inl (cI, 8, .inl fB)), ((a 2), .inl (cI, 8, .inl fS)), ((a 3), .inl (cJ, 8, .inr (.inl (rfU fL (q).toInt64 i)))), ((a 4), .inl (cI, 8, .inl fO)), ((a 5), .inr (0, [.ref (a 6), .ref (a 7), .int (nI c), .int t, .int (nI y)])), ((a 6), .inl (cI, 6, .inl fW)), ((a 7), .inl (cI, 6, .inl fD)), ((a 8), .inr (0, [.ref (a 9), .ref (a 10), .int c2, .int t2, .int y2])), ((a 9), .inl (cI, 6, .inl gW)), ((a 10), .inl (cI, 6, .inl gD))] H ∧ va_D A [((a 0), .inr (1, [.ref (a 1), .ref (a 2), .ref (a 3), .ref (a 4), .ref (a 5), .ref (a 8), .int (nI k), .int (nI st), .int fi])), ((a 1), .inl (cI, 8, .inl fB)), ((a 2), .inl (cI, 8, .inl fS)), ((a 3), .inl (cJ, 8, .inr (.inl (rfU fL (q).toInt64 i)))), ((a 4), .inl (cI, 8, .inl fO)), ((a 5), .inr (0, [.ref (a 6), .ref (a 7), .int (nI c), .int t, .int (nI y)])), ((a 6), .inl (cI, 6, .inl fW)), ((a 7), .inl (cI, 6, .inl fD)), ((a 8), .inr (0, [.ref (a 9), .ref (a 10), .int c2, .int t2, .int y2])), ((a 9), .inl (cI, 6, .inl gW)), ((a 10), .inl (cI, 6, .inl gD))] ∧ va_S A s.heap H locs) k ?_ 0 () _ _ ls (by omega) ⟨lv_sub hl [1, 2, 0] rfl, hP, hD, hS⟩
  intro i x H locs ls hi hI kk
  obtain ⟨hl, hP, hD, hS⟩ := hI
  refine lv_iload_n hx hb dX1_refineUnit_2 rfl (lv_at hl 2 rfl) ?_
  refine lv_aload_n hx hb dX1_refineUnit_3 rfl (lv_at hl 0 rfl) ?_
  refine va_get (D := D) (ci := 1) (v := .int (nI k)) (C := RX1) (T := TX1) (N := 9) hx hb hts hiX1 hown hK hP 0 rfl rfl 6 (by decide) hw33 (fun _ h9 => h9) rfl dX1_refineUnit_4 ?_
  refine lv_icmp_ge (tgt := 27) hx hb dX1_refineUnit_7 (by decide) (fun c_7 => ?_) (fun c_7 => ?_)
  · skip
    simp only [Int32.le_iff_toInt_le] at c_7
    rw [nI_toInt (n := i) (by omega)] at c_7
    rw [nI_toInt (n := k) (by omega)] at c_7
    have e9 : k = i := by omega
    subst e9
    exact W.vret hx hb hr (fun t9 ht hW => ⟨⟨[((a 0), .inr (1, [.ref (a 1), .ref (a 2), .ref (a 3), .ref (a 4), .ref (a 5), .ref (a 8), .int (nI k), .int (nI st), .int fi])), ((a 1), .inl (cI, 8, .inl fB)), ((a 2), .inl (cI, 8, .inl fS)), ((a 3), .inl (cJ, 8, .inr (.inl (rfU fL (q).toInt64 k)))), ((a 4), .inl (cI, 8, .inl fO)), ((a 5), .inr (0, [.ref (a 6), .ref (a 7), .int (nI c), .int t, .int (nI y)])), ((a 6), .inl (cI, 6, .inl fW)), ((a 7), .inl (cI, 6, .inl fD)), ((a 8), .inr (0, [.ref (a 9), .ref (a 10), .int c2, .int t2, .int y2])), ((a 9), .inl (cI, 6, .inl gW)), ((a 10), .inl (cI, 6, .inl gD))], rfl, rfl, by rw [ht]; exact hP, hD⟩, hS.F ht⟩) hS.2.2 dX1_refineUnit_27
  · skip
    simp only [Int32.le_iff_toInt_le] at c_7
    rw [nI_toInt (n := i) (by omega)] at c_7
    rw [nI_toInt (n := k) (by omega)] at c_7
    refine lv_aload_n hx hb dX1_refineUnit_10 rfl (lv_at hl 0 rfl) ?_
    refine va_get (D := D) (ci := 1) (v := .ref (a 3)) (C := RX1) (T := TX1) (N := 9) hx hb hts hiX1 hown hK hP 0 rfl rfl 2 (by decide) hw16 (fun _ h9 => h9) rfl dX1_refineUnit_11 ?_
    refine lv_iload_n hx hb dX1_refineUnit_14 rfl (lv_at hl 2 rfl) ?_
    refine lv_dup2_11 hx hb dX1_refineUnit_15 rfl rfl ?_
    refine xa_lald hx hb hK hP 3 1 rfl rfl (by omega) (by decide) dX1_refineUnit_16 ?_
    refine lv_iload_n hx hb dX1_refineUnit_17 rfl (lv_at hl 1 rfl) ?_
    refine lv_i2l (v := (q).toInt64) hx hb dX1_refineUnit_18 rfl ?_
    refine lv_lmul hx hb dX1_refineUnit_19 ?_
    refine xa_last hx hb hK hP hD hS 3 1 rfl rfl (by omega) (by decide) dX1_refineUnit_20 (fun H locs hP hD hS => ?_)
    have hP : va_P D vwCl [((a 0), .inr (1, [.ref (a 1), .ref (a 2), .ref (a 3), .ref (a 4), .ref (a 5), .ref (a 8), .int (nI k), .int (nI st), .int fi])), ((a 1), .inl (cI, 8, .inl fB)), ((a 2), .inl (cI, 8, .inl fS)), ((a 3), .inl (cJ, 8, .inr (.inl (vp_updL (rfU fL (q).toInt64 i) i (((rfU fL (q).toInt64 i) i) * (q).toInt64))))), ((a 4), .inl (cI, 8, .inl fO)), ((a 5), .inr (0, [.ref (a 6), .ref (a 7), .int (nI c), .int t, .int (nI y)])), ((a 6), .inl (cI, 6, .inl fW)), ((a 7), .inl (cI, 6, .inl fD)), ((a 8), .inr (0, [.ref (a 9), .ref (a 10), .int c2, .int t2, .int y2])), ((a 9), .inl (cI, 6, .inl gW)), ((a 10), .inl (cI, 6, .inl gD))] H := hP
    have hD : va_D A [((a 0), .inr (1, [.ref (a 1), .ref (a 2), .ref (a 3), .ref (a 4), .ref (a 5), .ref (a 8), .int (nI k), .int (nI st), .int fi])), ((a 1), .inl (cI, 8, .inl fB)), ((a 2), .inl (cI, 8, .inl fS)), ((a 3), .inl (cJ, 8, .inr (.inl (vp_updL (rfU fL (q).toInt64 i) i (((rfU fL (q).toInt64 i) i) * (q).toInt64))))), ((a 4), .inl (cI, 8, .inl fO)), ((a 5), .inr (0, [.ref (a 6), .ref (a 7), .int (nI c), .int t, .int (nI y)])), ((a 6), .inl (cI, 6, .inl fW)), ((a 7), .inl (cI, 6, .inl fD)), ((a 8), .inr (0, [.ref (a 9), .ref (a 10), .int c2, .int t2, .int y2])), ((a 9), .inl (cI, 6, .inl gW)), ((a 10), .inl (cI, 6, .inl gD))] := hD
    have hP : va_P D vwCl [((a 0), .inr (1, [.ref (a 1), .ref (a 2), .ref (a 3), .ref (a 4), .ref (a 5), .ref (a 8), .int (nI k), .int (nI st), .int fi])), ((a 1), .inl (cI, 8, .inl fB)), ((a 2), .inl (cI, 8, .inl fS)), ((a 3), .inl (cJ, 8, .inr (.inl (rfU fL (q).toInt64 (i + 1))))), ((a 4), .inl (cI, 8, .inl fO)), ((a 5), .inr (0, [.ref (a 6), .ref (a 7), .int (nI c), .int t, .int (nI y)])), ((a 6), .inl (cI, 6, .inl fW)), ((a 7), .inl (cI, 6, .inl fD)), ((a 8), .inr (0, [.ref (a 9), .ref (a 10), .int c2, .int t2, .int y2])), ((a 9), .inl (cI, 6, .inl gW)), ((a 10), .inl (cI, 6, .inl gD))] H := by rw [← rfU_s]; exact hP
    have hD : va_D A [((a 0), .inr (1, [.ref (a 1), .ref (a 2), .ref (a 3), .ref (a 4), .ref (a 5), .ref (a 8), .int (nI k), .int (nI st), .int fi])), ((a 1), .inl (cI, 8, .inl fB)), ((a 2), .inl (cI, 8, .inl fS)), ((a 3), .inl (cJ, 8, .inr (.inl (rfU fL (q).toInt64 (i + 1))))), ((a 4), .inl (cI, 8, .inl fO)), ((a 5), .inr (0, [.ref (a 6), .ref (a 7), .int (nI c), .int t, .int (nI y)])), ((a 6), .inl (cI, 6, .inl fW)), ((a 7), .inl (cI, 6, .inl fD)), ((a 8), .inr (0, [.ref (a 9), .ref (a 10), .int c2, .int t2, .int y2])), ((a 9), .inl (cI, 6, .inl gW)), ((a 10), .inl (cI, 6, .inl gD))] := by rw [← rfU_s]; exact hD
    refine lv_iinc (v := (nI (i + 1))) (lv' := [(2, .int (nI (i + 1))), (0, .ref (a 0)), (1, .int q)]) hx hb dX1_refineUnit_21 hl (k := 2) rfl (nI_inc i) (by decide) rfl (fun ls hl => ?_)
    refine lv_goto (tgt := 2) hx hb dX1_refineUnit_24 (by decide) ?_
    exact kk () _ _ ls (by omega) ⟨lv_sub hl [1, 2, 0] rfl, hP, hD, hS⟩

set_option maxHeartbeats 4000000 in
set_option maxRecDepth 100000 in
theorem c_X1_rankLast (l : Launch) (D : va_G) (cI cJ cR : ClassId) (sz : Nat) (a : Nat → Nat) (k st : Nat) (fi : Int32) (fB fS fO : Nat → Int32) (fL : Nat → Int64) (c : Nat) (t : Int32) (y : Nat) (fW fD : Nat → Int32) (c2 t2 y2 : Int32) (gW gD : Nat → Int32) (q : Nat) (hq : k = q + 1) (hk : k ≤ 8) (hO : ∀ j, j < q → inM 8 (fO j)) : Met l yX1_rankLast wsX1_rankLast ({ frames := 1, cells := 0, slots := 0, locals := 21 }) (cPw D [((a 0), .inr (1, [.ref (a 1), .ref (a 2), .ref (a 3), .ref (a 4), .ref (a 5), .ref (a 8), .int (nI k), .int (nI st), .int fi])), ((a 1), .inl (cI, 8, .inl fB)), ((a 2), .inl (cI, 8, .inl fS)), ((a 3), .inl (cJ, 8, .inr (.inl fL))), ((a 4), .inl (cI, 8, .inl fO)), ((a 5), .inr (0, [.ref (a 6), .ref (a 7), .int (nI c), .int t, .int (nI y)])), ((a 6), .inl (cI, 6, .inl fW)), ((a 7), .inl (cI, 6, .inl fD)), ((a 8), .inr (0, [.ref (a 9), .ref (a 10), .int c2, .int t2, .int y2])), ((a 9), .inl (cI, 6, .inl gW)), ((a 10), .inl (cI, 6, .inl gD))] sz (KM D cI cJ cR) [.ref (a 0)]) (wrv D [((a 0), .inr (1, [.ref (a 1), .ref (a 2), .ref (a 3), .ref (a 4), .ref (a 5), .ref (a 8), .int (nI k), .int (nI st), .int fi])), ((a 1), .inl (cI, 8, .inl fB)), ((a 2), .inl (cI, 8, .inl fS)), ((a 3), .inl (cJ, 8, .inr (.inl fL))), ((a 4), .inl (cI, 8, .inl fO)), ((a 5), .inr (0, [.ref (a 6), .ref (a 7), .int (nI c), .int t, .int (nI y)])), ((a 6), .inl (cI, 6, .inl fW)), ((a 7), .inl (cI, 6, .inl fD)), ((a 8), .inr (0, [.ref (a 9), .ref (a 10), .int c2, .int t2, .int y2])), ((a 9), .inl (cI, 6, .inl gW)), ((a 10), .inl (cI, 6, .inl gD))] sz (fun ws' => ws' = [((a 0), .inr (1, [.ref (a 1), .ref (a 2), .ref (a 3), .ref (a 4), .ref (a 5), .ref (a 8), .int (nI k), .int (nI st), .int fi])), ((a 1), .inl (cI, 8, .inl fB)), ((a 2), .inl (cI, 8, .inl fS)), ((a 3), .inl (cJ, 8, .inr (.inl fL))), ((a 4), .inl (cI, 8, .inl (insO fL (fL q) (nI q) q fO))), ((a 5), .inr (0, [.ref (a 6), .ref (a 7), .int (nI c), .int t, .int (nI y)])), ((a 6), .inl (cI, 6, .inl fW)), ((a 7), .inl (cI, 6, .inl fD)), ((a 8), .inr (0, [.ref (a 9), .ref (a 10), .int c2, .int t2, .int y2])), ((a 9), .inl (cI, 6, .inl gW)), ((a 10), .inl (cI, 6, .inl gD))])) 0 0 (va_A [((a 0), .inr (1, [.ref (a 1), .ref (a 2), .ref (a 3), .ref (a 4), .ref (a 5), .ref (a 8), .int (nI k), .int (nI st), .int fi])), ((a 1), .inl (cI, 8, .inl fB)), ((a 2), .inl (cI, 8, .inl fS)), ((a 3), .inl (cJ, 8, .inr (.inl fL))), ((a 4), .inl (cI, 8, .inl fO)), ((a 5), .inr (0, [.ref (a 6), .ref (a 7), .int (nI c), .int t, .int (nI y)])), ((a 6), .inl (cI, 6, .inl fW)), ((a 7), .inl (cI, 6, .inl fD)), ((a 8), .inr (0, [.ref (a 9), .ref (a 10), .int c2, .int t2, .int y2])), ((a 9), .inl (cI, 6, .inl gW)), ((a 10), .inl (cI, 6, .inl gD))] sz) := by
  refine Met.ofW (cc := cX1_rankLast) (maxL := 3) (ret := none) (by decide +kernel) rfl ?_
  intro p e s m args below meth c9 s₁ B hml hv
  obtain ⟨rfl, hsz, hP, hD0, hC⟩ := hv
  have hx := B.exec
  have hb := B.bytes
  have hr := B.returns
  have hts := atoms_spec (ws := wsX1_rankLast) B.pre
  have hown : s.vm.findClass RX1 = some m.cls := findClass_of_methodNamed B.named
  have hlocks := B.notSynchronized
  have hK : va_K D vwCl [(cI, .int), (cJ, .long), (cR, .array .int)] s := hC
  subst hsz
  unfold wrv wB
  have hD := hD0.self (sz := s.heap.size)
  generalize hAe : va_A [((a 0), .inr (1, [.ref (a 1), .ref (a 2), .ref (a 3), .ref (a 4), .ref (a 5), .ref (a 8), .int (nI k), .int (nI st), .int fi])), ((a 1), .inl (cI, 8, .inl fB)), ((a 2), .inl (cI, 8, .inl fS)), ((a 3), .inl (cJ, 8, .inr (.inl fL))), ((a 4), .inl (cI, 8, .inl fO)), ((a 5), .inr (0, [.ref (a 6), .ref (a 7), .int (nI c), .int t, .int (nI y)])), ((a 6), .inl (cI, 6, .inl fW)), ((a 7), .inl (cI, 6, .inl fD)), ((a 8), .inr (0, [.ref (a 9), .ref (a 10), .int c2, .int t2, .int y2])), ((a 9), .inl (cI, 6, .inl gW)), ((a 10), .inl (cI, 6, .inl gD))] s.heap.size = A at hD ⊢
  have hA : ∀ q : Nat, s.heap.size ≤ q → A q := fun q h => by rw [← hAe]; exact Or.inr h
  have hS : va_S A s.heap s.heap [] := va_S.rf
  have hl := lv_entry ([.ref (a 0)]) (n := 3) (Nat.le_of_ble_eq_true rfl)
  rw [lg_entry_eq]
  generalize (lg_sl ([.ref (a 0)]) ++ List.replicate (3 - (lg_sl ([.ref (a 0)])).length) Slot.unset).toArray = ls at hl ⊢
  have hl : lv_has ls 3 [(0, .ref (a 0))] := hl
  have hiX1 : ∀ w ∈ u_ws RX1 TX1 9, w ∈ wsX1_rankLast := by decide +kernel
  have hw16 : (Cond.fieldLink RX1 16 "OldMeasures" "lengths" "[J").before ([.ref (a 0)] : List Value).toArray s = true := hts _ (by decide +kernel)
  have hw20 : (Cond.fieldLink RX1 20 "OldMeasures" "longestFirst" "[I").before ([.ref (a 0)] : List Value).toArray s = true := hts _ (by decide +kernel)
  have hw33 : (Cond.fieldLink RX1 33 "OldMeasures" "measureCount" "I").before ([.ref (a 0)] : List Value).toArray s = true := hts _ (by decide +kernel)
  refine lv_aload_n hx hb dX1_rankLast_0 rfl (lv_at hl 0 rfl) ?_
  refine va_get (D := D) (ci := 1) (v := .int (nI k)) (C := RX1) (T := TX1) (N := 9) hx hb hts hiX1 hown hK hP 0 rfl rfl 6 (by decide) hw33 (fun _ h9 => h9) rfl dX1_rankLast_1 ?_
  refine lv_iconst (v := 1) hx hb dX1_rankLast_4 (by decide) ?_
  refine lv_isub hx hb dX1_rankLast_5 ?_
  refine topI (y := nI q) (by rw [hq]; exact nI_pred q) ?_
  refine lv_istore_n (lv' := [(1, .int (nI q)), (0, .ref (a 0))]) hx hb dX1_rankLast_6 rfl hl (by decide) rfl (fun ls hl => ?_)
  refine lv_iload_n hx hb dX1_rankLast_7 rfl (lv_at hl 0 rfl) ?_
  refine lv_istore_n (lv' := [(2, .int (nI q)), (1, .int (nI q)), (0, .ref (a 0))]) hx hb dX1_rankLast_8 rfl hl (by decide) rfl (fun ls hl => ?_)
  refine loopW (σ := (Nat × (Nat → Int32))) (I := fun i x H locs ls => lv_has ls 3 [(0, .ref (a 0)), (1, .int (nI q)), (2, .int (nI x.1))] ∧ va_P D vwCl [((a 0), .inr (1, [.ref (a 1), .ref (a 2), .ref (a 3), .ref (a 4), .ref (a 5), .ref (a 8), .int (nI k), .int (nI st), .int fi])), ((a 1), .inl (cI, 8, .inl fB)), ((a 2), .inl (cI, 8, .inl fS)), ((a 3), .inl (cJ, 8, .inr (.inl fL))), ((a 4), .inl (cI, 8, .inl x.2)), ((a 5), .inr (0, [.ref (a 6), .ref (a 7), .int (nI c), .int t, .int (nI y)])), ((a 6), .inl (cI, 6, .inl fW)), ((a 7), .inl (cI, 6, .inl fD)), ((a 8), .inr (0, [.ref (a 9), .ref (a 10), .int c2, .int t2, .int y2])), ((a 9), .inl (cI, 6, .inl gW)), ((a 10), .inl (cI, 6, .inl gD))] H ∧ va_D A [((a 0), .inr (1, [.ref (a 1), .ref (a 2), .ref (a 3), .ref (a 4), .ref (a 5), .ref (a 8), .int (nI k), .int (nI st), .int fi])), ((a 1), .inl (cI, 8, .inl fB)), ((a 2), .inl (cI, 8, .inl fS)), ((a 3), .inl (cJ, 8, .inr (.inl fL))), ((a 4), .inl (cI, 8, .inl x.2)), ((a 5), .inr (0, [.ref (a 6), .ref (a 7), .int (nI c), .int t, .int (nI y)])), ((a 6), .inl (cI, 6, .inl fW)), ((a 7), .inl (cI, 6, .inl fD)), ((a 8), .inr (0, [.ref (a 9), .ref (a 10), .int c2, .int t2, .int y2])), ((a 9), .inl (cI, 6, .inl gW)), ((a 10), .inl (cI, 6, .inl gD))] ∧ va_S A s.heap H locs ∧ (x.1 + i = q) ∧ (insO fL (fL q) (nI q) x.1 x.2 = insO fL (fL q) (nI q) q fO) ∧ (∀ j, j < x.1 → inM 8 (x.2 j))) q ?_ 0 (q, fO) _ _ ls (by omega) ⟨lv_sub hl [2, 1, 0] rfl, hP, hD, hS, rfl, rfl, hO⟩
  intro i x H locs ls hi hI kk
  obtain ⟨hl, hP, hD, hS, hr1, hI1, hO1⟩ := hI
  refine lv_iload_n hx hb dX1_rankLast_9 rfl (lv_at hl 2 rfl) ?_
  refine lv_if_le (tgt := 50) hx hb dX1_rankLast_10 (by decide) (fun c_10 => ?_) (fun c_10 => ?_)
  · skip
    simp only [Int32.le_iff_toInt_le] at c_10
    rw [nI_toInt (n := x.1) (by omega)] at c_10
    rw [(by decide : (0 : Int32).toInt = 0)] at c_10
    have e0 : x.1 = 0 := by omega
    refine lv_aload_n hx hb dX1_rankLast_50 rfl (lv_at hl 0 rfl) ?_
    refine va_get (D := D) (ci := 1) (v := .ref (a 4)) (C := RX1) (T := TX1) (N := 9) hx hb hts hiX1 hown hK hP 0 rfl rfl 3 (by decide) hw20 (fun _ h9 => h9) rfl dX1_rankLast_51 ?_
    refine lv_iload_n hx hb dX1_rankLast_54 rfl (lv_at hl 2 rfl) ?_
    refine lv_iload_n hx hb dX1_rankLast_55 rfl (lv_at hl 1 rfl) ?_
    refine xa_iast hx hb hK hP hD hS 4 0 rfl rfl (by omega) (by decide) dX1_rankLast_56 (fun H locs hP hD hS => ?_)
    have hP : va_P D vwCl [((a 0), .inr (1, [.ref (a 1), .ref (a 2), .ref (a 3), .ref (a 4), .ref (a 5), .ref (a 8), .int (nI k), .int (nI st), .int fi])), ((a 1), .inl (cI, 8, .inl fB)), ((a 2), .inl (cI, 8, .inl fS)), ((a 3), .inl (cJ, 8, .inr (.inl fL))), ((a 4), .inl (cI, 8, .inl (upd x.2 (x.1) (nI q)))), ((a 5), .inr (0, [.ref (a 6), .ref (a 7), .int (nI c), .int t, .int (nI y)])), ((a 6), .inl (cI, 6, .inl fW)), ((a 7), .inl (cI, 6, .inl fD)), ((a 8), .inr (0, [.ref (a 9), .ref (a 10), .int c2, .int t2, .int y2])), ((a 9), .inl (cI, 6, .inl gW)), ((a 10), .inl (cI, 6, .inl gD))] H := hP
    have hD : va_D A [((a 0), .inr (1, [.ref (a 1), .ref (a 2), .ref (a 3), .ref (a 4), .ref (a 5), .ref (a 8), .int (nI k), .int (nI st), .int fi])), ((a 1), .inl (cI, 8, .inl fB)), ((a 2), .inl (cI, 8, .inl fS)), ((a 3), .inl (cJ, 8, .inr (.inl fL))), ((a 4), .inl (cI, 8, .inl (upd x.2 (x.1) (nI q)))), ((a 5), .inr (0, [.ref (a 6), .ref (a 7), .int (nI c), .int t, .int (nI y)])), ((a 6), .inl (cI, 6, .inl fW)), ((a 7), .inl (cI, 6, .inl fD)), ((a 8), .inr (0, [.ref (a 9), .ref (a 10), .int c2, .int t2, .int y2])), ((a 9), .inl (cI, 6, .inl gW)), ((a 10), .inl (cI, 6, .inl gD))] := hD
    exact W.vret hx hb hr (fun t9 ht hW => ⟨⟨[((a 0), .inr (1, [.ref (a 1), .ref (a 2), .ref (a 3), .ref (a 4), .ref (a 5), .ref (a 8), .int (nI k), .int (nI st), .int fi])), ((a 1), .inl (cI, 8, .inl fB)), ((a 2), .inl (cI, 8, .inl fS)), ((a 3), .inl (cJ, 8, .inr (.inl fL))), ((a 4), .inl (cI, 8, .inl (upd x.2 (x.1) (nI q)))), ((a 5), .inr (0, [.ref (a 6), .ref (a 7), .int (nI c), .int t, .int (nI y)])), ((a 6), .inl (cI, 6, .inl fW)), ((a 7), .inl (cI, 6, .inl fD)), ((a 8), .inr (0, [.ref (a 9), .ref (a 10), .int c2, .int t2, .int y2])), ((a 9), .inl (cI, 6, .inl gW)), ((a 10), .inl (cI, 6, .inl gD))], rfl, by rw [← hI1, e0]; rfl, by rw [ht]; exact hP, hD⟩, hS.F ht⟩) hS.2.2 dX1_rankLast_57
  · skip
    simp only [Int32.le_iff_toInt_le] at c_10
    rw [nI_toInt (n := x.1) (by omega)] at c_10
    rw [(by decide : (0 : Int32).toInt = 0)] at c_10
    obtain ⟨r9, hr9⟩ : ∃ r9, x.1 = r9 + 1 := ⟨x.1 - 1, by omega⟩
    rw [hr9] at hl
    refine lv_aload_n hx hb dX1_rankLast_13 rfl (lv_at hl 0 rfl) ?_
    refine lv_iload_n hx hb dX1_rankLast_14 rfl (lv_at hl 2 rfl) ?_
    refine lv_iconst (v := 1) hx hb dX1_rankLast_15 (by decide) ?_
    refine lv_isub hx hb dX1_rankLast_16 ?_
    refine topI (nI_pred r9) ?_
    refine ro_lE (va_runV (As := [.int (nI r9)]) (rest := []) ⟨hx, hb, hml, hown, hts⟩ (c_X1_lengthAt l D cI cJ cR a k st fi fB fS (x.2) fL c t y fW fD c2 t2 y2 gW gD r9 (by omega) (hO1 r9 (by omega))) (cwV 1 hts gX1_rankLast_X1_lengthAt rfl rfl rfl (by decide +kernel) ⟨Nat.le_of_ble_eq_true rfl, Nat.le_of_ble_eq_true rfl⟩) (preV_ro KM_ok (hP.sub (ws' := [((a 0), .inr (1, [.ref (a 1), .ref (a 2), .ref (a 3), .ref (a 4), .ref (a 5), .ref (a 8), .int (nI k), .int (nI st), .int fi])), ((a 1), .inl (cI, 8, .inl fB)), ((a 2), .inl (cI, 8, .inl fS)), ((a 3), .inl (cJ, 8, .inr (.inl fL))), ((a 4), .inl (cI, 8, .inl x.2)), ((a 5), .inr (0, [.ref (a 6), .ref (a 7), .int (nI c), .int t, .int (nI y)])), ((a 6), .inl (cI, 6, .inl fW)), ((a 7), .inl (cI, 6, .inl fD)), ((a 8), .inr (0, [.ref (a 9), .ref (a 10), .int c2, .int t2, .int y2])), ((a 9), .inl (cI, 6, .inl gW)), ((a 10), .inl (cI, 6, .inl gD))]) [0, 1, 2, 3, 4, 5, 6, 7, 8, 9, 10] rfl) hK (va_recv hK hP (ci := 1) (q0 := 0) rfl rfl)) rfl rfl hl.1 rfl (lv_room (Nat.le_of_ble_eq_true rfl)) dX1_rankLast_17 ⟨by decide, by decide⟩) ?_
    refine lv_aload_n hx hb dX1_rankLast_20 rfl (lv_at hl 0 rfl) ?_
    refine va_get (D := D) (ci := 1) (v := .ref (a 3)) (C := RX1) (T := TX1) (N := 9) hx hb hts hiX1 hown hK hP 0 rfl rfl 2 (by decide) hw16 (fun _ h9 => h9) rfl dX1_rankLast_21 ?_
    refine lv_iload_n hx hb dX1_rankLast_24 rfl (lv_at hl 1 rfl) ?_
    refine xa_lald hx hb hK hP 3 1 rfl rfl (by omega) (by decide) dX1_rankLast_25 ?_
    refine W.lcmp hx hb dX1_rankLast_26 ?_
    refine lv_if_ge (tgt := 50) hx hb dX1_rankLast_27 (by decide) (fun c_27 => ?_) (fun c_27 => ?_)
    · skip
      have c_27 := (lgc_ge _ _).mp c_27
      have c27 : ¬ (fL (x.2 r9).toNatClampNeg).toInt < (fL q).toInt := by unfold lnA at c_27; omega
      refine lv_aload_n hx hb dX1_rankLast_50 rfl (lv_at hl 0 rfl) ?_
      refine va_get (D := D) (ci := 1) (v := .ref (a 4)) (C := RX1) (T := TX1) (N := 9) hx hb hts hiX1 hown hK hP 0 rfl rfl 3 (by decide) hw20 (fun _ h9 => h9) rfl dX1_rankLast_51 ?_
      refine lv_iload_n hx hb dX1_rankLast_54 rfl (lv_at hl 2 rfl) ?_
      refine lv_iload_n hx hb dX1_rankLast_55 rfl (lv_at hl 1 rfl) ?_
      refine xa_iast hx hb hK hP hD hS 4 0 rfl rfl (by omega) (by decide) dX1_rankLast_56 (fun H locs hP hD hS => ?_)
      have hP : va_P D vwCl [((a 0), .inr (1, [.ref (a 1), .ref (a 2), .ref (a 3), .ref (a 4), .ref (a 5), .ref (a 8), .int (nI k), .int (nI st), .int fi])), ((a 1), .inl (cI, 8, .inl fB)), ((a 2), .inl (cI, 8, .inl fS)), ((a 3), .inl (cJ, 8, .inr (.inl fL))), ((a 4), .inl (cI, 8, .inl (upd x.2 (r9 + 1) (nI q)))), ((a 5), .inr (0, [.ref (a 6), .ref (a 7), .int (nI c), .int t, .int (nI y)])), ((a 6), .inl (cI, 6, .inl fW)), ((a 7), .inl (cI, 6, .inl fD)), ((a 8), .inr (0, [.ref (a 9), .ref (a 10), .int c2, .int t2, .int y2])), ((a 9), .inl (cI, 6, .inl gW)), ((a 10), .inl (cI, 6, .inl gD))] H := hP
      have hD : va_D A [((a 0), .inr (1, [.ref (a 1), .ref (a 2), .ref (a 3), .ref (a 4), .ref (a 5), .ref (a 8), .int (nI k), .int (nI st), .int fi])), ((a 1), .inl (cI, 8, .inl fB)), ((a 2), .inl (cI, 8, .inl fS)), ((a 3), .inl (cJ, 8, .inr (.inl fL))), ((a 4), .inl (cI, 8, .inl (upd x.2 (r9 + 1) (nI q)))), ((a 5), .inr (0, [.ref (a 6), .ref (a 7), .int (nI c), .int t, .int (nI y)])), ((a 6), .inl (cI, 6, .inl fW)), ((a 7), .inl (cI, 6, .inl fD)), ((a 8), .inr (0, [.ref (a 9), .ref (a 10), .int c2, .int t2, .int y2])), ((a 9), .inl (cI, 6, .inl gW)), ((a 10), .inl (cI, 6, .inl gD))] := hD
      exact W.vret hx hb hr (fun t9 ht hW => ⟨⟨[((a 0), .inr (1, [.ref (a 1), .ref (a 2), .ref (a 3), .ref (a 4), .ref (a 5), .ref (a 8), .int (nI k), .int (nI st), .int fi])), ((a 1), .inl (cI, 8, .inl fB)), ((a 2), .inl (cI, 8, .inl fS)), ((a 3), .inl (cJ, 8, .inr (.inl fL))), ((a 4), .inl (cI, 8, .inl (upd x.2 (r9 + 1) (nI q)))), ((a 5), .inr (0, [.ref (a 6), .ref (a 7), .int (nI c), .int t, .int (nI y)])), ((a 6), .inl (cI, 6, .inl fW)), ((a 7), .inl (cI, 6, .inl fD)), ((a 8), .inr (0, [.ref (a 9), .ref (a 10), .int c2, .int t2, .int y2])), ((a 9), .inl (cI, 6, .inl gW)), ((a 10), .inl (cI, 6, .inl gD))], rfl, by rw [← hI1, hr9, insO, ic_f c27], by rw [ht]; exact hP, hD⟩, hS.F ht⟩) hS.2.2 dX1_rankLast_57
    · skip
      have c_27 := (not_congr (lgc_ge _ _)).mp c_27
      have c27 : (fL (x.2 r9).toNatClampNeg).toInt < (fL q).toInt := by unfold lnA at c_27; omega
      refine lv_aload_n hx hb dX1_rankLast_30 rfl (lv_at hl 0 rfl) ?_
      refine va_get (D := D) (ci := 1) (v := .ref (a 4)) (C := RX1) (T := TX1) (N := 9) hx hb hts hiX1 hown hK hP 0 rfl rfl 3 (by decide) hw20 (fun _ h9 => h9) rfl dX1_rankLast_31 ?_
      refine lv_iload_n hx hb dX1_rankLast_34 rfl (lv_at hl 2 rfl) ?_
      refine lv_aload_n hx hb dX1_rankLast_35 rfl (lv_at hl 0 rfl) ?_
      refine va_get (D := D) (ci := 1) (v := .ref (a 4)) (C := RX1) (T := TX1) (N := 9) hx hb hts hiX1 hown hK hP 0 rfl rfl 3 (by decide) hw20 (fun _ h9 => h9) rfl dX1_rankLast_36 ?_
      refine lv_iload_n hx hb dX1_rankLast_39 rfl (lv_at hl 2 rfl) ?_
      refine lv_iconst (v := 1) hx hb dX1_rankLast_40 (by decide) ?_
      refine lv_isub hx hb dX1_rankLast_41 ?_
      refine topI (nI_pred r9) ?_
      refine xa_iald hx hb hK hP 4 0 rfl rfl (by omega) (by decide) dX1_rankLast_42 ?_
      refine xa_iast hx hb hK hP hD hS 4 0 rfl rfl (by omega) (by decide) dX1_rankLast_43 (fun H locs hP hD hS => ?_)
      have hP : va_P D vwCl [((a 0), .inr (1, [.ref (a 1), .ref (a 2), .ref (a 3), .ref (a 4), .ref (a 5), .ref (a 8), .int (nI k), .int (nI st), .int fi])), ((a 1), .inl (cI, 8, .inl fB)), ((a 2), .inl (cI, 8, .inl fS)), ((a 3), .inl (cJ, 8, .inr (.inl fL))), ((a 4), .inl (cI, 8, .inl (upd x.2 (r9 + 1) (x.2 r9)))), ((a 5), .inr (0, [.ref (a 6), .ref (a 7), .int (nI c), .int t, .int (nI y)])), ((a 6), .inl (cI, 6, .inl fW)), ((a 7), .inl (cI, 6, .inl fD)), ((a 8), .inr (0, [.ref (a 9), .ref (a 10), .int c2, .int t2, .int y2])), ((a 9), .inl (cI, 6, .inl gW)), ((a 10), .inl (cI, 6, .inl gD))] H := hP
      have hD : va_D A [((a 0), .inr (1, [.ref (a 1), .ref (a 2), .ref (a 3), .ref (a 4), .ref (a 5), .ref (a 8), .int (nI k), .int (nI st), .int fi])), ((a 1), .inl (cI, 8, .inl fB)), ((a 2), .inl (cI, 8, .inl fS)), ((a 3), .inl (cJ, 8, .inr (.inl fL))), ((a 4), .inl (cI, 8, .inl (upd x.2 (r9 + 1) (x.2 r9)))), ((a 5), .inr (0, [.ref (a 6), .ref (a 7), .int (nI c), .int t, .int (nI y)])), ((a 6), .inl (cI, 6, .inl fW)), ((a 7), .inl (cI, 6, .inl fD)), ((a 8), .inr (0, [.ref (a 9), .ref (a 10), .int c2, .int t2, .int y2])), ((a 9), .inl (cI, 6, .inl gW)), ((a 10), .inl (cI, 6, .inl gD))] := hD
      refine lv_iinc (v := (nI r9)) (lv' := [(2, .int (nI r9)), (0, .ref (a 0)), (1, .int (nI q))]) hx hb dX1_rankLast_44 hl (k := 2) rfl (nI_dec r9) (by decide) rfl (fun ls hl => ?_)
      refine lv_goto (tgt := 9) hx hb dX1_rankLast_47 (by decide) ?_
      exact kk (r9, upd x.2 (r9 + 1) (x.2 r9)) _ _ ls (by omega) ⟨lv_sub hl [1, 2, 0] rfl, hP, hD, hS, (by show r9 + (i + 1) = q; omega), (by rw [← hI1, hr9]; exact (ic_t c27).symm), (fun j hj => by have hj : j < r9 := hj; show inM 8 (upd x.2 (r9 + 1) (x.2 r9) j); rw [pk_un (by omega)]; exact hO1 j (by omega))⟩

set_option maxHeartbeats 4000000 in
set_option maxRecDepth 100000 in
theorem k_X1_addMeasure (l : Launch) (D : va_G) (cI cJ cR : ClassId) (sz : Nat) (a : Nat → Nat) (k st : Nat) (fi : Int32) (fB fS fO : Nat → Int32) (fL : Nat → Int64) (c : Nat) (t : Int32) (y : Nat) (fW fD : Nat → Int32) (c2 t2 y2 : Int32) (gW gD : Nat → Int32) (hM : MOk k fL fO) (jx : Nat) (hj_x : jx < k) (u q : Int32) (hu9 : inR 1 9 u) (hq9 : inR 1 9 q) (hk7 : k < 8) : Met l yX1_addMeasure wsX1_addMeasure ({ frames := 6, cells := 0, slots := 0, locals := 160 }) (cPw D [((a 0), .inr (1, [.ref (a 1), .ref (a 2), .ref (a 3), .ref (a 4), .ref (a 5), .ref (a 8), .int (nI k), .int (nI st), .int fi])), ((a 1), .inl (cI, 8, .inl fB)), ((a 2), .inl (cI, 8, .inl fS)), ((a 3), .inl (cJ, 8, .inr (.inl fL))), ((a 4), .inl (cI, 8, .inl fO)), ((a 5), .inr (0, [.ref (a 6), .ref (a 7), .int (nI c), .int t, .int (nI y)])), ((a 6), .inl (cI, 6, .inl fW)), ((a 7), .inl (cI, 6, .inl fD)), ((a 8), .inr (0, [.ref (a 9), .ref (a 10), .int c2, .int t2, .int y2])), ((a 9), .inl (cI, 6, .inl gW)), ((a 10), .inl (cI, 6, .inl gD))] sz (KC D cI cJ cR) [.ref (a 0), .int (nI jx), .int u, .int q]) (wri D [((a 0), .inr (1, [.ref (a 1), .ref (a 2), .ref (a 3), .ref (a 4), .ref (a 5), .ref (a 8), .int (nI k), .int (nI st), .int fi])), ((a 1), .inl (cI, 8, .inl fB)), ((a 2), .inl (cI, 8, .inl fS)), ((a 3), .inl (cJ, 8, .inr (.inl fL))), ((a 4), .inl (cI, 8, .inl fO)), ((a 5), .inr (0, [.ref (a 6), .ref (a 7), .int (nI c), .int t, .int (nI y)])), ((a 6), .inl (cI, 6, .inl fW)), ((a 7), .inl (cI, 6, .inl fD)), ((a 8), .inr (0, [.ref (a 9), .ref (a 10), .int c2, .int t2, .int y2])), ((a 9), .inl (cI, 6, .inl gW)), ((a 10), .inl (cI, 6, .inl gD))] sz (fun r ws' => r = nI k ∧ ws' = [((a 0), .inr (1, [.ref (a 1), .ref (a 2), .ref (a 3), .ref (a 4), .ref (a 5), .ref (a 8), .int (nI (k + 1)), .int (nI st), .int fi])), ((a 1), .inl (cI, 8, .inl (upd fB k (nI jx)))), ((a 2), .inl (cI, 8, .inl (upd fS k (fS jx + 1)))), ((a 3), .inl (cJ, 8, .inr (.inl (vp_updL (rfU fL (q).toInt64 k) k (fL jx * (u).toInt64))))), ((a 4), .inl (cI, 8, .inl (insO (vp_updL (rfU fL (q).toInt64 k) k (fL jx * (u).toInt64)) ((vp_updL (rfU fL (q).toInt64 k) k (fL jx * (u).toInt64)) k) (nI k) k fO))), ((a 5), .inr (0, [.ref (a 6), .ref (a 7), .int (nI c), .int t, .int (nI y)])), ((a 6), .inl (cI, 6, .inl fW)), ((a 7), .inl (cI, 6, .inl fD)), ((a 8), .inr (0, [.ref (a 9), .ref (a 10), .int c2, .int t2, .int y2])), ((a 9), .inl (cI, 6, .inl gW)), ((a 10), .inl (cI, 6, .inl gD))])) 0 0 (va_A [((a 0), .inr (1, [.ref (a 1), .ref (a 2), .ref (a 3), .ref (a 4), .ref (a 5), .ref (a 8), .int (nI k), .int (nI st), .int fi])), ((a 1), .inl (cI, 8, .inl fB)), ((a 2), .inl (cI, 8, .inl fS)), ((a 3), .inl (cJ, 8, .inr (.inl fL))), ((a 4), .inl (cI, 8, .inl fO)), ((a 5), .inr (0, [.ref (a 6), .ref (a 7), .int (nI c), .int t, .int (nI y)])), ((a 6), .inl (cI, 6, .inl fW)), ((a 7), .inl (cI, 6, .inl fD)), ((a 8), .inr (0, [.ref (a 9), .ref (a 10), .int c2, .int t2, .int y2])), ((a 9), .inl (cI, 6, .inl gW)), ((a 10), .inl (cI, 6, .inl gD))] sz) := by
  refine Met.ofW (cc := cX1_addMeasure) (maxL := 7) (ret := (some .int)) (by decide +kernel) rfl ?_
  intro p e s m args below meth c9 s₁ B hml hv
  obtain ⟨rfl, hsz, hP, hD0, hC⟩ := hv
  have hx := B.exec
  have hb := B.bytes
  have hr := B.returns
  have hts := atoms_spec (ws := wsX1_addMeasure) B.pre
  have hown : s.vm.findClass RX1 = some m.cls := findClass_of_methodNamed B.named
  have hlocks := B.notSynchronized
  have hK : va_K D vwCl [(cI, .int), (cJ, .long), (cR, .array .int)] s := hC.1
  subst hsz
  unfold wri wB
  have hD := hD0.self (sz := s.heap.size)
  generalize hAe : va_A [((a 0), .inr (1, [.ref (a 1), .ref (a 2), .ref (a 3), .ref (a 4), .ref (a 5), .ref (a 8), .int (nI k), .int (nI st), .int fi])), ((a 1), .inl (cI, 8, .inl fB)), ((a 2), .inl (cI, 8, .inl fS)), ((a 3), .inl (cJ, 8, .inr (.inl fL))), ((a 4), .inl (cI, 8, .inl fO)), ((a 5), .inr (0, [.ref (a 6), .ref (a 7), .int (nI c), .int t, .int (nI y)])), ((a 6), .inl (cI, 6, .inl fW)), ((a 7), .inl (cI, 6, .inl fD)), ((a 8), .inr (0, [.ref (a 9), .ref (a 10), .int c2, .int t2, .int y2])), ((a 9), .inl (cI, 6, .inl gW)), ((a 10), .inl (cI, 6, .inl gD))] s.heap.size = A at hD ⊢
  have hA : ∀ q : Nat, s.heap.size ≤ q → A q := fun q h => by rw [← hAe]; exact Or.inr h
  have hS : va_S A s.heap s.heap [] := va_S.rf
  have hl := lv_entry ([.ref (a 0), .int (nI jx), .int u, .int q]) (n := 7) (Nat.le_of_ble_eq_true rfl)
  rw [lg_entry_eq]
  generalize (lg_sl ([.ref (a 0), .int (nI jx), .int u, .int q]) ++ List.replicate (7 - (lg_sl ([.ref (a 0), .int (nI jx), .int u, .int q])).length) Slot.unset).toArray = ls at hl ⊢
  have hl : lv_has ls 7 [(0, .ref (a 0)), (1, .int (nI jx)), (2, .int u), (3, .int q)] := hl
  have hk8 : k ≤ 8 := hM.2.1
  have hk1 : 1 ≤ k := hM.1
  have hiX1 : ∀ w ∈ u_ws RX1 TX1 9, w ∈ wsX1_addMeasure := by decide +kernel
  have hw9 : (Cond.fieldLink RX1 9 "OldMeasures" "bases" "[I").before ([.ref (a 0), .int (nI jx), .int u, .int q] : List Value).toArray s = true := hts _ (by decide +kernel)
  have hw13 : (Cond.fieldLink RX1 13 "OldMeasures" "steps" "[I").before ([.ref (a 0), .int (nI jx), .int u, .int q] : List Value).toArray s = true := hts _ (by decide +kernel)
  have hw16 : (Cond.fieldLink RX1 16 "OldMeasures" "lengths" "[J").before ([.ref (a 0), .int (nI jx), .int u, .int q] : List Value).toArray s = true := hts _ (by decide +kernel)
  have hw33 : (Cond.fieldLink RX1 33 "OldMeasures" "measureCount" "I").before ([.ref (a 0), .int (nI jx), .int u, .int q] : List Value).toArray s = true := hts _ (by decide +kernel)
  refine lv_aload_n hx hb dX1_addMeasure_0 rfl (lv_at hl 0 rfl) ?_
  refine lv_iload_n hx hb dX1_addMeasure_1 rfl (lv_at hl 1 rfl) ?_
  refine ro_v (va_runV (As := [.int (nI jx)]) (rest := []) ⟨hx, hb, hml, hown, hts⟩ (k_X1_needMeasure l D cI cJ cR a k st fi fB fS fO fL c t y fW fD c2 t2 y2 gW gD hk8 jx (by omega)) (cwV 1 hts gX1_addMeasure_X1_needMeasure rfl rfl rfl (by decide +kernel) ⟨Nat.le_of_ble_eq_true rfl, Nat.le_of_ble_eq_true rfl⟩) (preV_ro KC_ok hP hC (va_recv hK hP (ci := 1) (q0 := 0) rfl rfl)) rfl rfl hl.1 rfl (lv_room (Nat.le_of_ble_eq_true rfl)) dX1_addMeasure_2 ⟨by decide, by decide⟩) (fun _ => ?_)
  refine lv_iload_n hx hb dX1_addMeasure_5 rfl (lv_at hl 2 rfl) ?_
  refine lv_iconst (v := 1) hx hb dX1_addMeasure_6 (by decide) ?_
  refine lv_bipush (v := 9) hx hb dX1_addMeasure_7 (by decide) ?_
  refine ro_iE (va_runS (As := [.int u, .int 1, .int 9]) (rest := []) ⟨hx, hb, hml, hown, hts⟩ (c_X1_isOutside l u 1 9) (va_cwS 3 hts gX1_addMeasure_X1_isOutside rfl rfl rfl (by decide +kernel) ⟨Nat.le_of_ble_eq_true rfl, Nat.le_of_ble_eq_true rfl⟩) pre0 rfl rfl hl.1 rfl (lv_room (Nat.le_of_ble_eq_true rfl)) dX1_addMeasure_9 ⟨by decide, by decide⟩) ?_
  refine lv_if_ne (tgt := 25) hx hb dX1_addMeasure_12 (by decide) (fun c_12 => ?_) (fun c_12 => ?_)
  · skip
    have c_12 := bz_1 c_12
    have e1 : (1 : Int32).toInt = 1 := rfl
    have e2 : (9 : Int32).toInt = 9 := rfl
    exfalso; unfold inR at hu9 hq9; omega
  · skip
    have c_12 := bz_0 c_12
    refine lv_iload_n hx hb dX1_addMeasure_15 rfl (lv_at hl 3 rfl) ?_
    refine lv_iconst (v := 1) hx hb dX1_addMeasure_16 (by decide) ?_
    refine lv_bipush (v := 9) hx hb dX1_addMeasure_17 (by decide) ?_
    refine ro_iE (va_runS (As := [.int q, .int 1, .int 9]) (rest := []) ⟨hx, hb, hml, hown, hts⟩ (c_X1_isOutside l q 1 9) (va_cwS 3 hts gX1_addMeasure_X1_isOutside rfl rfl rfl (by decide +kernel) ⟨Nat.le_of_ble_eq_true rfl, Nat.le_of_ble_eq_true rfl⟩) pre0 rfl rfl hl.1 rfl (lv_room (Nat.le_of_ble_eq_true rfl)) dX1_addMeasure_19 ⟨by decide, by decide⟩) ?_
    refine lv_if_eq (tgt := 35) hx hb dX1_addMeasure_22 (by decide) (fun c_22 => ?_) (fun c_22 => ?_)
    · skip
      have c_22 := bz_0 c_22
      refine lv_aload_n hx hb dX1_addMeasure_35 rfl (lv_at hl 0 rfl) ?_
      refine va_get (D := D) (ci := 1) (v := .int (nI k)) (C := RX1) (T := TX1) (N := 9) hx hb hts hiX1 hown hK hP 0 rfl rfl 6 (by decide) hw33 (fun _ h9 => h9) rfl dX1_addMeasure_36 ?_
      refine lv_bipush (v := 8) hx hb dX1_addMeasure_39 (by decide) ?_
      refine lv_icmp_lt (tgt := 54) hx hb dX1_addMeasure_41 (by decide) (fun c_41 => ?_) (fun c_41 => ?_)
      · skip
        simp only [Int32.lt_iff_toInt_lt] at c_41
        rw [nI_toInt (n := k) (by omega)] at c_41
        rw [(by decide : (8 : Int32).toInt = 8)] at c_41
        refine lv_aload_n hx hb dX1_addMeasure_54 rfl (lv_at hl 0 rfl) ?_
        refine va_get (D := D) (ci := 1) (v := .int (nI k)) (C := RX1) (T := TX1) (N := 9) hx hb hts hiX1 hown hK hP 0 rfl rfl 6 (by decide) hw33 (fun _ h9 => h9) rfl dX1_addMeasure_55 ?_
        refine lv_istore (lv' := [(4, .int (nI k)), (0, .ref (a 0)), (1, .int (nI jx)), (2, .int u), (3, .int q)]) hx hb dX1_addMeasure_58 hl (by decide) rfl (fun ls hl => ?_)
        refine lv_aload_n hx hb dX1_addMeasure_60 rfl (lv_at hl 1 rfl) ?_
        refine va_get (D := D) (ci := 1) (v := .ref (a 3)) (C := RX1) (T := TX1) (N := 9) hx hb hts hiX1 hown hK hP 0 rfl rfl 2 (by decide) hw16 (fun _ h9 => h9) rfl dX1_addMeasure_61 ?_
        refine lv_iload_n hx hb dX1_addMeasure_64 rfl (lv_at hl 2 rfl) ?_
        refine xa_lald hx hb hK hP 3 1 rfl rfl (by omega) (by decide) dX1_addMeasure_65 ?_
        refine lv_iload_n hx hb dX1_addMeasure_66 rfl (lv_at hl 3 rfl) ?_
        refine lv_i2l (v := (u).toInt64) hx hb dX1_addMeasure_67 rfl ?_
        refine lv_lmul hx hb dX1_addMeasure_68 ?_
        refine lv_lstore (lv' := [(5, .long ((fL jx) * (u).toInt64)), (4, .int (nI k)), (0, .ref (a 0)), (1, .int (nI jx)), (2, .int u), (3, .int q)]) hx hb dX1_addMeasure_69 hl (by decide) rfl (fun ls hl => ?_)
        refine lv_aload_n hx hb dX1_addMeasure_71 rfl (lv_at hl 2 rfl) ?_
        refine lv_iload_n hx hb dX1_addMeasure_72 rfl (lv_at hl 5 rfl) ?_
        have hFc := va_free (wc := [((a 0), .inr (1, [.ref (a 1), .ref (a 2), .ref (a 3), .ref (a 4), .ref (a 5), .ref (a 8), .int (nI k), .int (nI st), .int fi])), ((a 1), .inl (cI, 8, .inl fB)), ((a 2), .inl (cI, 8, .inl fS)), ((a 3), .inl (cJ, 8, .inr (.inl fL))), ((a 4), .inl (cI, 8, .inl fO)), ((a 5), .inr (0, [.ref (a 6), .ref (a 7), .int (nI c), .int t, .int (nI y)])), ((a 6), .inl (cI, 6, .inl fW)), ((a 7), .inl (cI, 6, .inl fD)), ((a 8), .inr (0, [.ref (a 9), .ref (a 10), .int c2, .int t2, .int y2])), ((a 9), .inl (cI, 6, .inl gW)), ((a 10), .inl (cI, 6, .inl gD))]) hD hS hA [0, 1, 2, 3, 4, 5, 6, 7, 8, 9, 10] rfl
        refine va_callv (va_runV (As := [.int q]) (rest := []) ⟨hx, hb, hml, hown, hts⟩ (c_X1_refineUnit l D cI cJ cR s.heap.size a k st fi fB fS fO fL c t y fW fD c2 t2 y2 gW gD (by omega) q) (cwV 1 hts gX1_addMeasure_X1_refineUnit rfl rfl rfl (by decide +kernel) ⟨Nat.le_of_ble_eq_true rfl, Nat.le_of_ble_eq_true rfl⟩) (preV_wr KM_ok (hP.sub (ws' := [((a 0), .inr (1, [.ref (a 1), .ref (a 2), .ref (a 3), .ref (a 4), .ref (a 5), .ref (a 8), .int (nI k), .int (nI st), .int fi])), ((a 1), .inl (cI, 8, .inl fB)), ((a 2), .inl (cI, 8, .inl fS)), ((a 3), .inl (cJ, 8, .inr (.inl fL))), ((a 4), .inl (cI, 8, .inl fO)), ((a 5), .inr (0, [.ref (a 6), .ref (a 7), .int (nI c), .int t, .int (nI y)])), ((a 6), .inl (cI, 6, .inl fW)), ((a 7), .inl (cI, 6, .inl fD)), ((a 8), .inr (0, [.ref (a 9), .ref (a 10), .int c2, .int t2, .int y2])), ((a 9), .inl (cI, 6, .inl gW)), ((a 10), .inl (cI, 6, .inl gD))]) [0, 1, 2, 3, 4, 5, 6, 7, 8, 9, 10] rfl) (hD.sub (ws' := [((a 0), .inr (1, [.ref (a 1), .ref (a 2), .ref (a 3), .ref (a 4), .ref (a 5), .ref (a 8), .int (nI k), .int (nI st), .int fi])), ((a 1), .inl (cI, 8, .inl fB)), ((a 2), .inl (cI, 8, .inl fS)), ((a 3), .inl (cJ, 8, .inr (.inl fL))), ((a 4), .inl (cI, 8, .inl fO)), ((a 5), .inr (0, [.ref (a 6), .ref (a 7), .int (nI c), .int t, .int (nI y)])), ((a 6), .inl (cI, 6, .inl fW)), ((a 7), .inl (cI, 6, .inl fD)), ((a 8), .inr (0, [.ref (a 9), .ref (a 10), .int c2, .int t2, .int y2])), ((a 9), .inl (cI, 6, .inl gW)), ((a 10), .inl (cI, 6, .inl gD))]) [0, 1, 2, 3, 4, 5, 6, 7, 8, 9, 10] (by decide) rfl) hK (va_recv hK hP (ci := 1) (q0 := 0) rfl rfl)) rfl rfl hl.1 rfl (lv_room (Nat.le_of_ble_eq_true rfl)) dX1_addMeasure_73 ⟨by decide, by decide⟩) hS (fun q _ h => hFc q h) hFc (fun u t9 H1 locs ht hvm hw9 hB hz1 hk1 hS => ?_)
        obtain rfl := hw9
        obtain ⟨hP1, hD1⟩ := hB
        rw [ht] at hP1
        obtain ⟨hP, hD⟩ := va_join (wr := []) (w1 := [((a 0), .inr (1, [.ref (a 1), .ref (a 2), .ref (a 3), .ref (a 4), .ref (a 5), .ref (a 8), .int (nI k), .int (nI st), .int fi])), ((a 1), .inl (cI, 8, .inl fB)), ((a 2), .inl (cI, 8, .inl fS)), ((a 3), .inl (cJ, 8, .inr (.inl (rfU fL (q).toInt64 k)))), ((a 4), .inl (cI, 8, .inl fO)), ((a 5), .inr (0, [.ref (a 6), .ref (a 7), .int (nI c), .int t, .int (nI y)])), ((a 6), .inl (cI, 6, .inl fW)), ((a 7), .inl (cI, 6, .inl fD)), ((a 8), .inr (0, [.ref (a 9), .ref (a 10), .int c2, .int t2, .int y2])), ((a 9), .inl (cI, 6, .inl gW)), ((a 10), .inl (cI, 6, .inl gD))]) hP hD [0, 1, 2, 3, 4, 5, 6, 7, 8, 9, 10] [] rfl rfl (by decide) (by decide) hk1 hFc hP1 hD1
        clear hz1 hk1 ht hvm hFc
        generalize H1 = H at hP hS ⊢
        have hP : va_P D vwCl [((a 0), .inr (1, [.ref (a 1), .ref (a 2), .ref (a 3), .ref (a 4), .ref (a 5), .ref (a 8), .int (nI k), .int (nI st), .int fi])), ((a 1), .inl (cI, 8, .inl fB)), ((a 2), .inl (cI, 8, .inl fS)), ((a 3), .inl (cJ, 8, .inr (.inl (rfU fL (q).toInt64 k)))), ((a 4), .inl (cI, 8, .inl fO)), ((a 5), .inr (0, [.ref (a 6), .ref (a 7), .int (nI c), .int t, .int (nI y)])), ((a 6), .inl (cI, 6, .inl fW)), ((a 7), .inl (cI, 6, .inl fD)), ((a 8), .inr (0, [.ref (a 9), .ref (a 10), .int c2, .int t2, .int y2])), ((a 9), .inl (cI, 6, .inl gW)), ((a 10), .inl (cI, 6, .inl gD))] H := hP
        have hD : va_D A [((a 0), .inr (1, [.ref (a 1), .ref (a 2), .ref (a 3), .ref (a 4), .ref (a 5), .ref (a 8), .int (nI k), .int (nI st), .int fi])), ((a 1), .inl (cI, 8, .inl fB)), ((a 2), .inl (cI, 8, .inl fS)), ((a 3), .inl (cJ, 8, .inr (.inl (rfU fL (q).toInt64 k)))), ((a 4), .inl (cI, 8, .inl fO)), ((a 5), .inr (0, [.ref (a 6), .ref (a 7), .int (nI c), .int t, .int (nI y)])), ((a 6), .inl (cI, 6, .inl fW)), ((a 7), .inl (cI, 6, .inl fD)), ((a 8), .inr (0, [.ref (a 9), .ref (a 10), .int c2, .int t2, .int y2])), ((a 9), .inl (cI, 6, .inl gW)), ((a 10), .inl (cI, 6, .inl gD))] := hD
        refine lv_aload_n hx hb dX1_addMeasure_76 rfl (lv_at hl 2 rfl) ?_
        refine va_get (D := D) (ci := 1) (v := .ref (a 1)) (C := RX1) (T := TX1) (N := 9) hx hb hts hiX1 hown hK hP 0 rfl rfl 0 (by decide) hw9 (fun _ h9 => h9) rfl dX1_addMeasure_77 ?_
        refine lv_iload hx hb dX1_addMeasure_80 (lv_at hl 1 rfl) ?_
        refine lv_iload_n hx hb dX1_addMeasure_82 rfl (lv_at hl 3 rfl) ?_
        refine xa_iast hx hb hK hP hD hS 1 0 rfl rfl (by omega) (by decide) dX1_addMeasure_83 (fun H locs hP hD hS => ?_)
        have hP : va_P D vwCl [((a 0), .inr (1, [.ref (a 1), .ref (a 2), .ref (a 3), .ref (a 4), .ref (a 5), .ref (a 8), .int (nI k), .int (nI st), .int fi])), ((a 1), .inl (cI, 8, .inl (upd fB k (nI jx)))), ((a 2), .inl (cI, 8, .inl fS)), ((a 3), .inl (cJ, 8, .inr (.inl (rfU fL (q).toInt64 k)))), ((a 4), .inl (cI, 8, .inl fO)), ((a 5), .inr (0, [.ref (a 6), .ref (a 7), .int (nI c), .int t, .int (nI y)])), ((a 6), .inl (cI, 6, .inl fW)), ((a 7), .inl (cI, 6, .inl fD)), ((a 8), .inr (0, [.ref (a 9), .ref (a 10), .int c2, .int t2, .int y2])), ((a 9), .inl (cI, 6, .inl gW)), ((a 10), .inl (cI, 6, .inl gD))] H := hP
        have hD : va_D A [((a 0), .inr (1, [.ref (a 1), .ref (a 2), .ref (a 3), .ref (a 4), .ref (a 5), .ref (a 8), .int (nI k), .int (nI st), .int fi])), ((a 1), .inl (cI, 8, .inl (upd fB k (nI jx)))), ((a 2), .inl (cI, 8, .inl fS)), ((a 3), .inl (cJ, 8, .inr (.inl (rfU fL (q).toInt64 k)))), ((a 4), .inl (cI, 8, .inl fO)), ((a 5), .inr (0, [.ref (a 6), .ref (a 7), .int (nI c), .int t, .int (nI y)])), ((a 6), .inl (cI, 6, .inl fW)), ((a 7), .inl (cI, 6, .inl fD)), ((a 8), .inr (0, [.ref (a 9), .ref (a 10), .int c2, .int t2, .int y2])), ((a 9), .inl (cI, 6, .inl gW)), ((a 10), .inl (cI, 6, .inl gD))] := hD
        refine lv_aload_n hx hb dX1_addMeasure_84 rfl (lv_at hl 2 rfl) ?_
        refine va_get (D := D) (ci := 1) (v := .ref (a 2)) (C := RX1) (T := TX1) (N := 9) hx hb hts hiX1 hown hK hP 0 rfl rfl 1 (by decide) hw13 (fun _ h9 => h9) rfl dX1_addMeasure_85 ?_
        refine lv_iload hx hb dX1_addMeasure_88 (lv_at hl 1 rfl) ?_
        refine lv_aload_n hx hb dX1_addMeasure_90 rfl (lv_at hl 2 rfl) ?_
        refine va_get (D := D) (ci := 1) (v := .ref (a 2)) (C := RX1) (T := TX1) (N := 9) hx hb hts hiX1 hown hK hP 0 rfl rfl 1 (by decide) hw13 (fun _ h9 => h9) rfl dX1_addMeasure_91 ?_
        refine lv_iload_n hx hb dX1_addMeasure_94 rfl (lv_at hl 3 rfl) ?_
        refine xa_iald hx hb hK hP 2 0 rfl rfl (by omega) (by decide) dX1_addMeasure_95 ?_
        refine lv_iconst (v := 1) hx hb dX1_addMeasure_96 (by decide) ?_
        refine lv_iadd hx hb dX1_addMeasure_97 ?_
        refine xa_iast hx hb hK hP hD hS 2 0 rfl rfl (by omega) (by decide) dX1_addMeasure_98 (fun H locs hP hD hS => ?_)
        have hP : va_P D vwCl [((a 0), .inr (1, [.ref (a 1), .ref (a 2), .ref (a 3), .ref (a 4), .ref (a 5), .ref (a 8), .int (nI k), .int (nI st), .int fi])), ((a 1), .inl (cI, 8, .inl (upd fB k (nI jx)))), ((a 2), .inl (cI, 8, .inl (upd fS k ((fS jx) + 1)))), ((a 3), .inl (cJ, 8, .inr (.inl (rfU fL (q).toInt64 k)))), ((a 4), .inl (cI, 8, .inl fO)), ((a 5), .inr (0, [.ref (a 6), .ref (a 7), .int (nI c), .int t, .int (nI y)])), ((a 6), .inl (cI, 6, .inl fW)), ((a 7), .inl (cI, 6, .inl fD)), ((a 8), .inr (0, [.ref (a 9), .ref (a 10), .int c2, .int t2, .int y2])), ((a 9), .inl (cI, 6, .inl gW)), ((a 10), .inl (cI, 6, .inl gD))] H := hP
        have hD : va_D A [((a 0), .inr (1, [.ref (a 1), .ref (a 2), .ref (a 3), .ref (a 4), .ref (a 5), .ref (a 8), .int (nI k), .int (nI st), .int fi])), ((a 1), .inl (cI, 8, .inl (upd fB k (nI jx)))), ((a 2), .inl (cI, 8, .inl (upd fS k ((fS jx) + 1)))), ((a 3), .inl (cJ, 8, .inr (.inl (rfU fL (q).toInt64 k)))), ((a 4), .inl (cI, 8, .inl fO)), ((a 5), .inr (0, [.ref (a 6), .ref (a 7), .int (nI c), .int t, .int (nI y)])), ((a 6), .inl (cI, 6, .inl fW)), ((a 7), .inl (cI, 6, .inl fD)), ((a 8), .inr (0, [.ref (a 9), .ref (a 10), .int c2, .int t2, .int y2])), ((a 9), .inl (cI, 6, .inl gW)), ((a 10), .inl (cI, 6, .inl gD))] := hD
        refine lv_aload_n hx hb dX1_addMeasure_99 rfl (lv_at hl 2 rfl) ?_
        refine va_get (D := D) (ci := 1) (v := .ref (a 3)) (C := RX1) (T := TX1) (N := 9) hx hb hts hiX1 hown hK hP 0 rfl rfl 2 (by decide) hw16 (fun _ h9 => h9) rfl dX1_addMeasure_100 ?_
        refine lv_iload hx hb dX1_addMeasure_103 (lv_at hl 1 rfl) ?_
        refine lv_lload hx hb dX1_addMeasure_105 (lv_at hl 0 rfl) ?_
        refine xa_last hx hb hK hP hD hS 3 1 rfl rfl (by omega) (by decide) dX1_addMeasure_107 (fun H locs hP hD hS => ?_)
        have hP : va_P D vwCl [((a 0), .inr (1, [.ref (a 1), .ref (a 2), .ref (a 3), .ref (a 4), .ref (a 5), .ref (a 8), .int (nI k), .int (nI st), .int fi])), ((a 1), .inl (cI, 8, .inl (upd fB k (nI jx)))), ((a 2), .inl (cI, 8, .inl (upd fS k ((fS jx) + 1)))), ((a 3), .inl (cJ, 8, .inr (.inl (vp_updL (rfU fL (q).toInt64 k) k ((fL jx) * (u).toInt64))))), ((a 4), .inl (cI, 8, .inl fO)), ((a 5), .inr (0, [.ref (a 6), .ref (a 7), .int (nI c), .int t, .int (nI y)])), ((a 6), .inl (cI, 6, .inl fW)), ((a 7), .inl (cI, 6, .inl fD)), ((a 8), .inr (0, [.ref (a 9), .ref (a 10), .int c2, .int t2, .int y2])), ((a 9), .inl (cI, 6, .inl gW)), ((a 10), .inl (cI, 6, .inl gD))] H := hP
        have hD : va_D A [((a 0), .inr (1, [.ref (a 1), .ref (a 2), .ref (a 3), .ref (a 4), .ref (a 5), .ref (a 8), .int (nI k), .int (nI st), .int fi])), ((a 1), .inl (cI, 8, .inl (upd fB k (nI jx)))), ((a 2), .inl (cI, 8, .inl (upd fS k ((fS jx) + 1)))), ((a 3), .inl (cJ, 8, .inr (.inl (vp_updL (rfU fL (q).toInt64 k) k ((fL jx) * (u).toInt64))))), ((a 4), .inl (cI, 8, .inl fO)), ((a 5), .inr (0, [.ref (a 6), .ref (a 7), .int (nI c), .int t, .int (nI y)])), ((a 6), .inl (cI, 6, .inl fW)), ((a 7), .inl (cI, 6, .inl fD)), ((a 8), .inr (0, [.ref (a 9), .ref (a 10), .int c2, .int t2, .int y2])), ((a 9), .inl (cI, 6, .inl gW)), ((a 10), .inl (cI, 6, .inl gD))] := hD
        refine lv_aload_n hx hb dX1_addMeasure_108 rfl (lv_at hl 2 rfl) ?_
        refine lv_iload hx hb dX1_addMeasure_109 (lv_at hl 1 rfl) ?_
        refine lv_iconst (v := 1) hx hb dX1_addMeasure_111 (by decide) ?_
        refine lv_iadd hx hb dX1_addMeasure_112 ?_
        refine topI (nI_1 k) ?_
        refine va_put (D := D) (ci := 1) (v := .int (nI (k + 1))) (ty := .int) (C := RX1) (T := TX1) (N := 9) hx hb hts hiX1 tyX1 tyX1_ok nmX1 hown hK hP hD hS 0 rfl rfl 6 (by decide) hw33 (fun _ h9 => h9) rfl (by decide +kernel) rfl rfl (Nat.le_of_ble_eq_true rfl) dX1_addMeasure_113 (fun H locs hP hD hS => ?_)
        have hP : va_P D vwCl [((a 0), .inr (1, [.ref (a 1), .ref (a 2), .ref (a 3), .ref (a 4), .ref (a 5), .ref (a 8), .int (nI (k + 1)), .int (nI st), .int fi])), ((a 1), .inl (cI, 8, .inl (upd fB k (nI jx)))), ((a 2), .inl (cI, 8, .inl (upd fS k ((fS jx) + 1)))), ((a 3), .inl (cJ, 8, .inr (.inl (vp_updL (rfU fL (q).toInt64 k) k ((fL jx) * (u).toInt64))))), ((a 4), .inl (cI, 8, .inl fO)), ((a 5), .inr (0, [.ref (a 6), .ref (a 7), .int (nI c), .int t, .int (nI y)])), ((a 6), .inl (cI, 6, .inl fW)), ((a 7), .inl (cI, 6, .inl fD)), ((a 8), .inr (0, [.ref (a 9), .ref (a 10), .int c2, .int t2, .int y2])), ((a 9), .inl (cI, 6, .inl gW)), ((a 10), .inl (cI, 6, .inl gD))] H := hP
        have hD : va_D A [((a 0), .inr (1, [.ref (a 1), .ref (a 2), .ref (a 3), .ref (a 4), .ref (a 5), .ref (a 8), .int (nI (k + 1)), .int (nI st), .int fi])), ((a 1), .inl (cI, 8, .inl (upd fB k (nI jx)))), ((a 2), .inl (cI, 8, .inl (upd fS k ((fS jx) + 1)))), ((a 3), .inl (cJ, 8, .inr (.inl (vp_updL (rfU fL (q).toInt64 k) k ((fL jx) * (u).toInt64))))), ((a 4), .inl (cI, 8, .inl fO)), ((a 5), .inr (0, [.ref (a 6), .ref (a 7), .int (nI c), .int t, .int (nI y)])), ((a 6), .inl (cI, 6, .inl fW)), ((a 7), .inl (cI, 6, .inl fD)), ((a 8), .inr (0, [.ref (a 9), .ref (a 10), .int c2, .int t2, .int y2])), ((a 9), .inl (cI, 6, .inl gW)), ((a 10), .inl (cI, 6, .inl gD))] := hD
        refine lv_aload_n hx hb dX1_addMeasure_116 rfl (lv_at hl 2 rfl) ?_
        have hFc := va_free (wc := [((a 0), .inr (1, [.ref (a 1), .ref (a 2), .ref (a 3), .ref (a 4), .ref (a 5), .ref (a 8), .int (nI (k + 1)), .int (nI st), .int fi])), ((a 1), .inl (cI, 8, .inl (upd fB k (nI jx)))), ((a 2), .inl (cI, 8, .inl (upd fS k ((fS jx) + 1)))), ((a 3), .inl (cJ, 8, .inr (.inl (vp_updL (rfU fL (q).toInt64 k) k ((fL jx) * (u).toInt64))))), ((a 4), .inl (cI, 8, .inl fO)), ((a 5), .inr (0, [.ref (a 6), .ref (a 7), .int (nI c), .int t, .int (nI y)])), ((a 6), .inl (cI, 6, .inl fW)), ((a 7), .inl (cI, 6, .inl fD)), ((a 8), .inr (0, [.ref (a 9), .ref (a 10), .int c2, .int t2, .int y2])), ((a 9), .inl (cI, 6, .inl gW)), ((a 10), .inl (cI, 6, .inl gD))]) hD hS hA [0, 1, 2, 3, 4, 5, 6, 7, 8, 9, 10] rfl
        refine va_callv (va_runV (As := []) (rest := []) ⟨hx, hb, hml, hown, hts⟩ (c_X1_rankLast l D cI cJ cR H.size a (k + 1) st fi (upd fB k (nI jx)) (upd fS k ((fS jx) + 1)) fO (vp_updL (rfU fL (q).toInt64 k) k ((fL jx) * (u).toInt64)) c t y fW fD c2 t2 y2 gW gD k rfl (by omega) (fun j hj => hM.at hj)) (cwV 0 hts gX1_addMeasure_X1_rankLast rfl rfl rfl (by decide +kernel) ⟨Nat.le_of_ble_eq_true rfl, Nat.le_of_ble_eq_true rfl⟩) (preV_wr KM_ok (hP.sub (ws' := [((a 0), .inr (1, [.ref (a 1), .ref (a 2), .ref (a 3), .ref (a 4), .ref (a 5), .ref (a 8), .int (nI (k + 1)), .int (nI st), .int fi])), ((a 1), .inl (cI, 8, .inl (upd fB k (nI jx)))), ((a 2), .inl (cI, 8, .inl (upd fS k ((fS jx) + 1)))), ((a 3), .inl (cJ, 8, .inr (.inl (vp_updL (rfU fL (q).toInt64 k) k ((fL jx) * (u).toInt64))))), ((a 4), .inl (cI, 8, .inl fO)), ((a 5), .inr (0, [.ref (a 6), .ref (a 7), .int (nI c), .int t, .int (nI y)])), ((a 6), .inl (cI, 6, .inl fW)), ((a 7), .inl (cI, 6, .inl fD)), ((a 8), .inr (0, [.ref (a 9), .ref (a 10), .int c2, .int t2, .int y2])), ((a 9), .inl (cI, 6, .inl gW)), ((a 10), .inl (cI, 6, .inl gD))]) [0, 1, 2, 3, 4, 5, 6, 7, 8, 9, 10] rfl) (hD.sub (ws' := [((a 0), .inr (1, [.ref (a 1), .ref (a 2), .ref (a 3), .ref (a 4), .ref (a 5), .ref (a 8), .int (nI (k + 1)), .int (nI st), .int fi])), ((a 1), .inl (cI, 8, .inl (upd fB k (nI jx)))), ((a 2), .inl (cI, 8, .inl (upd fS k ((fS jx) + 1)))), ((a 3), .inl (cJ, 8, .inr (.inl (vp_updL (rfU fL (q).toInt64 k) k ((fL jx) * (u).toInt64))))), ((a 4), .inl (cI, 8, .inl fO)), ((a 5), .inr (0, [.ref (a 6), .ref (a 7), .int (nI c), .int t, .int (nI y)])), ((a 6), .inl (cI, 6, .inl fW)), ((a 7), .inl (cI, 6, .inl fD)), ((a 8), .inr (0, [.ref (a 9), .ref (a 10), .int c2, .int t2, .int y2])), ((a 9), .inl (cI, 6, .inl gW)), ((a 10), .inl (cI, 6, .inl gD))]) [0, 1, 2, 3, 4, 5, 6, 7, 8, 9, 10] (by decide) rfl) hK (va_recv hK hP (ci := 1) (q0 := 0) rfl rfl)) rfl rfl hl.1 rfl (lv_room (Nat.le_of_ble_eq_true rfl)) dX1_addMeasure_117 ⟨by decide, by decide⟩) hS (fun q _ h => hFc q h) hFc (fun u t9 H1 locs ht hvm hw9 hB hz1 hk1 hS => ?_)
        obtain rfl := hw9
        obtain ⟨hP1, hD1⟩ := hB
        rw [ht] at hP1
        obtain ⟨hP, hD⟩ := va_join (wr := []) (w1 := [((a 0), .inr (1, [.ref (a 1), .ref (a 2), .ref (a 3), .ref (a 4), .ref (a 5), .ref (a 8), .int (nI (k + 1)), .int (nI st), .int fi])), ((a 1), .inl (cI, 8, .inl (upd fB k (nI jx)))), ((a 2), .inl (cI, 8, .inl (upd fS k ((fS jx) + 1)))), ((a 3), .inl (cJ, 8, .inr (.inl (vp_updL (rfU fL (q).toInt64 k) k ((fL jx) * (u).toInt64))))), ((a 4), .inl (cI, 8, .inl (insO (vp_updL (rfU fL (q).toInt64 k) k ((fL jx) * (u).toInt64)) ((vp_updL (rfU fL (q).toInt64 k) k ((fL jx) * (u).toInt64)) k) (nI k) k fO))), ((a 5), .inr (0, [.ref (a 6), .ref (a 7), .int (nI c), .int t, .int (nI y)])), ((a 6), .inl (cI, 6, .inl fW)), ((a 7), .inl (cI, 6, .inl fD)), ((a 8), .inr (0, [.ref (a 9), .ref (a 10), .int c2, .int t2, .int y2])), ((a 9), .inl (cI, 6, .inl gW)), ((a 10), .inl (cI, 6, .inl gD))]) hP hD [0, 1, 2, 3, 4, 5, 6, 7, 8, 9, 10] [] rfl rfl (by decide) (by decide) hk1 hFc hP1 hD1
        clear hz1 hk1 ht hvm hFc
        generalize H1 = H at hP hS ⊢
        have hP : va_P D vwCl [((a 0), .inr (1, [.ref (a 1), .ref (a 2), .ref (a 3), .ref (a 4), .ref (a 5), .ref (a 8), .int (nI (k + 1)), .int (nI st), .int fi])), ((a 1), .inl (cI, 8, .inl (upd fB k (nI jx)))), ((a 2), .inl (cI, 8, .inl (upd fS k ((fS jx) + 1)))), ((a 3), .inl (cJ, 8, .inr (.inl (vp_updL (rfU fL (q).toInt64 k) k ((fL jx) * (u).toInt64))))), ((a 4), .inl (cI, 8, .inl (insO (vp_updL (rfU fL (q).toInt64 k) k ((fL jx) * (u).toInt64)) ((vp_updL (rfU fL (q).toInt64 k) k ((fL jx) * (u).toInt64)) k) (nI k) k fO))), ((a 5), .inr (0, [.ref (a 6), .ref (a 7), .int (nI c), .int t, .int (nI y)])), ((a 6), .inl (cI, 6, .inl fW)), ((a 7), .inl (cI, 6, .inl fD)), ((a 8), .inr (0, [.ref (a 9), .ref (a 10), .int c2, .int t2, .int y2])), ((a 9), .inl (cI, 6, .inl gW)), ((a 10), .inl (cI, 6, .inl gD))] H := hP
        have hD : va_D A [((a 0), .inr (1, [.ref (a 1), .ref (a 2), .ref (a 3), .ref (a 4), .ref (a 5), .ref (a 8), .int (nI (k + 1)), .int (nI st), .int fi])), ((a 1), .inl (cI, 8, .inl (upd fB k (nI jx)))), ((a 2), .inl (cI, 8, .inl (upd fS k ((fS jx) + 1)))), ((a 3), .inl (cJ, 8, .inr (.inl (vp_updL (rfU fL (q).toInt64 k) k ((fL jx) * (u).toInt64))))), ((a 4), .inl (cI, 8, .inl (insO (vp_updL (rfU fL (q).toInt64 k) k ((fL jx) * (u).toInt64)) ((vp_updL (rfU fL (q).toInt64 k) k ((fL jx) * (u).toInt64)) k) (nI k) k fO))), ((a 5), .inr (0, [.ref (a 6), .ref (a 7), .int (nI c), .int t, .int (nI y)])), ((a 6), .inl (cI, 6, .inl fW)), ((a 7), .inl (cI, 6, .inl fD)), ((a 8), .inr (0, [.ref (a 9), .ref (a 10), .int c2, .int t2, .int y2])), ((a 9), .inl (cI, 6, .inl gW)), ((a 10), .inl (cI, 6, .inl gD))] := hD
        refine lv_iload hx hb dX1_addMeasure_120 (lv_at hl 1 rfl) ?_
        exact W.iret (v := (nI k)) hx hb hr (fun t9 ht hW => ⟨⟨(nI k), [((a 0), .inr (1, [.ref (a 1), .ref (a 2), .ref (a 3), .ref (a 4), .ref (a 5), .ref (a 8), .int (nI (k + 1)), .int (nI st), .int fi])), ((a 1), .inl (cI, 8, .inl (upd fB k (nI jx)))), ((a 2), .inl (cI, 8, .inl (upd fS k ((fS jx) + 1)))), ((a 3), .inl (cJ, 8, .inr (.inl (vp_updL (rfU fL (q).toInt64 k) k ((fL jx) * (u).toInt64))))), ((a 4), .inl (cI, 8, .inl (insO (vp_updL (rfU fL (q).toInt64 k) k ((fL jx) * (u).toInt64)) ((vp_updL (rfU fL (q).toInt64 k) k ((fL jx) * (u).toInt64)) k) (nI k) k fO))), ((a 5), .inr (0, [.ref (a 6), .ref (a 7), .int (nI c), .int t, .int (nI y)])), ((a 6), .inl (cI, 6, .inl fW)), ((a 7), .inl (cI, 6, .inl fD)), ((a 8), .inr (0, [.ref (a 9), .ref (a 10), .int c2, .int t2, .int y2])), ((a 9), .inl (cI, 6, .inl gW)), ((a 10), .inl (cI, 6, .inl gD))], rfl, ⟨rfl, rfl⟩, by rw [ht]; exact hP, hD⟩, hS.F ht⟩) hS.2.2 dX1_addMeasure_122
      · skip
        simp only [Int32.lt_iff_toInt_lt] at c_41
        rw [nI_toInt (n := k) (by omega)] at c_41
        rw [(by decide : (8 : Int32).toInt = 8)] at c_41
        exfalso; omega
    · skip
      have c_22 := bz_1 c_22
      have e1 : (1 : Int32).toInt = 1 := rfl
      have e2 : (9 : Int32).toInt = 9 := rfl
      exfalso; unfold inR at hu9 hq9; omega

set_option maxHeartbeats 4000000 in
set_option maxRecDepth 100000 in
theorem c_X0_init (l : Launch) (D : va_G) (cI cJ cR : ClassId) (sz : Nat) (h : Nat) : Met l yX0_init wsX0_init ({ frames := 1, cells := 2, slots := 12, locals := 12 }) (cPw D [(h, .inr (0, [.null, .null, .int 0, .int 0, .int 0]))] sz (KM D cI cJ cR) [.ref h]) (wrv D [(h, .inr (0, [.null, .null, .int 0, .int 0, .int 0]))] sz (fun ws' => ∃ hw hd, ws' = [(h, .inr (0, [.ref hw, .ref hd, .int 0, .int 10, .int 0])), (hw, .inl (cI, 6, .inl (fun _ => (0 : Int32)))), (hd, .inl (cI, 6, .inl (fun _ => (0 : Int32))))])) 2 12 (va_A [(h, .inr (0, [.null, .null, .int 0, .int 0, .int 0]))] sz) := by
  refine Met.ofW (cc := cX0_init) (maxL := 1) (ret := none) (by decide +kernel) rfl ?_
  intro p e s m args below meth c9 s₁ B hml hv
  obtain ⟨rfl, hsz, hP, hD0, hC⟩ := hv
  have hx := B.exec
  have hb := B.bytes
  have hr := B.returns
  have hts := atoms_spec (ws := wsX0_init) B.pre
  have hown : s.vm.findClass RX0 = some m.cls := findClass_of_methodNamed B.named
  have hlocks := B.notSynchronized
  have hin : meth.name = "<init>" := (name_of_methodNamed B.named B.method).1
  have hK : va_K D vwCl [(cI, .int), (cJ, .long), (cR, .array .int)] s := hC
  subst hsz
  unfold wrv wB
  have hD := hD0.self (sz := s.heap.size)
  generalize hAe : va_A [(h, .inr (0, [.null, .null, .int 0, .int 0, .int 0]))] s.heap.size = A at hD ⊢
  have hA : ∀ q : Nat, s.heap.size ≤ q → A q := fun q h => by rw [← hAe]; exact Or.inr h
  have hS : va_S A s.heap s.heap [] := va_S.rf
  have hl := lv_entry ([.ref h]) (n := 1) (Nat.le_of_ble_eq_true rfl)
  rw [lg_entry_eq]
  generalize (lg_sl ([.ref h]) ++ List.replicate (1 - (lg_sl ([.ref h])).length) Slot.unset).toArray = ls at hl ⊢
  have hl : lv_has ls 1 [(0, .ref h)] := hl
  have hiX0 : ∀ w ∈ u_ws RX0 TX0 5, w ∈ wsX0_init := by decide +kernel
  have hw9 : (Cond.fieldLink RX0 9 "OldMeasures$Stalls" "wears" "[I").before ([.ref h] : List Value).toArray s = true := hts _ (by decide +kernel)
  have hw15 : (Cond.fieldLink RX0 15 "OldMeasures$Stalls" "drifts" "[I").before ([.ref h] : List Value).toArray s = true := hts _ (by decide +kernel)
  have hw18 : (Cond.fieldLink RX0 18 "OldMeasures$Stalls" "tolerance" "I").before ([.ref h] : List Value).toArray s = true := hts _ (by decide +kernel)
  refine lv_aload_n hx hb dX0_init_0 rfl (lv_at hl 0 rfl) ?_
  refine W.objInit hx hb hown (hts (.methodLink RX0 3 objectInit) (by decide +kernel)) (hts (.instanceMethod objectInit) (by decide +kernel)) (hts (.code objectInit ⟨#[0xb1]⟩ 1 none) (by decide +kernel)) rfl (by rw [hml]; exact hl.1) rfl dX0_init_1 (Nat.le_of_ble_eq_true rfl) (Nat.le_of_ble_eq_true rfl) ?_
  refine W.eq (g2 := F0 m 4 ls []) rfl ?_
  refine lv_aload_n hx hb dX0_init_4 rfl (lv_at hl 0 rfl) ?_
  refine lv_bipush (v := 6) hx hb dX0_init_5 (by decide) ?_
  refine xa_newaI (N := 6) hx hb (hts (.arrayClass .int) (by decide +kernel)) hK 0 rfl hP hD hS hA (by decide) (by decide +kernel) (by decide) (by decide) (by decide) dX0_init_7 (fun q_7 H hP hD hS => ?_)
  have hP : va_P D vwCl [(h, .inr (0, [.null, .null, .int 0, .int 0, .int 0])), (q_7, .inl (cI, 6, .inl (fun _ => (0 : Int32))))] H := hP
  have hD : va_D A [(h, .inr (0, [.null, .null, .int 0, .int 0, .int 0])), (q_7, .inl (cI, 6, .inl (fun _ => (0 : Int32))))] := hD
  refine va_putF (D := D) (ci := 0) (v := .ref q_7) (ty := .array .int) (C := RX0) (T := TX0) (N := 5) hx hb hts hiX0 tyX0 tyX0_ok nmX0 hown hK hP hD hS 0 rfl rfl 0 (by decide) hw9 (fun _ h9 => h9) rfl hin rfl (by decide +kernel) rfl rfl (Nat.le_of_ble_eq_true rfl) dX0_init_9 (fun H locs hP hD hS => ?_)
  have hP : va_P D vwCl [(h, .inr (0, [.ref q_7, .null, .int 0, .int 0, .int 0])), (q_7, .inl (cI, 6, .inl (fun _ => (0 : Int32))))] H := hP
  have hD : va_D A [(h, .inr (0, [.ref q_7, .null, .int 0, .int 0, .int 0])), (q_7, .inl (cI, 6, .inl (fun _ => (0 : Int32))))] := hD
  refine lv_aload_n hx hb dX0_init_12 rfl (lv_at hl 0 rfl) ?_
  refine lv_bipush (v := 6) hx hb dX0_init_13 (by decide) ?_
  refine xa_newaI (N := 6) hx hb (hts (.arrayClass .int) (by decide +kernel)) hK 0 rfl hP hD hS hA (by decide) (by decide +kernel) (by decide) (by decide) (by decide) dX0_init_15 (fun q_15 H hP hD hS => ?_)
  have hP : va_P D vwCl [(h, .inr (0, [.ref q_7, .null, .int 0, .int 0, .int 0])), (q_7, .inl (cI, 6, .inl (fun _ => (0 : Int32)))), (q_15, .inl (cI, 6, .inl (fun _ => (0 : Int32))))] H := hP
  have hD : va_D A [(h, .inr (0, [.ref q_7, .null, .int 0, .int 0, .int 0])), (q_7, .inl (cI, 6, .inl (fun _ => (0 : Int32)))), (q_15, .inl (cI, 6, .inl (fun _ => (0 : Int32))))] := hD
  refine va_putF (D := D) (ci := 0) (v := .ref q_15) (ty := .array .int) (C := RX0) (T := TX0) (N := 5) hx hb hts hiX0 tyX0 tyX0_ok nmX0 hown hK hP hD hS 0 rfl rfl 1 (by decide) hw15 (fun _ h9 => h9) rfl hin rfl (by decide +kernel) rfl rfl (Nat.le_of_ble_eq_true rfl) dX0_init_17 (fun H locs hP hD hS => ?_)
  have hP : va_P D vwCl [(h, .inr (0, [.ref q_7, .ref q_15, .int 0, .int 0, .int 0])), (q_7, .inl (cI, 6, .inl (fun _ => (0 : Int32)))), (q_15, .inl (cI, 6, .inl (fun _ => (0 : Int32))))] H := hP
  have hD : va_D A [(h, .inr (0, [.ref q_7, .ref q_15, .int 0, .int 0, .int 0])), (q_7, .inl (cI, 6, .inl (fun _ => (0 : Int32)))), (q_15, .inl (cI, 6, .inl (fun _ => (0 : Int32))))] := hD
  refine lv_aload_n hx hb dX0_init_20 rfl (lv_at hl 0 rfl) ?_
  refine lv_bipush (v := 10) hx hb dX0_init_21 (by decide) ?_
  refine va_put (D := D) (ci := 0) (v := .int 10) (ty := .int) (C := RX0) (T := TX0) (N := 5) hx hb hts hiX0 tyX0 tyX0_ok nmX0 hown hK hP hD hS 0 rfl rfl 3 (by decide) hw18 (fun _ h9 => h9) rfl (by decide +kernel) rfl rfl (Nat.le_of_ble_eq_true rfl) dX0_init_23 (fun H locs hP hD hS => ?_)
  have hP : va_P D vwCl [(h, .inr (0, [.ref q_7, .ref q_15, .int 0, .int 10, .int 0])), (q_7, .inl (cI, 6, .inl (fun _ => (0 : Int32)))), (q_15, .inl (cI, 6, .inl (fun _ => (0 : Int32))))] H := hP
  have hD : va_D A [(h, .inr (0, [.ref q_7, .ref q_15, .int 0, .int 10, .int 0])), (q_7, .inl (cI, 6, .inl (fun _ => (0 : Int32)))), (q_15, .inl (cI, 6, .inl (fun _ => (0 : Int32))))] := hD
  exact W.vret hx hb hr (fun t9 ht hW => ⟨⟨[(h, .inr (0, [.ref q_7, .ref q_15, .int 0, .int 10, .int 0])), (q_7, .inl (cI, 6, .inl (fun _ => (0 : Int32)))), (q_15, .inl (cI, 6, .inl (fun _ => (0 : Int32))))], rfl, ⟨_, _, rfl⟩, by rw [ht]; exact hP, hD⟩, hS.F ht⟩) hS.2.2 dX0_init_26
end
section
set_option maxHeartbeats 4000000 in
set_option maxRecDepth 100000 in
theorem c_X1_init (l : Launch) (D : va_G) (cI cJ cR : ClassId) (sz : Nat) (h : Nat) : Met l yX1_init wsX1_init ({ frames := 2, cells := 10, slots := 66, locals := 32 }) (cPw D [(h, .inr (1, [.null, .null, .null, .null, .null, .null, .int 0, .int 0, .int 0]))] sz (KC D cI cJ cR) [.ref h]) (wrv D [(h, .inr (1, [.null, .null, .null, .null, .null, .null, .int 0, .int 0, .int 0]))] sz (fun ws' => ∃ a : Nat → Nat, a 0 = h ∧ ws' = [((a 0), .inr (1, [.ref (a 1), .ref (a 2), .ref (a 3), .ref (a 4), .ref (a 5), .ref (a 8), .int (nI 1), .int (nI 0), .int 0])), ((a 1), .inl (cI, 8, .inl (upd (fun _ => (0 : Int32)) 0 (-1)))), ((a 2), .inl (cI, 8, .inl (fun _ => (0 : Int32)))), ((a 3), .inl (cJ, 8, .inr (.inl (vp_updL (fun _ => (0 : Int64)) 0 1)))), ((a 4), .inl (cI, 8, .inl (fun _ => (0 : Int32)))), ((a 5), .inr (0, [.ref (a 6), .ref (a 7), .int (nI 0), .int 10, .int (nI 0)])), ((a 6), .inl (cI, 6, .inl (fun _ => (0 : Int32)))), ((a 7), .inl (cI, 6, .inl (fun _ => (0 : Int32)))), ((a 8), .inr (0, [.ref (a 9), .ref (a 10), .int 0, .int 10, .int 0])), ((a 9), .inl (cI, 6, .inl (fun _ => (0 : Int32)))), ((a 10), .inl (cI, 6, .inl (fun _ => (0 : Int32))))])) 10 66 (va_A [(h, .inr (1, [.null, .null, .null, .null, .null, .null, .int 0, .int 0, .int 0]))] sz) := by
  refine Met.ofW (cc := cX1_init) (maxL := 1) (ret := none) (by decide +kernel) rfl ?_
  intro p e s m args below meth c9 s₁ B hml hv
  obtain ⟨rfl, hsz, hP, hD0, hC⟩ := hv
  have hx := B.exec
  have hb := B.bytes
  have hr := B.returns
  have hts := atoms_spec (ws := wsX1_init) B.pre
  have hown : s.vm.findClass RX1 = some m.cls := findClass_of_methodNamed B.named
  have hlocks := B.notSynchronized
  have hin : meth.name = "<init>" := (name_of_methodNamed B.named B.method).1
  have hK : va_K D vwCl [(cI, .int), (cJ, .long), (cR, .array .int)] s := hC.1
  subst hsz
  unfold wrv wB
  have hD := hD0.self (sz := s.heap.size)
  generalize hAe : va_A [(h, .inr (1, [.null, .null, .null, .null, .null, .null, .int 0, .int 0, .int 0]))] s.heap.size = A at hD ⊢
  have hA : ∀ q : Nat, s.heap.size ≤ q → A q := fun q h => by rw [← hAe]; exact Or.inr h
  have hS : va_S A s.heap s.heap [] := va_S.rf
  have hl := lv_entry ([.ref h]) (n := 1) (Nat.le_of_ble_eq_true rfl)
  rw [lg_entry_eq]
  generalize (lg_sl ([.ref h]) ++ List.replicate (1 - (lg_sl ([.ref h])).length) Slot.unset).toArray = ls at hl ⊢
  have hl : lv_has ls 1 [(0, .ref h)] := hl
  have hiX1 : ∀ w ∈ u_ws RX1 TX1 9, w ∈ wsX1_init := by decide +kernel
  have hw9 : (Cond.fieldLink RX1 9 "OldMeasures" "bases" "[I").before ([.ref h] : List Value).toArray s = true := hts _ (by decide +kernel)
  have hw13 : (Cond.fieldLink RX1 13 "OldMeasures" "steps" "[I").before ([.ref h] : List Value).toArray s = true := hts _ (by decide +kernel)
  have hw16 : (Cond.fieldLink RX1 16 "OldMeasures" "lengths" "[J").before ([.ref h] : List Value).toArray s = true := hts _ (by decide +kernel)
  have hw20 : (Cond.fieldLink RX1 20 "OldMeasures" "longestFirst" "[I").before ([.ref h] : List Value).toArray s = true := hts _ (by decide +kernel)
  have hw26 : (Cond.fieldLink RX1 26 "OldMeasures" "stalls" "LOldMeasures$Stalls;").before ([.ref h] : List Value).toArray s = true := hts _ (by decide +kernel)
  have hw30 : (Cond.fieldLink RX1 30 "OldMeasures" "trial" "LOldMeasures$Stalls;").before ([.ref h] : List Value).toArray s = true := hts _ (by decide +kernel)
  have hw33 : (Cond.fieldLink RX1 33 "OldMeasures" "measureCount" "I").before ([.ref h] : List Value).toArray s = true := hts _ (by decide +kernel)
  have hw37 : (Cond.fieldLink RX1 37 "OldMeasures" "standard" "I").before ([.ref h] : List Value).toArray s = true := hts _ (by decide +kernel)
  refine lv_aload_n hx hb dX1_init_0 rfl (lv_at hl 0 rfl) ?_
  refine W.objInit hx hb hown (hts (.methodLink RX1 1 objectInit) (by decide +kernel)) (hts (.instanceMethod objectInit) (by decide +kernel)) (hts (.code objectInit ⟨#[0xb1]⟩ 1 none) (by decide +kernel)) rfl (by rw [hml]; exact hl.1) rfl dX1_init_1 (Nat.le_of_ble_eq_true rfl) (Nat.le_of_ble_eq_true rfl) ?_
  refine W.eq (g2 := F0 m 4 ls []) rfl ?_
  refine lv_aload_n hx hb dX1_init_4 rfl (lv_at hl 0 rfl) ?_
  refine lv_bipush (v := 8) hx hb dX1_init_5 (by decide) ?_
  refine xa_newaI (N := 8) hx hb (hts (.arrayClass .int) (by decide +kernel)) hK 0 rfl hP hD hS hA (by decide) (by decide +kernel) (by decide) (by decide) (by decide) dX1_init_7 (fun q_7 H hP hD hS => ?_)
  have hP : va_P D vwCl [(h, .inr (1, [.null, .null, .null, .null, .null, .null, .int 0, .int 0, .int 0])), (q_7, .inl (cI, 8, .inl (fun _ => (0 : Int32))))] H := hP
  have hD : va_D A [(h, .inr (1, [.null, .null, .null, .null, .null, .null, .int 0, .int 0, .int 0])), (q_7, .inl (cI, 8, .inl (fun _ => (0 : Int32))))] := hD
  refine va_putF (D := D) (ci := 1) (v := .ref q_7) (ty := .array .int) (C := RX1) (T := TX1) (N := 9) hx hb hts hiX1 tyX1 tyX1_ok nmX1 hown hK hP hD hS 0 rfl rfl 0 (by decide) hw9 (fun _ h9 => h9) rfl hin rfl (by decide +kernel) rfl rfl (Nat.le_of_ble_eq_true rfl) dX1_init_9 (fun H locs hP hD hS => ?_)
  have hP : va_P D vwCl [(h, .inr (1, [.ref q_7, .null, .null, .null, .null, .null, .int 0, .int 0, .int 0])), (q_7, .inl (cI, 8, .inl (fun _ => (0 : Int32))))] H := hP
  have hD : va_D A [(h, .inr (1, [.ref q_7, .null, .null, .null, .null, .null, .int 0, .int 0, .int 0])), (q_7, .inl (cI, 8, .inl (fun _ => (0 : Int32))))] := hD
  refine lv_aload_n hx hb dX1_init_12 rfl (lv_at hl 0 rfl) ?_
  refine lv_bipush (v := 8) hx hb dX1_init_13 (by decide) ?_
  refine xa_newaI (N := 8) hx hb (hts (.arrayClass .int) (by decide +kernel)) hK 0 rfl hP hD hS hA (by decide) (by decide +kernel) (by decide) (by decide) (by decide) dX1_init_15 (fun q_15 H hP hD hS => ?_)
  have hP : va_P D vwCl [(h, .inr (1, [.ref q_7, .null, .null, .null, .null, .null, .int 0, .int 0, .int 0])), (q_7, .inl (cI, 8, .inl (fun _ => (0 : Int32)))), (q_15, .inl (cI, 8, .inl (fun _ => (0 : Int32))))] H := hP
  have hD : va_D A [(h, .inr (1, [.ref q_7, .null, .null, .null, .null, .null, .int 0, .int 0, .int 0])), (q_7, .inl (cI, 8, .inl (fun _ => (0 : Int32)))), (q_15, .inl (cI, 8, .inl (fun _ => (0 : Int32))))] := hD
  refine va_putF (D := D) (ci := 1) (v := .ref q_15) (ty := .array .int) (C := RX1) (T := TX1) (N := 9) hx hb hts hiX1 tyX1 tyX1_ok nmX1 hown hK hP hD hS 0 rfl rfl 1 (by decide) hw13 (fun _ h9 => h9) rfl hin rfl (by decide +kernel) rfl rfl (Nat.le_of_ble_eq_true rfl) dX1_init_17 (fun H locs hP hD hS => ?_)
  have hP : va_P D vwCl [(h, .inr (1, [.ref q_7, .ref q_15, .null, .null, .null, .null, .int 0, .int 0, .int 0])), (q_7, .inl (cI, 8, .inl (fun _ => (0 : Int32)))), (q_15, .inl (cI, 8, .inl (fun _ => (0 : Int32))))] H := hP
  have hD : va_D A [(h, .inr (1, [.ref q_7, .ref q_15, .null, .null, .null, .null, .int 0, .int 0, .int 0])), (q_7, .inl (cI, 8, .inl (fun _ => (0 : Int32)))), (q_15, .inl (cI, 8, .inl (fun _ => (0 : Int32))))] := hD
  refine lv_aload_n hx hb dX1_init_20 rfl (lv_at hl 0 rfl) ?_
  refine lv_bipush (v := 8) hx hb dX1_init_21 (by decide) ?_
  refine xa_newaJ (N := 8) hx hb (hts (.arrayClass .long) (by decide +kernel)) hK 1 rfl hP hD hS hA (by decide) (by decide +kernel) (by decide) (by decide) (by decide) dX1_init_23 (fun q_23 H hP hD hS => ?_)
  have hP : va_P D vwCl [(h, .inr (1, [.ref q_7, .ref q_15, .null, .null, .null, .null, .int 0, .int 0, .int 0])), (q_7, .inl (cI, 8, .inl (fun _ => (0 : Int32)))), (q_15, .inl (cI, 8, .inl (fun _ => (0 : Int32)))), (q_23, .inl (cJ, 8, .inr (.inl (fun _ => (0 : Int64)))))] H := hP
  have hD : va_D A [(h, .inr (1, [.ref q_7, .ref q_15, .null, .null, .null, .null, .int 0, .int 0, .int 0])), (q_7, .inl (cI, 8, .inl (fun _ => (0 : Int32)))), (q_15, .inl (cI, 8, .inl (fun _ => (0 : Int32)))), (q_23, .inl (cJ, 8, .inr (.inl (fun _ => (0 : Int64)))))] := hD
  refine va_putF (D := D) (ci := 1) (v := .ref q_23) (ty := .array .long) (C := RX1) (T := TX1) (N := 9) hx hb hts hiX1 tyX1 tyX1_ok nmX1 hown hK hP hD hS 0 rfl rfl 2 (by decide) hw16 (fun _ h9 => h9) rfl hin rfl (by decide +kernel) rfl rfl (Nat.le_of_ble_eq_true rfl) dX1_init_25 (fun H locs hP hD hS => ?_)
  have hP : va_P D vwCl [(h, .inr (1, [.ref q_7, .ref q_15, .ref q_23, .null, .null, .null, .int 0, .int 0, .int 0])), (q_7, .inl (cI, 8, .inl (fun _ => (0 : Int32)))), (q_15, .inl (cI, 8, .inl (fun _ => (0 : Int32)))), (q_23, .inl (cJ, 8, .inr (.inl (fun _ => (0 : Int64)))))] H := hP
  have hD : va_D A [(h, .inr (1, [.ref q_7, .ref q_15, .ref q_23, .null, .null, .null, .int 0, .int 0, .int 0])), (q_7, .inl (cI, 8, .inl (fun _ => (0 : Int32)))), (q_15, .inl (cI, 8, .inl (fun _ => (0 : Int32)))), (q_23, .inl (cJ, 8, .inr (.inl (fun _ => (0 : Int64)))))] := hD
  refine lv_aload_n hx hb dX1_init_28 rfl (lv_at hl 0 rfl) ?_
  refine lv_bipush (v := 8) hx hb dX1_init_29 (by decide) ?_
  refine xa_newaI (N := 8) hx hb (hts (.arrayClass .int) (by decide +kernel)) hK 0 rfl hP hD hS hA (by decide) (by decide +kernel) (by decide) (by decide) (by decide) dX1_init_31 (fun q_31 H hP hD hS => ?_)
  have hP : va_P D vwCl [(h, .inr (1, [.ref q_7, .ref q_15, .ref q_23, .null, .null, .null, .int 0, .int 0, .int 0])), (q_7, .inl (cI, 8, .inl (fun _ => (0 : Int32)))), (q_15, .inl (cI, 8, .inl (fun _ => (0 : Int32)))), (q_23, .inl (cJ, 8, .inr (.inl (fun _ => (0 : Int64))))), (q_31, .inl (cI, 8, .inl (fun _ => (0 : Int32))))] H := hP
  have hD : va_D A [(h, .inr (1, [.ref q_7, .ref q_15, .ref q_23, .null, .null, .null, .int 0, .int 0, .int 0])), (q_7, .inl (cI, 8, .inl (fun _ => (0 : Int32)))), (q_15, .inl (cI, 8, .inl (fun _ => (0 : Int32)))), (q_23, .inl (cJ, 8, .inr (.inl (fun _ => (0 : Int64))))), (q_31, .inl (cI, 8, .inl (fun _ => (0 : Int32))))] := hD
  refine va_putF (D := D) (ci := 1) (v := .ref q_31) (ty := .array .int) (C := RX1) (T := TX1) (N := 9) hx hb hts hiX1 tyX1 tyX1_ok nmX1 hown hK hP hD hS 0 rfl rfl 3 (by decide) hw20 (fun _ h9 => h9) rfl hin rfl (by decide +kernel) rfl rfl (Nat.le_of_ble_eq_true rfl) dX1_init_33 (fun H locs hP hD hS => ?_)
  have hP : va_P D vwCl [(h, .inr (1, [.ref q_7, .ref q_15, .ref q_23, .ref q_31, .null, .null, .int 0, .int 0, .int 0])), (q_7, .inl (cI, 8, .inl (fun _ => (0 : Int32)))), (q_15, .inl (cI, 8, .inl (fun _ => (0 : Int32)))), (q_23, .inl (cJ, 8, .inr (.inl (fun _ => (0 : Int64))))), (q_31, .inl (cI, 8, .inl (fun _ => (0 : Int32))))] H := hP
  have hD : va_D A [(h, .inr (1, [.ref q_7, .ref q_15, .ref q_23, .ref q_31, .null, .null, .int 0, .int 0, .int 0])), (q_7, .inl (cI, 8, .inl (fun _ => (0 : Int32)))), (q_15, .inl (cI, 8, .inl (fun _ => (0 : Int32)))), (q_23, .inl (cJ, 8, .inr (.inl (fun _ => (0 : Int64))))), (q_31, .inl (cI, 8, .inl (fun _ => (0 : Int32))))] := hD
  refine lv_aload_n hx hb dX1_init_36 rfl (lv_at hl 0 rfl) ?_
  refine va_new (ci := 0) (fs := [.null, .null, .int 0, .int 0, .int 0]) (C := RX0) (T := TX0) (N := 5) hx hb hts (by decide +kernel) tyX0 tyX0_ok hown (hts (.classLink RX1 23 RX0) (by decide +kernel)) (hts (.instantiable RX0 5) (by decide +kernel)) (hts (.initialized RX0) (by decide +kernel)) hK hP hD hS hA rfl (newX0_ok) (by decide) (by decide) dX1_init_37 (fun q_37 H hP hD hS => ?_)
  have hP : va_P D vwCl [(h, .inr (1, [.ref q_7, .ref q_15, .ref q_23, .ref q_31, .null, .null, .int 0, .int 0, .int 0])), (q_7, .inl (cI, 8, .inl (fun _ => (0 : Int32)))), (q_15, .inl (cI, 8, .inl (fun _ => (0 : Int32)))), (q_23, .inl (cJ, 8, .inr (.inl (fun _ => (0 : Int64))))), (q_31, .inl (cI, 8, .inl (fun _ => (0 : Int32)))), (q_37, .inr (0, [.null, .null, .int 0, .int 0, .int 0]))] H := hP
  have hD : va_D A [(h, .inr (1, [.ref q_7, .ref q_15, .ref q_23, .ref q_31, .null, .null, .int 0, .int 0, .int 0])), (q_7, .inl (cI, 8, .inl (fun _ => (0 : Int32)))), (q_15, .inl (cI, 8, .inl (fun _ => (0 : Int32)))), (q_23, .inl (cJ, 8, .inr (.inl (fun _ => (0 : Int64))))), (q_31, .inl (cI, 8, .inl (fun _ => (0 : Int32)))), (q_37, .inr (0, [.null, .null, .int 0, .int 0, .int 0]))] := hD
  refine lv_dup hx hb dX1_init_40 rfl ?_
  have hFc := va_free (wc := [(q_37, .inr (0, [.null, .null, .int 0, .int 0, .int 0]))]) hD hS hA [5] rfl
  refine va_callv (va_runIN (As := []) (rest := [.ref q_37, .ref h]) ⟨hx, hb, hml, hown, hts⟩ (c_X0_init l D cI cJ cR H.size q_37) ⟨va_cnB (host := RX1) 0 hts ggX1_init_X0_init rfl rfl rfl hC.2.2.2.2.2.2.2.1 (hts (.initialized RX0) (by decide +kernel)) (by decide +kernel) ⟨Nat.le_of_ble_eq_true rfl, Nat.le_of_ble_eq_true rfl⟩, rfl, hts (.instanceMethod yX0_init) (by decide +kernel)⟩ (preS_wr KM_ok (hP.sub (ws' := [(q_37, .inr (0, [.null, .null, .int 0, .int 0, .int 0]))]) [5] rfl) (hD.sub (ws' := [(q_37, .inr (0, [.null, .null, .int 0, .int 0, .int 0]))]) [5] (by decide) rfl) hK) rfl rfl hl.1 rfl (lv_room (Nat.le_of_ble_eq_true rfl)) dX1_init_41 ⟨by decide, by decide⟩) hS (fun q _ h => hFc q h) hFc (fun u t9 H1 locs ht hvm hw9 hB hz1 hk1 hS => ?_)
  obtain ⟨hw_41, hd_41, rfl⟩ := hw9
  obtain ⟨hP1, hD1⟩ := hB
  rw [ht] at hP1
  obtain ⟨hP, hD⟩ := va_join (wr := [(h, .inr (1, [.ref q_7, .ref q_15, .ref q_23, .ref q_31, .null, .null, .int 0, .int 0, .int 0])), (q_7, .inl (cI, 8, .inl (fun _ => (0 : Int32)))), (q_15, .inl (cI, 8, .inl (fun _ => (0 : Int32)))), (q_23, .inl (cJ, 8, .inr (.inl (fun _ => (0 : Int64))))), (q_31, .inl (cI, 8, .inl (fun _ => (0 : Int32))))]) (w1 := [(q_37, .inr (0, [.ref hw_41, .ref hd_41, .int 0, .int 10, .int 0])), (hw_41, .inl (cI, 6, .inl (fun _ => (0 : Int32)))), (hd_41, .inl (cI, 6, .inl (fun _ => (0 : Int32))))]) hP hD [5] [0, 1, 2, 3, 4] rfl rfl (by decide) (by decide) hk1 hFc hP1 hD1
  clear hz1 hk1 ht hvm hFc
  generalize H1 = H at hP hS ⊢
  have hP : va_P D vwCl [(h, .inr (1, [.ref q_7, .ref q_15, .ref q_23, .ref q_31, .null, .null, .int 0, .int 0, .int 0])), (q_7, .inl (cI, 8, .inl (fun _ => (0 : Int32)))), (q_15, .inl (cI, 8, .inl (fun _ => (0 : Int32)))), (q_23, .inl (cJ, 8, .inr (.inl (fun _ => (0 : Int64))))), (q_31, .inl (cI, 8, .inl (fun _ => (0 : Int32)))), (q_37, .inr (0, [.ref hw_41, .ref hd_41, .int 0, .int 10, .int 0])), (hw_41, .inl (cI, 6, .inl (fun _ => (0 : Int32)))), (hd_41, .inl (cI, 6, .inl (fun _ => (0 : Int32))))] H := hP
  have hD : va_D A [(h, .inr (1, [.ref q_7, .ref q_15, .ref q_23, .ref q_31, .null, .null, .int 0, .int 0, .int 0])), (q_7, .inl (cI, 8, .inl (fun _ => (0 : Int32)))), (q_15, .inl (cI, 8, .inl (fun _ => (0 : Int32)))), (q_23, .inl (cJ, 8, .inr (.inl (fun _ => (0 : Int64))))), (q_31, .inl (cI, 8, .inl (fun _ => (0 : Int32)))), (q_37, .inr (0, [.ref hw_41, .ref hd_41, .int 0, .int 10, .int 0])), (hw_41, .inl (cI, 6, .inl (fun _ => (0 : Int32)))), (hd_41, .inl (cI, 6, .inl (fun _ => (0 : Int32))))] := hD
  refine va_putF (D := D) (ci := 1) (v := .ref q_37) (ty := .object "OldMeasures$Stalls") (C := RX1) (T := TX1) (N := 9) hx hb hts hiX1 tyX1 tyX1_ok nmX1 hown hK hP hD hS 0 rfl rfl 4 (by decide) hw26 (fun _ h9 => h9) rfl hin rfl (by decide +kernel) rfl rfl (Nat.le_of_ble_eq_true rfl) dX1_init_44 (fun H locs hP hD hS => ?_)
  have hP : va_P D vwCl [(h, .inr (1, [.ref q_7, .ref q_15, .ref q_23, .ref q_31, .ref q_37, .null, .int 0, .int 0, .int 0])), (q_7, .inl (cI, 8, .inl (fun _ => (0 : Int32)))), (q_15, .inl (cI, 8, .inl (fun _ => (0 : Int32)))), (q_23, .inl (cJ, 8, .inr (.inl (fun _ => (0 : Int64))))), (q_31, .inl (cI, 8, .inl (fun _ => (0 : Int32)))), (q_37, .inr (0, [.ref hw_41, .ref hd_41, .int 0, .int 10, .int 0])), (hw_41, .inl (cI, 6, .inl (fun _ => (0 : Int32)))), (hd_41, .inl (cI, 6, .inl (fun _ => (0 : Int32))))] H := hP
  have hD : va_D A [(h, .inr (1, [.ref q_7, .ref q_15, .ref q_23, .ref q_31, .ref q_37, .null, .int 0, .int 0, .int 0])), (q_7, .inl (cI, 8, .inl (fun _ => (0 : Int32)))), (q_15, .inl (cI, 8, .inl (fun _ => (0 : Int32)))), (q_23, .inl (cJ, 8, .inr (.inl (fun _ => (0 : Int64))))), (q_31, .inl (cI, 8, .inl (fun _ => (0 : Int32)))), (q_37, .inr (0, [.ref hw_41, .ref hd_41, .int 0, .int 10, .int 0])), (hw_41, .inl (cI, 6, .inl (fun _ => (0 : Int32)))), (hd_41, .inl (cI, 6, .inl (fun _ => (0 : Int32))))] := hD
  refine lv_aload_n hx hb dX1_init_47 rfl (lv_at hl 0 rfl) ?_
  refine va_new (ci := 0) (fs := [.null, .null, .int 0, .int 0, .int 0]) (C := RX0) (T := TX0) (N := 5) hx hb hts (by decide +kernel) tyX0 tyX0_ok hown (hts (.classLink RX1 23 RX0) (by decide +kernel)) (hts (.instantiable RX0 5) (by decide +kernel)) (hts (.initialized RX0) (by decide +kernel)) hK hP hD hS hA rfl (newX0_ok) (by decide) (by decide) dX1_init_48 (fun q_48 H hP hD hS => ?_)
  have hP : va_P D vwCl [(h, .inr (1, [.ref q_7, .ref q_15, .ref q_23, .ref q_31, .ref q_37, .null, .int 0, .int 0, .int 0])), (q_7, .inl (cI, 8, .inl (fun _ => (0 : Int32)))), (q_15, .inl (cI, 8, .inl (fun _ => (0 : Int32)))), (q_23, .inl (cJ, 8, .inr (.inl (fun _ => (0 : Int64))))), (q_31, .inl (cI, 8, .inl (fun _ => (0 : Int32)))), (q_37, .inr (0, [.ref hw_41, .ref hd_41, .int 0, .int 10, .int 0])), (hw_41, .inl (cI, 6, .inl (fun _ => (0 : Int32)))), (hd_41, .inl (cI, 6, .inl (fun _ => (0 : Int32)))), (q_48, .inr (0, [.null, .null, .int 0, .int 0, .int 0]))] H := hP
  have hD : va_D A [(h, .inr (1, [.ref q_7, .ref q_15, .ref q_23, .ref q_31, .ref q_37, .null, .int 0, .int 0, .int 0])), (q_7, .inl (cI, 8, .inl (fun _ => (0 : Int32)))), (q_15, .inl (cI, 8, .inl (fun _ => (0 : Int32)))), (q_23, .inl (cJ, 8, .inr (.inl (fun _ => (0 : Int64))))), (q_31, .inl (cI, 8, .inl (fun _ => (0 : Int32)))), (q_37, .inr (0, [.ref hw_41, .ref hd_41, .int 0, .int 10, .int 0])), (hw_41, .inl (cI, 6, .inl (fun _ => (0 : Int32)))), (hd_41, .inl (cI, 6, .inl (fun _ => (0 : Int32)))), (q_48, .inr (0, [.null, .null, .int 0, .int 0, .int 0]))] := hD
  refine lv_dup hx hb dX1_init_51 rfl ?_
  have hFc := va_free (wc := [(q_48, .inr (0, [.null, .null, .int 0, .int 0, .int 0]))]) hD hS hA [8] rfl
  refine va_callv (va_runIN (As := []) (rest := [.ref q_48, .ref h]) ⟨hx, hb, hml, hown, hts⟩ (c_X0_init l D cI cJ cR H.size q_48) ⟨va_cnB (host := RX1) 0 hts ggX1_init_X0_init rfl rfl rfl hC.2.2.2.2.2.2.2.1 (hts (.initialized RX0) (by decide +kernel)) (by decide +kernel) ⟨Nat.le_of_ble_eq_true rfl, Nat.le_of_ble_eq_true rfl⟩, rfl, hts (.instanceMethod yX0_init) (by decide +kernel)⟩ (preS_wr KM_ok (hP.sub (ws' := [(q_48, .inr (0, [.null, .null, .int 0, .int 0, .int 0]))]) [8] rfl) (hD.sub (ws' := [(q_48, .inr (0, [.null, .null, .int 0, .int 0, .int 0]))]) [8] (by decide) rfl) hK) rfl rfl hl.1 rfl (lv_room (Nat.le_of_ble_eq_true rfl)) dX1_init_52 ⟨by decide, by decide⟩) hS (fun q _ h => hFc q h) hFc (fun u t9 H1 locs ht hvm hw9 hB hz1 hk1 hS => ?_)
  obtain ⟨hw_52, hd_52, rfl⟩ := hw9
  obtain ⟨hP1, hD1⟩ := hB
  rw [ht] at hP1
  obtain ⟨hP, hD⟩ := va_join (wr := [(h, .inr (1, [.ref q_7, .ref q_15, .ref q_23, .ref q_31, .ref q_37, .null, .int 0, .int 0, .int 0])), (q_7, .inl (cI, 8, .inl (fun _ => (0 : Int32)))), (q_15, .inl (cI, 8, .inl (fun _ => (0 : Int32)))), (q_23, .inl (cJ, 8, .inr (.inl (fun _ => (0 : Int64))))), (q_31, .inl (cI, 8, .inl (fun _ => (0 : Int32)))), (q_37, .inr (0, [.ref hw_41, .ref hd_41, .int 0, .int 10, .int 0])), (hw_41, .inl (cI, 6, .inl (fun _ => (0 : Int32)))), (hd_41, .inl (cI, 6, .inl (fun _ => (0 : Int32))))]) (w1 := [(q_48, .inr (0, [.ref hw_52, .ref hd_52, .int 0, .int 10, .int 0])), (hw_52, .inl (cI, 6, .inl (fun _ => (0 : Int32)))), (hd_52, .inl (cI, 6, .inl (fun _ => (0 : Int32))))]) hP hD [8] [0, 1, 2, 3, 4, 5, 6, 7] rfl rfl (by decide) (by decide) hk1 hFc hP1 hD1
  clear hz1 hk1 ht hvm hFc
  generalize H1 = H at hP hS ⊢
  have hP : va_P D vwCl [(h, .inr (1, [.ref q_7, .ref q_15, .ref q_23, .ref q_31, .ref q_37, .null, .int 0, .int 0, .int 0])), (q_7, .inl (cI, 8, .inl (fun _ => (0 : Int32)))), (q_15, .inl (cI, 8, .inl (fun _ => (0 : Int32)))), (q_23, .inl (cJ, 8, .inr (.inl (fun _ => (0 : Int64))))), (q_31, .inl (cI, 8, .inl (fun _ => (0 : Int32)))), (q_37, .inr (0, [.ref hw_41, .ref hd_41, .int 0, .int 10, .int 0])), (hw_41, .inl (cI, 6, .inl (fun _ => (0 : Int32)))), (hd_41, .inl (cI, 6, .inl (fun _ => (0 : Int32)))), (q_48, .inr (0, [.ref hw_52, .ref hd_52, .int 0, .int 10, .int 0])), (hw_52, .inl (cI, 6, .inl (fun _ => (0 : Int32)))), (hd_52, .inl (cI, 6, .inl (fun _ => (0 : Int32))))] H := hP
  have hD : va_D A [(h, .inr (1, [.ref q_7, .ref q_15, .ref q_23, .ref q_31, .ref q_37, .null, .int 0, .int 0, .int 0])), (q_7, .inl (cI, 8, .inl (fun _ => (0 : Int32)))), (q_15, .inl (cI, 8, .inl (fun _ => (0 : Int32)))), (q_23, .inl (cJ, 8, .inr (.inl (fun _ => (0 : Int64))))), (q_31, .inl (cI, 8, .inl (fun _ => (0 : Int32)))), (q_37, .inr (0, [.ref hw_41, .ref hd_41, .int 0, .int 10, .int 0])), (hw_41, .inl (cI, 6, .inl (fun _ => (0 : Int32)))), (hd_41, .inl (cI, 6, .inl (fun _ => (0 : Int32)))), (q_48, .inr (0, [.ref hw_52, .ref hd_52, .int 0, .int 10, .int 0])), (hw_52, .inl (cI, 6, .inl (fun _ => (0 : Int32)))), (hd_52, .inl (cI, 6, .inl (fun _ => (0 : Int32))))] := hD
  refine va_putF (D := D) (ci := 1) (v := .ref q_48) (ty := .object "OldMeasures$Stalls") (C := RX1) (T := TX1) (N := 9) hx hb hts hiX1 tyX1 tyX1_ok nmX1 hown hK hP hD hS 0 rfl rfl 5 (by decide) hw30 (fun _ h9 => h9) rfl hin rfl (by decide +kernel) rfl rfl (Nat.le_of_ble_eq_true rfl) dX1_init_55 (fun H locs hP hD hS => ?_)
  have hP : va_P D vwCl [(h, .inr (1, [.ref q_7, .ref q_15, .ref q_23, .ref q_31, .ref q_37, .ref q_48, .int 0, .int 0, .int 0])), (q_7, .inl (cI, 8, .inl (fun _ => (0 : Int32)))), (q_15, .inl (cI, 8, .inl (fun _ => (0 : Int32)))), (q_23, .inl (cJ, 8, .inr (.inl (fun _ => (0 : Int64))))), (q_31, .inl (cI, 8, .inl (fun _ => (0 : Int32)))), (q_37, .inr (0, [.ref hw_41, .ref hd_41, .int 0, .int 10, .int 0])), (hw_41, .inl (cI, 6, .inl (fun _ => (0 : Int32)))), (hd_41, .inl (cI, 6, .inl (fun _ => (0 : Int32)))), (q_48, .inr (0, [.ref hw_52, .ref hd_52, .int 0, .int 10, .int 0])), (hw_52, .inl (cI, 6, .inl (fun _ => (0 : Int32)))), (hd_52, .inl (cI, 6, .inl (fun _ => (0 : Int32))))] H := hP
  have hD : va_D A [(h, .inr (1, [.ref q_7, .ref q_15, .ref q_23, .ref q_31, .ref q_37, .ref q_48, .int 0, .int 0, .int 0])), (q_7, .inl (cI, 8, .inl (fun _ => (0 : Int32)))), (q_15, .inl (cI, 8, .inl (fun _ => (0 : Int32)))), (q_23, .inl (cJ, 8, .inr (.inl (fun _ => (0 : Int64))))), (q_31, .inl (cI, 8, .inl (fun _ => (0 : Int32)))), (q_37, .inr (0, [.ref hw_41, .ref hd_41, .int 0, .int 10, .int 0])), (hw_41, .inl (cI, 6, .inl (fun _ => (0 : Int32)))), (hd_41, .inl (cI, 6, .inl (fun _ => (0 : Int32)))), (q_48, .inr (0, [.ref hw_52, .ref hd_52, .int 0, .int 10, .int 0])), (hw_52, .inl (cI, 6, .inl (fun _ => (0 : Int32)))), (hd_52, .inl (cI, 6, .inl (fun _ => (0 : Int32))))] := hD
  refine lv_aload_n hx hb dX1_init_58 rfl (lv_at hl 0 rfl) ?_
  refine va_get (D := D) (ci := 1) (v := .ref q_7) (C := RX1) (T := TX1) (N := 9) hx hb hts hiX1 hown hK hP 0 rfl rfl 0 (by decide) hw9 (fun _ h9 => h9) rfl dX1_init_59 ?_
  refine lv_iconst (v := 0) hx hb dX1_init_62 (by decide) ?_
  refine topI (y := nI 0) rfl ?_
  refine lv_iconst (v := (-1)) hx hb dX1_init_63 (by decide) ?_
  refine xa_iast hx hb hK hP hD hS 1 0 rfl rfl (by decide) (by decide) dX1_init_64 (fun H locs hP hD hS => ?_)
  have hP : va_P D vwCl [(h, .inr (1, [.ref q_7, .ref q_15, .ref q_23, .ref q_31, .ref q_37, .ref q_48, .int 0, .int 0, .int 0])), (q_7, .inl (cI, 8, .inl (upd (fun _ => (0 : Int32)) 0 (-1)))), (q_15, .inl (cI, 8, .inl (fun _ => (0 : Int32)))), (q_23, .inl (cJ, 8, .inr (.inl (fun _ => (0 : Int64))))), (q_31, .inl (cI, 8, .inl (fun _ => (0 : Int32)))), (q_37, .inr (0, [.ref hw_41, .ref hd_41, .int 0, .int 10, .int 0])), (hw_41, .inl (cI, 6, .inl (fun _ => (0 : Int32)))), (hd_41, .inl (cI, 6, .inl (fun _ => (0 : Int32)))), (q_48, .inr (0, [.ref hw_52, .ref hd_52, .int 0, .int 10, .int 0])), (hw_52, .inl (cI, 6, .inl (fun _ => (0 : Int32)))), (hd_52, .inl (cI, 6, .inl (fun _ => (0 : Int32))))] H := hP
  have hD : va_D A [(h, .inr (1, [.ref q_7, .ref q_15, .ref q_23, .ref q_31, .ref q_37, .ref q_48, .int 0, .int 0, .int 0])), (q_7, .inl (cI, 8, .inl (upd (fun _ => (0 : Int32)) 0 (-1)))), (q_15, .inl (cI, 8, .inl (fun _ => (0 : Int32)))), (q_23, .inl (cJ, 8, .inr (.inl (fun _ => (0 : Int64))))), (q_31, .inl (cI, 8, .inl (fun _ => (0 : Int32)))), (q_37, .inr (0, [.ref hw_41, .ref hd_41, .int 0, .int 10, .int 0])), (hw_41, .inl (cI, 6, .inl (fun _ => (0 : Int32)))), (hd_41, .inl (cI, 6, .inl (fun _ => (0 : Int32)))), (q_48, .inr (0, [.ref hw_52, .ref hd_52, .int 0, .int 10, .int 0])), (hw_52, .inl (cI, 6, .inl (fun _ => (0 : Int32)))), (hd_52, .inl (cI, 6, .inl (fun _ => (0 : Int32))))] := hD
  refine lv_aload_n hx hb dX1_init_65 rfl (lv_at hl 0 rfl) ?_
  refine va_get (D := D) (ci := 1) (v := .ref q_23) (C := RX1) (T := TX1) (N := 9) hx hb hts hiX1 hown hK hP 0 rfl rfl 2 (by decide) hw16 (fun _ h9 => h9) rfl dX1_init_66 ?_
  refine lv_iconst (v := 0) hx hb dX1_init_69 (by decide) ?_
  refine topI (y := nI 0) rfl ?_
  refine lv_lconst (v := 1) hx hb dX1_init_70 (by decide) ?_
  refine xa_last hx hb hK hP hD hS 3 1 rfl rfl (by decide) (by decide) dX1_init_71 (fun H locs hP hD hS => ?_)
  have hP : va_P D vwCl [(h, .inr (1, [.ref q_7, .ref q_15, .ref q_23, .ref q_31, .ref q_37, .ref q_48, .int 0, .int 0, .int 0])), (q_7, .inl (cI, 8, .inl (upd (fun _ => (0 : Int32)) 0 (-1)))), (q_15, .inl (cI, 8, .inl (fun _ => (0 : Int32)))), (q_23, .inl (cJ, 8, .inr (.inl (vp_updL (fun _ => (0 : Int64)) 0 1)))), (q_31, .inl (cI, 8, .inl (fun _ => (0 : Int32)))), (q_37, .inr (0, [.ref hw_41, .ref hd_41, .int 0, .int 10, .int 0])), (hw_41, .inl (cI, 6, .inl (fun _ => (0 : Int32)))), (hd_41, .inl (cI, 6, .inl (fun _ => (0 : Int32)))), (q_48, .inr (0, [.ref hw_52, .ref hd_52, .int 0, .int 10, .int 0])), (hw_52, .inl (cI, 6, .inl (fun _ => (0 : Int32)))), (hd_52, .inl (cI, 6, .inl (fun _ => (0 : Int32))))] H := hP
  have hD : va_D A [(h, .inr (1, [.ref q_7, .ref q_15, .ref q_23, .ref q_31, .ref q_37, .ref q_48, .int 0, .int 0, .int 0])), (q_7, .inl (cI, 8, .inl (upd (fun _ => (0 : Int32)) 0 (-1)))), (q_15, .inl (cI, 8, .inl (fun _ => (0 : Int32)))), (q_23, .inl (cJ, 8, .inr (.inl (vp_updL (fun _ => (0 : Int64)) 0 1)))), (q_31, .inl (cI, 8, .inl (fun _ => (0 : Int32)))), (q_37, .inr (0, [.ref hw_41, .ref hd_41, .int 0, .int 10, .int 0])), (hw_41, .inl (cI, 6, .inl (fun _ => (0 : Int32)))), (hd_41, .inl (cI, 6, .inl (fun _ => (0 : Int32)))), (q_48, .inr (0, [.ref hw_52, .ref hd_52, .int 0, .int 10, .int 0])), (hw_52, .inl (cI, 6, .inl (fun _ => (0 : Int32)))), (hd_52, .inl (cI, 6, .inl (fun _ => (0 : Int32))))] := hD
  refine lv_aload_n hx hb dX1_init_72 rfl (lv_at hl 0 rfl) ?_
  refine lv_iconst (v := 1) hx hb dX1_init_73 (by decide) ?_
  refine va_put (D := D) (ci := 1) (v := .int 1) (ty := .int) (C := RX1) (T := TX1) (N := 9) hx hb hts hiX1 tyX1 tyX1_ok nmX1 hown hK hP hD hS 0 rfl rfl 6 (by decide) hw33 (fun _ h9 => h9) rfl (by decide +kernel) rfl rfl (Nat.le_of_ble_eq_true rfl) dX1_init_74 (fun H locs hP hD hS => ?_)
  have hP : va_P D vwCl [(h, .inr (1, [.ref q_7, .ref q_15, .ref q_23, .ref q_31, .ref q_37, .ref q_48, .int 1, .int 0, .int 0])), (q_7, .inl (cI, 8, .inl (upd (fun _ => (0 : Int32)) 0 (-1)))), (q_15, .inl (cI, 8, .inl (fun _ => (0 : Int32)))), (q_23, .inl (cJ, 8, .inr (.inl (vp_updL (fun _ => (0 : Int64)) 0 1)))), (q_31, .inl (cI, 8, .inl (fun _ => (0 : Int32)))), (q_37, .inr (0, [.ref hw_41, .ref hd_41, .int 0, .int 10, .int 0])), (hw_41, .inl (cI, 6, .inl (fun _ => (0 : Int32)))), (hd_41, .inl (cI, 6, .inl (fun _ => (0 : Int32)))), (q_48, .inr (0, [.ref hw_52, .ref hd_52, .int 0, .int 10, .int 0])), (hw_52, .inl (cI, 6, .inl (fun _ => (0 : Int32)))), (hd_52, .inl (cI, 6, .inl (fun _ => (0 : Int32))))] H := hP
  have hD : va_D A [(h, .inr (1, [.ref q_7, .ref q_15, .ref q_23, .ref q_31, .ref q_37, .ref q_48, .int 1, .int 0, .int 0])), (q_7, .inl (cI, 8, .inl (upd (fun _ => (0 : Int32)) 0 (-1)))), (q_15, .inl (cI, 8, .inl (fun _ => (0 : Int32)))), (q_23, .inl (cJ, 8, .inr (.inl (vp_updL (fun _ => (0 : Int64)) 0 1)))), (q_31, .inl (cI, 8, .inl (fun _ => (0 : Int32)))), (q_37, .inr (0, [.ref hw_41, .ref hd_41, .int 0, .int 10, .int 0])), (hw_41, .inl (cI, 6, .inl (fun _ => (0 : Int32)))), (hd_41, .inl (cI, 6, .inl (fun _ => (0 : Int32)))), (q_48, .inr (0, [.ref hw_52, .ref hd_52, .int 0, .int 10, .int 0])), (hw_52, .inl (cI, 6, .inl (fun _ => (0 : Int32)))), (hd_52, .inl (cI, 6, .inl (fun _ => (0 : Int32))))] := hD
  refine lv_aload_n hx hb dX1_init_77 rfl (lv_at hl 0 rfl) ?_
  refine lv_iconst (v := 0) hx hb dX1_init_78 (by decide) ?_
  refine va_put (D := D) (ci := 1) (v := .int 0) (ty := .int) (C := RX1) (T := TX1) (N := 9) hx hb hts hiX1 tyX1 tyX1_ok nmX1 hown hK hP hD hS 0 rfl rfl 7 (by decide) hw37 (fun _ h9 => h9) rfl (by decide +kernel) rfl rfl (Nat.le_of_ble_eq_true rfl) dX1_init_79 (fun H locs hP hD hS => ?_)
  have hP : va_P D vwCl [(h, .inr (1, [.ref q_7, .ref q_15, .ref q_23, .ref q_31, .ref q_37, .ref q_48, .int 1, .int 0, .int 0])), (q_7, .inl (cI, 8, .inl (upd (fun _ => (0 : Int32)) 0 (-1)))), (q_15, .inl (cI, 8, .inl (fun _ => (0 : Int32)))), (q_23, .inl (cJ, 8, .inr (.inl (vp_updL (fun _ => (0 : Int64)) 0 1)))), (q_31, .inl (cI, 8, .inl (fun _ => (0 : Int32)))), (q_37, .inr (0, [.ref hw_41, .ref hd_41, .int 0, .int 10, .int 0])), (hw_41, .inl (cI, 6, .inl (fun _ => (0 : Int32)))), (hd_41, .inl (cI, 6, .inl (fun _ => (0 : Int32)))), (q_48, .inr (0, [.ref hw_52, .ref hd_52, .int 0, .int 10, .int 0])), (hw_52, .inl (cI, 6, .inl (fun _ => (0 : Int32)))), (hd_52, .inl (cI, 6, .inl (fun _ => (0 : Int32))))] H := hP
  have hD : va_D A [(h, .inr (1, [.ref q_7, .ref q_15, .ref q_23, .ref q_31, .ref q_37, .ref q_48, .int 1, .int 0, .int 0])), (q_7, .inl (cI, 8, .inl (upd (fun _ => (0 : Int32)) 0 (-1)))), (q_15, .inl (cI, 8, .inl (fun _ => (0 : Int32)))), (q_23, .inl (cJ, 8, .inr (.inl (vp_updL (fun _ => (0 : Int64)) 0 1)))), (q_31, .inl (cI, 8, .inl (fun _ => (0 : Int32)))), (q_37, .inr (0, [.ref hw_41, .ref hd_41, .int 0, .int 10, .int 0])), (hw_41, .inl (cI, 6, .inl (fun _ => (0 : Int32)))), (hd_41, .inl (cI, 6, .inl (fun _ => (0 : Int32)))), (q_48, .inr (0, [.ref hw_52, .ref hd_52, .int 0, .int 10, .int 0])), (hw_52, .inl (cI, 6, .inl (fun _ => (0 : Int32)))), (hd_52, .inl (cI, 6, .inl (fun _ => (0 : Int32))))] := hD
  have hP := hP.sub (ws' := [(h, .inr (1, [.ref q_7, .ref q_15, .ref q_23, .ref q_31, .ref q_37, .ref q_48, .int 1, .int 0, .int 0])), (q_7, .inl (cI, 8, .inl (upd (fun _ => (0 : Int32)) 0 (-1)))), (q_15, .inl (cI, 8, .inl (fun _ => (0 : Int32)))), (q_23, .inl (cJ, 8, .inr (.inl (vp_updL (fun _ => (0 : Int64)) 0 1)))), (q_31, .inl (cI, 8, .inl (fun _ => (0 : Int32)))), (q_37, .inr (0, [.ref hw_41, .ref hd_41, .int 0, .int 10, .int 0])), (hw_41, .inl (cI, 6, .inl (fun _ => (0 : Int32)))), (hd_41, .inl (cI, 6, .inl (fun _ => (0 : Int32)))), (q_48, .inr (0, [.ref hw_52, .ref hd_52, .int 0, .int 10, .int 0])), (hw_52, .inl (cI, 6, .inl (fun _ => (0 : Int32)))), (hd_52, .inl (cI, 6, .inl (fun _ => (0 : Int32))))]) [0, 1, 2, 3, 4, 5, 6, 7, 8, 9, 10] rfl
  have hD := hD.sub (ws' := [(h, .inr (1, [.ref q_7, .ref q_15, .ref q_23, .ref q_31, .ref q_37, .ref q_48, .int 1, .int 0, .int 0])), (q_7, .inl (cI, 8, .inl (upd (fun _ => (0 : Int32)) 0 (-1)))), (q_15, .inl (cI, 8, .inl (fun _ => (0 : Int32)))), (q_23, .inl (cJ, 8, .inr (.inl (vp_updL (fun _ => (0 : Int64)) 0 1)))), (q_31, .inl (cI, 8, .inl (fun _ => (0 : Int32)))), (q_37, .inr (0, [.ref hw_41, .ref hd_41, .int 0, .int 10, .int 0])), (hw_41, .inl (cI, 6, .inl (fun _ => (0 : Int32)))), (hd_41, .inl (cI, 6, .inl (fun _ => (0 : Int32)))), (q_48, .inr (0, [.ref hw_52, .ref hd_52, .int 0, .int 10, .int 0])), (hw_52, .inl (cI, 6, .inl (fun _ => (0 : Int32)))), (hd_52, .inl (cI, 6, .inl (fun _ => (0 : Int32))))]) [0, 1, 2, 3, 4, 5, 6, 7, 8, 9, 10] (by decide) rfl
  exact W.vret hx hb hr (fun t9 ht hW => ⟨⟨[(h, .inr (1, [.ref q_7, .ref q_15, .ref q_23, .ref q_31, .ref q_37, .ref q_48, .int 1, .int 0, .int 0])), (q_7, .inl (cI, 8, .inl (upd (fun _ => (0 : Int32)) 0 (-1)))), (q_15, .inl (cI, 8, .inl (fun _ => (0 : Int32)))), (q_23, .inl (cJ, 8, .inr (.inl (vp_updL (fun _ => (0 : Int64)) 0 1)))), (q_31, .inl (cI, 8, .inl (fun _ => (0 : Int32)))), (q_37, .inr (0, [.ref hw_41, .ref hd_41, .int 0, .int 10, .int 0])), (hw_41, .inl (cI, 6, .inl (fun _ => (0 : Int32)))), (hd_41, .inl (cI, 6, .inl (fun _ => (0 : Int32)))), (q_48, .inr (0, [.ref hw_52, .ref hd_52, .int 0, .int 10, .int 0])), (hw_52, .inl (cI, 6, .inl (fun _ => (0 : Int32)))), (hd_52, .inl (cI, 6, .inl (fun _ => (0 : Int32))))], rfl, ⟨(fun i => match i with | 0 => h | 1 => q_7 | 2 => q_15 | 3 => q_23 | 4 => q_31 | 5 => q_37 | 6 => hw_41 | 7 => hd_41 | 8 => q_48 | 9 => hw_52 | _ => hd_52), rfl, rfl⟩, by rw [ht]; exact hP, hD⟩, hS.F ht⟩) hS.2.2 dX1_init_82
end
section
/-! CORE 2 (p43): rows of rows; worlds with rows in any number -/
section RR
variable {p : Program} {l : Launch} {e : Env} {R : Room} {s : State} {m : MethodId} {args : Array Value} {below : List Frame} {meth : Method} {c : Code} {H : Heap} {locs : List Loc} {cells slots : Nat} {Q : State → Prop}
variable {cc : ByteArray} {pc : Nat} {ls : Array Slot} {rest : List Value} {D : va_G} {cl : List vw_C} {A : Nat → Prop} {a : Nat} {tys : List (ClassId × FieldType)} {ws : va_W} {H0 : Heap}
/-- a row out of an array of rows -/
theorem xr_ald (hexec : p.tables.exec = Jvm.exec) (hb : c.code = cc) (hK : va_K D cl tys s) (hP : va_P D cl ws H) (q0 t0 : Nat) {cA : ClassId} {n : Nat} {f : Nat → Option Nat} (ha : ws[q0]? = some (a, .inl (cA, n, .inr (.inr (.inr (.inr f)))))) (ht : tys[t0]? = some (cA, .array .int)) {j b : Nat} (hj : j < n) (hn : n < 2 ^ 31) (hv : f j = some b) (hdg : decode cc pc = .ok (.aaload, 1))
    (kk : W p l e R s m args below meth c H locs cells slots Q (F0 m (pc + 1) ls (.ref b :: rest))) : W p l e R s m args below meth c H locs cells slots Q (F0 m pc ls (.int (nI j) :: .ref a :: rest)) := by
  have hin : vp_in (nI j) n := vp_in_nI hj hn
  have hlt : (nI j).toNatClampNeg < n := by rw [nI_clamp (Nat.lt_trans hj hn)]; exact hj
  refine W.aald (v := va_rf (f (nI j).toNatClampNeg)) (ty := .array .int) hexec hb (hP q0 _ ha) ((hK.2 t0 _ ht).1 n (fun j => va_rf (f j))) rfl (fun q => by cases q) (by show ¬ (nI j < 0 ∨ (arrV _ _ _).slots.size ≤ _); rw [arrV_size]; exact hin) (by show (arrV _ _ _).slots[_]? = _; rw [arrV_read _ _ hlt]) rfl rfl hdg ?_
  rw [nI_clamp (Nat.lt_trans hj hn), hv]
  exact kk
theorem va_assignS {cC : ClassId} : s.vm.assignable cC cC = true := by
  show Vm.assignableAux s.vm (255 + 1) cC cC = true
  rw [Vm.assignableAux, beq_self_eq_true, Bool.true_or]
/-- a row into an array of rows -/
theorem xr_ast (hexec : p.tables.exec = Jvm.exec) (hb : c.code = cc) (hK : va_K D cl tys s) (hO : AO s) (hP : va_P D cl ws H) (hD : va_D A ws) (hS : va_S A H0 H locs) (q0 t0 t1 qk : Nat) {cA cR : ClassId} {n v : Nat} {x : vp_A} {f : Nat → Option Nat} (ha : ws[q0]? = some (a, .inl (cR, n, .inr (.inr (.inr (.inr f)))))) (ht : tys[t0]? = some (cR, .array .int)) (ht1 : tys[t1]? = some (cA, .int)) (hv : ws[qk]? = some (v, .inl (cA, x))) {j : Nat} (hj : j < n) (hn : n < 2 ^ 31) (hdg : decode cc pc = .ok (.aastore, 1))
    (kk : ∀ (H1 : Heap) (locs1 : List Loc), va_P D cl (ws.set q0 (a, .inl (cR, n, .inr (.inr (.inr (.inr (va_up f j (some v)))))))) H1 → va_D A (ws.set q0 (a, .inl (cR, n, .inr (.inr (.inr (.inr (va_up f j (some v)))))))) → va_S A H0 H1 locs1 → W p l e R s m args below meth c H1 locs1 cells slots Q (F0 m (pc + 1) ls rest)) : W p l e R s m args below meth c H locs cells slots Q (F0 m pc ls (.ref v :: .int (nI j) :: .ref a :: rest)) := by
  have hcl : (nI j).toNatClampNeg = j := nI_clamp (Nat.lt_trans hj hn)
  have hin : vp_in (nI j) n := vp_in_nI hj hn
  have h0 : ¬ nI j < 0 := fun q => hin (Or.inl q)
  obtain ⟨comp, c1, k1, f1, -, f3, f4, f5⟩ := arrayOverA_spec hO
  have e5 : s.vm.findClass ("[" ++ (FieldType.array .int).toString) = some cR := (hK.2 t0 _ ht).2
  cases Option.some.inj (f5.symm.trans e5)
  have e6 : s.vm.findClass ("[" ++ FieldType.int.toString) = some cA := (hK.2 t1 _ ht1).2
  have e7 : ("[" ++ FieldType.int.toString) = (FieldType.array .int).toString := by decide +kernel
  rw [e7] at e6
  cases Option.some.inj (f1.symm.trans e6)
  obtain ⟨-, kC, hkC, -⟩ := (hK.2 t1 _ ht1).1 0 (fun _ => .null)
  have hcv : H[v]? = some (vp_cell cA x) := hP qk _ hv
  have hvc : (vp_cell cA x).cls = cA ∧ (vp_cell cA x).vm = .none := by
    obtain ⟨n1, g | g | g | g | g⟩ := x <;> exact ⟨rfl, rfl⟩
  refine W.aast hexec hb (hP q0 _ ha) (fun q h => by cases h) (fun h => by cases h) f3 f4 rfl hkC ⟨h0, by show _ < (arrV _ _ _).slots.size; rw [arrV_size, hcl]; exact hj⟩ hcv (fun q h => by rw [hvc.2] at h; cases h) (by rw [hvc.1]; exact hkC) (by rw [hvc.1]; exact va_assignS) rfl rfl hdg fun H1 e z oq => ?_
  refine kk H1 _ (hP.set hD ha ?_ oq) (hD.set ha) (hS.put z oq (hD.2 q0 _ ha))
  show H1[a]? = some (vp_cell _ _)
  rw [e]
  show some ((vp_cell cR (n, .inr (.inr (.inr (.inr f))))).setSlot (nI j).toNatClampNeg (.ref v)) = _
  rw [vp_cell_q, vp_cell_q, arrV_store, hcl]
  congr 2
  funext q
  by_cases hq : q = j
  · subst hq
    simp [updV, va_up, va_rf]
  · simp [updV, va_up, hq]
/-- a new array of rows -/
theorem xr_new (hexec : p.tables.exec = Jvm.exec) (hb : c.code = cc) {own : String} {index : Nat} (hown : s.vm.findClass own = some m.cls) (hclink : (Cond.classLink own index "[I").before args s = true) (hO : AO s) (hK : va_K D cl tys s) (t0 : Nat) {cR : ClassId} (ht : tys[t0]? = some (cR, .array .int)) (hP : va_P D cl ws H) (hD : va_D A ws) (hS : va_S A H0 H locs) (hA : ∀ q, H0.size ≤ q → A q)
    {N : Nat} (hN : N < 1000) (hcells : cells + 1 ≤ R.cells) (hslots : slots + N ≤ R.slots) (hdg : decode cc pc = .ok (.anewarray index, 3))
    (kk : ∀ (q : Nat) (H1 : Heap), va_P D cl (ws ++ [(q, .inl (cR, N, .inr (.inr (.inr (.inr (fun _ => none))))))]) H1 → va_D A (ws ++ [(q, .inl (cR, N, .inr (.inr (.inr (.inr (fun _ => none))))))]) → va_S A H0 H1 locs →
      W p l e R s m args below meth c H1 locs (cells + 1) (slots + N) Q (F0 m (pc + 3) ls (.ref q :: rest))) : W p l e R s m args below meth c H locs cells slots Q (F0 m pc ls (.int (nI N) :: rest)) := by
  have hcl : (nI N).toNatClampNeg = N := nI_clamp (by omega)
  have e7 : "[I" = (FieldType.array .int).toString := by decide +kernel
  rw [e7] at hclink
  refine W.anewA (t := .int) hexec hb hown hclink hO rfl hdg rfl (nI_pos (by omega)) (by rw [hcl]; omega) hcells (by rw [hcl]; exact hslots) fun cA kA comp f1 f2 f3 f4 => ?_
  rw [hcl]
  have e5 : s.vm.findClass ("[" ++ (FieldType.array .int).toString) = some cR := (hK.2 t0 _ ht).2
  cases Option.some.inj (f1.symm.trans e5)
  generalize hH1 : H.push ({ cls := cR, slots := Array.replicate N .null, vm := .none } : Cell) = H1
  have z1 : H1.size = H.size + 1 := by rw [← hH1, Array.size_push]
  have e1 : H1[H.size]? = some (arrV cR N (fun _ => .null)) := by rw [← hH1, Array.getElem?_push_size, ← arrV_new]
  have o1 : ∀ q : Nat, q < H.size → H1[q]? = H[q]? := fun q hq => by rw [← hH1, Array.getElem?_push, if_neg (Nat.ne_of_lt hq)]
  have hk : ∀ (k : Nat) (x : Nat × va_E), ws[k]? = some x → H1[x.1]? = H[x.1]? := fun k x hx => o1 x.1 ((hP k x hx).lt)
  refine kk H.size H1 ((hP.kept hk).app (fun k x hx => ?_)) (hD.push hP rfl (hA _ hS.1)) ⟨Nat.le_trans hS.1 (by omega), fun x h1 h2 => (o1 x (Nat.lt_of_lt_of_le h1 hS.1)).trans (hS.2.1 x h1 h2), hS.2.2⟩
  have hz : k < 1 := (List.getElem?_eq_some_iff.mp hx).1
  rw [show k = 0 by omega] at hx
  cases hx
  show H1[H.size]? = some (vp_cell _ _)
  rw [vp_cell_q]
  exact e1
/-- a call whose answer is a reference -/
theorem xr_call {st0 : List Value} {av : Array Value} {A0 : Nat → Prop} {wc : va_W} {sz mc ms : Nat} {post : Nat → va_W → Prop} {free : Addr → Prop} (hr : va_Run p l e R s m args below meth c H locs cells slots mc ms (F0 m pc ls st0) rest (wrr D wc sz post av) free) (hS : va_S A0 H0 H locs) (hA : ∀ q, q < H.size → va_A wc sz q → A0 q) (hf : ∀ q, free q → A0 q)
    (kk : ∀ (u : va_W) (ra : Nat) (t : State) (H1 : Heap) (locs1 : List Loc), t.heap = H1 → post ra u → wB D wc sz u t → H.size ≤ H1.size → (∀ q : Nat, q < H.size → ¬ va_A wc sz q → H1[q]? = H[q]?) → va_S A0 H0 H1 locs1 → W p l e R s m args below meth c H1 locs1 (cells + mc) (slots + ms) Q (F0 m (pc + 3) ls (.ref ra :: rest))) : W p l e R s m args below meth c H locs cells slots Q (F0 m pc ls st0) :=
  va_callr hr hS hA hf (fun u ra t H1 locs1 h1 _ _ h2 h3 h4 h5 => kk u ra t H1 locs1 h1 h2.1 h2.2 h3 h4 h5)
/-- a counting loop that makes cells -/
theorem loopA {σ : Type} {h : Nat} {st : List Value} (mc ms : Nat) (I : Nat → σ → Heap → List Loc → Array Slot → Prop) (N : Nat)
    (step : ∀ (i : Nat) (x : σ) (H : Heap) (locs : List Loc) (ls : Array Slot), i ≤ N → I i x H locs ls → (∀ (x' : σ) (H' : Heap) (locs' : List Loc) (ls' : Array Slot), i < N → I (i + 1) x' H' locs' ls' → W p l e R s m args below meth c H' locs' (cells + (i + 1) * mc) (slots + (i + 1) * ms) Q (F0 m h ls' st)) → W p l e R s m args below meth c H locs (cells + i * mc) (slots + i * ms) Q (F0 m h ls st)) :
    ∀ (x : σ) (H : Heap) (locs : List Loc) (ls : Array Slot), I 0 x H locs ls → W p l e R s m args below meth c H locs cells slots Q (F0 m h ls st) := by
  have key : ∀ (n i : Nat) (x : σ) (H : Heap) (locs : List Loc) (ls : Array Slot), i + n = N → I i x H locs ls → W p l e R s m args below meth c H locs (cells + i * mc) (slots + i * ms) Q (F0 m h ls st) := by
    intro n
    induction n with
    | zero => exact fun i x H locs ls hn hI => step i x H locs ls (by omega) hI (fun _ _ _ _ h => absurd h (by omega))
    | succ n ih => exact fun i x H locs ls hn hI => step i x H locs ls (by omega) hI (fun x' H' locs' ls' _ hI' => ih (i + 1) x' H' locs' ls' (by omega) hI')
  intro x H locs ls hI
  have h9 := key N 0 x H locs ls (by omega) hI
  simpa using h9
end RR
/-- a measure's row, a stall's row -/
def m3 (fB mM mP : Nat → Int32) (i : Nat) : Nat → Int32 := fun j => if j = 0 then fB i else if j = 1 then mM i else mP i
def s2 (fW fD : Nat → Int32) (i : Nat) : Nat → Int32 := fun j => if j = 0 then fW i else if j = 1 then fD i else 0
/-- the addresses of the first rows, as an array holds them -/
def fr (g : Nat → Nat) : Nat → Option Nat := fun i => some (g i)
def upN (g : Nat → Nat) (k v : Nat) : Nat → Nat := fun j => if j = k then v else g j
def RM (cI : ClassId) (ra : Nat → Nat) (fB mM mP : Nat → Int32) (k : Nat) : va_W := (List.range k).map (fun i => (ra i, .inl (cI, 3, .inl (m3 fB mM mP i))))
def RS (cI : ClassId) (rs : Nat → Nat) (fW fD : Nat → Int32) (c : Nat) : va_W := (List.range c).map (fun i => (rs i, .inl (cI, 2, .inl (s2 fW fD i))))
def RT (cI : ClassId) (ra rs : Nat → Nat) (fB mM mP fW fD : Nat → Int32) (k c : Nat) : va_W := RM cI ra fB mM mP k ++ RS cI rs fW fD c
section ROWS
variable {cI : ClassId} {ra rs : Nat → Nat} {fB mM mP fW fD : Nat → Int32} {k c : Nat} {X T : va_W}
theorem RM_len : (RM cI ra fB mM mP k).length = k := by simp [RM]
theorem RS_len : (RS cI rs fW fD c).length = c := by simp [RS]
theorem RM_at {i : Nat} (h : i < k) : (RM cI ra fB mM mP k)[i]? = some (ra i, .inl (cI, 3, .inl (m3 fB mM mP i))) := by simp [RM, h]
theorem RS_at {i : Nat} (h : i < c) : (RS cI rs fW fD c)[i]? = some (rs i, .inl (cI, 2, .inl (s2 fW fD i))) := by simp [RS, h]
theorem RT_m {i : Nat} (h : i < k) : (RT cI ra rs fB mM mP fW fD k c)[i]? = some (ra i, .inl (cI, 3, .inl (m3 fB mM mP i))) := by
  unfold RT
  rw [List.getElem?_append_left (by rw [RM_len]; exact h)]
  exact RM_at h
theorem RT_s {i : Nat} (h : i < c) : (RT cI ra rs fB mM mP fW fD k c)[k + i]? = some (rs i, .inl (cI, 2, .inl (s2 fW fD i))) := by
  unfold RT
  rw [List.getElem?_append_right (by rw [RM_len]; omega), RM_len, Nat.add_sub_cancel_left]
  exact RS_at h
theorem tl_at {n i : Nat} {q : Nat × va_E} (hX : X.length = n) (h : T[i]? = some q) : (X ++ T)[n + i]? = some q := by
  rw [List.getElem?_append_right (by omega), hX, Nat.add_sub_cancel_left]
  exact h
theorem tl_set {n i : Nat} {q : Nat × va_E} (hX : X.length = n) : (X ++ T).set (n + i) q = X ++ T.set i q := by
  rw [List.set_append_right _ _ (by omega), hX, Nat.add_sub_cancel_left]
theorem RS_set {i : Nat} (h : i < c) (gW gD : Nat → Int32) (hw : ∀ j, j ≠ i → gW j = fW j) (hd : ∀ j, j ≠ i → gD j = fD j) : (RS cI rs fW fD c).set i (rs i, .inl (cI, 2, .inl (s2 gW gD i))) = RS cI rs gW gD c := by
  apply List.ext_getElem?
  intro j
  by_cases hj : j = i
  · subst hj
    rw [List.getElem?_set_self (by rw [RS_len]; exact h), RS_at h]
  · rw [List.getElem?_set_ne (Ne.symm hj)]
    by_cases hjc : j < c
    · rw [RS_at hjc, RS_at hjc]
      have e : s2 fW fD j = s2 gW gD j := by unfold s2; rw [hw j hj, hd j hj]
      rw [e]
    · rw [List.getElem?_eq_none (by rw [RS_len]; omega), List.getElem?_eq_none (by rw [RS_len]; omega)]
theorem RT_set {n i : Nat} (hX : X.length = n) (h : i < c) (gW gD : Nat → Int32) {g : Nat → Int32} (hg : g = s2 gW gD i) (hw : ∀ j, j ≠ i → gW j = fW j) (hd : ∀ j, j ≠ i → gD j = fD j) : (X ++ RT cI ra rs fB mM mP fW fD k c).set (n + (k + i)) (rs i, .inl (cI, 2, .inl g)) = X ++ RT cI ra rs fB mM mP gW gD k c := by
  rw [tl_set hX, hg]
  unfold RT
  rw [tl_set RM_len, RS_set h gW gD hw hd]
theorem s2_w (i : Nat) (x : Int32) : upd (s2 fW fD i) 0 x = s2 (upd fW i x) fD i := by
  funext j
  unfold upd s2
  by_cases h : j = 0
  · rw [if_pos h, if_pos h]; exact (if_pos rfl).symm
  · rw [if_neg h, if_neg h, if_neg h]
theorem s2_v (i : Nat) (x : Int32) : upd (s2 fW fD i) 1 x = s2 fW (upd fD i x) i := by
  funext j
  unfold upd s2
  by_cases h : j = 0
  · subst h; rfl
  · rw [if_neg h]
    by_cases h1 : j = 1
    · rw [if_pos h1, if_neg h, if_pos h1]; exact (if_pos rfl).symm
    · rw [if_neg h1, if_neg h, if_neg h1]; exact (if_neg h1).symm
theorem s2_new (x y : Int32) (i : Nat) : upd (upd (fun _ => (0 : Int32)) 0 x) 1 y = s2 (upd fW i x) (upd fD i y) i := by
  funext j
  unfold upd s2
  by_cases h : j = 0
  · subst h; exact (if_pos rfl).symm
  · by_cases h1 : j = 1
    · rw [if_pos h1, if_neg h, if_pos h1]; exact (if_pos rfl).symm
    · rw [if_neg h1, if_neg h, if_neg h, if_neg h1]
/-- rows that agree -/
theorem RM_cg {ra2 : Nat → Nat} {B2 M2 P2 : Nat → Int32} (h : ∀ i, i < k → ra i = ra2 i ∧ fB i = B2 i ∧ mM i = M2 i ∧ mP i = P2 i) : RM cI ra fB mM mP k = RM cI ra2 B2 M2 P2 k := by
  unfold RM
  apply List.map_congr_left
  intro i hi
  obtain ⟨h1, h2, h3, h4⟩ := h i (List.mem_range.mp hi)
  have e : m3 fB mM mP i = m3 B2 M2 P2 i := by unfold m3; rw [h2, h3, h4]
  rw [h1, e]
theorem RS_cg {rs2 : Nat → Nat} {W2 D2 : Nat → Int32} (h : ∀ i, i < c → rs i = rs2 i ∧ fW i = W2 i ∧ fD i = D2 i) : RS cI rs fW fD c = RS cI rs2 W2 D2 c := by
  unfold RS
  apply List.map_congr_left
  intro i hi
  obtain ⟨h1, h2, h3⟩ := h i (List.mem_range.mp hi)
  have e : s2 fW fD i = s2 W2 D2 i := by unfold s2; rw [h2, h3]
  rw [h1, e]
end ROWS
theorem xv_eqQ {cA : ClassId} {n : Nat} {f g : Nat → Option Nat} (h : ∀ j, j < n → f j = g j) : vp_cell cA (n, .inr (.inr (.inr (.inr f)))) = vp_cell cA (n, .inr (.inr (.inr (.inr g)))) := by
  rw [vp_cell_q, vp_cell_q]
  unfold arrV
  congr 2
  funext j
  exact congrArg va_rf (h j.val j.isLt)
theorem va_P.toQ {D : va_G} {cl : List vw_C} {ws : va_W} {H : Heap} {a n : Nat} {cA : ClassId} {f g : Nat → Option Nat} (hP : va_P D cl ws H) (q : Nat) (ha : ws[q]? = some (a, .inl (cA, n, .inr (.inr (.inr (.inr f)))))) (h : ∀ j, j < n → f j = g j) : va_P D cl (ws.set q (a, .inl (cA, n, .inr (.inr (.inr (.inr g)))))) H := by
  have hl := (List.getElem?_eq_some_iff.mp ha).1
  intro k z hk
  by_cases hkq : k = q
  · subst hkq
    rw [List.getElem?_set_self hl] at hk
    cases hk
    have h1 := hP k _ ha
    show H[a]? = some (vp_cell cA (n, .inr (.inr (.inr (.inr g)))))
    rw [← xv_eqQ h]
    exact h1
  · rw [List.getElem?_set_ne (Ne.symm hkq)] at hk
    exact hP k z hk
/-- two new rows, the first and the last part -/
theorem RM_push {cI : ClassId} {ra : Nat → Nat} {fB mM mP : Nat → Int32} {k q : Nat} {b u v : Int32} : RM cI ra fB mM mP k ++ [(q, .inl (cI, 3, .inl (m3 (upd fB k b) (upd mM k u) (upd mP k v) k)))] = RM cI (upN ra k q) (upd fB k b) (upd mM k u) (upd mP k v) (k + 1) := by
  have h1 : RM cI ra fB mM mP k = RM cI (upN ra k q) (upd fB k b) (upd mM k u) (upd mP k v) k := RM_cg (fun i hi => by
    have hne : i ≠ k := by omega
    exact ⟨(if_neg hne).symm, (if_neg hne).symm, (if_neg hne).symm, (if_neg hne).symm⟩)
  rw [h1]
  unfold RM
  rw [List.range_succ, List.map_append]
  congr 1
  show _ = [(upN ra k q k, _)]
  rw [show upN ra k q k = q from if_pos rfl]
theorem RS_push {cI : ClassId} {rs : Nat → Nat} {fW fD : Nat → Int32} {c q : Nat} {x y : Int32} : RS cI rs fW fD c ++ [(q, .inl (cI, 2, .inl (s2 (upd fW c x) (upd fD c y) c)))] = RS cI (upN rs c q) (upd fW c x) (upd fD c y) (c + 1) := by
  have h1 : RS cI rs fW fD c = RS cI (upN rs c q) (upd fW c x) (upd fD c y) c := RS_cg (fun i hi => by
    have hne : i ≠ c := by omega
    exact ⟨(if_neg hne).symm, (if_neg hne).symm, (if_neg hne).symm⟩)
  rw [h1]
  unfold RS
  rw [List.range_succ, List.map_append]
  congr 1
  show _ = [(upN rs c q c, _)]
  rw [show upN rs c q c = q from if_pos rfl]
def mvf (a k z : Nat) : Nat := if z < a then z else if z < a + k then z + 1 else if z = a + k then a else z
theorem mvf_c (a k z : Nat) : (z < a ∧ mvf a k z = z) ∨ (a ≤ z ∧ z < a + k ∧ mvf a k z = z + 1) ∨ (z = a + k ∧ mvf a k z = a) ∨ (a + k < z ∧ mvf a k z = z) := by
  unfold mvf
  by_cases h1 : z < a
  · exact Or.inl ⟨h1, if_pos h1⟩
  · rw [if_neg h1]
    by_cases h2 : z < a + k
    · exact Or.inr (Or.inl ⟨by omega, h2, if_pos h2⟩)
    · rw [if_neg h2]
      by_cases h3 : z = a + k
      · exact Or.inr (Or.inr (Or.inl ⟨h3, if_pos h3⟩))
      · exact Or.inr (Or.inr (Or.inr ⟨by omega, if_neg h3⟩))
theorem mvf_inj {a k i j : Nat} (h : mvf a k i = mvf a k j) : i = j := by
  rcases mvf_c a k i with h1 | h1 | h1 | h1 <;> rcases mvf_c a k j with h2 | h2 | h2 | h2 <;> omega
theorem mv_at {X : va_W} {y0 : Nat × va_E} {cI : ClassId} {ra : Nat → Nat} {fB mM mP : Nat → Int32} {k z : Nat} {S : va_W} {y : Nat × va_E} (hz : (((X ++ RM cI ra fB mM mP k) ++ [y0]) ++ S)[z]? = some y) :
    (((X ++ [y0]) ++ RM cI ra fB mM mP k) ++ S)[mvf X.length k z]? = some y := by
  unfold mvf
  by_cases h1 : z < X.length
  · rw [if_pos h1]
    simp only [List.append_assoc] at hz ⊢
    rw [List.getElem?_append_left h1] at hz ⊢
    exact hz
  · rw [if_neg h1]
    by_cases h2 : z < X.length + k
    · rw [if_pos h2]
      rw [List.getElem?_append_left (by simp [RM_len] <;> omega), List.getElem?_append_left (by simp [RM_len] <;> omega), List.getElem?_append_right (by omega)] at hz
      rw [List.getElem?_append_left (by simp [RM_len] <;> omega), List.getElem?_append_right (by simp <;> omega)]
      rw [List.length_append, List.length_singleton, show z + 1 - (X.length + 1) = z - X.length by omega]
      exact hz
    · rw [if_neg h2]
      by_cases h3 : z = X.length + k
      · rw [if_pos h3]
        subst h3
        rw [List.getElem?_append_left (by simp [RM_len]), List.getElem?_append_right (by simp [RM_len]), List.length_append, RM_len, Nat.sub_self] at hz
        rw [List.getElem?_append_left (by simp), List.getElem?_append_left (by simp), List.getElem?_append_right (Nat.le_refl _), Nat.sub_self]
        exact hz
      · rw [if_neg h3]
        rw [List.getElem?_append_right (by simp [RM_len] <;> omega)] at hz ⊢
        have e : ((X ++ RM cI ra fB mM mP k) ++ [y0]).length = ((X ++ [y0]) ++ RM cI ra fB mM mP k).length := by simp [RM_len] <;> omega
        rw [← e]
        exact hz
/-- a measure's new row, fixed as yet, goes to its place in the tail -/
theorem RT_newM {D : va_G} {cl : List vw_C} {H : Heap} {A : Nat → Prop} {X : va_W} {cI : ClassId} {ra rs : Nat → Nat} {fB mM mP fW fD : Nat → Int32} {k c q : Nat} {b u v : Int32} (hP : va_P D cl ((X ++ [(q, .inl (cI, 3, .inl (m3 (upd fB k b) (upd mM k u) (upd mP k v) k)))]) ++ RT cI ra rs fB mM mP fW fD k c) H) (hD : va_D A ((X ++ [(q, .inl (cI, 3, .inl (m3 (upd fB k b) (upd mM k u) (upd mP k v) k)))]) ++ RT cI ra rs fB mM mP fW fD k c)) :
    va_P D cl (X ++ RT cI (upN ra k q) rs (upd fB k b) (upd mM k u) (upd mP k v) fW fD (k + 1) c) H ∧ va_D A (X ++ RT cI (upN ra k q) rs (upd fB k b) (upd mM k u) (upd mP k v) fW fD (k + 1) c) := by
  unfold RT at hP hD ⊢
  rw [← List.append_assoc] at hP hD ⊢
  rw [← RM_push]
  have hP2 : va_P D cl (((X ++ RM cI ra fB mM mP k) ++ [(q, .inl (cI, 3, .inl (m3 (upd fB k b) (upd mM k u) (upd mP k v) k)))]) ++ RS cI rs fW fD c) H := by
    have h1 := hP.by (ws' := ((X ++ RM cI ra fB mM mP k) ++ [(q, .inl (cI, 3, .inl (m3 (upd fB k b) (upd mM k u) (upd mP k v) k)))]) ++ RS cI rs fW fD c) (mvf X.length k) (fun z y hz => mv_at hz)
    exact h1
  have hD2 : va_D A (((X ++ RM cI ra fB mM mP k) ++ [(q, .inl (cI, 3, .inl (m3 (upd fB k b) (upd mM k u) (upd mP k v) k)))]) ++ RS cI rs fW fD c) := by
    exact hD.by (mvf X.length k) (fun z y hz => mv_at hz) (fun i j _ _ h => mvf_inj h)
  rw [List.append_assoc X] at hP2 hD2
  exact ⟨hP2, hD2⟩
theorem RT_newS {D : va_G} {cl : List vw_C} {H : Heap} {A : Nat → Prop} {X : va_W} {cI : ClassId} {ra rs : Nat → Nat} {fB mM mP fW fD : Nat → Int32} {k c q : Nat} {x y : Int32} (hP : va_P D cl ((X ++ [(q, .inl (cI, 2, .inl (s2 (upd fW c x) (upd fD c y) c)))]) ++ RT cI ra rs fB mM mP fW fD k c) H) (hD : va_D A ((X ++ [(q, .inl (cI, 2, .inl (s2 (upd fW c x) (upd fD c y) c)))]) ++ RT cI ra rs fB mM mP fW fD k c)) :
    va_P D cl (X ++ RT cI ra (upN rs c q) fB mM mP (upd fW c x) (upd fD c y) k (c + 1)) H ∧ va_D A (X ++ RT cI ra (upN rs c q) fB mM mP (upd fW c x) (upd fD c y) k (c + 1)) := by
  have hP1 := hP.swap
  have hD1 := hD.swap
  have e : (X ++ RT cI ra rs fB mM mP fW fD k c) ++ [(q, .inl (cI, 2, .inl (s2 (upd fW c x) (upd fD c y) c)))] = X ++ RT cI ra (upN rs c q) fB mM mP (upd fW c x) (upd fD c y) k (c + 1) := by
    unfold RT
    rw [← RS_push]
    simp only [List.append_assoc]
  rw [e] at hP1 hD1
  exact ⟨hP1, hD1⟩
end
section
/-! CORE 3 (p43): what holds of the market between two calls (out of whole's parts 20, 27, 31) -/
theorem inM_iff2 {k : Nat} {x : Int32} (hk : k ≤ 8) : ((0 : Int32).toInt ≤ x.toInt ∧ x.toInt ≤ (nI k - 1).toInt) ↔ inM k x := by
  rw [nI_subI (by omega) (by decide) (by decide), t_0]
  have e1 : (1 : Int32).toInt = 1 := rfl
  unfold inM
  omega
theorem ne0_of {x : Int64} (h : 0 < x.toInt) : ¬ x = 0 := fun q => by
  rw [q] at h
  exact absurd h (by decide)
theorem cancelI (x z : Int32) : x + z - x = z := by
  apply Int32.toBitVec_inj.1
  show x.toBitVec + z.toBitVec - x.toBitVec = z.toBitVec
  rw [BitVec.add_comm, BitVec.add_sub_cancel]
theorem bhN_of {fD : Nat → Int32} {i : Nat} (h : ¬ bhN fD i = -1) : ∃ j, j < i ∧ bhN fD i = nI j := by
  induction i with
  | zero => exact absurd rfl h
  | succ i ih =>
    by_cases q : bhN fD i = -1 ∨ (absI (fD i)).toInt < (absI (fD (bhN fD i).toNatClampNeg)).toInt
    · exact ⟨i, Nat.lt_succ_self i, ic_t q⟩
    · have e : bhN fD (i + 1) = bhN fD i := ic_f q
      rw [e] at h ⊢
      obtain ⟨j, hj, e2⟩ := ih h
      exact ⟨j, by omega, e2⟩
theorem bgN_of {fD : Nat → Int32} {i : Nat} (h : ¬ bgN fD i = -1) : ∃ j, j < i ∧ bgN fD i = nI j := by
  induction i with
  | zero => exact absurd rfl h
  | succ i ih =>
    by_cases q : bgN fD i = -1 ∨ (fD (bgN fD i).toNatClampNeg).toInt < (fD i).toInt
    · exact ⟨i, Nat.lt_succ_self i, ic_t q⟩
    · have e : bgN fD (i + 1) = bgN fD i := ic_f q
      rw [e] at h ⊢
      obtain ⟨j, hj, e2⟩ := ih h
      exact ⟨j, by omega, e2⟩
theorem tp_pos {x y : Int64} (hx : 0 < x.toInt ∧ x.toInt ≤ 4782969) (hy : 0 < y.toInt ∧ y.toInt ≤ 4782969) : 0 < (tp x y).toInt := by
  obtain ⟨u, hu, hu2, rfl⟩ := lN_of (b := 4782969) hx.1 hx.2
  obtain ⟨v, hv, hv2, rfl⟩ := lN_of (b := 4782969) hy.1 hy.2
  rw [tp_lN (by omega) (by omega)]
  have h1 : 0 < u / Nat.gcd u v := Nat.div_pos (Nat.gcd_le_left v hu) (Nat.gcd_pos_of_pos_left v hu)
  have h2 : u / Nat.gcd u v ≤ u := Nat.div_le_self _ _
  rw [pk_lT (by omega)]
  omega
theorem inR_nI {x : Int32} {lo hi : Int} (h : inR lo hi x) (h0 : 0 ≤ lo) (h2 : hi ≤ 100000) : ∃ n : Nat, lo ≤ n ∧ (n : Int) ≤ hi ∧ x = nI n := by
  obtain ⟨h1, h3⟩ := h
  obtain ⟨n, hn, rfl⟩ := nI_of (x := x) (by rw [Int32.lt_iff_toInt_lt, t_0]; omega)
  rw [nI_toInt hn] at h1 h3
  exact ⟨n, by omega, h3, rfl⟩
theorem gvn_tp {x y : Int64} {w d : Int32} (hx : 0 < x.toInt ∧ x.toInt ≤ 4782969) (hy : 0 < y.toInt ∧ y.toInt ≤ 4782969) (hw : inR 1 200 w) (hd : -300 ≤ d.toInt ∧ d.toInt ≤ 300) :
    w.toInt64 * tp x y * (1000 + d).toInt64 / tp y x = gvn x y w d := by
  obtain ⟨u, hu, hu2, rfl⟩ := lN_of (b := 4782969) hx.1 hx.2
  obtain ⟨v, hv, hv2, rfl⟩ := lN_of (b := 4782969) hy.1 hy.2
  obtain ⟨n, hn1, hn2, rfl⟩ := inR_nI hw (by decide) (by decide)
  have e1 : (1000 : Int32).toInt = 1000 := rfl
  have hq : inR 700 1300 (1000 + d) := by
    unfold inR
    rw [fb_addI (by omega) (by omega)]
    omega
  obtain ⟨q, hq1, hq2, eq⟩ := inR_nI hq (by decide) (by decide)
  unfold gvn
  rw [eq, tp_lN (by omega) (by omega), tp_lN (by omega) (by omega), nI_l (by omega), nI_l (by omega), Nat.gcd_comm v u]
  have hg : 0 < Nat.gcd u v := Nat.gcd_pos_of_pos_left v hu
  obtain ⟨u1, eu⟩ := Nat.gcd_dvd_left u v
  obtain ⟨v1, ev⟩ := Nat.gcd_dvd_right u v
  generalize Nat.gcd u v = g at hg eu ev ⊢
  subst eu ev
  rw [Nat.mul_div_cancel_left _ hg, Nat.mul_div_cancel_left _ hg]
  have hu1 : u1 ≤ g * u1 := Nat.le_mul_of_pos_left _ hg
  have hv1 : v1 ≤ g * v1 := Nat.le_mul_of_pos_left _ hg
  have hv0 : 0 < v1 := Nat.pos_of_mul_pos_left hv
  simp only [lN_mul]
  have b1 : n * u1 * q < 2 ^ 63 := by
    have h1 : n * u1 ≤ 200 * 4782969 := Nat.mul_le_mul (by omega) (by omega)
    have h2 : n * u1 * q ≤ 200 * 4782969 * 1300 := Nat.mul_le_mul h1 (by omega)
    omega
  have b2 : g * u1 * n * q < 2 ^ 63 := by
    have h1 : g * u1 * n ≤ 4782969 * 200 := Nat.mul_le_mul (by omega) (by omega)
    have h2 : g * u1 * n * q ≤ 4782969 * 200 * 1300 := Nat.mul_le_mul h1 (by omega)
    omega
  rw [pk_lDiv b1 hv0 (by omega), pk_lDiv b2 hv (by omega)]
  congr 1
  rw [show g * u1 * n * q = g * (n * u1 * q) by simp only [Nat.mul_assoc, Nat.mul_comm, Nat.mul_left_comm]]
  exact (Nat.mul_div_mul_left _ _ hg).symm
/-- a measure goes into so many of itself without a rest -/
theorem jrem_self {x : Int64} {w : Int32} (hx : 0 < x.toInt ∧ x.toInt ≤ 4782969) (hw : inR 1 200 w) : (jrem (x * w.toInt64) x).toInt = (0 : Int64).toInt := by
  obtain ⟨u, hu, hu2, rfl⟩ := lN_of (b := 4782969) hx.1 hx.2
  obtain ⟨n, hn1, hn2, rfl⟩ := inR_nI hw (by decide) (by decide)
  rw [nI_l (by omega), lN_mul]
  have h2 : u * n ≤ 4782969 * 200 := Nat.mul_le_mul (by omega) (by omega)
  show (lN (u * n) - lN (u * n) / lN u * lN u).toInt = _
  rw [pk_lRem (by omega) hu (by omega), Nat.mul_mod_right]
  rfl

/-! CORE 5: ranks and lengths, laid anew -/
noncomputable def insP (fL : Nat → Int64) (w : Int64) : Nat → (Nat → Int32) → Nat
  | 0, _ => 0
  | r + 1, o => ic ((fL (o r).toNatClampNeg).toInt < w.toInt) (insP fL w r o) (r + 1)
def insF (p : Nat) (v : Int32) (r : Nat) (o : Nat → Int32) : Nat → Int32 := fun j => if j < p then o j else if j = p then v else if j ≤ r then o (j - 1) else o j
theorem insP_le (fL : Nat → Int64) (w : Int64) (o : Nat → Int32) : ∀ r, insP fL w r o ≤ r := by
  intro r
  induction r with
  | zero => exact Nat.le_refl 0
  | succ r ih =>
    by_cases h : (fL (o r).toNatClampNeg).toInt < w.toInt
    · rw [insP, ic_t h]; omega
    · rw [insP, ic_f h]; exact Nat.le_refl _
theorem insP_congr {fL gL : Nat → Int64} {w w2 : Int64} {o o2 : Nat → Int32} : ∀ r, (∀ j, j < r → ((fL (o j).toNatClampNeg).toInt < w.toInt ↔ (gL (o2 j).toNatClampNeg).toInt < w2.toInt)) → insP fL w r o = insP gL w2 r o2 := by
  intro r
  induction r with
  | zero => intro _; rfl
  | succ r ih =>
    intro h
    have h1 := ih (fun j hj => h j (by omega))
    have h2 := h r (Nat.lt_succ_self r)
    by_cases q : (fL (o r).toNatClampNeg).toInt < w.toInt
    · rw [insP, insP, ic_t q, ic_t (h2.mp q), h1]
    · rw [insP, insP, ic_f q, ic_f (fun z => q (h2.mpr z))]
theorem insO_eq (fL : Nat → Int64) (w : Int64) (v : Int32) : ∀ r o, insO fL w v r o = insF (insP fL w r o) v r o := by
  intro r
  induction r with
  | zero =>
    intro o
    funext j
    show upd o 0 v j = insF 0 v 0 o j
    unfold upd insF
    by_cases h : j = 0
    · rw [if_pos h, if_neg (by omega), if_pos h]
    · rw [if_neg h, if_neg (by omega), if_neg h, if_neg (by omega)]
  | succ r ih =>
    intro o
    have hle := insP_le fL w o r
    by_cases h : (fL (o r).toNatClampNeg).toInt < w.toInt
    · rw [insO, ic_t h, insP, ic_t h, ih]
      have e : insP fL w r (upd o (r + 1) (o r)) = insP fL w r o := insP_congr r (fun j hj => by rw [show upd o (r + 1) (o r) j = o j from if_neg (by omega)])
      rw [e]
      funext j
      unfold insF
      by_cases h1 : j < insP fL w r o
      · rw [if_pos h1, if_pos h1]; exact if_neg (by omega)
      · rw [if_neg h1, if_neg h1]
        by_cases h2 : j = insP fL w r o
        · rw [if_pos h2, if_pos h2]
        · rw [if_neg h2, if_neg h2]
          by_cases h3 : j ≤ r
          · rw [if_pos h3, if_pos (by omega)]; exact if_neg (by omega)
          · rw [if_neg h3]
            by_cases h4 : j = r + 1
            · subst h4
              rw [if_pos (Nat.le_refl _)]
              exact if_pos rfl
            · rw [if_neg (by omega)]; exact if_neg h4
    · rw [insO, ic_f h, insP, ic_f h]
      funext j
      unfold upd insF
      by_cases h1 : j = r + 1
      · rw [if_pos h1, if_neg (by omega), if_pos h1]
      · rw [if_neg h1]
        by_cases h2 : j < r + 1
        · rw [if_pos h2]
        · rw [if_neg h2, if_neg h1, if_neg (by omega)]
noncomputable def srt (L : Nat → Int64) (o : Nat → Int32) : Nat → (Nat → Int32)
  | 0 => o
  | m + 1 => insO L (L m) (nI m) m (srt L o m)
theorem insF_in {p m : Nat} {o : Nat → Int32} (hm : m < 2 ^ 30) (hp : p ≤ m) (h : ∀ j, j < m → inM m (o j)) : ∀ j, j < m + 1 → inM (m + 1) (insF p (nI m) m o j) := by
  intro j hj
  unfold insF
  by_cases h1 : j < p
  · rw [if_pos h1]; exact inM_le (h j (by omega)) (by omega)
  · rw [if_neg h1]
    by_cases h2 : j = p
    · rw [if_pos h2]; exact inM_nI (Nat.lt_succ_self m) (by omega)
    · rw [if_neg h2, if_pos (by omega)]; exact inM_le (h (j - 1) (by omega)) (by omega)
theorem srtIn (L : Nat → Int64) (o : Nat → Int32) : ∀ m, m < 2 ^ 30 → ∀ j, j < m → inM m (srt L o m j) := by
  intro m
  induction m with
  | zero => intro _ j hj; omega
  | succ m ih =>
    intro hm j hj
    rw [srt, insO_eq]
    exact insF_in (by omega) (insP_le _ _ _ m) (ih (by omega)) j hj
theorem insF_congr {p m : Nat} {v : Int32} {o o2 : Nat → Int32} (hp : p ≤ m) (h : ∀ j, j < m → o j = o2 j) : ∀ j, j < m + 1 → insF p v m o j = insF p v m o2 j := by
  intro j hj
  unfold insF
  by_cases h1 : j < p
  · rw [if_pos h1, if_pos h1]; exact h j (by omega)
  · rw [if_neg h1, if_neg h1]
    by_cases h2 : j = p
    · rw [if_pos h2, if_pos h2]
    · rw [if_neg h2, if_neg h2, if_pos (by omega), if_pos (by omega)]; exact h (j - 1) (by omega)
theorem srt_congr {L L2 : Nat → Int64} {o o2 : Nat → Int32} {k : Nat} (hk : k < 2 ^ 30) (h : ∀ a b, a < k → b < k → ((L a).toInt < (L b).toInt ↔ (L2 a).toInt < (L2 b).toInt)) : ∀ m, m ≤ k → ∀ j, j < m → srt L o m j = srt L2 o2 m j := by
  intro m
  induction m with
  | zero => intro _ j hj; omega
  | succ m ih =>
    intro hm j hj
    have h1 := ih (by omega)
    rw [srt, srt, insO_eq, insO_eq]
    have e : insP L (L m) m (srt L o m) = insP L2 (L2 m) m (srt L2 o2 m) := insP_congr m (fun j hj => by
      rw [h1 j hj]
      have h2 := inM_clamp (srtIn L2 o2 m (by omega) j hj)
      exact h _ _ (by omega) (by omega))
    rw [e]
    exact insF_congr (insP_le _ _ _ m) h1 j hj
/-- the newest put into its rank: as if all were ranked anew -/
theorem srt_new {L : Nat → Int64} {o fO : Nat → Int32} {k : Nat} (h : ∀ j, j < k → fO j = srt L o k j) : ∀ j, j < k + 1 → insO L (L k) (nI k) k fO j = srt L o (k + 1) j := by
  intro j hj
  rw [srt, insO_eq, insO_eq]
  have e : insP L (L k) k fO = insP L (L k) k (srt L o k) := insP_congr k (fun j hj => by rw [h j hj])
  rw [e]
  exact insF_congr (insP_le _ _ _ k) h j hj
theorem MPm_ins {k p : Nat} {fO : Nat → Int32} (hk : k < 2 ^ 30) (hp : p ≤ k) (hin : ∀ i, i < k → inM k (fO i)) (h : MPm k fO) : MPm (k + 1) (insF p (nI k) k fO) := by
  have val : ∀ i, i < k + 1 → (i < p ∧ insF p (nI k) k fO i = fO i) ∨ (i = p ∧ insF p (nI k) k fO i = nI k) ∨ (p < i ∧ insF p (nI k) k fO i = fO (i - 1)) := by
    intro i hi
    unfold insF
    by_cases h1 : i < p
    · exact Or.inl ⟨h1, if_pos h1⟩
    · rw [if_neg h1]
      by_cases h2 : i = p
      · exact Or.inr (Or.inl ⟨h2, if_pos h2⟩)
      · exact Or.inr (Or.inr ⟨by omega, by rw [if_neg h2, if_pos (by omega)]⟩)
  have ne : ∀ i, i < k → fO i ≠ nI k := by
    intro i hi q
    have h1 := hin i hi
    rw [q] at h1
    have h2 := h1.2
    rw [nI_toInt (by omega)] at h2
    omega
  constructor
  · intro i j hi hj e
    rcases val i hi with ⟨a1, a2⟩ | ⟨a1, a2⟩ | ⟨a1, a2⟩ <;> rcases val j hj with ⟨b1, b2⟩ | ⟨b1, b2⟩ | ⟨b1, b2⟩ <;> rw [a2, b2] at e
    · exact h.1 i j (by omega) (by omega) e
    · exact absurd e (ne i (by omega))
    · have := h.1 i (j - 1) (by omega) (by omega) e; omega
    · exact absurd e.symm (ne j (by omega))
    · omega
    · exact absurd e.symm (ne (j - 1) (by omega))
    · have := h.1 (i - 1) j (by omega) (by omega) e; omega
    · exact absurd e (ne (i - 1) (by omega))
    · have := h.1 (i - 1) (j - 1) (by omega) (by omega) e; omega
  · intro x hx
    by_cases q : x = k
    · subst q
      refine ⟨p, by omega, ?_⟩
      rcases val p (by omega) with ⟨a1, a2⟩ | ⟨a1, a2⟩ | ⟨a1, a2⟩
      · omega
      · exact a2
      · omega
    · obtain ⟨i, hi, e⟩ := h.2 x (by omega)
      by_cases z : i < p
      · refine ⟨i, by omega, ?_⟩
        rcases val i (by omega) with ⟨a1, a2⟩ | ⟨a1, a2⟩ | ⟨a1, a2⟩
        · rw [a2, e]
        · omega
        · omega
      · refine ⟨i + 1, by omega, ?_⟩
        rcases val (i + 1) (by omega) with ⟨a1, a2⟩ | ⟨a1, a2⟩ | ⟨a1, a2⟩
        · omega
        · omega
        · rw [a2, Nat.add_sub_cancel, e]
/-- the product of the parts 1 .. n -/
def prN (p : Nat → Nat) : Nat → Nat
  | 0 => 1
  | n + 1 => prN p n * p (n + 1)
def laF (La : Nat → Nat) (g : Nat → Int64) (i : Nat) : Nat → Int64 := fun j => if j < i then lN (La j) else g j
theorem laF_s (La : Nat → Nat) (g : Nat → Int64) (i : Nat) : vp_updL (laF La g i) i (lN (La i)) = laF La g (i + 1) := by
  funext j
  simp only [vp_updL, laF]
  by_cases h : j = i
  · subst h; simp
  · by_cases h2 : j < i
    · rw [if_neg h, if_pos h2, if_pos (by omega)]
    · rw [if_neg h, if_neg h2, if_neg (by omega)]
theorem laF_1 (La : Nat → Nat) (g : Nat → Int64) : vp_updL g 0 (lN (La 0)) = laF La g 1 := by
  have h := laF_s La g 0
  rw [show laF La g 0 = g from by funext j; simp [laF]] at h
  exact h
theorem xv_eqJ {cA : ClassId} {n : Nat} {f g : Nat → Int64} (h : ∀ j, j < n → f j = g j) : vp_cell cA (n, .inr (.inl f)) = vp_cell cA (n, .inr (.inl g)) := by
  rw [vp_cell_l, vp_cell_l]
  unfold arrV
  congr 2
  funext j
  exact congrArg Value.long (h j.val j.isLt)
theorem va_P.toJ {D : va_G} {cl : List vw_C} {ws : va_W} {H : Heap} {a n : Nat} {cA : ClassId} {f g : Nat → Int64} (hP : va_P D cl ws H) (q : Nat) (ha : ws[q]? = some (a, .inl (cA, n, .inr (.inl f)))) (h : ∀ j, j < n → f j = g j) : va_P D cl (ws.set q (a, .inl (cA, n, .inr (.inl g)))) H := by
  have hl := (List.getElem?_eq_some_iff.mp ha).1
  intro k z hk
  by_cases hkq : k = q
  · subst hkq
    rw [List.getElem?_set_self hl] at hk
    cases hk
    have h1 := hP k _ ha
    show H[a]? = some (vp_cell cA (n, .inr (.inl g)))
    rw [← xv_eqJ h]
    exact h1
  · rw [List.getElem?_set_ne (Ne.symm hkq)] at hk
    exact hP k z hk

def LayOk (k : Nat) (B M Pa : Nat → Int32) (La pp uu bb : Nat → Nat) : Prop := (∀ j, j < k → 0 < La j ∧ La j < 2 ^ 40) ∧ prN pp (k - 1) = La 0 ∧ ∀ j, 0 < j → j < k → Pa j = nI (pp j) ∧ M j = nI (uu j) ∧ B j = nI (bb j) ∧ bb j < j ∧ 0 < pp j ∧ pp j ≤ 9 ∧ uu j ≤ 9 ∧ La (bb j) / pp j * uu j = La j
/-! CORE 7: what holds between two calls -/
def LenOk (k : Nat) (fB mM mP : Nat → Int32) (fL : Nat → Int64) (La pp uu bb : Nat → Nat) : Prop :=
  (∀ j, j < k → fL j = lN (La j) ∧ 0 < La j ∧ La j ≤ 9 ^ (k - 1)) ∧ prN pp (k - 1) = La 0 ∧
  ∀ j, 0 < j → j < k → mP j = nI (pp j) ∧ mM j = nI (uu j) ∧ fB j = nI (bb j) ∧ bb j < j ∧ 0 < pp j ∧ pp j ≤ 9 ∧ 0 < uu j ∧ uu j ≤ 9 ∧ pp j ∣ La (bb j) ∧ La (bb j) / pp j * uu j = La j
def StOk (k : Nat) (fB fS : Nat → Int32) (g : Nat → Nat) : Prop := g 0 = 0 ∧ (∀ j, 0 < j → j < k → ∃ q, q < j ∧ fB j = nI q ∧ g j = g q + 1) ∧ ∀ j, j < k → fS j = nI (g j)
def LI (k st : Nat) (fB fS fO : Nat → Int32) (fL : Nat → Int64) (c : Nat) (t : Int32) (fD mM mP : Nat → Int32) : Prop :=
  MOk k fL fO ∧ st < k ∧ MPm k fO ∧ c ≤ 6 ∧ 0 ≤ t.toInt ∧ (∀ j, j < c → -300 ≤ (fD j).toInt ∧ (fD j).toInt ≤ 300) ∧ (∀ j, c ≤ j → j < 6 → fD j = 0) ∧
  (∃ La pp uu bb, LenOk k fB mM mP fL La pp uu bb) ∧ (∃ g, StOk k fB fS g) ∧ ∀ j, j < k → fO j = srt fL (fun _ => 0) k j
theorem p9 {k : Nat} (h : k ≤ 8) : 9 ^ (k - 1) ≤ 4782969 := by
  have h1 : 9 ^ (k - 1) ≤ 9 ^ 7 := Nat.pow_le_pow_right (by decide) (by omega)
  exact Nat.le_trans h1 (by decide)
theorem LenOk.lay {k : Nat} {fB mM mP : Nat → Int32} {fL : Nat → Int64} {La pp uu bb : Nat → Nat} (hk : k ≤ 8) (h : LenOk k fB mM mP fL La pp uu bb) : LayOk k fB mM mP La pp uu bb := by
  obtain ⟨h1, h2, h3⟩ := h
  have h9 := p9 hk
  refine ⟨fun j hj => ⟨(h1 j hj).2.1, ?_⟩, h2, fun j h0 hj => ?_⟩
  · have := (h1 j hj).2.2
    omega
  · obtain ⟨a1, a2, a3, a4, a5, a6, a7, a8, a9, b1⟩ := h3 j h0 hj
    exact ⟨a1, a2, a3, a4, a5, a6, a8, b1⟩
theorem prN_congr {p q : Nat → Nat} : ∀ n, (∀ j, 0 < j → j ≤ n → p j = q j) → prN p n = prN q n := by
  intro n
  induction n with
  | zero => intro _; rfl
  | succ n ih =>
    intro h
    show prN p n * p (n + 1) = prN q n * q (n + 1)
    rw [ih (fun j h0 hj => h j h0 (by omega)), h (n + 1) (by omega) (Nat.le_refl _)]
/-- the lengths when a measure is new -/
def nwL (fL : Nat → Int64) (k jx : Nat) (u q : Int32) : Nat → Int64 := vp_updL (rfU fL q.toInt64 k) k (fL jx * u.toInt64)
def nwA (La : Nat → Nat) (k jx un qn : Nat) : Nat → Nat := fun j => if j < k then La j * qn else La jx * un
def nwP (pp : Nat → Nat) (k q : Nat) : Nat → Nat := fun j => if j = k then q else pp j
theorem nwL_at {k : Nat} {fB mM mP : Nat → Int32} {fL : Nat → Int64} {La pp uu bb : Nat → Nat} {jx un qn : Nat} (h : LenOk k fB mM mP fL La pp uu bb) (hj : jx < k) (hu : un ≤ 9) (hq : qn ≤ 9) : ∀ j, j < k + 1 → nwL fL k jx (nI un) (nI qn) j = lN (nwA La k jx un qn j) := by
  intro j hjk
  unfold nwL nwA vp_updL rfU
  by_cases h1 : j = k
  · subst h1
    rw [if_pos rfl, if_neg (Nat.lt_irrefl _), (h.1 jx hj).1, nI_l (by omega), lN_mul]
  · rw [if_neg h1, if_pos (by omega), if_pos (by omega), (h.1 j (by omega)).1, nI_l (by omega), lN_mul]
theorem LenOk_new {k : Nat} {fB mM mP : Nat → Int32} {fL : Nat → Int64} {La pp uu bb : Nat → Nat} {jx un qn : Nat} (hk1 : 1 ≤ k) (h : LenOk k fB mM mP fL La pp uu bb) (hj : jx < k) (hu0 : 1 ≤ un) (hu : un ≤ 9) (hq0 : 1 ≤ qn) (hq : qn ≤ 9) :
    LenOk (k + 1) (upd fB k (nI jx)) (upd mM k (nI un)) (upd mP k (nI qn)) (nwL fL k jx (nI un) (nI qn)) (nwA La k jx un qn) (nwP pp k qn) (nwP uu k un) (nwP bb k jx) := by
  obtain ⟨h1, h2, h3⟩ := h
  obtain ⟨n, rfl⟩ : ∃ n, k = n + 1 := ⟨k - 1, by omega⟩
  have hA : ∀ i, i < n + 1 → nwA La (n + 1) jx un qn i = La i * qn := fun i hi => if_pos hi
  have hB : nwA La (n + 1) jx un qn (n + 1) = La jx * un := if_neg (Nat.lt_irrefl _)
  have e9 : 9 ^ (n + 1 - 1) * 9 = 9 ^ (n + 1 + 1 - 1) := by rw [Nat.add_sub_cancel, Nat.add_sub_cancel, Nat.pow_succ]
  refine ⟨fun j hjk => ⟨nwL_at ⟨h1, h2, h3⟩ hj hu hq j hjk, ?_⟩, ?_, ?_⟩
  · by_cases q : j = n + 1
    · subst q
      rw [hB]
      obtain ⟨-, a, b⟩ := h1 jx hj
      refine ⟨Nat.mul_pos a hu0, ?_⟩
      rw [← e9]
      exact Nat.mul_le_mul b hu
    · rw [hA j (by omega)]
      obtain ⟨-, a, b⟩ := h1 j (by omega)
      refine ⟨Nat.mul_pos a hq0, ?_⟩
      rw [← e9]
      exact Nat.mul_le_mul b hq
  · show prN (nwP pp (n + 1) qn) n * nwP pp (n + 1) qn (n + 1) = _
    rw [hA 0 (by omega), ← h2, show nwP pp (n + 1) qn (n + 1) = qn from if_pos rfl, Nat.add_sub_cancel]
    rw [prN_congr (p := nwP pp (n + 1) qn) (q := pp) n (fun j _ hj => (if_neg (by omega) : nwP pp (n + 1) qn j = pp j))]
  · intro j h0 hjk
    by_cases q : j = n + 1
    · subst q
      have e : ∀ f : Nat → Nat, ∀ z, nwP f (n + 1) z (n + 1) = z := fun f z => if_pos rfl
      rw [e, e, e, hA jx hj, hB]
      exact ⟨if_pos rfl, if_pos rfl, if_pos rfl, hj, hq0, hq, hu0, hu, Nat.dvd_mul_left qn (La jx), by rw [Nat.mul_div_cancel _ hq0]⟩
    · obtain ⟨a1, a2, a3, a4, a5, a6, a7, a8, a9, b1⟩ := h3 j h0 (by omega)
      have e : ∀ f : Nat → Nat, ∀ z, nwP f (n + 1) z j = f j := fun f z => if_neg q
      have e2 : ∀ f : Nat → Int32, ∀ z, upd f (n + 1) z j = f j := fun f z => if_neg q
      rw [e, e, e, e2, e2, e2, hA (bb j) (by omega), hA j (by omega)]
      refine ⟨a1, a2, a3, a4, a5, a6, a7, a8, Nat.dvd_trans a9 (Nat.dvd_mul_right _ _), ?_⟩
      obtain ⟨z, ez⟩ := a9
      rw [ez, Nat.mul_div_cancel_left _ a5] at b1
      rw [ez, Nat.mul_assoc, Nat.mul_div_cancel_left _ a5, ← b1]
      simp only [Nat.mul_assoc, Nat.mul_comm, Nat.mul_left_comm]
theorem StOk_new {k : Nat} {fB fS : Nat → Int32} {g : Nat → Nat} {jx : Nat} (hk1 : 1 ≤ k) (h : StOk k fB fS g) (hj : jx < k) : StOk (k + 1) (upd fB k (nI jx)) (upd fS k (fS jx + 1)) (nwP g k (g jx + 1)) := by
  obtain ⟨h0, h1, h2⟩ := h
  refine ⟨?_, ?_, ?_⟩
  · show nwP g k (g jx + 1) 0 = 0
    rw [nwP, if_neg (by omega)]; exact h0
  · intro j hj0 hjk
    by_cases q : j = k
    · subst q
      refine ⟨jx, hj, if_pos rfl, ?_⟩
      rw [show nwP g j (g jx + 1) j = g jx + 1 from if_pos rfl, show nwP g j (g jx + 1) jx = g jx from if_neg (by omega)]
    · obtain ⟨b, hb, e1, e2⟩ := h1 j hj0 (by omega)
      refine ⟨b, hb, (if_neg q).trans e1, ?_⟩
      rw [show nwP g k (g jx + 1) j = g j from if_neg q, show nwP g k (g jx + 1) b = g b from if_neg (by omega)]; exact e2
  · intro j hjk
    by_cases q : j = k
    · subst q
      rw [nwP, if_pos rfl, show upd fS j (fS jx + 1) j = fS jx + 1 from if_pos rfl, h2 jx hj]; exact nI_1 _
    · rw [nwP, if_neg q, show upd fS k (fS jx + 1) j = fS j from if_neg q]; exact h2 j (by omega)
theorem nwL_cmp {k : Nat} {fB mM mP : Nat → Int32} {fL : Nat → Int64} {La pp uu bb : Nat → Nat} {jx un qn : Nat} (hk : k ≤ 8) (h : LenOk k fB mM mP fL La pp uu bb) (hj : jx < k) (hu : un ≤ 9) (hq0 : 1 ≤ qn) (hq : qn ≤ 9) :
    ∀ a b, a < k → b < k → ((nwL fL k jx (nI un) (nI qn) a).toInt < (nwL fL k jx (nI un) (nI qn) b).toInt ↔ (fL a).toInt < (fL b).toInt) := by
  intro a b ha hb
  have h9 := p9 hk
  have ba := (h.1 a ha).2.2
  have bb' := (h.1 b hb).2.2
  have ma : La a * qn ≤ 4782969 * 9 := Nat.mul_le_mul (by omega) hq
  have mb : La b * qn ≤ 4782969 * 9 := Nat.mul_le_mul (by omega) hq
  rw [nwL_at h hj hu hq a (by omega), nwL_at h hj hu hq b (by omega), (h.1 a ha).1, (h.1 b hb).1, show nwA La k jx un qn a = La a * qn from if_pos ha, show nwA La k jx un qn b = La b * qn from if_pos hb,
    pk_lT (by omega), pk_lT (by omega), pk_lT (by omega), pk_lT (by omega)]
  constructor
  · intro z
    have z2 : La a * qn < La b * qn := by omega
    have z3 := Nat.lt_of_mul_lt_mul_right z2
    omega
  · intro z
    have z2 : La a < La b := by omega
    have z3 := (Nat.mul_lt_mul_right (show 0 < qn from hq0)).mpr z2
    omega
theorem srt_out (L : Nat → Int64) (o : Nat → Int32) : ∀ m j, m ≤ j → srt L o m j = o j := by
  intro m
  induction m with
  | zero => intro j _; rfl
  | succ m ih =>
    intro j hj
    have hp := insP_le L (L m) (srt L o m) m
    rw [srt, insO_eq, insF, if_neg (by omega), if_neg (by omega), if_neg (by omega)]
    exact ih j (by omega)
/-- the order of the reference is the class's -/
theorem ord_tie {k : Nat} {fB mM mP fO : Nat → Int32} {fL : Nat → Int64} {La pp uu bb : Nat → Nat} {jx un qn : Nat} (hk : k ≤ 8) (h : LenOk k fB mM mP fL La pp uu bb) (hj : jx < k) (hu : un ≤ 9) (hq0 : 1 ≤ qn) (hq : qn ≤ 9) (hO : ∀ j, j < k → fO j = srt fL (fun _ => 0) k j) :
    ∀ j, srt (laF (nwA La k jx un qn) fL (k + 1)) fO (k + 1) j = insO (nwL fL k jx (nI un) (nI qn)) (nwL fL k jx (nI un) (nI qn) k) (nI k) k fO j := by
  intro j
  by_cases hjk : j < k + 1
  · have h1 : ∀ i, i < k → fO i = srt (nwL fL k jx (nI un) (nI qn)) fO k i := fun i hi => (hO i hi).trans ((srt_congr (by omega) (nwL_cmp hk h hj hu hq0 hq) k (Nat.le_refl k) i hi).symm)
    rw [srt_new h1 j hjk]
    refine srt_congr (k := k + 1) (by omega) (fun a b ha hb => ?_) (k + 1) (Nat.le_refl _) j hjk
    rw [nwL_at h hj hu hq a ha, nwL_at h hj hu hq b hb, show laF (nwA La k jx un qn) fL (k + 1) a = lN (nwA La k jx un qn a) from if_pos ha, show laF (nwA La k jx un qn) fL (k + 1) b = lN (nwA La k jx un qn b) from if_pos hb]
  · rw [srt_out _ _ (k + 1) j (by omega), insO_eq, insF]
    have hp := insP_le (nwL fL k jx (nI un) (nI qn)) (nwL fL k jx (nI un) (nI qn) k) fO k
    rw [if_neg (by omega), if_neg (by omega), if_neg (by omega)]
theorem len_tie {k : Nat} {fB mM mP : Nat → Int32} {fL : Nat → Int64} {La pp uu bb : Nat → Nat} {jx un qn : Nat} (h : LenOk k fB mM mP fL La pp uu bb) (hj : jx < k) (hu : un ≤ 9) (hq : qn ≤ 9) : ∀ j, laF (nwA La k jx un qn) fL (k + 1) j = nwL fL k jx (nI un) (nI qn) j := by
  intro j
  by_cases hjk : j < k + 1
  · rw [nwL_at h hj hu hq j hjk]; exact if_pos hjk
  · unfold laF nwL vp_updL rfU
    rw [if_neg hjk, if_neg (by omega), if_neg (by omega)]
theorem LI_new {k st : Nat} {fB fS fO : Nat → Int32} {fL : Nat → Int64} {c : Nat} {t : Int32} {fD mM mP : Nat → Int32} {jx un qn : Nat} (h : LI k st fB fS fO fL c t fD mM mP) (hj : jx < k) (hk8 : k < 8) (hu0 : 1 ≤ un) (hu : un ≤ 9) (hq0 : 1 ≤ qn) (hq : qn ≤ 9) :
    LI (k + 1) st (upd fB k (nI jx)) (upd fS k (fS jx + 1)) (insO (nwL fL k jx (nI un) (nI qn)) (nwL fL k jx (nI un) (nI qn) k) (nI k) k fO) (nwL fL k jx (nI un) (nI qn)) c t fD (upd mM k (nI un)) (upd mP k (nI qn)) := by
  obtain ⟨hM, hst, hQ, hc, ht, hD, hDz, ⟨La, pp, uu, bb, hL⟩, ⟨g, hg⟩, hO⟩ := h
  have hL2 := LenOk_new hM.1 hL hj hu0 hu hq0 hq
  have h9 := p9 (k := k + 1) (by omega)
  refine ⟨⟨by omega, by omega, fun j hj => ?_, fun i hi => ?_⟩, by omega, ?_, hc, ht, hD, hDz, ⟨_, _, _, _, hL2⟩, ⟨_, StOk_new hM.1 hg hj⟩, ?_⟩
  · obtain ⟨a1, a2, a3⟩ := hL2.1 j hj
    rw [a1, pk_lT (by omega)]
    omega
  · rw [insO_eq]
    exact insF_in (by omega) (insP_le _ _ _ k) hM.2.2.2 i hi
  · rw [insO_eq]
    exact MPm_ins (by omega) (insP_le _ _ _ k) hM.2.2.2 hQ
  · refine srt_new (fun i hi => ?_)
    rw [hO i hi]
    exact (srt_congr (by omega) (nwL_cmp (by omega) hL hj hu hq0 hq) k (Nat.le_refl k) i hi).symm
theorem hld_r (x : Int32) : -300 ≤ (hld x).toInt ∧ (hld x).toInt ≤ 300 := by
  have e1 : (300 : Int32).toInt = 300 := rfl
  have e2 : (-300 : Int32).toInt = -300 := rfl
  unfold hld
  split <;> rename_i h1 <;> (try split at h1) <;> (try split) <;> simp only [Int32.lt_iff_toInt_lt] at * <;> omega
theorem hdD_r {fW fD : Nat → Int32} {c : Nat} : ∀ j, j < c → -300 ≤ (hdD fW fD c j).toInt ∧ (hdD fW fD c j).toInt ≤ 300 := fun j hj => by
  rw [hdD, if_pos hj]; exact hld_r _
theorem hdD_z {fW fD : Nat → Int32} {c : Nat} (h : ∀ j, c ≤ j → j < 6 → fD j = 0) : ∀ j, c ≤ j → j < 6 → hdD fW fD c j = 0 := fun j h1 h2 => by
  rw [hdD, if_neg (by omega)]; exact h j h1 h2
theorem dDr_r {c : Nat} {t : Int32} {y : Nat} {fW fD : Nat → Int32} : ∀ j, j < c → -300 ≤ (dDr c t y fW fD j).toInt ∧ (dDr c t y fW fD j).toInt ≤ 300 := fun j hj => by
  unfold dDr
  by_cases q : dNo c y t (hdD fW fD c)
  · rw [ic_t q]; exact hdD_r j hj
  · rw [ic_f q]
    unfold upd
    split
    · exact ⟨by decide, by decide⟩
    · exact hdD_r j hj
theorem dDr_z {c : Nat} {t : Int32} {y : Nat} {fW fD : Nat → Int32} (h : ∀ j, c ≤ j → j < 6 → fD j = 0) : ∀ j, c ≤ j → j < 6 → dDr c t y fW fD j = 0 := fun j h1 h2 => by
  unfold dDr
  by_cases q : dNo c y t (hdD fW fD c)
  · rw [ic_t q]; exact hdD_z h j h1 h2
  · rw [ic_f q]
    unfold upd
    split
    · rfl
    · exact hdD_z h j h1 h2
theorem dIt_r {c : Nat} {t : Int32} {y : Nat} {fW fD : Nat → Int32} (h : ∀ j, j < c → -300 ≤ (fD j).toInt ∧ (fD j).toInt ≤ 300) : ∀ n, ∀ j, j < c → -300 ≤ (dIt c t y fW fD n j).toInt ∧ (dIt c t y fW fD n j).toInt ≤ 300
  | 0 => h
  | _ + 1 => dDr_r
theorem dIt_z {c : Nat} {t : Int32} {y : Nat} {fW fD : Nat → Int32} (h : ∀ j, c ≤ j → j < 6 → fD j = 0) : ∀ n, ∀ j, c ≤ j → j < 6 → dIt c t y fW fD n j = 0
  | 0 => h
  | n + 1 => dDr_z (dIt_z h n)
section LIS
variable {k st : Nat} {fB fS fO : Nat → Int32} {fL : Nat → Int64} {c : Nat} {t : Int32} {fD mM mP : Nat → Int32}
theorem LI.std (h : LI k st fB fS fO fL c t fD mM mP) {j : Nat} (hj : j < k) : LI k j fB fS fO fL c t fD mM mP := ⟨h.1, hj, h.2.2⟩
theorem LI.tol (h : LI k st fB fS fO fL c t fD mM mP) {x : Int32} (hx : inR 0 100 x) : LI k st fB fS fO fL c x fD mM mP := ⟨h.1, h.2.1, h.2.2.1, h.2.2.2.1, hx.1, h.2.2.2.2.2⟩
theorem LI.days (h : LI k st fB fS fO fL c t fD mM mP) (y : Nat) (fW : Nat → Int32) (n : Nat) : LI k st fB fS fO fL c t (dIt c t y fW fD n) mM mP := ⟨h.1, h.2.1, h.2.2.1, h.2.2.2.1, h.2.2.2.2.1, dIt_r h.2.2.2.2.2.1 n, dIt_z h.2.2.2.2.2.2.1 n, h.2.2.2.2.2.2.2⟩
theorem LI.sealed (h : LI k st fB fS fO fL c t fD mM mP) (v : Nat) : LI k st fB fS fO fL c t (upd fD v 0) mM mP := by
  refine ⟨h.1, h.2.1, h.2.2.1, h.2.2.2.1, h.2.2.2.2.1, fun j hj => ?_, fun j h1 h2 => ?_, h.2.2.2.2.2.2.2⟩
  · unfold upd
    split
    · exact ⟨by decide, by decide⟩
    · exact h.2.2.2.2.2.1 j hj
  · unfold upd
    split
    · rfl
    · exact h.2.2.2.2.2.2.1 j h1 h2
theorem LI.stall (h : LI k st fB fS fO fL c t fD mM mP) (hc : c < 6) : LI k st fB fS fO fL (c + 1) t (upd fD c 0) mM mP := by
  refine ⟨h.1, h.2.1, h.2.2.1, by omega, h.2.2.2.2.1, fun j hj => ?_, fun j h1 h2 => ?_, h.2.2.2.2.2.2.2⟩
  · unfold upd
    split
    · exact ⟨by decide, by decide⟩
    · exact h.2.2.2.2.2.1 j (by omega)
  · unfold upd
    split
    · rfl
    · exact h.2.2.2.2.2.2.1 j (by omega) h2
end LIS
/-- a new object -/
theorem LI_0 : LI 1 0 (upd (fun _ => (0 : Int32)) 0 (-1)) (fun _ => 0) (fun _ => 0) (vp_updL (fun _ => (0 : Int64)) 0 1) 0 10 (fun _ => 0) (fun _ => 0) (fun _ => 0) := by
  refine ⟨⟨Nat.le_refl _, by decide, fun j hj => ?_, fun i hi => ?_⟩, by decide, ⟨fun i j hi hj _ => by omega, fun x hx => ⟨0, by decide, ?_⟩⟩, by decide, by decide, fun j hj => by omega, fun j _ _ => rfl,
    ⟨fun _ => 1, fun _ => 1, fun _ => 1, fun _ => 0, fun j hj => ?_, rfl, fun j h0 hj => by omega⟩, ⟨fun _ => 0, rfl, fun j h0 hj => by omega, fun j hj => rfl⟩, fun j hj => ?_⟩
  · have e : j = 0 := by omega
    subst e
    exact ⟨by decide, by decide⟩
  · show inM 1 (0 : Int32)
    exact ⟨by decide, by decide⟩
  · have e : x = 0 := by omega
    subst e
    rfl
  · have e : j = 0 := by omega
    subst e
    exact ⟨rfl, by decide, by decide⟩
  · have e : j = 0 := by omega
    subst e
    rfl
end
section
/-! CORE 4 (p43): fractions, orders, days -/
/-- Euclid's steps end within d calls -/
def Dv : Nat → Nat → Nat → Prop
  | 0, _, v => v = 0 ∧ False
  | d + 1, u, v => v = 0 ∨ Dv d v (u % v)
theorem Dv_of : ∀ (d u v : Nat), v < u → u * v < 2 ^ d → Dv (d + 1) u v := by
  intro d
  induction d with
  | zero =>
    intro u v h1 h2
    refine Or.inl ?_
    rcases Nat.eq_zero_or_pos v with h | h
    · exact h
    · have h3 : 1 ≤ u * v := Nat.mul_pos (by omega) h
      have h4 : (2 : Nat) ^ 0 = 1 := rfl
      omega
  | succ d ih =>
    intro u v h1 h2
    rcases Nat.eq_zero_or_pos v with h | h
    · exact Or.inl h
    · refine Or.inr (ih v (u % v) (Nat.mod_lt _ h) ?_)
      have h3 : 2 * (u % v) ≤ u := by
        have h5 := Nat.div_add_mod u v
        have h6 : 1 ≤ u / v := (Nat.le_div_iff_mul_le h).mpr (by omega)
        have h7 : v * 1 ≤ v * (u / v) := Nat.mul_le_mul_left v h6
        have h8 := Nat.mod_lt u h
        omega
      have h4 : v * (2 * (u % v)) ≤ v * u := Nat.mul_le_mul_left v h3
      rw [Nat.mul_comm v u, Nat.mul_left_comm] at h4
      rw [Nat.pow_succ] at h2
      omega
theorem Dv_all {u v : Nat} (hu : u < 2 ^ 45) (hv : v < 2 ^ 45) : Dv 92 u v := by
  rcases Nat.eq_zero_or_pos v with h | h
  · exact Or.inl h
  · refine Or.inr (Dv_of 90 v (u % v) (Nat.mod_lt _ h) ?_)
    have h1 := Nat.mod_lt u h
    have h3 : v * (u % v) < 2 ^ 45 * 2 ^ 45 := Nat.mul_lt_mul'' hv (by omega)
    rw [← Nat.pow_add] at h3
    exact h3
/-- the long's fraction -/
theorem frac_eq {a b c d : Nat} (ha : 0 < a) (hc : 0 < c) (h : a * d = b * c) : a / Nat.gcd a b = c / Nat.gcd c d := by
  have hg : 0 < Nat.gcd a b := Nat.gcd_pos_of_pos_left b ha
  have hh : 0 < Nat.gcd c d := Nat.gcd_pos_of_pos_left d hc
  have h1 : Nat.gcd a b * c = a * Nat.gcd c d := by
    rw [← Nat.gcd_mul_right, ← Nat.gcd_mul_left, h]
  obtain ⟨x, hx⟩ := Nat.gcd_dvd_left a b
  have e1 : a / Nat.gcd a b = x := by
    rw [Nat.div_eq_of_eq_mul_right hg hx]
  have h2 : Nat.gcd a b * c = Nat.gcd a b * (x * Nat.gcd c d) := by
    rw [h1, ← Nat.mul_assoc, ← hx]
  have h3 : c = x * Nat.gcd c d := Nat.eq_of_mul_eq_mul_left hg h2
  rw [e1]
  exact (Nat.div_eq_of_eq_mul_left hh h3).symm
theorem tp_of {a b c d : Nat} (ha : 0 < a) (hc : 0 < c) (hd : 0 < d) (hc2 : c ≤ 4782969) (hd2 : d ≤ 4782969) (h : a * d = b * c) (hb : 0 < b) : lN (a / Nat.gcd a b) = tp (lN c) (lN d) ∧ lN (b / Nat.gcd a b) = tp (lN d) (lN c) := by
  rw [tp_lN (by omega) (by omega), tp_lN (by omega) (by omega)]
  refine ⟨by rw [frac_eq ha hc h], ?_⟩
  rw [Nat.gcd_comm a b, frac_eq hb hd h.symm]
/-- one fraction's top is above its bottom just if the number is above the other -/
theorem tp_lt {x y : Int64} (hx : 0 < x.toInt ∧ x.toInt ≤ 4782969) (hy : 0 < y.toInt ∧ y.toInt ≤ 4782969) : ((tp y x).toInt < (tp x y).toInt ↔ y.toInt < x.toInt) := by
  obtain ⟨u, hu, hu2, rfl⟩ := lN_of (b := 4782969) hx.1 hx.2
  obtain ⟨v, hv, hv2, rfl⟩ := lN_of (b := 4782969) hy.1 hy.2
  rw [tp_lN (by omega) (by omega), tp_lN (by omega) (by omega), Nat.gcd_comm v u]
  have hg : 0 < Nat.gcd u v := Nat.gcd_pos_of_pos_left v hu
  obtain ⟨u1, eu⟩ := Nat.gcd_dvd_left u v
  obtain ⟨v1, ev⟩ := Nat.gcd_dvd_right u v
  generalize Nat.gcd u v = g at hg eu ev ⊢
  subst eu ev
  rw [Nat.mul_div_cancel_left _ hg, Nat.mul_div_cancel_left _ hg]
  have hu1 : u1 ≤ g * u1 := Nat.le_mul_of_pos_left _ hg
  have hv1 : v1 ≤ g * v1 := Nat.le_mul_of_pos_left _ hg
  rw [pk_lT (by omega), pk_lT (by omega), pk_lT (by omega), pk_lT (by omega)]
  have h9 : g * v1 < g * u1 ↔ v1 < u1 := Nat.mul_lt_mul_left hg
  omega
/-- an array of two longs, of rows as far as they are copied -/
def rt2 (a b : Int64) : Nat → Int64 := fun j => if j = 0 then a else b
theorem rt2_of (a b : Int64) : ∀ j, j < 2 → vp_updL (vp_updL (fun _ => (0 : Int64)) 0 a) 1 b j = rt2 a b j := by
  intro j hj
  match j, hj with
  | 0, _ => rfl
  | 1, _ => rfl
  | j + 2, h => exact absurd h (by omega)
def cpQ (g : Nat → Nat) (i : Nat) : Nat → Option Nat := fun j => if j < i then some (g j) else none
theorem cpQ_0 (g : Nat → Nat) : cpQ g 0 = fun _ => none := by funext j; simp [cpQ]
theorem cpQ_s (g : Nat → Nat) (i : Nat) : va_up (cpQ g i) i (some (g i)) = cpQ g (i + 1) := by
  funext j
  unfold va_up cpQ
  by_cases h : j = i
  · subst h; simp
  · by_cases h2 : j < i
    · rw [if_neg h, if_pos h2, if_pos (by omega)]
    · rw [if_neg h, if_neg h2, if_neg (by omega)]
theorem cpQ_e (g : Nat → Nat) (n v : Nat) : ∀ j, j < n + 1 → va_up (cpQ g n) n (some v) j = fr (upN g n v) j := by
  intro j hj
  unfold va_up cpQ fr upN
  by_cases h : j = n
  · rw [if_pos h, if_pos h]
  · rw [if_neg h, if_neg h, if_pos (by omega)]
theorem s2_0 {fW fD : Nat → Int32} (i : Nat) (x : Int32) : upd (s2 fW fD i) 0 x = s2 (upd fW i x) fD i := s2_w i x
theorem s2_1 {fW fD : Nat → Int32} (i : Nat) (x : Int32) : upd (s2 fW fD i) 1 x = s2 fW (upd fD i x) i := s2_v i x
theorem ui_ui (f : Nat → Int32) (i : Nat) (x y : Int32) : upd (upd f i x) i y = upd f i y := by
  funext j
  unfold upd
  by_cases h : j = i
  · rw [if_pos h, if_pos h]
  · rw [if_neg h, if_neg h, if_neg h]
/-- a drift that goes by, held -/
theorem hz_0 {x : Int32} (h1 : x.toInt ≤ 300) (h2 : -300 ≤ x.toInt) : hld x = x := by
  unfold hld
  have e1 : (300 : Int32).toInt = 300 := rfl
  have e2 : (-300 : Int32).toInt = -300 := rfl
  by_cases h : x < 300
  · rw [if_pos h]
    by_cases h3 : (-300) < x
    · rw [if_pos h3]
    · rw [if_neg h3]
      rw [Int32.lt_iff_toInt_lt, e2] at h3
      exact Int32.toInt_inj.mp (by omega)
  · rw [if_neg h, if_pos (by decide)]
    rw [Int32.lt_iff_toInt_lt, e1] at h
    exact Int32.toInt_inj.mp (by omega)
theorem hz_1 {x : Int32} (h1 : 300 < x.toInt) : hld x = 300 := by
  unfold hld
  have e1 : (300 : Int32).toInt = 300 := rfl
  have h : ¬ x < 300 := by rw [Int32.lt_iff_toInt_lt, e1]; omega
  rw [if_neg h, if_pos (by decide)]
theorem hz_2 {x : Int32} (h1 : x.toInt < -300) : hld x = -300 := by
  unfold hld
  have e1 : (300 : Int32).toInt = 300 := rfl
  have e2 : (-300 : Int32).toInt = -300 := rfl
  have h : x < 300 := by rw [Int32.lt_iff_toInt_lt, e1]; omega
  have h3 : ¬ (-300) < x := by rw [Int32.lt_iff_toInt_lt, e2]; omega
  rw [if_pos h, if_neg h3]
/-- honest, said by two bounds -/
theorem tol_iff {x t : Int32} (hx : -300 ≤ x.toInt ∧ x.toInt ≤ 300) (ht : 0 ≤ t.toInt ∧ t.toInt ≤ 100) : (x.toInt ≤ t.toInt ∧ (-t).toInt ≤ x.toInt) ↔ (absI x).toInt ≤ t.toInt := by
  rw [absI_toInt (by omega) (by omega), fb_negI (by omega)]
  split <;> omega
theorem addI_assoc (x y z : Int32) : x + y + z = x + (y + z) := by
  apply Int32.toBitVec_inj.1
  exact BitVec.add_assoc _ _ _
theorem addI_0 (x : Int32) : x + 0 = x := by
  apply Int32.toBitVec_inj.1
  exact BitVec.add_zero _
/-- the longest of the first, of those as long the first -/
noncomputable def lgN (L : Nat → Int64) : Nat → Nat
  | 0 => 0
  | i + 1 => ic ((L (lgN L i)).toInt < (L (i + 1)).toInt) (i + 1) (lgN L i)
theorem lgN_le (L : Nat → Int64) (i : Nat) : lgN L i ≤ i := by
  induction i with
  | zero => exact Nat.le_refl 0
  | succ i ih =>
    by_cases h : (L (lgN L i)).toInt < (L (i + 1)).toInt
    · rw [lgN, ic_t h]; omega
    · rw [lgN, ic_f h]; omega
theorem lgN_max (L : Nat → Int64) : ∀ i j, j ≤ i → (L j).toInt ≤ (L (lgN L i)).toInt := by
  intro i
  induction i with
  | zero => intro j hj; rw [show j = 0 by omega]; exact Int.le_refl _
  | succ i ih =>
    intro j hj
    by_cases h : (L (lgN L i)).toInt < (L (i + 1)).toInt
    · rw [lgN, ic_t h]
      by_cases q : j = i + 1
      · rw [q]; exact Int.le_refl _
      · have := ih j (by omega); omega
    · rw [lgN, ic_f h]
      by_cases q : j = i + 1
      · rw [q]; omega
      · exact ih j (by omega)
theorem lgN_fst (L : Nat → Int64) : ∀ i j, j < lgN L i → (L j).toInt < (L (lgN L i)).toInt := by
  intro i
  induction i with
  | zero => intro j hj; exact absurd hj (Nat.not_lt_zero j)
  | succ i ih =>
    intro j hj
    by_cases h : (L (lgN L i)).toInt < (L (i + 1)).toInt
    · rw [lgN, ic_t h] at hj ⊢
      have := lgN_max L i j (by omega)
      omega
    · rw [lgN, ic_f h] at hj ⊢
      exact ih j hj
theorem insO_first (L : Nat → Int64) (w : Int64) (v : Int32) : ∀ r (o : Nat → Int32), 0 < r → ¬ (L (o 0).toNatClampNeg).toInt < w.toInt → insO L w v r o 0 = o 0 := by
  intro r
  induction r with
  | zero => intro o h; omega
  | succ r ih =>
    intro o _ h
    by_cases q : (L (o r).toNatClampNeg).toInt < w.toInt
    · rw [insO, ic_t q]
      by_cases hr : r = 0
      · subst hr; exact absurd q h
      · have e : upd o (r + 1) (o r) 0 = o 0 := if_neg (by omega)
        have h9 := ih (upd o (r + 1) (o r)) (by omega) (by rw [e]; exact h)
        rw [h9, e]
    · rw [insO, ic_f q]
      exact if_neg (by omega)
theorem insO_all (L : Nat → Int64) (w : Int64) (v : Int32) : ∀ r (o : Nat → Int32), (∀ j, j < r → (L (o j).toNatClampNeg).toInt < w.toInt) → insO L w v r o 0 = v := by
  intro r
  induction r with
  | zero => intro o _; rw [insO]; exact if_pos rfl
  | succ r ih =>
    intro o h
    rw [insO, ic_t (h r (by omega))]
    refine ih _ (fun j hj => ?_)
    have e : upd o (r + 1) (o r) j = o j := if_neg (by omega)
    rw [e]
    exact h j (by omega)
theorem srt_0 (L : Nat → Int64) (o : Nat → Int32) : ∀ m, m < 2 ^ 20 → srt L o (m + 1) 0 = nI (lgN L m) := by
  intro m
  induction m with
  | zero => intro _; rw [srt, insO]; exact if_pos rfl
  | succ m ih =>
    intro hm
    have h1 := ih (by omega)
    rw [srt]
    have hin := srtIn L o (m + 1) (by omega)
    have hle := lgN_le L m
    by_cases h : (L (lgN L m)).toInt < (L (m + 1)).toInt
    · rw [lgN, ic_t h]
      refine insO_all _ _ _ _ _ (fun j hj => ?_)
      have h2 := inM_clamp (hin j hj)
      have h3 := lgN_max L m _ (show (srt L o (m + 1) j).toNatClampNeg ≤ m by omega)
      omega
    · rw [lgN, ic_f h, insO_first _ _ _ _ _ (by omega) (by rw [h1, nI_clamp (by omega)]; exact h), h1]
theorem shN_min (L : Nat → Int64) : ∀ i j, j ≤ i → (L (shN L i)).toInt ≤ (L j).toInt := by
  intro i
  induction i with
  | zero => intro j hj; rw [show j = 0 by omega]; exact Int.le_refl _
  | succ i ih =>
    intro j hj
    by_cases h : (L (i + 1)).toInt < (L (shN L i)).toInt
    · rw [shN, ic_t h]
      by_cases q : j = i + 1
      · rw [q]; exact Int.le_refl _
      · have := ih j (by omega); omega
    · rw [shN, ic_f h]
      by_cases q : j = i + 1
      · rw [q]; omega
      · exact ih j (by omega)
/-- what holds of the market between two calls, with the wears -/
def PI (k st : Nat) (fB fS fO : Nat → Int32) (fL : Nat → Int64) (c : Nat) (t : Int32) (fW fD mM mP : Nat → Int32) : Prop :=
  LI k st fB fS fO fL c t fD mM mP ∧ fB 0 = -1 ∧ t.toInt ≤ 100 ∧ ∀ j, j < c → -9 ≤ (fW j).toInt ∧ (fW j).toInt ≤ 9
end
section
theorem LenOk.step {k : Nat} {fB mM mP : Nat → Int32} {fL : Nat → Int64} {La pp uu bb : Nat → Nat} (h : LenOk k fB mM mP fL La pp uu bb) {j : Nat} (h0 : 0 < j) (hj : j < k) : La (bb j) * uu j = La j * pp j := by
  obtain ⟨-, -, -, -, a5, -, -, -, a9, b1⟩ := h.2.2 j h0 hj
  obtain ⟨z, ez⟩ := a9
  rw [ez, Nat.mul_div_cancel_left _ a5] at b1
  rw [ez, ← b1]
  simp only [Nat.mul_assoc, Nat.mul_comm, Nat.mul_left_comm]
theorem LenOk.pos {k : Nat} {fB mM mP : Nat → Int32} {fL : Nat → Int64} {La pp uu bb : Nat → Nat} (h : LenOk k fB mM mP fL La pp uu bb) (hk : k ≤ 8) {j : Nat} (hj : j < k) : 0 < (fL j).toInt ∧ (fL j).toInt ≤ 4782969 := by
  obtain ⟨e, h1, h2⟩ := h.1 j hj
  have h9 := p9 hk
  rw [e, pk_lT (by omega)]
  omega
theorem rt_s1 {T U B P Lj Lb L : Nat} (h : T * Lj = B * L) (e : Lb * U = Lj * P) : T * U * Lb = B * P * L := by
  have h1 : T * U * Lb = T * (Lb * U) := by simp only [Nat.mul_assoc, Nat.mul_comm, Nat.mul_left_comm]
  rw [h1, e, show T * (Lj * P) = (T * Lj) * P by rw [Nat.mul_assoc], h]
  simp only [Nat.mul_assoc, Nat.mul_comm, Nat.mul_left_comm]
theorem rt_s2 {T P B U A Z L Lj Lb : Nat} (h : T * A * Z = B * L * Lj) (e : Lb * U = Lj * P) : T * P * A * Z = B * U * L * Lb := by
  have h1 : T * P * A * Z = (T * A * Z) * P := by simp only [Nat.mul_assoc, Nat.mul_comm, Nat.mul_left_comm]
  have h2 : B * U * L * Lb = B * L * (Lb * U) := by simp only [Nat.mul_assoc, Nat.mul_comm, Nat.mul_left_comm]
  rw [h1, h2, h, e]
  simp only [Nat.mul_assoc, Nat.mul_comm, Nat.mul_left_comm]
end
section
set_option maxHeartbeats 4000000 in
set_option maxRecDepth 100000 in
theorem c_X2_divisor_s (l : Launch) (d u v : Nat) (hd : Dv d u v) (hu : u < 2 ^ 45) (hv2 : v < 2 ^ 45) (IH : ∀ d9, d = d9 + 1 → ∀ u v, Dv d9 u v → u < 2 ^ 45 → v < 2 ^ 45 → Met l yX2_divisor wsX2_divisor ({ frames := d9, cells := 0, slots := 0, locals := 24 * d9 }) (va_Pc [.long (lN u), .long (lN v)] (fun _ => True)) (rol (fun r => r = lN (Nat.gcd u v))) 0 0 (fun _ => False)) : Met l yX2_divisor wsX2_divisor ({ frames := d, cells := 0, slots := 0, locals := 24 * d }) (va_Pc [.long (lN u), .long (lN v)] (fun _ => True)) (rol (fun r => r = lN (Nat.gcd u v))) 0 0 (fun _ => False) := by
  refine Met.ofW (cc := cX2_divisor) (maxL := 4) (ret := (some .long)) (by decide +kernel) rfl ?_
  intro p e s m args below meth c9 s₁ B hml hv
  obtain ⟨rfl, -⟩ := hv
  have hx := B.exec
  have hb := B.bytes
  have hr := B.returns
  have hts := atoms_spec (ws := wsX2_divisor) B.pre
  have hown : s.vm.findClass RX2 = some m.cls := findClass_of_methodNamed B.named
  have hlocks := B.notSynchronized
  have hl := lv_entry ([.long (lN u), .long (lN v)]) (n := 4) (Nat.le_of_ble_eq_true rfl)
  rw [lg_entry_eq]
  generalize (lg_sl ([.long (lN u), .long (lN v)]) ++ List.replicate (4 - (lg_sl ([.long (lN u), .long (lN v)])).length) Slot.unset).toArray = ls at hl ⊢
  have hl : lv_has ls 4 [(0, .long (lN u)), (2, .long (lN v))] := hl
  refine lv_lload_n hx hb dX2_divisor_0 rfl (lv_at hl 1 rfl) ?_
  refine lv_lconst (v := 0) hx hb dX2_divisor_1 (by decide) ?_
  refine W.lcmp hx hb dX2_divisor_2 ?_
  refine lv_if_ne (tgt := 10) hx hb dX2_divisor_3 (by decide) (fun c_3 => ?_) (fun c_3 => ?_)
  · skip
    have c_3 := (lgc_ne _ _).mp c_3
    have hv0 : 0 < v := by
      rw [pk_lT (by omega), show (0 : Int64).toInt = 0 from rfl] at c_3; omega
    refine lv_lload_n hx hb dX2_divisor_10 rfl (lv_at hl 1 rfl) ?_
    refine lv_lload_n hx hb dX2_divisor_11 rfl (lv_at hl 0 rfl) ?_
    refine lv_lload_n hx hb dX2_divisor_12 rfl (lv_at hl 1 rfl) ?_
    refine lv_lrem hx hb dX2_divisor_13 (lN_ne0 hv0 (by omega)) ?_
    refine topL (pk_lRem (by omega) hv0 (by omega)) ?_
    obtain ⟨d9, rfl⟩ : ∃ d9, d = d9 + 1 := by
      cases d with
      | zero => exact hd.2.elim
      | succ d => exact ⟨d, rfl⟩
    have hd1 : Dv d9 v (u % v) := hd.resolve_left (by omega)
    have hm := Nat.mod_lt u hv0
    refine ro_lE (va_runS (As := [.long (lN v), .long (lN (u % v))]) (rest := []) ⟨hx, hb, hml, hown, hts⟩ (IH d9 rfl v (u % v) hd1 hv2 (by omega)) (va_cwS 2 hts gX2_divisor_X2_divisor rfl rfl rfl (by decide +kernel) ⟨Nat.le_refl (d9 + 1), (show 8 + (4 + 11) + 24 * d9 ≤ 24 * (d9 + 1) by omega)⟩) pre0 rfl rfl hl.1 rfl (lv_room (Nat.le_of_ble_eq_true rfl)) dX2_divisor_14 ⟨Nat.le_refl 0, Nat.le_refl 0⟩) ?_
    have hr9 : lN (Nat.gcd v (u % v)) = lN (Nat.gcd u v) := by rw [Nat.gcd_comm u v, Nat.gcd_rec v u, Nat.gcd_comm]
    exact W.lret (v := (lN (Nat.gcd v (u % v)))) hx hb hr (fun t9 ht hW => ⟨_, rfl, hr9, ht⟩) (fun q hq => absurd hq List.not_mem_nil) dX2_divisor_17
  · skip
    have c_3 := (lgc_eq _ _).mp c_3
    have hv0 : v = 0 := by
      rw [pk_lT (by omega), show (0 : Int64).toInt = 0 from rfl] at c_3; omega
    refine lv_lload_n hx hb dX2_divisor_6 rfl (lv_at hl 0 rfl) ?_
    refine lv_goto (tgt := 17) hx hb dX2_divisor_7 (by decide) ?_
    exact W.lret (v := (lN u)) hx hb hr (fun t9 ht hW => ⟨_, rfl, by rw [hv0, Nat.gcd_zero_right], ht⟩) (fun q hq => absurd hq List.not_mem_nil) dX2_divisor_17

set_option maxHeartbeats 4000000 in
theorem c_X2_divisor (l : Launch) : ∀ (d u v : Nat), Dv d u v → u < 2 ^ 45 → v < 2 ^ 45 → Met l yX2_divisor wsX2_divisor ({ frames := d, cells := 0, slots := 0, locals := 24 * d }) (va_Pc [.long (lN u), .long (lN v)] (fun _ => True)) (rol (fun r => r = lN (Nat.gcd u v))) 0 0 (fun _ => False) := by
  intro d
  induction d with
  | zero => exact fun u v hd hu hv => c_X2_divisor_s l 0 u v hd hu hv (fun d9 h => by omega)
  | succ d ih => exact fun u v hd hu hv => c_X2_divisor_s l (d + 1) u v hd hu hv (fun d9 h => by cases h; exact ih)

set_option maxHeartbeats 4000000 in
set_option maxRecDepth 100000 in
theorem c_X2_ratio (l : Launch) (D : va_G) (cI cJ cR : ClassId) (sz : Nat) (sm ma sa : Nat) (ra rs : Nat → Nat) (k st : Nat) (fi : Int32) (fB mM mP : Nat → Int32) (c : Nat) (t : Int32) (y : Nat) (fW fD : Nat → Int32) (fL : Nat → Int64) (La pp uu bb : Nat → Nat) (hL : LenOk k fB mM mP fL La pp uu bb) (hk8 : k ≤ 8) (jx jz : Nat) (hjx : jx < k) (hjz : jz < k) : Met l yX2_ratio wsX2_ratio ({ frames := 94, cells := 1, slots := 2, locals := 2268 }) (cPw D ([(sm, .inr (2, [.int (nI y), .int fi, .int (nI st), .int t, .ref ma, .ref sa])), (ma, .inl (cR, k, .inr (.inr (.inr (.inr (fr ra)))))), (sa, .inl (cR, c, .inr (.inr (.inr (.inr (fr rs))))))] ++ (RT cI ra rs fB mM mP fW fD k c)) sz (KM D cI cJ cR) [.ref sm, .int (nI jx), .int (nI jz)]) (wrr D ([(sm, .inr (2, [.int (nI y), .int fi, .int (nI st), .int t, .ref ma, .ref sa])), (ma, .inl (cR, k, .inr (.inr (.inr (.inr (fr ra)))))), (sa, .inl (cR, c, .inr (.inr (.inr (.inr (fr rs))))))] ++ (RT cI ra rs fB mM mP fW fD k c)) sz (fun a ws' => ws' = ([(sm, .inr (2, [.int (nI y), .int fi, .int (nI st), .int t, .ref ma, .ref sa])), (ma, .inl (cR, k, .inr (.inr (.inr (.inr (fr ra)))))), (sa, .inl (cR, c, .inr (.inr (.inr (.inr (fr rs)))))), (a, .inl (cJ, 2, .inr (.inl (rt2 (tp (fL jx) (fL jz)) (tp (fL jz) (fL jx))))))] ++ (RT cI ra rs fB mM mP fW fD k c)))) 1 2 (va_A ([(sm, .inr (2, [.int (nI y), .int fi, .int (nI st), .int t, .ref ma, .ref sa])), (ma, .inl (cR, k, .inr (.inr (.inr (.inr (fr ra)))))), (sa, .inl (cR, c, .inr (.inr (.inr (.inr (fr rs))))))] ++ (RT cI ra rs fB mM mP fW fD k c)) sz) := by
  refine Met.ofW (cc := cX2_ratio) (maxL := 9) (ret := (some (.array .long))) (by decide +kernel) rfl ?_
  intro p e s m args below meth c9 s₁ B hml hv
  obtain ⟨rfl, hsz, hP, hD0, hC⟩ := hv
  have hx := B.exec
  have hb := B.bytes
  have hr := B.returns
  have hts := atoms_spec (ws := wsX2_ratio) B.pre
  have hown : s.vm.findClass RX2 = some m.cls := findClass_of_methodNamed B.named
  have hlocks := B.notSynchronized
  have hK : va_K D vwCl [(cI, .int), (cJ, .long), (cR, .array .int)] s := hC
  subst hsz
  unfold wrr wB
  have hD := hD0.self (sz := s.heap.size)
  generalize hAe : va_A ([(sm, .inr (2, [.int (nI y), .int fi, .int (nI st), .int t, .ref ma, .ref sa])), (ma, .inl (cR, k, .inr (.inr (.inr (.inr (fr ra)))))), (sa, .inl (cR, c, .inr (.inr (.inr (.inr (fr rs))))))] ++ (RT cI ra rs fB mM mP fW fD k c)) s.heap.size = A at hD ⊢
  have hA : ∀ q : Nat, s.heap.size ≤ q → A q := fun q h => by rw [← hAe]; exact Or.inr h
  have hS : va_S A s.heap s.heap [] := va_S.rf
  have hl := lv_entry ([.ref sm, .int (nI jx), .int (nI jz)]) (n := 9) (Nat.le_of_ble_eq_true rfl)
  rw [lg_entry_eq]
  generalize (lg_sl ([.ref sm, .int (nI jx), .int (nI jz)]) ++ List.replicate (9 - (lg_sl ([.ref sm, .int (nI jx), .int (nI jz)])).length) Slot.unset).toArray = ls at hl ⊢
  have hl : lv_has ls 9 [(0, .ref sm), (1, .int (nI jx)), (2, .int (nI jz))] := hl
  have hiX2 : ∀ w ∈ u_ws RX2 TX2 6, w ∈ wsX2_ratio := by decide +kernel
  have hw15 : (Cond.fieldLink RX2 15 "OldMeasuresLaw$Sim" "measures" "[[I").before ([.ref sm, .int (nI jx), .int (nI jz)] : List Value).toArray s = true := hts _ (by decide +kernel)
  refine lv_lconst (v := 1) hx hb dX2_ratio_0 (by decide) ?_
  refine topL (y := lN 1) rfl ?_
  refine lv_lstore_n (lv' := [(3, .long (lN 1)), (0, .ref sm), (1, .int (nI jx)), (2, .int (nI jz))]) hx hb dX2_ratio_1 rfl hl (by decide) rfl (fun ls hl => ?_)
  refine lv_lconst (v := 1) hx hb dX2_ratio_2 (by decide) ?_
  refine topL (y := lN 1) rfl ?_
  refine lv_lstore (lv' := [(5, .long (lN 1)), (3, .long (lN 1)), (0, .ref sm), (1, .int (nI jx)), (2, .int (nI jz))]) hx hb dX2_ratio_3 hl (by decide) rfl (fun ls hl => ?_)
  refine lv_iload_n hx hb dX2_ratio_5 rfl (lv_at hl 3 rfl) ?_
  refine lv_istore (lv' := [(7, .int (nI jx)), (5, .long (lN 1)), (3, .long (lN 1)), (0, .ref sm), (1, .int (nI jx)), (2, .int (nI jz))]) hx hb dX2_ratio_6 hl (by decide) rfl (fun ls hl => ?_)
  have hx7 : jx ≤ 7 ∧ jz ≤ 7 := by omega
  refine loopR (σ := (Nat × Nat × Nat)) (I := fun i x ls => lv_has ls 9 [(0, .ref sm), (1, .int (nI jx)), (2, .int (nI jz)), (3, .long (lN x.2.1)), (5, .long (lN x.2.2)), (7, .int (nI x.1))] ∧ (x.1 < k ∧ x.1 + i ≤ 7) ∧ (x.2.1 * La x.1 = x.2.2 * La jx) ∧ (0 < x.2.1 ∧ x.2.1 ≤ 9 ^ i) ∧ (0 < x.2.2 ∧ x.2.2 ≤ 9 ^ i)) 7 ?_ 0 (jx, 1, 1) ls (by omega) ⟨lv_sub hl [3, 4, 5, 2, 1, 0] rfl, ⟨hjx, hx7.1⟩, rfl, ⟨(by show 0 < 1; decide), (by show 1 ≤ 9 ^ 0; decide)⟩, ⟨(by show 0 < 1; decide), (by show 1 ≤ 9 ^ 0; decide)⟩⟩
  intro i x ls hi hI kk
  obtain ⟨hl, f1, f2, f3, f4⟩ := hI
  refine lv_iload hx hb dX2_ratio_8 (lv_at hl 5 rfl) ?_
  refine lv_if_le (tgt := 55) hx hb dX2_ratio_10 (by decide) (fun c_10 => ?_) (fun c_10 => ?_)
  · skip
    simp only [Int32.le_iff_toInt_le] at c_10
    rw [nI_toInt (n := x.1) (by omega)] at c_10
    rw [(by decide : (0 : Int32).toInt = 0)] at c_10
    have e0 : x.1 = 0 := by omega
    have g1 : x.2.1 * La 0 = x.2.2 * La jx := by rw [← e0]; exact f2
    have g2 : 0 < x.2.1 ∧ x.2.1 ≤ 9 ^ 7 := ⟨f3.1, Nat.le_trans f3.2 (Nat.pow_le_pow_right (by decide) hi)⟩
    have g3 : 0 < x.2.2 ∧ x.2.2 ≤ 9 ^ 7 := ⟨f4.1, Nat.le_trans f4.2 (Nat.pow_le_pow_right (by decide) hi)⟩
    obtain ⟨T1, hT1⟩ : ∃ z, z = x.2.1 := ⟨_, rfl⟩
    obtain ⟨B1, hB1⟩ : ∃ z, z = x.2.2 := ⟨_, rfl⟩
    rw [← hT1, ← hB1] at hl
    rw [← hT1] at g2
    rw [← hB1] at g3
    rw [← hT1, ← hB1] at g1
    refine lv_iload_n hx hb dX2_ratio_55 rfl (lv_at hl 2 rfl) ?_
    refine lv_istore (lv' := [(7, .int (nI jz)), (0, .ref sm), (1, .int (nI jx)), (2, .int (nI jz)), (3, .long (lN T1)), (5, .long (lN B1))]) hx hb dX2_ratio_56 hl (by decide) rfl (fun ls hl => ?_)
    refine loopR (σ := (Nat × Nat × Nat)) (I := fun i x ls => lv_has ls 9 [(0, .ref sm), (1, .int (nI jx)), (2, .int (nI jz)), (3, .long (lN x.2.1)), (5, .long (lN x.2.2)), (7, .int (nI x.1))] ∧ (x.1 < k ∧ x.1 + i ≤ 7) ∧ (x.2.1 * La jz * La 0 = x.2.2 * La jx * La x.1) ∧ (0 < x.2.1 ∧ x.2.1 ≤ 9 ^ 7 * 9 ^ i) ∧ (0 < x.2.2 ∧ x.2.2 ≤ 9 ^ 7 * 9 ^ i)) 7 ?_ 0 (jz, T1, B1) ls (by omega) ⟨lv_sub hl [1, 2, 3, 4, 5, 0] rfl, ⟨hjz, hx7.2⟩, (by show T1 * La jz * La 0 = B1 * La jx * La jz; rw [Nat.mul_right_comm, g1]), ⟨g2.1, by simpa using g2.2⟩, ⟨g3.1, by simpa using g3.2⟩⟩
    intro i x ls hi hI kk
    obtain ⟨hl, f1, f2, f3, f4⟩ := hI
    refine lv_iload hx hb dX2_ratio_58 (lv_at hl 5 rfl) ?_
    refine lv_if_le (tgt := 105) hx hb dX2_ratio_60 (by decide) (fun c_60 => ?_) (fun c_60 => ?_)
    · skip
      simp only [Int32.le_iff_toInt_le] at c_60
      rw [nI_toInt (n := x.1) (by omega)] at c_60
      rw [(by decide : (0 : Int32).toInt = 0)] at c_60
      have e0 : x.1 = 0 := by omega
      obtain ⟨ex, hax, -⟩ := hL.1 jx hjx
      obtain ⟨ez, haz, -⟩ := hL.1 jz hjz
      have h00 := (hL.1 0 (by omega)).2.1
      have hbx := (hL.1 jx hjx).2.2
      have hbz := (hL.1 jz hjz).2.2
      have h99 := p9 hk8
      have g4 : x.2.1 * La jz = x.2.2 * La jx := Nat.eq_of_mul_eq_mul_right h00 (by rw [f2, e0])
      have g5 : x.2.1 < 2 ^ 45 := Nat.lt_of_le_of_lt (Nat.le_trans f3.2 (Nat.mul_le_mul_left _ (Nat.pow_le_pow_right (by decide) hi))) (by decide)
      have g6 : x.2.2 < 2 ^ 45 := Nat.lt_of_le_of_lt (Nat.le_trans f4.2 (Nat.mul_le_mul_left _ (Nat.pow_le_pow_right (by decide) hi))) (by decide)
      have hg0 : 0 < Nat.gcd x.2.1 x.2.2 := Nat.gcd_pos_of_pos_left _ f3.1
      have hg1 : Nat.gcd x.2.1 x.2.2 ≤ x.2.1 := Nat.gcd_le_left _ f3.1
      have e12 := tp_of f3.1 hax haz (by omega) (by omega) g4 f4.1
      rw [← ex, ← ez] at e12
      refine lv_lload_n hx hb dX2_ratio_105 rfl (lv_at hl 3 rfl) ?_
      refine lv_lload hx hb dX2_ratio_106 (lv_at hl 4 rfl) ?_
      refine ro_lE (va_runS (As := [.long (lN x.2.1), .long (lN x.2.2)]) (rest := []) ⟨hx, hb, hml, hown, hts⟩ (c_X2_divisor l 92 x.2.1 x.2.2 (Dv_all g5 g6) g5 g6) (va_cwS 2 hts gX2_ratio_X2_divisor rfl rfl rfl (by decide +kernel) ⟨Nat.le_of_ble_eq_true rfl, Nat.le_of_ble_eq_true rfl⟩) pre0 rfl rfl hl.1 rfl (lv_room (Nat.le_of_ble_eq_true rfl)) dX2_ratio_108 ⟨by decide, by decide⟩) ?_
      refine lv_lstore (lv' := [(7, .long (lN (Nat.gcd x.2.1 x.2.2))), (0, .ref sm), (1, .int (nI jx)), (2, .int (nI jz)), (3, .long (lN x.2.1)), (5, .long (lN x.2.2))]) hx hb dX2_ratio_111 hl (by decide) rfl (fun ls hl => ?_)
      refine lv_iconst (v := 2) hx hb dX2_ratio_113 (by decide) ?_
      refine xa_newaJ (N := 2) hx hb (hts (.arrayClass .long) (by decide +kernel)) hK 1 rfl hP hD hS hA (by decide) (by decide +kernel) (by decide) (by decide) (by decide) dX2_ratio_114 (fun q_114 H hP hD hS => ?_)
      have hP := hP.swap
      have hD := hD.swap
      have hP : va_P D vwCl ([(sm, .inr (2, [.int (nI y), .int fi, .int (nI st), .int t, .ref ma, .ref sa])), (ma, .inl (cR, k, .inr (.inr (.inr (.inr (fr ra)))))), (sa, .inl (cR, c, .inr (.inr (.inr (.inr (fr rs)))))), (q_114, .inl (cJ, 2, .inr (.inl (fun _ => (0 : Int64)))))] ++ (RT cI ra rs fB mM mP fW fD k c)) H := hP
      have hD : va_D A ([(sm, .inr (2, [.int (nI y), .int fi, .int (nI st), .int t, .ref ma, .ref sa])), (ma, .inl (cR, k, .inr (.inr (.inr (.inr (fr ra)))))), (sa, .inl (cR, c, .inr (.inr (.inr (.inr (fr rs)))))), (q_114, .inl (cJ, 2, .inr (.inl (fun _ => (0 : Int64)))))] ++ (RT cI ra rs fB mM mP fW fD k c)) := hD
      refine lv_dup hx hb dX2_ratio_116 rfl ?_
      refine lv_iconst (v := 0) hx hb dX2_ratio_117 (by decide) ?_
      refine lv_lload_n hx hb dX2_ratio_118 rfl (lv_at hl 4 rfl) ?_
      refine lv_lload hx hb dX2_ratio_119 (lv_at hl 0 rfl) ?_
      refine lv_ldiv hx hb dX2_ratio_121 (lN_ne0 hg0 (by omega)) ?_
      refine topL (pk_lDiv (by omega) hg0 (by omega)) ?_
      refine xa_last (j := 0) hx hb hK hP hD hS 3 1 rfl rfl (by decide) (by decide) dX2_ratio_122 (fun H locs hP hD hS => ?_)
      have hP : va_P D vwCl ([(sm, .inr (2, [.int (nI y), .int fi, .int (nI st), .int t, .ref ma, .ref sa])), (ma, .inl (cR, k, .inr (.inr (.inr (.inr (fr ra)))))), (sa, .inl (cR, c, .inr (.inr (.inr (.inr (fr rs)))))), (q_114, .inl (cJ, 2, .inr (.inl (vp_updL (fun _ => (0 : Int64)) 0 (lN (x.2.1 / Nat.gcd x.2.1 x.2.2))))))] ++ (RT cI ra rs fB mM mP fW fD k c)) H := hP
      have hD : va_D A ([(sm, .inr (2, [.int (nI y), .int fi, .int (nI st), .int t, .ref ma, .ref sa])), (ma, .inl (cR, k, .inr (.inr (.inr (.inr (fr ra)))))), (sa, .inl (cR, c, .inr (.inr (.inr (.inr (fr rs)))))), (q_114, .inl (cJ, 2, .inr (.inl (vp_updL (fun _ => (0 : Int64)) 0 (lN (x.2.1 / Nat.gcd x.2.1 x.2.2))))))] ++ (RT cI ra rs fB mM mP fW fD k c)) := hD
      refine lv_dup hx hb dX2_ratio_123 rfl ?_
      refine lv_iconst (v := 1) hx hb dX2_ratio_124 (by decide) ?_
      refine lv_lload hx hb dX2_ratio_125 (lv_at hl 5 rfl) ?_
      refine lv_lload hx hb dX2_ratio_127 (lv_at hl 0 rfl) ?_
      refine lv_ldiv hx hb dX2_ratio_129 (lN_ne0 hg0 (by omega)) ?_
      refine topL (pk_lDiv (by omega) hg0 (by omega)) ?_
      refine xa_last (j := 1) hx hb hK hP hD hS 3 1 rfl rfl (by decide) (by decide) dX2_ratio_130 (fun H locs hP hD hS => ?_)
      have hP : va_P D vwCl ([(sm, .inr (2, [.int (nI y), .int fi, .int (nI st), .int t, .ref ma, .ref sa])), (ma, .inl (cR, k, .inr (.inr (.inr (.inr (fr ra)))))), (sa, .inl (cR, c, .inr (.inr (.inr (.inr (fr rs)))))), (q_114, .inl (cJ, 2, .inr (.inl (vp_updL (vp_updL (fun _ => (0 : Int64)) 0 (lN (x.2.1 / Nat.gcd x.2.1 x.2.2))) 1 (lN (x.2.2 / Nat.gcd x.2.1 x.2.2))))))] ++ (RT cI ra rs fB mM mP fW fD k c)) H := hP
      have hD : va_D A ([(sm, .inr (2, [.int (nI y), .int fi, .int (nI st), .int t, .ref ma, .ref sa])), (ma, .inl (cR, k, .inr (.inr (.inr (.inr (fr ra)))))), (sa, .inl (cR, c, .inr (.inr (.inr (.inr (fr rs)))))), (q_114, .inl (cJ, 2, .inr (.inl (vp_updL (vp_updL (fun _ => (0 : Int64)) 0 (lN (x.2.1 / Nat.gcd x.2.1 x.2.2))) 1 (lN (x.2.2 / Nat.gcd x.2.1 x.2.2))))))] ++ (RT cI ra rs fB mM mP fW fD k c)) := hD
      rw [e12.1, e12.2] at hP hD
      have hP : va_P D vwCl ([(sm, .inr (2, [.int (nI y), .int fi, .int (nI st), .int t, .ref ma, .ref sa])), (ma, .inl (cR, k, .inr (.inr (.inr (.inr (fr ra)))))), (sa, .inl (cR, c, .inr (.inr (.inr (.inr (fr rs)))))), (q_114, .inl (cJ, 2, .inr (.inl (rt2 (tp (fL jx) (fL jz)) (tp (fL jz) (fL jx))))))] ++ (RT cI ra rs fB mM mP fW fD k c)) H := hP.toJ 3 rfl (fun j hj => rt2_of _ _ j hj)
      have hD : va_D A ([(sm, .inr (2, [.int (nI y), .int fi, .int (nI st), .int t, .ref ma, .ref sa])), (ma, .inl (cR, k, .inr (.inr (.inr (.inr (fr ra)))))), (sa, .inl (cR, c, .inr (.inr (.inr (.inr (fr rs)))))), (q_114, .inl (cJ, 2, .inr (.inl (rt2 (tp (fL jx) (fL jz)) (tp (fL jz) (fL jx))))))] ++ (RT cI ra rs fB mM mP fW fD k c)) := hD.set (p := 3) rfl
      exact W.aret hx hb hr (Or.inr ⟨_, rfl⟩) (Or.inr ⟨_, rfl⟩) (fun t9 ht hW => ⟨⟨([(sm, .inr (2, [.int (nI y), .int fi, .int (nI st), .int t, .ref ma, .ref sa])), (ma, .inl (cR, k, .inr (.inr (.inr (.inr (fr ra)))))), (sa, .inl (cR, c, .inr (.inr (.inr (.inr (fr rs)))))), (q_114, .inl (cJ, 2, .inr (.inl (rt2 (tp (fL jx) (fL jz)) (tp (fL jz) (fL jx))))))] ++ (RT cI ra rs fB mM mP fW fD k c)), q_114, rfl, trivial, rfl, by rw [ht]; exact hP, hD⟩, hS.F ht⟩) hS.2.2 dX2_ratio_131
    · skip
      simp only [Int32.le_iff_toInt_le] at c_60
      rw [nI_toInt (n := x.1) (by omega)] at c_60
      rw [(by decide : (0 : Int32).toInt = 0)] at c_60
      have hj0 : 0 < x.1 := by omega
      obtain ⟨a1, a2, a3, a4, a5, a6, a7, a8, -, -⟩ := hL.2.2 x.1 hj0 f1.1
      have e9 := hL.step hj0 f1.1
      refine lv_lload hx hb dX2_ratio_63 (lv_at hl 4 rfl) ?_
      refine lv_aload_n hx hb dX2_ratio_65 rfl (lv_at hl 0 rfl) ?_
      refine va_get (D := D) (ci := 2) (v := .ref ma) (C := RX2) (T := TX2) (N := 6) hx hb hts hiX2 hown hK hP 0 rfl rfl 4 (by decide) hw15 (fun _ h9 => h9) rfl dX2_ratio_66 ?_
      refine lv_iload hx hb dX2_ratio_69 (lv_at hl 5 rfl) ?_
      refine xr_ald (b := (ra (x.1))) hx hb hK hP 1 2 rfl rfl (j := x.1) (by omega) (by omega) rfl dX2_ratio_71 ?_
      refine lv_iconst (v := 1) hx hb dX2_ratio_72 (by decide) ?_
      refine xa_iald (j := 1) hx hb hK hP (3 + (x.1)) 0 (tl_at rfl (RT_m (by omega))) rfl (by decide) (by decide) dX2_ratio_73 ?_
      refine topI (y := (mM (x.1))) rfl ?_
      refine topI (y := nI (uu x.1)) a2 ?_
      refine lv_i2l (v := ((nI (uu x.1))).toInt64) hx hb dX2_ratio_74 rfl ?_
      refine topL (y := lN (uu x.1)) (nI_l (by omega)) ?_
      refine lv_lmul hx hb dX2_ratio_75 ?_
      refine topL (lN_mul _ _) ?_
      refine lv_lstore (lv' := [(5, .long (lN (x.2.2 * (uu x.1)))), (0, .ref sm), (1, .int (nI jx)), (2, .int (nI jz)), (3, .long (lN x.2.1)), (7, .int (nI x.1))]) hx hb dX2_ratio_76 hl (by decide) rfl (fun ls hl => ?_)
      refine lv_lload_n hx hb dX2_ratio_78 rfl (lv_at hl 4 rfl) ?_
      refine lv_aload_n hx hb dX2_ratio_79 rfl (lv_at hl 1 rfl) ?_
      refine va_get (D := D) (ci := 2) (v := .ref ma) (C := RX2) (T := TX2) (N := 6) hx hb hts hiX2 hown hK hP 0 rfl rfl 4 (by decide) hw15 (fun _ h9 => h9) rfl dX2_ratio_80 ?_
      refine lv_iload hx hb dX2_ratio_83 (lv_at hl 5 rfl) ?_
      refine xr_ald (b := (ra (x.1))) hx hb hK hP 1 2 rfl rfl (j := x.1) (by omega) (by omega) rfl dX2_ratio_85 ?_
      refine lv_iconst (v := 2) hx hb dX2_ratio_86 (by decide) ?_
      refine xa_iald (j := 2) hx hb hK hP (3 + (x.1)) 0 (tl_at rfl (RT_m (by omega))) rfl (by decide) (by decide) dX2_ratio_87 ?_
      refine topI (y := (mP (x.1))) rfl ?_
      refine topI (y := nI (pp x.1)) a1 ?_
      refine lv_i2l (v := ((nI (pp x.1))).toInt64) hx hb dX2_ratio_88 rfl ?_
      refine topL (y := lN (pp x.1)) (nI_l (by omega)) ?_
      refine lv_lmul hx hb dX2_ratio_89 ?_
      refine topL (lN_mul _ _) ?_
      refine lv_lstore_n (lv' := [(3, .long (lN (x.2.1 * (pp x.1)))), (5, .long (lN (x.2.2 * (uu x.1)))), (0, .ref sm), (1, .int (nI jx)), (2, .int (nI jz)), (7, .int (nI x.1))]) hx hb dX2_ratio_90 rfl hl (by decide) rfl (fun ls hl => ?_)
      refine lv_aload_n hx hb dX2_ratio_91 rfl (lv_at hl 2 rfl) ?_
      refine va_get (D := D) (ci := 2) (v := .ref ma) (C := RX2) (T := TX2) (N := 6) hx hb hts hiX2 hown hK hP 0 rfl rfl 4 (by decide) hw15 (fun _ h9 => h9) rfl dX2_ratio_92 ?_
      refine lv_iload hx hb dX2_ratio_95 (lv_at hl 5 rfl) ?_
      refine xr_ald (b := (ra (x.1))) hx hb hK hP 1 2 rfl rfl (j := x.1) (by omega) (by omega) rfl dX2_ratio_97 ?_
      refine lv_iconst (v := 0) hx hb dX2_ratio_98 (by decide) ?_
      refine xa_iald (j := 0) hx hb hK hP (3 + (x.1)) 0 (tl_at rfl (RT_m (by omega))) rfl (by decide) (by decide) dX2_ratio_99 ?_
      refine topI (y := (fB (x.1))) rfl ?_
      refine topI (y := nI (bb x.1)) a3 ?_
      refine lv_istore (lv' := [(7, .int (nI (bb x.1))), (3, .long (lN (x.2.1 * (pp x.1)))), (5, .long (lN (x.2.2 * (uu x.1)))), (0, .ref sm), (1, .int (nI jx)), (2, .int (nI jz))]) hx hb dX2_ratio_100 hl (by decide) rfl (fun ls hl => ?_)
      refine lv_goto (tgt := 58) hx hb dX2_ratio_102 (by decide) ?_
      exact kk (bb x.1, x.2.1 * pp x.1, x.2.2 * uu x.1) ls (by omega) ⟨lv_sub hl [3, 4, 5, 1, 2, 0] rfl, (by show bb x.1 < k ∧ bb x.1 + (i + 1) ≤ 7; omega), rt_s2 f2 e9, ⟨Nat.mul_pos f3.1 a5, by have h9 := Nat.mul_le_mul f3.2 a6; rw [Nat.mul_assoc] at h9; exact h9⟩, ⟨Nat.mul_pos f4.1 a7, by have h9 := Nat.mul_le_mul f4.2 a8; rw [Nat.mul_assoc] at h9; exact h9⟩⟩
  · skip
    simp only [Int32.le_iff_toInt_le] at c_10
    rw [nI_toInt (n := x.1) (by omega)] at c_10
    rw [(by decide : (0 : Int32).toInt = 0)] at c_10
    have hj0 : 0 < x.1 := by omega
    obtain ⟨a1, a2, a3, a4, a5, a6, a7, a8, -, -⟩ := hL.2.2 x.1 hj0 f1.1
    have e9 := hL.step hj0 f1.1
    refine lv_lload_n hx hb dX2_ratio_13 rfl (lv_at hl 3 rfl) ?_
    refine lv_aload_n hx hb dX2_ratio_14 rfl (lv_at hl 0 rfl) ?_
    refine va_get (D := D) (ci := 2) (v := .ref ma) (C := RX2) (T := TX2) (N := 6) hx hb hts hiX2 hown hK hP 0 rfl rfl 4 (by decide) hw15 (fun _ h9 => h9) rfl dX2_ratio_15 ?_
    refine lv_iload hx hb dX2_ratio_18 (lv_at hl 5 rfl) ?_
    refine xr_ald (b := (ra (x.1))) hx hb hK hP 1 2 rfl rfl (j := x.1) (by omega) (by omega) rfl dX2_ratio_20 ?_
    refine lv_iconst (v := 1) hx hb dX2_ratio_21 (by decide) ?_
    refine xa_iald (j := 1) hx hb hK hP (3 + (x.1)) 0 (tl_at rfl (RT_m (by omega))) rfl (by decide) (by decide) dX2_ratio_22 ?_
    refine topI (y := (mM (x.1))) rfl ?_
    refine topI (y := nI (uu x.1)) a2 ?_
    refine lv_i2l (v := ((nI (uu x.1))).toInt64) hx hb dX2_ratio_23 rfl ?_
    refine topL (y := lN (uu x.1)) (nI_l (by omega)) ?_
    refine lv_lmul hx hb dX2_ratio_24 ?_
    refine topL (lN_mul _ _) ?_
    refine lv_lstore_n (lv' := [(3, .long (lN (x.2.1 * (uu x.1)))), (0, .ref sm), (1, .int (nI jx)), (2, .int (nI jz)), (5, .long (lN x.2.2)), (7, .int (nI x.1))]) hx hb dX2_ratio_25 rfl hl (by decide) rfl (fun ls hl => ?_)
    refine lv_lload hx hb dX2_ratio_26 (lv_at hl 4 rfl) ?_
    refine lv_aload_n hx hb dX2_ratio_28 rfl (lv_at hl 1 rfl) ?_
    refine va_get (D := D) (ci := 2) (v := .ref ma) (C := RX2) (T := TX2) (N := 6) hx hb hts hiX2 hown hK hP 0 rfl rfl 4 (by decide) hw15 (fun _ h9 => h9) rfl dX2_ratio_29 ?_
    refine lv_iload hx hb dX2_ratio_32 (lv_at hl 5 rfl) ?_
    refine xr_ald (b := (ra (x.1))) hx hb hK hP 1 2 rfl rfl (j := x.1) (by omega) (by omega) rfl dX2_ratio_34 ?_
    refine lv_iconst (v := 2) hx hb dX2_ratio_35 (by decide) ?_
    refine xa_iald (j := 2) hx hb hK hP (3 + (x.1)) 0 (tl_at rfl (RT_m (by omega))) rfl (by decide) (by decide) dX2_ratio_36 ?_
    refine topI (y := (mP (x.1))) rfl ?_
    refine topI (y := nI (pp x.1)) a1 ?_
    refine lv_i2l (v := ((nI (pp x.1))).toInt64) hx hb dX2_ratio_37 rfl ?_
    refine topL (y := lN (pp x.1)) (nI_l (by omega)) ?_
    refine lv_lmul hx hb dX2_ratio_38 ?_
    refine topL (lN_mul _ _) ?_
    refine lv_lstore (lv' := [(5, .long (lN (x.2.2 * (pp x.1)))), (3, .long (lN (x.2.1 * (uu x.1)))), (0, .ref sm), (1, .int (nI jx)), (2, .int (nI jz)), (7, .int (nI x.1))]) hx hb dX2_ratio_39 hl (by decide) rfl (fun ls hl => ?_)
    refine lv_aload_n hx hb dX2_ratio_41 rfl (lv_at hl 2 rfl) ?_
    refine va_get (D := D) (ci := 2) (v := .ref ma) (C := RX2) (T := TX2) (N := 6) hx hb hts hiX2 hown hK hP 0 rfl rfl 4 (by decide) hw15 (fun _ h9 => h9) rfl dX2_ratio_42 ?_
    refine lv_iload hx hb dX2_ratio_45 (lv_at hl 5 rfl) ?_
    refine xr_ald (b := (ra (x.1))) hx hb hK hP 1 2 rfl rfl (j := x.1) (by omega) (by omega) rfl dX2_ratio_47 ?_
    refine lv_iconst (v := 0) hx hb dX2_ratio_48 (by decide) ?_
    refine xa_iald (j := 0) hx hb hK hP (3 + (x.1)) 0 (tl_at rfl (RT_m (by omega))) rfl (by decide) (by decide) dX2_ratio_49 ?_
    refine topI (y := (fB (x.1))) rfl ?_
    refine topI (y := nI (bb x.1)) a3 ?_
    refine lv_istore (lv' := [(7, .int (nI (bb x.1))), (5, .long (lN (x.2.2 * (pp x.1)))), (3, .long (lN (x.2.1 * (uu x.1)))), (0, .ref sm), (1, .int (nI jx)), (2, .int (nI jz))]) hx hb dX2_ratio_50 hl (by decide) rfl (fun ls hl => ?_)
    refine lv_goto (tgt := 8) hx hb dX2_ratio_52 (by decide) ?_
    exact kk (bb x.1, x.2.1 * uu x.1, x.2.2 * pp x.1) ls (by omega) ⟨lv_sub hl [3, 4, 5, 2, 1, 0] rfl, (by show bb x.1 < k ∧ bb x.1 + (i + 1) ≤ 7; omega), rt_s1 f2 e9, ⟨Nat.mul_pos f3.1 a7, by rw [Nat.pow_succ]; exact Nat.mul_le_mul f3.2 a8⟩, ⟨Nat.mul_pos f4.1 a5, by rw [Nat.pow_succ]; exact Nat.mul_le_mul f4.2 a6⟩⟩

set_option maxHeartbeats 4000000 in
set_option maxRecDepth 100000 in
theorem c_X2_isLonger (l : Launch) (D : va_G) (cI cJ cR : ClassId) (sz : Nat) (sm ma sa : Nat) (ra rs : Nat → Nat) (k st : Nat) (fi : Int32) (fB mM mP : Nat → Int32) (c : Nat) (t : Int32) (y : Nat) (fW fD : Nat → Int32) (fL : Nat → Int64) (La pp uu bb : Nat → Nat) (hL : LenOk k fB mM mP fL La pp uu bb) (hk8 : k ≤ 8) (jx jz : Nat) (hjx : jx < k) (hjz : jz < k) : Met l yX2_isLonger wsX2_isLonger ({ frames := 95, cells := 1, slots := 2, locals := 2298 }) (cPw D ([(sm, .inr (2, [.int (nI y), .int fi, .int (nI st), .int t, .ref ma, .ref sa])), (ma, .inl (cR, k, .inr (.inr (.inr (.inr (fr ra)))))), (sa, .inl (cR, c, .inr (.inr (.inr (.inr (fr rs))))))] ++ (RT cI ra rs fB mM mP fW fD k c)) sz (KM D cI cJ cR) [.ref sm, .int (nI jx), .int (nI jz)]) (wri D ([(sm, .inr (2, [.int (nI y), .int fi, .int (nI st), .int t, .ref ma, .ref sa])), (ma, .inl (cR, k, .inr (.inr (.inr (.inr (fr ra)))))), (sa, .inl (cR, c, .inr (.inr (.inr (.inr (fr rs))))))] ++ (RT cI ra rs fB mM mP fW fD k c)) sz (fun r ws' => r = bz ((fL jz).toInt < (fL jx).toInt) ∧ ws' = ([(sm, .inr (2, [.int (nI y), .int fi, .int (nI st), .int t, .ref ma, .ref sa])), (ma, .inl (cR, k, .inr (.inr (.inr (.inr (fr ra)))))), (sa, .inl (cR, c, .inr (.inr (.inr (.inr (fr rs))))))] ++ (RT cI ra rs fB mM mP fW fD k c)))) 1 2 (va_A ([(sm, .inr (2, [.int (nI y), .int fi, .int (nI st), .int t, .ref ma, .ref sa])), (ma, .inl (cR, k, .inr (.inr (.inr (.inr (fr ra)))))), (sa, .inl (cR, c, .inr (.inr (.inr (.inr (fr rs))))))] ++ (RT cI ra rs fB mM mP fW fD k c)) sz) := by
  refine Met.ofW (cc := cX2_isLonger) (maxL := 4) (ret := (some .boolean)) (by decide +kernel) rfl ?_
  intro p e s m args below meth c9 s₁ B hml hv
  obtain ⟨rfl, hsz, hP, hD0, hC⟩ := hv
  have hx := B.exec
  have hb := B.bytes
  have hr := B.returns
  have hts := atoms_spec (ws := wsX2_isLonger) B.pre
  have hown : s.vm.findClass RX2 = some m.cls := findClass_of_methodNamed B.named
  have hlocks := B.notSynchronized
  have hK : va_K D vwCl [(cI, .int), (cJ, .long), (cR, .array .int)] s := hC
  subst hsz
  unfold wri wB
  have hD := hD0.self (sz := s.heap.size)
  generalize hAe : va_A ([(sm, .inr (2, [.int (nI y), .int fi, .int (nI st), .int t, .ref ma, .ref sa])), (ma, .inl (cR, k, .inr (.inr (.inr (.inr (fr ra)))))), (sa, .inl (cR, c, .inr (.inr (.inr (.inr (fr rs))))))] ++ (RT cI ra rs fB mM mP fW fD k c)) s.heap.size = A at hD ⊢
  have hA : ∀ q : Nat, s.heap.size ≤ q → A q := fun q h => by rw [← hAe]; exact Or.inr h
  have hS : va_S A s.heap s.heap [] := va_S.rf
  have hl := lv_entry ([.ref sm, .int (nI jx), .int (nI jz)]) (n := 4) (Nat.le_of_ble_eq_true rfl)
  rw [lg_entry_eq]
  generalize (lg_sl ([.ref sm, .int (nI jx), .int (nI jz)]) ++ List.replicate (4 - (lg_sl ([.ref sm, .int (nI jx), .int (nI jz)])).length) Slot.unset).toArray = ls at hl ⊢
  have hl : lv_has ls 4 [(0, .ref sm), (1, .int (nI jx)), (2, .int (nI jz))] := hl
  refine lv_aload_n hx hb dX2_isLonger_0 rfl (lv_at hl 0 rfl) ?_
  refine lv_iload_n hx hb dX2_isLonger_1 rfl (lv_at hl 1 rfl) ?_
  refine lv_iload_n hx hb dX2_isLonger_2 rfl (lv_at hl 2 rfl) ?_
  have hFc := va_freeP (cx := [(sm, .inr (2, [.int (nI y), .int fi, .int (nI st), .int t, .ref ma, .ref sa])), (ma, .inl (cR, k, .inr (.inr (.inr (.inr (fr ra)))))), (sa, .inl (cR, c, .inr (.inr (.inr (.inr (fr rs))))))]) (pl := (RT cI ra rs fB mM mP fW fD k c)) hD hS hA [0, 1, 2] rfl
  refine xr_call (va_runV (As := [.int (nI jx), .int (nI jz)]) (rest := []) ⟨hx, hb, hml, hown, hts⟩ (c_X2_ratio l D cI cJ cR s.heap.size sm ma sa ra rs k st fi fB mM mP c t y fW fD fL La pp uu bb hL hk8 jx jz (by omega) (by omega)) (cwV 2 hts gX2_isLonger_X2_ratio rfl rfl rfl (by decide +kernel) ⟨Nat.le_of_ble_eq_true rfl, Nat.le_of_ble_eq_true rfl⟩) (preV_wr KM_ok (va_P.part (cx := [(sm, .inr (2, [.int (nI y), .int fi, .int (nI st), .int t, .ref ma, .ref sa])), (ma, .inl (cR, k, .inr (.inr (.inr (.inr (fr ra)))))), (sa, .inl (cR, c, .inr (.inr (.inr (.inr (fr rs))))))]) (pl := (RT cI ra rs fB mM mP fW fD k c)) hP [0, 1, 2] rfl) (va_D.part (cx := [(sm, .inr (2, [.int (nI y), .int fi, .int (nI st), .int t, .ref ma, .ref sa])), (ma, .inl (cR, k, .inr (.inr (.inr (.inr (fr ra)))))), (sa, .inl (cR, c, .inr (.inr (.inr (.inr (fr rs))))))]) (pl := (RT cI ra rs fB mM mP fW fD k c)) hD [0, 1, 2] (by decide) rfl) hK (va_recv hK hP (ci := 2) (q0 := 0) rfl rfl)) rfl rfl hl.1 rfl (lv_room (Nat.le_of_ble_eq_true rfl)) dX2_isLonger_3 ⟨by decide, by decide⟩) hS (fun q _ h => hFc q h) hFc (fun u r_3 t9 H1 locs ht hw9 hB hz1 hk1 hS => ?_)
  obtain rfl := hw9
  obtain ⟨hP1, hD1⟩ := hB
  rw [ht] at hP1
  obtain ⟨hP, hD⟩ := va_joinP (X := [(sm, .inr (2, [.int (nI y), .int fi, .int (nI st), .int t, .ref ma, .ref sa])), (ma, .inl (cR, k, .inr (.inr (.inr (.inr (fr ra)))))), (sa, .inl (cR, c, .inr (.inr (.inr (.inr (fr rs))))))]) (cx := [(sm, .inr (2, [.int (nI y), .int fi, .int (nI st), .int t, .ref ma, .ref sa])), (ma, .inl (cR, k, .inr (.inr (.inr (.inr (fr ra)))))), (sa, .inl (cR, c, .inr (.inr (.inr (.inr (fr rs))))))]) (wr := []) (rx := [(sm, .inr (2, [.int (nI y), .int fi, .int (nI st), .int t, .ref ma, .ref sa])), (ma, .inl (cR, k, .inr (.inr (.inr (.inr (fr ra)))))), (sa, .inl (cR, c, .inr (.inr (.inr (.inr (fr rs)))))), (r_3, .inl (cJ, 2, .inr (.inl (rt2 (tp (fL jx) (fL jz)) (tp (fL jz) (fL jx))))))]) (pl := (RT cI ra rs fB mM mP fW fD k c)) (pl1 := (RT cI ra rs fB mM mP fW fD k c)) hP hD [0, 1, 2] [] rfl rfl (by decide) (by decide) hk1 hFc hP1 hD1
  clear hz1 hk1 ht hFc
  generalize H1 = H at hP hS ⊢
  have hP : va_P D vwCl ([(sm, .inr (2, [.int (nI y), .int fi, .int (nI st), .int t, .ref ma, .ref sa])), (ma, .inl (cR, k, .inr (.inr (.inr (.inr (fr ra)))))), (sa, .inl (cR, c, .inr (.inr (.inr (.inr (fr rs)))))), (r_3, .inl (cJ, 2, .inr (.inl (rt2 (tp (fL jx) (fL jz)) (tp (fL jz) (fL jx))))))] ++ (RT cI ra rs fB mM mP fW fD k c)) H := hP
  have hD : va_D A ([(sm, .inr (2, [.int (nI y), .int fi, .int (nI st), .int t, .ref ma, .ref sa])), (ma, .inl (cR, k, .inr (.inr (.inr (.inr (fr ra)))))), (sa, .inl (cR, c, .inr (.inr (.inr (.inr (fr rs)))))), (r_3, .inl (cJ, 2, .inr (.inl (rt2 (tp (fL jx) (fL jz)) (tp (fL jz) (fL jx))))))] ++ (RT cI ra rs fB mM mP fW fD k c)) := hD
  refine lv_astore_n (lv' := [(3, .ref r_3), (0, .ref sm), (1, .int (nI jx)), (2, .int (nI jz))]) hx hb dX2_isLonger_6 rfl hl (by decide) rfl (fun ls hl => ?_)
  refine lv_aload_n hx hb dX2_isLonger_7 rfl (lv_at hl 0 rfl) ?_
  refine lv_iconst (v := 0) hx hb dX2_isLonger_8 (by decide) ?_
  refine xa_lald (j := 0) hx hb hK hP 3 1 rfl rfl (by decide) (by decide) dX2_isLonger_9 ?_
  refine topL (y := (tp (fL jx) (fL jz))) rfl ?_
  refine lv_aload_n hx hb dX2_isLonger_10 rfl (lv_at hl 0 rfl) ?_
  refine lv_iconst (v := 1) hx hb dX2_isLonger_11 (by decide) ?_
  refine xa_lald (j := 1) hx hb hK hP 3 1 rfl rfl (by decide) (by decide) dX2_isLonger_12 ?_
  refine topL (y := (tp (fL jz) (fL jx))) rfl ?_
  refine W.lcmp hx hb dX2_isLonger_13 ?_
  refine lv_if_le (tgt := 21) hx hb dX2_isLonger_14 (by decide) (fun c_14 => ?_) (fun c_14 => ?_)
  · skip
    have c_14 := (lgc_le _ _).mp c_14
    refine lv_iconst (v := 0) hx hb dX2_isLonger_21 (by decide) ?_
    have hP := va_P.part (cx := [(sm, .inr (2, [.int (nI y), .int fi, .int (nI st), .int t, .ref ma, .ref sa])), (ma, .inl (cR, k, .inr (.inr (.inr (.inr (fr ra)))))), (sa, .inl (cR, c, .inr (.inr (.inr (.inr (fr rs))))))]) (pl := (RT cI ra rs fB mM mP fW fD k c)) hP [0, 1, 2] rfl
    have hD := va_D.part (cx := [(sm, .inr (2, [.int (nI y), .int fi, .int (nI st), .int t, .ref ma, .ref sa])), (ma, .inl (cR, k, .inr (.inr (.inr (.inr (fr ra)))))), (sa, .inl (cR, c, .inr (.inr (.inr (.inr (fr rs))))))]) (pl := (RT cI ra rs fB mM mP fW fD k c)) hD [0, 1, 2] (by decide) rfl
    exact W.zret (v := 0) hx hb hr rfl (fun t9 ht hW => ⟨⟨0, ([(sm, .inr (2, [.int (nI y), .int fi, .int (nI st), .int t, .ref ma, .ref sa])), (ma, .inl (cR, k, .inr (.inr (.inr (.inr (fr ra)))))), (sa, .inl (cR, c, .inr (.inr (.inr (.inr (fr rs))))))] ++ (RT cI ra rs fB mM mP fW fD k c)), rfl, ⟨(bz_f (fun h9 => absurd ((tp_lt (hL.pos hk8 hjx) (hL.pos hk8 hjz)).mpr h9) (by omega))).symm, rfl⟩, by rw [ht]; exact hP, hD⟩, hS.F ht⟩) hS.2.2 dX2_isLonger_22
  · skip
    have c_14 := (not_congr (lgc_le _ _)).mp c_14
    refine lv_iconst (v := 1) hx hb dX2_isLonger_17 (by decide) ?_
    refine lv_goto (tgt := 22) hx hb dX2_isLonger_18 (by decide) ?_
    have hP := va_P.part (cx := [(sm, .inr (2, [.int (nI y), .int fi, .int (nI st), .int t, .ref ma, .ref sa])), (ma, .inl (cR, k, .inr (.inr (.inr (.inr (fr ra)))))), (sa, .inl (cR, c, .inr (.inr (.inr (.inr (fr rs))))))]) (pl := (RT cI ra rs fB mM mP fW fD k c)) hP [0, 1, 2] rfl
    have hD := va_D.part (cx := [(sm, .inr (2, [.int (nI y), .int fi, .int (nI st), .int t, .ref ma, .ref sa])), (ma, .inl (cR, k, .inr (.inr (.inr (.inr (fr ra)))))), (sa, .inl (cR, c, .inr (.inr (.inr (.inr (fr rs))))))]) (pl := (RT cI ra rs fB mM mP fW fD k c)) hD [0, 1, 2] (by decide) rfl
    exact W.zret (v := 1) hx hb hr rfl (fun t9 ht hW => ⟨⟨1, ([(sm, .inr (2, [.int (nI y), .int fi, .int (nI st), .int t, .ref ma, .ref sa])), (ma, .inl (cR, k, .inr (.inr (.inr (.inr (fr ra)))))), (sa, .inl (cR, c, .inr (.inr (.inr (.inr (fr rs))))))] ++ (RT cI ra rs fB mM mP fW fD k c)), rfl, ⟨(bz_t ((tp_lt (hL.pos hk8 hjx) (hL.pos hk8 hjz)).mp (by omega))).symm, rfl⟩, by rw [ht]; exact hP, hD⟩, hS.F ht⟩) hS.2.2 dX2_isLonger_22

set_option maxHeartbeats 4000000 in
set_option maxRecDepth 100000 in
theorem c_X2_isHonest (l : Launch) (D : va_G) (cI cJ cR : ClassId) (sm ma sa : Nat) (ra rs : Nat → Nat) (k st : Nat) (fi : Int32) (fB mM mP : Nat → Int32) (c : Nat) (t : Int32) (y : Nat) (fW fD : Nat → Int32) (j : Nat) (hj : j < c) (hD3 : -300 ≤ (fD j).toInt ∧ (fD j).toInt ≤ 300) (ht9 : 0 ≤ t.toInt ∧ t.toInt ≤ 100) : Met l yX2_isHonest wsX2_isHonest ({ frames := 0, cells := 0, slots := 0, locals := 0 }) (cP D ([(sm, .inr (2, [.int (nI y), .int fi, .int (nI st), .int t, .ref ma, .ref sa])), (ma, .inl (cR, k, .inr (.inr (.inr (.inr (fr ra)))))), (sa, .inl (cR, c, .inr (.inr (.inr (.inr (fr rs))))))] ++ (RT cI ra rs fB mM mP fW fD k c)) (KM D cI cJ cR) [.ref sm, .ref (rs j)]) (roi (fun r => r = bz ((absI (fD j)).toInt ≤ t.toInt))) 0 0 (fun _ => False) := by
  refine Met.ofW (cc := cX2_isHonest) (maxL := 2) (ret := (some .boolean)) (by decide +kernel) rfl ?_
  intro p e s m args below meth c9 s₁ B hml hv
  obtain ⟨rfl, hP, hC⟩ := hv
  have hx := B.exec
  have hb := B.bytes
  have hr := B.returns
  have hts := atoms_spec (ws := wsX2_isHonest) B.pre
  have hown : s.vm.findClass RX2 = some m.cls := findClass_of_methodNamed B.named
  have hlocks := B.notSynchronized
  have hK : va_K D vwCl [(cI, .int), (cJ, .long), (cR, .array .int)] s := hC
  have hl := lv_entry ([.ref sm, .ref (rs j)]) (n := 2) (Nat.le_of_ble_eq_true rfl)
  rw [lg_entry_eq]
  generalize (lg_sl ([.ref sm, .ref (rs j)]) ++ List.replicate (2 - (lg_sl ([.ref sm, .ref (rs j)])).length) Slot.unset).toArray = ls at hl ⊢
  have hl : lv_has ls 2 [(0, .ref sm), (1, .ref (rs j))] := hl
  have hiX2 : ∀ w ∈ u_ws RX2 TX2 6, w ∈ wsX2_isHonest := by decide +kernel
  have hw7 : (Cond.fieldLink RX2 7 "OldMeasuresLaw$Sim" "tolerance" "I").before ([.ref sm, .ref (rs j)] : List Value).toArray s = true := hts _ (by decide +kernel)
  refine lv_aload_n hx hb dX2_isHonest_0 rfl (lv_at hl 1 rfl) ?_
  refine lv_iconst (v := 1) hx hb dX2_isHonest_1 (by decide) ?_
  refine xa_iald (j := 1) hx hb hK hP (3 + (k + j)) 0 (tl_at rfl (RT_s (by omega))) rfl (by decide) (by decide) dX2_isHonest_2 ?_
  refine topI (y := (fD j)) rfl ?_
  refine lv_aload_n hx hb dX2_isHonest_3 rfl (lv_at hl 0 rfl) ?_
  refine va_get (D := D) (ci := 2) (v := .int t) (C := RX2) (T := TX2) (N := 6) hx hb hts hiX2 hown hK hP 0 rfl rfl 3 (by decide) hw7 (fun _ h9 => h9) rfl dX2_isHonest_4 ?_
  refine lv_icmp_gt (tgt := 25) hx hb dX2_isHonest_7 (by decide) (fun c_7 => ?_) (fun c_7 => ?_)
  · skip
    simp only [Int32.lt_iff_toInt_lt] at c_7
    refine lv_iconst (v := 0) hx hb dX2_isHonest_25 (by decide) ?_
    exact W.zret (v := 0) hx hb hr rfl (fun t9 ht hW => ⟨_, rfl, (bz_f (fun h9 => absurd ((tol_iff hD3 ht9).mpr h9) (by omega))).symm, ht⟩) (fun q hq => absurd hq List.not_mem_nil) dX2_isHonest_26
  · skip
    simp only [Int32.lt_iff_toInt_lt] at c_7
    refine lv_aload_n hx hb dX2_isHonest_10 rfl (lv_at hl 1 rfl) ?_
    refine lv_iconst (v := 1) hx hb dX2_isHonest_11 (by decide) ?_
    refine xa_iald (j := 1) hx hb hK hP (3 + (k + j)) 0 (tl_at rfl (RT_s (by omega))) rfl (by decide) (by decide) dX2_isHonest_12 ?_
    refine topI (y := (fD j)) rfl ?_
    refine lv_aload_n hx hb dX2_isHonest_13 rfl (lv_at hl 0 rfl) ?_
    refine va_get (D := D) (ci := 2) (v := .int t) (C := RX2) (T := TX2) (N := 6) hx hb hts hiX2 hown hK hP 0 rfl rfl 3 (by decide) hw7 (fun _ h9 => h9) rfl dX2_isHonest_14 ?_
    refine lv_ineg hx hb dX2_isHonest_17 ?_
    refine lv_icmp_lt (tgt := 25) hx hb dX2_isHonest_18 (by decide) (fun c_18 => ?_) (fun c_18 => ?_)
    · skip
      simp only [Int32.lt_iff_toInt_lt] at c_18
      refine lv_iconst (v := 0) hx hb dX2_isHonest_25 (by decide) ?_
      exact W.zret (v := 0) hx hb hr rfl (fun t9 ht hW => ⟨_, rfl, (bz_f (fun h9 => absurd ((tol_iff hD3 ht9).mpr h9) (by omega))).symm, ht⟩) (fun q hq => absurd hq List.not_mem_nil) dX2_isHonest_26
    · skip
      simp only [Int32.lt_iff_toInt_lt] at c_18
      refine lv_iconst (v := 1) hx hb dX2_isHonest_21 (by decide) ?_
      refine lv_goto (tgt := 26) hx hb dX2_isHonest_22 (by decide) ?_
      exact W.zret (v := 1) hx hb hr rfl (fun t9 ht hW => ⟨_, rfl, (bz_t ((tol_iff hD3 ht9).mp ⟨by omega, by omega⟩)).symm, ht⟩) (fun q hq => absurd hq List.not_mem_nil) dX2_isHonest_26
end
section
/-! CORE V (p43): no mean of drifts is NaN: it is equal to itself -/
set_option maxRecDepth 100000 in
theorem vf_nn1 : (List.range 3601).all (fun i => !(FP.Core.dIsNaN (FP.ddiv (FP.i2d (Int32.ofInt ((i : Int) - 1800))) (FP.i2d (nI 1))))) = true := by decide +kernel
set_option maxRecDepth 100000 in
theorem vf_nn2 : (List.range 3601).all (fun i => !(FP.Core.dIsNaN (FP.ddiv (FP.i2d (Int32.ofInt ((i : Int) - 1800))) (FP.i2d (nI 2))))) = true := by decide +kernel
set_option maxRecDepth 100000 in
theorem vf_nn3 : (List.range 3601).all (fun i => !(FP.Core.dIsNaN (FP.ddiv (FP.i2d (Int32.ofInt ((i : Int) - 1800))) (FP.i2d (nI 3))))) = true := by decide +kernel
set_option maxRecDepth 100000 in
theorem vf_nn4 : (List.range 3601).all (fun i => !(FP.Core.dIsNaN (FP.ddiv (FP.i2d (Int32.ofInt ((i : Int) - 1800))) (FP.i2d (nI 4))))) = true := by decide +kernel
set_option maxRecDepth 100000 in
theorem vf_nn5 : (List.range 3601).all (fun i => !(FP.Core.dIsNaN (FP.ddiv (FP.i2d (Int32.ofInt ((i : Int) - 1800))) (FP.i2d (nI 5))))) = true := by decide +kernel
set_option maxRecDepth 100000 in
theorem vf_nn6 : (List.range 3601).all (fun i => !(FP.Core.dIsNaN (FP.ddiv (FP.i2d (Int32.ofInt ((i : Int) - 1800))) (FP.i2d (nI 6))))) = true := by decide +kernel
end
section
/-! CORE W (p43) -/
theorem vf_nn {x : Int32} {c : Nat} (h1 : -1800 ≤ x.toInt) (h2 : x.toInt ≤ 1800) (hc0 : ¬ c = 0) (hc : c ≤ 6) : FP.Core.dIsNaN (FP.ddiv (FP.i2d x) (FP.i2d (nI c))) = false := by
  have e : Int32.ofInt (((x.toInt + 1800).toNat : Int) - 1800) = x := by
    rw [show ((x.toInt + 1800).toNat : Int) - 1800 = x.toInt by omega]; exact fb_asI x
  have hm : (x.toInt + 1800).toNat ∈ List.range 3601 := List.mem_range.mpr (by omega)
  rcases (show c = 1 ∨ c = 2 ∨ c = 3 ∨ c = 4 ∨ c = 5 ∨ c = 6 by omega) with rfl | rfl | rfl | rfl | rfl | rfl
  · have h3 := List.all_eq_true.mp vf_nn1 _ hm
    rw [e] at h3
    simpa using h3
  · have h3 := List.all_eq_true.mp vf_nn2 _ hm
    rw [e] at h3
    simpa using h3
  · have h3 := List.all_eq_true.mp vf_nn3 _ hm
    rw [e] at h3
    simpa using h3
  · have h3 := List.all_eq_true.mp vf_nn4 _ hm
    rw [e] at h3
    simpa using h3
  · have h3 := List.all_eq_true.mp vf_nn5 _ hm
    rw [e] at h3
    simpa using h3
  · have h3 := List.all_eq_true.mp vf_nn6 _ hm
    rw [e] at h3
    simpa using h3
theorem dt_self {x : FP.Core.Datum} (h : x ≠ .nan) : FP.Core.order x x = some .eq := by
  have key : ∀ z : Int, compare z z = Ordering.eq := fun z => by simp [compare, compareOfLessAndEq]
  cases x with
  | nan => exact absurd rfl h
  | inf s => exact congrArg some (key _)
  | fin s c q => exact congrArg some (key _)
theorem vf_eq {x : UInt64} (h : FP.Core.dIsNaN x = false) : Op.cmpValue (FP.dcmp x x) .l = 0 := by
  have h1 : FP.Core.decode FP.Core.b64 x.toNat ≠ .nan := of_decide_eq_false h
  have h2 : FP.dcmp x x = some .eq := dt_self h1
  rw [h2]
  rfl
end
