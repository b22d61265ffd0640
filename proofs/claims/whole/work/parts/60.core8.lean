/-! CORE 8: the law -/
def LC (p : Program) (s : State) (m : MethodId) (c : Code) (args : Array Value) : Prop := p.tables.exec = Jvm.exec ∧ c.code = code ∧ c.maxLocals = 9 ∧ s.vm.findClass RL = some m.cls ∧ ∀ w ∈ wsL_law, w.before args s = true

theorem nw_z {y : Nat} {fi : Int32} {fD : Nat → Int32} {c : Nat} (h : fD c = 0) : ∀ j, nwF y fi fD j = nwF y fi (upd fD c 0) j := by
  intro j
  match j with
  | 0 => rfl
  | 1 => rfl
  | j + 2 =>
    show fD j = upd fD c 0 j
    unfold upd
    by_cases q : j = c
    · rw [if_pos q, q, h]
    · rw [if_neg q]
theorem in60 {x : Int32} (h : inR 1 60 x) : x.toNatClampNeg ≤ 60 := by
  obtain ⟨n, h1, h2, rfl⟩ := inR_n h (by decide)
  rw [nI_clamp (by omega)]
  omega
theorem in9 {x : Int32} (h : inR 1 9 x) : 1 ≤ x.toNatClampNeg ∧ x.toNatClampNeg ≤ 9 ∧ x = nI x.toNatClampNeg := by
  obtain ⟨n, h1, h2, rfl⟩ := inR_n h (by decide)
  rw [nI_clamp (by omega)]
  exact ⟨h1, by omega, rfl⟩
section TIE
variable {k st : Nat} {fB fS fO : Nat → Int32} {fL : Nat → Int64} {c : Nat} {t : Int32} {fD mM mP : Nat → Int32} {La pp uu bb : Nat → Nat} {x u q : Int32}
theorem lay_new (hk1 : 1 ≤ k) (hL : LenOk k fB mM mP fL La pp uu bb) (h1 : inM k x) (h2 : inR 1 9 u) (h3 : inR 1 9 q) (h4 : k < 8) : LayOk (k + 1) (upd fB k x) (upd mM k u) (upd mP k q) (nwA La k x.toNatClampNeg u.toNatClampNeg q.toNatClampNeg) (nwP pp k q.toNatClampNeg) (nwP uu k u.toNatClampNeg) (nwP bb k x.toNatClampNeg) := by
  obtain ⟨a1, a2, a3⟩ := in9 h2
  obtain ⟨b1, b2, b3⟩ := in9 h3
  have h := (LenOk_new hk1 hL (inM_clamp h1) a1 a2 b1 b2).lay (by omega)
  rw [← a3, ← b3, ← inM_eq h1] at h
  exact h
theorem cd_add {P1 P2 P3 : Prop} (h : (ic P1 (ic P2 (ic P3 0 3) 2) 1 : Int32) = 0) : P1 ∧ P2 ∧ P3 := by
  obtain ⟨h1, h⟩ := icz (by decide) h
  obtain ⟨h2, h⟩ := icz (by decide) h
  obtain ⟨h3, h⟩ := icz (by decide) h
  exact ⟨h1, h2, h3⟩
theorem len_tie2 (_ : 1 ≤ k) (hk : k ≤ 8) (hL : LenOk k fB mM mP fL La pp uu bb) (h0 : (ic (inM k x) (ic (inR 1 9 u ∧ inR 1 9 q) (ic (k < 8) 0 3) 2) 1 : Int32) = 0) (_ : ∀ j, j < k → fO j = srt fL (fun _ => 0) k j) : ∀ j, laF (nwA La k x.toNatClampNeg u.toNatClampNeg q.toNatClampNeg) fL (k + 1) j = vp_updL (rfU fL q.toInt64 k) k (fL x.toNatClampNeg * u.toInt64) j := by
  obtain ⟨h1, h2, h3⟩ := cd_add h0
  obtain ⟨a1, a2, a3⟩ := in9 h2.1
  obtain ⟨b1, b2, b3⟩ := in9 h2.2
  have h := len_tie hL (inM_clamp h1) a2 b2
  rw [← a3, ← b3] at h
  exact h
theorem ord_tie2 (_ : 1 ≤ k) (hk : k ≤ 8) (hL : LenOk k fB mM mP fL La pp uu bb) (h0 : (ic (inM k x) (ic (inR 1 9 u ∧ inR 1 9 q) (ic (k < 8) 0 3) 2) 1 : Int32) = 0) (hO : ∀ j, j < k → fO j = srt fL (fun _ => 0) k j) : ∀ j, srt (laF (nwA La k x.toNatClampNeg u.toNatClampNeg q.toNatClampNeg) fL (k + 1)) fO (k + 1) j = insO (vp_updL (rfU fL q.toInt64 k) k (fL x.toNatClampNeg * u.toInt64)) ((vp_updL (rfU fL q.toInt64 k) k (fL x.toNatClampNeg * u.toInt64)) k) (nI k) k fO j := by
  obtain ⟨h1, h2, h3⟩ := cd_add h0
  obtain ⟨a1, a2, a3⟩ := in9 h2.1
  obtain ⟨b1, b2, b3⟩ := in9 h2.2
  have h := ord_tie hk hL (inM_clamp h1) a2 b1 b2 hO
  rw [← a3, ← b3] at h
  exact h
theorem LI_new2 (hI : LI k st fB fS fO fL c t fD mM mP) (h0 : (ic (inM k x) (ic (inR 1 9 u ∧ inR 1 9 q) (ic (k < 8) 0 3) 2) 1 : Int32) = 0) : LI (k + 1) st (upd fB k x) (upd fS k (fS x.toNatClampNeg + 1)) (insO (vp_updL (rfU fL q.toInt64 k) k (fL x.toNatClampNeg * u.toInt64)) ((vp_updL (rfU fL q.toInt64 k) k (fL x.toNatClampNeg * u.toInt64)) k) (nI k) k fO) (vp_updL (rfU fL q.toInt64 k) k (fL x.toNatClampNeg * u.toInt64)) c t fD (upd mM k u) (upd mP k q) := by
  obtain ⟨h1, h2, h3⟩ := cd_add h0
  obtain ⟨a1, a2, a3⟩ := in9 h2.1
  obtain ⟨b1, b2, b3⟩ := in9 h2.2
  have h := LI_new hI (inM_clamp h1) h3 a1 a2 b1 b2
  rw [← a3, ← b3, ← inM_eq h1] at h
  exact h
end TIE
