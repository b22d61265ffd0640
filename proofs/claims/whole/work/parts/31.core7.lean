/-! CORE 7: what holds between two calls -/
def LenOk (k : Nat) (fB mM mP : Nat → Int32) (fL : Nat → Int64) (La pp uu bb : Nat → Nat) : Prop :=
  (∀ j, j < k → fL j = lN (La j) ∧ 0 < La j ∧ La j ≤ 9 ^ (k - 1)) ∧ prN pp (k - 1) = La 0 ∧
  ∀ j, 0 < j → j < k → mP j = nI (pp j) ∧ mM j = nI (uu j) ∧ fB j = nI (bb j) ∧ bb j < j ∧ 0 < pp j ∧ pp j ≤ 9 ∧ 0 < uu j ∧ uu j ≤ 9 ∧ pp j ∣ La (bb j) ∧ La (bb j) / pp j * uu j = La j
def StOk (k : Nat) (fB fS : Nat → Int32) (g : Nat → Nat) : Prop := g 0 = 0 ∧ (∀ j, 0 < j → j < k → ∃ q, q < j ∧ fB j = nI q ∧ g j = g q + 1) ∧ ∀ j, j < k → fS j = nI (g j)
def LI (k st : Nat) (fB fS fO : Nat → Int32) (fL : Nat → Int64) (c : Nat) (t : Int32) (fD mM mP : Nat → Int32) : Prop :=
  MOk k fL fO ∧ st < k ∧ MPm k fO ∧ c ≤ 6 ∧ 0 ≤ t.toInt ∧ (∀ j, j < c → -300 ≤ (fD j).toInt ∧ (fD j).toInt ≤ 300) ∧ (∀ j, c ≤ j → j < 6 → fD j = 0) ∧
  (∃ La pp uu bb, LenOk k fB mM mP fL La pp uu bb) ∧ (∃ g, StOk k fB fS g) ∧ ∀ j, j < k → fO j = srt fL (fun _ => 0) k j
theorem p9 {k : Nat} (h : k ≤ 8) : 9 ^ (k - 1) ≤ 4782969 := by
  have h1 : 9 ^ (k - 1) ≤ 9 ^ 7 := Nat.pow_le_pow_right (by decide) (by omega)
  exact Nat.le_trans h1 (by decide)
theorem LenOk.lay {k : Nat} {fB mM mP : Nat → Int32} {fL : Nat → Int64} {La pp uu bb : Nat → Nat} (hk : k ≤ 8) (h : LenOk k fB mM mP fL La pp uu bb) : LayOk k fB mM mP La pp uu bb := by
  obtain ⟨h1, h2, h3⟩ := h
  have h9 := p9 hk
  refine ⟨fun j hj => ⟨(h1 j hj).2.1, ?_⟩, h2, fun j h0 hj => ?_⟩
  · have := (h1 j hj).2.2
    omega
  · obtain ⟨a1, a2, a3, a4, a5, a6, a7, a8, a9, b1⟩ := h3 j h0 hj
    exact ⟨a1, a2, a3, a4, a5, a6, a8, b1⟩
theorem prN_congr {p q : Nat → Nat} : ∀ n, (∀ j, 0 < j → j ≤ n → p j = q j) → prN p n = prN q n := by
  intro n
  induction n with
  | zero => intro _; rfl
  | succ n ih =>
    intro h
    show prN p n * p (n + 1) = prN q n * q (n + 1)
    rw [ih (fun j h0 hj => h j h0 (by omega)), h (n + 1) (by omega) (Nat.le_refl _)]
/-- the lengths when a measure is new -/
def nwL (fL : Nat → Int64) (k jx : Nat) (u q : Int32) : Nat → Int64 := vp_updL (rfU fL q.toInt64 k) k (fL jx * u.toInt64)
def nwA (La : Nat → Nat) (k jx un qn : Nat) : Nat → Nat := fun j => if j < k then La j * qn else La jx * un
def nwP (pp : Nat → Nat) (k q : Nat) : Nat → Nat := fun j => if j = k then q else pp j
theorem nwL_at {k : Nat} {fB mM mP : Nat → Int32} {fL : Nat → Int64} {La pp uu bb : Nat → Nat} {jx un qn : Nat} (h : LenOk k fB mM mP fL La pp uu bb) (hj : jx < k) (hu : un ≤ 9) (hq : qn ≤ 9) : ∀ j, j < k + 1 → nwL fL k jx (nI un) (nI qn) j = lN (nwA La k jx un qn j) := by
  intro j hjk
  unfold nwL nwA vp_updL rfU
  by_cases h1 : j = k
  · subst h1
    rw [if_pos rfl, if_neg (Nat.lt_irrefl _), (h.1 jx hj).1, nI_l (by omega), lN_mul]
  · rw [if_neg h1, if_pos (by omega), if_pos (by omega), (h.1 j (by omega)).1, nI_l (by omega), lN_mul]
theorem LenOk_new {k : Nat} {fB mM mP : Nat → Int32} {fL : Nat → Int64} {La pp uu bb : Nat → Nat} {jx un qn : Nat} (hk1 : 1 ≤ k) (h : LenOk k fB mM mP fL La pp uu bb) (hj : jx < k) (hu0 : 1 ≤ un) (hu : un ≤ 9) (hq0 : 1 ≤ qn) (hq : qn ≤ 9) :
    LenOk (k + 1) (upd fB k (nI jx)) (upd mM k (nI un)) (upd mP k (nI qn)) (nwL fL k jx (nI un) (nI qn)) (nwA La k jx un qn) (nwP pp k qn) (nwP uu k un) (nwP bb k jx) := by
  obtain ⟨h1, h2, h3⟩ := h
  obtain ⟨n, rfl⟩ : ∃ n, k = n + 1 := ⟨k - 1, by omega⟩
  have hA : ∀ i, i < n + 1 → nwA La (n + 1) jx un qn i = La i * qn := fun i hi => if_pos hi
  have hB : nwA La (n + 1) jx un qn (n + 1) = La jx * un := if_neg (Nat.lt_irrefl _)
  have e9 : 9 ^ (n + 1 - 1) * 9 = 9 ^ (n + 1 + 1 - 1) := by rw [Nat.add_sub_cancel, Nat.add_sub_cancel, Nat.pow_succ]
  refine ⟨fun j hjk => ⟨nwL_at ⟨h1, h2, h3⟩ hj hu hq j hjk, ?_⟩, ?_, ?_⟩
  · by_cases q : j = n + 1
    · subst q
      rw [hB]
      obtain ⟨-, a, b⟩ := h1 jx hj
      refine ⟨Nat.mul_pos a hu0, ?_⟩
      rw [← e9]
      exact Nat.mul_le_mul b hu
    · rw [hA j (by omega)]
      obtain ⟨-, a, b⟩ := h1 j (by omega)
      refine ⟨Nat.mul_pos a hq0, ?_⟩
      rw [← e9]
      exact Nat.mul_le_mul b hq
  · show prN (nwP pp (n + 1) qn) n * nwP pp (n + 1) qn (n + 1) = _
    rw [hA 0 (by omega), ← h2, show nwP pp (n + 1) qn (n + 1) = qn from if_pos rfl, Nat.add_sub_cancel]
    rw [prN_congr (p := nwP pp (n + 1) qn) (q := pp) n (fun j _ hj => (if_neg (by omega) : nwP pp (n + 1) qn j = pp j))]
  · intro j h0 hjk
    by_cases q : j = n + 1
    · subst q
      have e : ∀ f : Nat → Nat, ∀ z, nwP f (n + 1) z (n + 1) = z := fun f z => if_pos rfl
      rw [e, e, e, hA jx hj, hB]
      exact ⟨if_pos rfl, if_pos rfl, if_pos rfl, hj, hq0, hq, hu0, hu, Nat.dvd_mul_left qn (La jx), by rw [Nat.mul_div_cancel _ hq0]⟩
    · obtain ⟨a1, a2, a3, a4, a5, a6, a7, a8, a9, b1⟩ := h3 j h0 (by omega)
      have e : ∀ f : Nat → Nat, ∀ z, nwP f (n + 1) z j = f j := fun f z => if_neg q
      have e2 : ∀ f : Nat → Int32, ∀ z, upd f (n + 1) z j = f j := fun f z => if_neg q
      rw [e, e, e, e2, e2, e2, hA (bb j) (by omega), hA j (by omega)]
      refine ⟨a1, a2, a3, a4, a5, a6, a7, a8, Nat.dvd_trans a9 (Nat.dvd_mul_right _ _), ?_⟩
      obtain ⟨z, ez⟩ := a9
      rw [ez, Nat.mul_div_cancel_left _ a5] at b1
      rw [ez, Nat.mul_assoc, Nat.mul_div_cancel_left _ a5, ← b1]
      simp only [Nat.mul_assoc, Nat.mul_comm, Nat.mul_left_comm]
theorem StOk_new {k : Nat} {fB fS : Nat → Int32} {g : Nat → Nat} {jx : Nat} (hk1 : 1 ≤ k) (h : StOk k fB fS g) (hj : jx < k) : StOk (k + 1) (upd fB k (nI jx)) (upd fS k (fS jx + 1)) (nwP g k (g jx + 1)) := by
  obtain ⟨h0, h1, h2⟩ := h
  refine ⟨?_, ?_, ?_⟩
  · show nwP g k (g jx + 1) 0 = 0
    rw [nwP, if_neg (by omega)]; exact h0
  · intro j hj0 hjk
    by_cases q : j = k
    · subst q
      refine ⟨jx, hj, if_pos rfl, ?_⟩
      rw [show nwP g j (g jx + 1) j = g jx + 1 from if_pos rfl, show nwP g j (g jx + 1) jx = g jx from if_neg (by omega)]
    · obtain ⟨b, hb, e1, e2⟩ := h1 j hj0 (by omega)
      refine ⟨b, hb, (if_neg q).trans e1, ?_⟩
      rw [show nwP g k (g jx + 1) j = g j from if_neg q, show nwP g k (g jx + 1) b = g b from if_neg (by omega)]; exact e2
  · intro j hjk
    by_cases q : j = k
    · subst q
      rw [nwP, if_pos rfl, show upd fS j (fS jx + 1) j = fS jx + 1 from if_pos rfl, h2 jx hj]; exact nI_1 _
    · rw [nwP, if_neg q, show upd fS k (fS jx + 1) j = fS j from if_neg q]; exact h2 j (by omega)
theorem nwL_cmp {k : Nat} {fB mM mP : Nat → Int32} {fL : Nat → Int64} {La pp uu bb : Nat → Nat} {jx un qn : Nat} (hk : k ≤ 8) (h : LenOk k fB mM mP fL La pp uu bb) (hj : jx < k) (hu : un ≤ 9) (hq0 : 1 ≤ qn) (hq : qn ≤ 9) :
    ∀ a b, a < k → b < k → ((nwL fL k jx (nI un) (nI qn) a).toInt < (nwL fL k jx (nI un) (nI qn) b).toInt ↔ (fL a).toInt < (fL b).toInt) := by
  intro a b ha hb
  have h9 := p9 hk
  have ba := (h.1 a ha).2.2
  have bb' := (h.1 b hb).2.2
  have ma : La a * qn ≤ 4782969 * 9 := Nat.mul_le_mul (by omega) hq
  have mb : La b * qn ≤ 4782969 * 9 := Nat.mul_le_mul (by omega) hq
  rw [nwL_at h hj hu hq a (by omega), nwL_at h hj hu hq b (by omega), (h.1 a ha).1, (h.1 b hb).1, show nwA La k jx un qn a = La a * qn from if_pos ha, show nwA La k jx un qn b = La b * qn from if_pos hb,
    pk_lT (by omega), pk_lT (by omega), pk_lT (by omega), pk_lT (by omega)]
  constructor
  · intro z
    have z2 : La a * qn < La b * qn := by omega
    have z3 := Nat.lt_of_mul_lt_mul_right z2
    omega
  · intro z
    have z2 : La a < La b := by omega
    have z3 := (Nat.mul_lt_mul_right (show 0 < qn from hq0)).mpr z2
    omega
theorem srt_out (L : Nat → Int64) (o : Nat → Int32) : ∀ m j, m ≤ j → srt L o m j = o j := by
  intro m
  induction m with
  | zero => intro j _; rfl
  | succ m ih =>
    intro j hj
    have hp := insP_le L (L m) (srt L o m) m
    rw [srt, insO_eq, insF, if_neg (by omega), if_neg (by omega), if_neg (by omega)]
    exact ih j (by omega)
/-- the order of the reference is the class's -/
theorem ord_tie {k : Nat} {fB mM mP fO : Nat → Int32} {fL : Nat → Int64} {La pp uu bb : Nat → Nat} {jx un qn : Nat} (hk : k ≤ 8) (h : LenOk k fB mM mP fL La pp uu bb) (hj : jx < k) (hu : un ≤ 9) (hq0 : 1 ≤ qn) (hq : qn ≤ 9) (hO : ∀ j, j < k → fO j = srt fL (fun _ => 0) k j) :
    ∀ j, srt (laF (nwA La k jx un qn) fL (k + 1)) fO (k + 1) j = insO (nwL fL k jx (nI un) (nI qn)) (nwL fL k jx (nI un) (nI qn) k) (nI k) k fO j := by
  intro j
  by_cases hjk : j < k + 1
  · have h1 : ∀ i, i < k → fO i = srt (nwL fL k jx (nI un) (nI qn)) fO k i := fun i hi => (hO i hi).trans ((srt_congr (by omega) (nwL_cmp hk h hj hu hq0 hq) k (Nat.le_refl k) i hi).symm)
    rw [srt_new h1 j hjk]
    refine srt_congr (k := k + 1) (by omega) (fun a b ha hb => ?_) (k + 1) (Nat.le_refl _) j hjk
    rw [nwL_at h hj hu hq a ha, nwL_at h hj hu hq b hb, show laF (nwA La k jx un qn) fL (k + 1) a = lN (nwA La k jx un qn a) from if_pos ha, show laF (nwA La k jx un qn) fL (k + 1) b = lN (nwA La k jx un qn b) from if_pos hb]
  · rw [srt_out _ _ (k + 1) j (by omega), insO_eq, insF]
    have hp := insP_le (nwL fL k jx (nI un) (nI qn)) (nwL fL k jx (nI un) (nI qn) k) fO k
    rw [if_neg (by omega), if_neg (by omega), if_neg (by omega)]
theorem len_tie {k : Nat} {fB mM mP : Nat → Int32} {fL : Nat → Int64} {La pp uu bb : Nat → Nat} {jx un qn : Nat} (h : LenOk k fB mM mP fL La pp uu bb) (hj : jx < k) (hu : un ≤ 9) (hq : qn ≤ 9) : ∀ j, laF (nwA La k jx un qn) fL (k + 1) j = nwL fL k jx (nI un) (nI qn) j := by
  intro j
  by_cases hjk : j < k + 1
  · rw [nwL_at h hj hu hq j hjk]; exact if_pos hjk
  · unfold laF nwL vp_updL rfU
    rw [if_neg hjk, if_neg (by omega), if_neg (by omega)]
theorem LI_new {k st : Nat} {fB fS fO : Nat → Int32} {fL : Nat → Int64} {c : Nat} {t : Int32} {fD mM mP : Nat → Int32} {jx un qn : Nat} (h : LI k st fB fS fO fL c t fD mM mP) (hj : jx < k) (hk8 : k < 8) (hu0 : 1 ≤ un) (hu : un ≤ 9) (hq0 : 1 ≤ qn) (hq : qn ≤ 9) :
    LI (k + 1) st (upd fB k (nI jx)) (upd fS k (fS jx + 1)) (insO (nwL fL k jx (nI un) (nI qn)) (nwL fL k jx (nI un) (nI qn) k) (nI k) k fO) (nwL fL k jx (nI un) (nI qn)) c t fD (upd mM k (nI un)) (upd mP k (nI qn)) := by
  obtain ⟨hM, hst, hQ, hc, ht, hD, hDz, ⟨La, pp, uu, bb, hL⟩, ⟨g, hg⟩, hO⟩ := h
  have hL2 := LenOk_new hM.1 hL hj hu0 hu hq0 hq
  have h9 := p9 (k := k + 1) (by omega)
  refine ⟨⟨by omega, by omega, fun j hj => ?_, fun i hi => ?_⟩, by omega, ?_, hc, ht, hD, hDz, ⟨_, _, _, _, hL2⟩, ⟨_, StOk_new hM.1 hg hj⟩, ?_⟩
  · obtain ⟨a1, a2, a3⟩ := hL2.1 j hj
    rw [a1, pk_lT (by omega)]
    omega
  · rw [insO_eq]
    exact insF_in (by omega) (insP_le _ _ _ k) hM.2.2.2 i hi
  · rw [insO_eq]
    exact MPm_ins (by omega) (insP_le _ _ _ k) hM.2.2.2 hQ
  · refine srt_new (fun i hi => ?_)
    rw [hO i hi]
    exact (srt_congr (by omega) (nwL_cmp (by omega) hL hj hu hq0 hq) k (Nat.le_refl k) i hi).symm
theorem hld_r (x : Int32) : -300 ≤ (hld x).toInt ∧ (hld x).toInt ≤ 300 := by
  have e1 : (300 : Int32).toInt = 300 := rfl
  have e2 : (-300 : Int32).toInt = -300 := rfl
  unfold hld
  split <;> rename_i h1 <;> (try split at h1) <;> (try split) <;> simp only [Int32.lt_iff_toInt_lt] at * <;> omega
theorem hdD_r {fW fD : Nat → Int32} {c : Nat} : ∀ j, j < c → -300 ≤ (hdD fW fD c j).toInt ∧ (hdD fW fD c j).toInt ≤ 300 := fun j hj => by
  rw [hdD, if_pos hj]; exact hld_r _
theorem hdD_z {fW fD : Nat → Int32} {c : Nat} (h : ∀ j, c ≤ j → j < 6 → fD j = 0) : ∀ j, c ≤ j → j < 6 → hdD fW fD c j = 0 := fun j h1 h2 => by
  rw [hdD, if_neg (by omega)]; exact h j h1 h2
theorem dDr_r {c : Nat} {t : Int32} {y : Nat} {fW fD : Nat → Int32} : ∀ j, j < c → -300 ≤ (dDr c t y fW fD j).toInt ∧ (dDr c t y fW fD j).toInt ≤ 300 := fun j hj => by
  unfold dDr
  by_cases q : dNo c y t (hdD fW fD c)
  · rw [ic_t q]; exact hdD_r j hj
  · rw [ic_f q]
    unfold upd
    split
    · exact ⟨by decide, by decide⟩
    · exact hdD_r j hj
theorem dDr_z {c : Nat} {t : Int32} {y : Nat} {fW fD : Nat → Int32} (h : ∀ j, c ≤ j → j < 6 → fD j = 0) : ∀ j, c ≤ j → j < 6 → dDr c t y fW fD j = 0 := fun j h1 h2 => by
  unfold dDr
  by_cases q : dNo c y t (hdD fW fD c)
  · rw [ic_t q]; exact hdD_z h j h1 h2
  · rw [ic_f q]
    unfold upd
    split
    · rfl
    · exact hdD_z h j h1 h2
theorem dIt_r {c : Nat} {t : Int32} {y : Nat} {fW fD : Nat → Int32} (h : ∀ j, j < c → -300 ≤ (fD j).toInt ∧ (fD j).toInt ≤ 300) : ∀ n, ∀ j, j < c → -300 ≤ (dIt c t y fW fD n j).toInt ∧ (dIt c t y fW fD n j).toInt ≤ 300
  | 0 => h
  | _ + 1 => dDr_r
theorem dIt_z {c : Nat} {t : Int32} {y : Nat} {fW fD : Nat → Int32} (h : ∀ j, c ≤ j → j < 6 → fD j = 0) : ∀ n, ∀ j, c ≤ j → j < 6 → dIt c t y fW fD n j = 0
  | 0 => h
  | n + 1 => dDr_z (dIt_z h n)
section LIS
variable {k st : Nat} {fB fS fO : Nat → Int32} {fL : Nat → Int64} {c : Nat} {t : Int32} {fD mM mP : Nat → Int32}
theorem LI.std (h : LI k st fB fS fO fL c t fD mM mP) {j : Nat} (hj : j < k) : LI k j fB fS fO fL c t fD mM mP := ⟨h.1, hj, h.2.2⟩
theorem LI.tol (h : LI k st fB fS fO fL c t fD mM mP) {x : Int32} (hx : inR 0 100 x) : LI k st fB fS fO fL c x fD mM mP := ⟨h.1, h.2.1, h.2.2.1, h.2.2.2.1, hx.1, h.2.2.2.2.2⟩
theorem LI.days (h : LI k st fB fS fO fL c t fD mM mP) (y : Nat) (fW : Nat → Int32) (n : Nat) : LI k st fB fS fO fL c t (dIt c t y fW fD n) mM mP := ⟨h.1, h.2.1, h.2.2.1, h.2.2.2.1, h.2.2.2.2.1, dIt_r h.2.2.2.2.2.1 n, dIt_z h.2.2.2.2.2.2.1 n, h.2.2.2.2.2.2.2⟩
theorem LI.sealed (h : LI k st fB fS fO fL c t fD mM mP) (v : Nat) : LI k st fB fS fO fL c t (upd fD v 0) mM mP := by
  refine ⟨h.1, h.2.1, h.2.2.1, h.2.2.2.1, h.2.2.2.2.1, fun j hj => ?_, fun j h1 h2 => ?_, h.2.2.2.2.2.2.2⟩
  · unfold upd
    split
    · exact ⟨by decide, by decide⟩
    · exact h.2.2.2.2.2.1 j hj
  · unfold upd
    split
    · rfl
    · exact h.2.2.2.2.2.2.1 j h1 h2
theorem LI.stall (h : LI k st fB fS fO fL c t fD mM mP) (hc : c < 6) : LI k st fB fS fO fL (c + 1) t (upd fD c 0) mM mP := by
  refine ⟨h.1, h.2.1, h.2.2.1, by omega, h.2.2.2.2.1, fun j hj => ?_, fun j h1 h2 => ?_, h.2.2.2.2.2.2.2⟩
  · unfold upd
    split
    · exact ⟨by decide, by decide⟩
    · exact h.2.2.2.2.2.1 j (by omega)
  · unfold upd
    split
    · rfl
    · exact h.2.2.2.2.2.2.1 j (by omega) h2
end LIS
/-- a new object -/
theorem LI_0 : LI 1 0 (upd (fun _ => (0 : Int32)) 0 (-1)) (fun _ => 0) (fun _ => 0) (vp_updL (fun _ => (0 : Int64)) 0 1) 0 10 (fun _ => 0) (fun _ => 0) (fun _ => 0) := by
  refine ⟨⟨Nat.le_refl _, by decide, fun j hj => ?_, fun i hi => ?_⟩, by decide, ⟨fun i j hi hj _ => by omega, fun x hx => ⟨0, by decide, ?_⟩⟩, by decide, by decide, fun j hj => by omega, fun j _ _ => rfl,
    ⟨fun _ => 1, fun _ => 1, fun _ => 1, fun _ => 0, fun j hj => ?_, rfl, fun j h0 hj => by omega⟩, ⟨fun _ => 0, rfl, fun j h0 hj => by omega, fun j hj => rfl⟩, fun j hj => ?_⟩
  · have e : j = 0 := by omega
    subst e
    exact ⟨by decide, by decide⟩
  · show inM 1 (0 : Int32)
    exact ⟨by decide, by decide⟩
  · have e : x = 0 := by omega
    subst e
    rfl
  · have e : j = 0 := by omega
    subst e
    exact ⟨rfl, by decide, by decide⟩
  · have e : j = 0 := by omega
    subst e
    rfl
