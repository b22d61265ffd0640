/-! CORE 3 (p43): what holds of the market between two calls (out of whole's parts 20, 27, 31) -/
theorem inM_iff2 {k : Nat} {x : Int32} (hk : k ≤ 8) : ((0 : Int32).toInt ≤ x.toInt ∧ x.toInt ≤ (nI k - 1).toInt) ↔ inM k x := by
  rw [nI_subI (by omega) (by decide) (by decide), t_0]
  have e1 : (1 : Int32).toInt = 1 := rfl
  unfold inM
  omega
theorem ne0_of {x : Int64} (h : 0 < x.toInt) : ¬ x = 0 := fun q => by
  rw [q] at h
  exact absurd h (by decide)
theorem cancelI (x z : Int32) : x + z - x = z := by
  apply Int32.toBitVec_inj.1
  show x.toBitVec + z.toBitVec - x.toBitVec = z.toBitVec
  rw [BitVec.add_comm, BitVec.add_sub_cancel]
theorem bhN_of {fD : Nat → Int32} {i : Nat} (h : ¬ bhN fD i = -1) : ∃ j, j < i ∧ bhN fD i = nI j := by
  induction i with
  | zero => exact absurd rfl h
  | succ i ih =>
    by_cases q : bhN fD i = -1 ∨ (absI (fD i)).toInt < (absI (fD (bhN fD i).toNatClampNeg)).toInt
    · exact ⟨i, Nat.lt_succ_self i, ic_t q⟩
    · have e : bhN fD (i + 1) = bhN fD i := ic_f q
      rw [e] at h ⊢
      obtain ⟨j, hj, e2⟩ := ih h
      exact ⟨j, by omega, e2⟩
theorem bgN_of {fD : Nat → Int32} {i : Nat} (h : ¬ bgN fD i = -1) : ∃ j, j < i ∧ bgN fD i = nI j := by
  induction i with
  | zero => exact absurd rfl h
  | succ i ih =>
    by_cases q : bgN fD i = -1 ∨ (fD (bgN fD i).toNatClampNeg).toInt < (fD i).toInt
    · exact ⟨i, Nat.lt_succ_self i, ic_t q⟩
    · have e : bgN fD (i + 1) = bgN fD i := ic_f q
      rw [e] at h ⊢
      obtain ⟨j, hj, e2⟩ := ih h
      exact ⟨j, by omega, e2⟩
theorem tp_pos {x y : Int64} (hx : 0 < x.toInt ∧ x.toInt ≤ 4782969) (hy : 0 < y.toInt ∧ y.toInt ≤ 4782969) : 0 < (tp x y).toInt := by
  obtain ⟨u, hu, hu2, rfl⟩ := lN_of (b := 4782969) hx.1 hx.2
  obtain ⟨v, hv, hv2, rfl⟩ := lN_of (b := 4782969) hy.1 hy.2
  rw [tp_lN (by omega) (by omega)]
  have h1 : 0 < u / Nat.gcd u v := Nat.div_pos (Nat.gcd_le_left v hu) (Nat.gcd_pos_of_pos_left v hu)
  have h2 : u / Nat.gcd u v ≤ u := Nat.div_le_self _ _
  rw [pk_lT (by omega)]
  omega
theorem inR_nI {x : Int32} {lo hi : Int} (h : inR lo hi x) (h0 : 0 ≤ lo) (h2 : hi ≤ 100000) : ∃ n : Nat, lo ≤ n ∧ (n : Int) ≤ hi ∧ x = nI n := by
  obtain ⟨h1, h3⟩ := h
  obtain ⟨n, hn, rfl⟩ := nI_of (x := x) (by rw [Int32.lt_iff_toInt_lt, t_0]; omega)
  rw [nI_toInt hn] at h1 h3
  exact ⟨n, by omega, h3, rfl⟩
theorem gvn_tp {x y : Int64} {w d : Int32} (hx : 0 < x.toInt ∧ x.toInt ≤ 4782969) (hy : 0 < y.toInt ∧ y.toInt ≤ 4782969) (hw : inR 1 200 w) (hd : -300 ≤ d.toInt ∧ d.toInt ≤ 300) :
    w.toInt64 * tp x y * (1000 + d).toInt64 / tp y x = gvn x y w d := by
  obtain ⟨u, hu, hu2, rfl⟩ := lN_of (b := 4782969) hx.1 hx.2
  obtain ⟨v, hv, hv2, rfl⟩ := lN_of (b := 4782969) hy.1 hy.2
  obtain ⟨n, hn1, hn2, rfl⟩ := inR_nI hw (by decide) (by decide)
  have e1 : (1000 : Int32).toInt = 1000 := rfl
  have hq : inR 700 1300 (1000 + d) := by
    unfold inR
    rw [fb_addI (by omega) (by omega)]
    omega
  obtain ⟨q, hq1, hq2, eq⟩ := inR_nI hq (by decide) (by decide)
  unfold gvn
  rw [eq, tp_lN (by omega) (by omega), tp_lN (by omega) (by omega), nI_l (by omega), nI_l (by omega), Nat.gcd_comm v u]
  have hg : 0 < Nat.gcd u v := Nat.gcd_pos_of_pos_left v hu
  obtain ⟨u1, eu⟩ := Nat.gcd_dvd_left u v
  obtain ⟨v1, ev⟩ := Nat.gcd_dvd_right u v
  generalize Nat.gcd u v = g at hg eu ev ⊢
  subst eu ev
  rw [Nat.mul_div_cancel_left _ hg, Nat.mul_div_cancel_left _ hg]
  have hu1 : u1 ≤ g * u1 := Nat.le_mul_of_pos_left _ hg
  have hv1 : v1 ≤ g * v1 := Nat.le_mul_of_pos_left _ hg
  have hv0 : 0 < v1 := Nat.pos_of_mul_pos_left hv
  simp only [lN_mul]
  have b1 : n * u1 * q < 2 ^ 63 := by
    have h1 : n * u1 ≤ 200 * 4782969 := Nat.mul_le_mul (by omega) (by omega)
    have h2 : n * u1 * q ≤ 200 * 4782969 * 1300 := Nat.mul_le_mul h1 (by omega)
    omega
  have b2 : g * u1 * n * q < 2 ^ 63 := by
    have h1 : g * u1 * n ≤ 4782969 * 200 := Nat.mul_le_mul (by omega) (by omega)
    have h2 : g * u1 * n * q ≤ 4782969 * 200 * 1300 := Nat.mul_le_mul h1 (by omega)
    omega
  rw [pk_lDiv b1 hv0 (by omega), pk_lDiv b2 hv (by omega)]
  congr 1
  rw [show g * u1 * n * q = g * (n * u1 * q) by simp only [Nat.mul_assoc, Nat.mul_comm, Nat.mul_left_comm]]
  exact (Nat.mul_div_mul_left _ _ hg).symm
/-- a measure goes into so many of itself without a rest -/
theorem jrem_self {x : Int64} {w : Int32} (hx : 0 < x.toInt ∧ x.toInt ≤ 4782969) (hw : inR 1 200 w) : (jrem (x * w.toInt64) x).toInt = (0 : Int64).toInt := by
  obtain ⟨u, hu, hu2, rfl⟩ := lN_of (b := 4782969) hx.1 hx.2
  obtain ⟨n, hn1, hn2, rfl⟩ := inR_nI hw (by decide) (by decide)
  rw [nI_l (by omega), lN_mul]
  have h2 : u * n ≤ 4782969 * 200 := Nat.mul_le_mul (by omega) (by omega)
  show (lN (u * n) - lN (u * n) / lN u * lN u).toInt = _
  rw [pk_lRem (by omega) hu (by omega), Nat.mul_mod_right]
  rfl

/-! CORE 5: ranks and lengths, laid anew -/
noncomputable def insP (fL : Nat → Int64) (w : Int64) : Nat → (Nat → Int32) → Nat
  | 0, _ => 0
  | r + 1, o => ic ((fL (o r).toNatClampNeg).toInt < w.toInt) (insP fL w r o) (r + 1)
def insF (p : Nat) (v : Int32) (r : Nat) (o : Nat → Int32) : Nat → Int32 := fun j => if j < p then o j else if j = p then v else if j ≤ r then o (j - 1) else o j
theorem insP_le (fL : Nat → Int64) (w : Int64) (o : Nat → Int32) : ∀ r, insP fL w r o ≤ r := by
  intro r
  induction r with
  | zero => exact Nat.le_refl 0
  | succ r ih =>
    by_cases h : (fL (o r).toNatClampNeg).toInt < w.toInt
    · rw [insP, ic_t h]; omega
    · rw [insP, ic_f h]; exact Nat.le_refl _
theorem insP_congr {fL gL : Nat → Int64} {w w2 : Int64} {o o2 : Nat → Int32} : ∀ r, (∀ j, j < r → ((fL (o j).toNatClampNeg).toInt < w.toInt ↔ (gL (o2 j).toNatClampNeg).toInt < w2.toInt)) → insP fL w r o = insP gL w2 r o2 := by
  intro r
  induction r with
  | zero => intro _; rfl
  | succ r ih =>
    intro h
    have h1 := ih (fun j hj => h j (by omega))
    have h2 := h r (Nat.lt_succ_self r)
    by_cases q : (fL (o r).toNatClampNeg).toInt < w.toInt
    · rw [insP, insP, ic_t q, ic_t (h2.mp q), h1]
    · rw [insP, insP, ic_f q, ic_f (fun z => q (h2.mpr z))]
theorem insO_eq (fL : Nat → Int64) (w : Int64) (v : Int32) : ∀ r o, insO fL w v r o = insF (insP fL w r o) v r o := by
  intro r
  induction r with
  | zero =>
    intro o
    funext j
    show upd o 0 v j = insF 0 v 0 o j
    unfold upd insF
    by_cases h : j = 0
    · rw [if_pos h, if_neg (by omega), if_pos h]
    · rw [if_neg h, if_neg (by omega), if_neg h, if_neg (by omega)]
  | succ r ih =>
    intro o
    have hle := insP_le fL w o r
    by_cases h : (fL (o r).toNatClampNeg).toInt < w.toInt
    · rw [insO, ic_t h, insP, ic_t h, ih]
      have e : insP fL w r (upd o (r + 1) (o r)) = insP fL w r o := insP_congr r (fun j hj => by rw [show upd o (r + 1) (o r) j = o j from if_neg (by omega)])
      rw [e]
      funext j
      unfold insF
      by_cases h1 : j < insP fL w r o
      · rw [if_pos h1, if_pos h1]; exact if_neg (by omega)
      · rw [if_neg h1, if_neg h1]
        by_cases h2 : j = insP fL w r o
        · rw [if_pos h2, if_pos h2]
        · rw [if_neg h2, if_neg h2]
          by_cases h3 : j ≤ r
          · rw [if_pos h3, if_pos (by omega)]; exact if_neg (by omega)
          · rw [if_neg h3]
            by_cases h4 : j = r + 1
            · subst h4
              rw [if_pos (Nat.le_refl _)]
              exact if_pos rfl
            · rw [if_neg (by omega)]; exact if_neg h4
    · rw [insO, ic_f h, insP, ic_f h]
      funext j
      unfold upd insF
      by_cases h1 : j = r + 1
      · rw [if_pos h1, if_neg (by omega), if_pos h1]
      · rw [if_neg h1]
        by_cases h2 : j < r + 1
        · rw [if_pos h2]
        · rw [if_neg h2, if_neg h1, if_neg (by omega)]
noncomputable def srt (L : Nat → Int64) (o : Nat → Int32) : Nat → (Nat → Int32)
  | 0 => o
  | m + 1 => insO L (L m) (nI m) m (srt L o m)
theorem insF_in {p m : Nat} {o : Nat → Int32} (hm : m < 2 ^ 30) (hp : p ≤ m) (h : ∀ j, j < m → inM m (o j)) : ∀ j, j < m + 1 → inM (m + 1) (insF p (nI m) m o j) := by
  intro j hj
  unfold insF
  by_cases h1 : j < p
  · rw [if_pos h1]; exact inM_le (h j (by omega)) (by omega)
  · rw [if_neg h1]
    by_cases h2 : j = p
    · rw [if_pos h2]; exact inM_nI (Nat.lt_succ_self m) (by omega)
    · rw [if_neg h2, if_pos (by omega)]; exact inM_le (h (j - 1) (by omega)) (by omega)
theorem srtIn (L : Nat → Int64) (o : Nat → Int32) : ∀ m, m < 2 ^ 30 → ∀ j, j < m → inM m (srt L o m j) := by
  intro m
  induction m with
  | zero => intro _ j hj; omega
  | succ m ih =>
    intro hm j hj
    rw [srt, insO_eq]
    exact insF_in (by omega) (insP_le _ _ _ m) (ih (by omega)) j hj
theorem insF_congr {p m : Nat} {v : Int32} {o o2 : Nat → Int32} (hp : p ≤ m) (h : ∀ j, j < m → o j = o2 j) : ∀ j, j < m + 1 → insF p v m o j = insF p v m o2 j := by
  intro j hj
  unfold insF
  by_cases h1 : j < p
  · rw [if_pos h1, if_pos h1]; exact h j (by omega)
  · rw [if_neg h1, if_neg h1]
    by_cases h2 : j = p
    · rw [if_pos h2, if_pos h2]
    · rw [if_neg h2, if_neg h2, if_pos (by omega), if_pos (by omega)]; exact h (j - 1) (by omega)
theorem srt_congr {L L2 : Nat → Int64} {o o2 : Nat → Int32} {k : Nat} (hk : k < 2 ^ 30) (h : ∀ a b, a < k → b < k → ((L a).toInt < (L b).toInt ↔ (L2 a).toInt < (L2 b).toInt)) : ∀ m, m ≤ k → ∀ j, j < m → srt L o m j = srt L2 o2 m j := by
  intro m
  induction m with
  | zero => intro _ j hj; omega
  | succ m ih =>
    intro hm j hj
    have h1 := ih (by omega)
    rw [srt, srt, insO_eq, insO_eq]
    have e : insP L (L m) m (srt L o m) = insP L2 (L2 m) m (srt L2 o2 m) := insP_congr m (fun j hj => by
      rw [h1 j hj]
      have h2 := inM_clamp (srtIn L2 o2 m (by omega) j hj)
      exact h _ _ (by omega) (by omega))
    rw [e]
    exact insF_congr (insP_le _ _ _ m) h1 j hj
/-- the newest put into its rank: as if all were ranked anew -/
theorem srt_new {L : Nat → Int64} {o fO : Nat → Int32} {k : Nat} (h : ∀ j, j < k → fO j = srt L o k j) : ∀ j, j < k + 1 → insO L (L k) (nI k) k fO j = srt L o (k + 1) j := by
  intro j hj
  rw [srt, insO_eq, insO_eq]
  have e : insP L (L k) k fO = insP L (L k) k (srt L o k) := insP_congr k (fun j hj => by rw [h j hj])
  rw [e]
  exact insF_congr (insP_le _ _ _ k) h j hj
theorem MPm_ins {k p : Nat} {fO : Nat → Int32} (hk : k < 2 ^ 30) (hp : p ≤ k) (hin : ∀ i, i < k → inM k (fO i)) (h : MPm k fO) : MPm (k + 1) (insF p (nI k) k fO) := by
  have val : ∀ i, i < k + 1 → (i < p ∧ insF p (nI k) k fO i = fO i) ∨ (i = p ∧ insF p (nI k) k fO i = nI k) ∨ (p < i ∧ insF p (nI k) k fO i = fO (i - 1)) := by
    intro i hi
    unfold insF
    by_cases h1 : i < p
    · exact Or.inl ⟨h1, if_pos h1⟩
    · rw [if_neg h1]
      by_cases h2 : i = p
      · exact Or.inr (Or.inl ⟨h2, if_pos h2⟩)
      · exact Or.inr (Or.inr ⟨by omega, by rw [if_neg h2, if_pos (by omega)]⟩)
  have ne : ∀ i, i < k → fO i ≠ nI k := by
    intro i hi q
    have h1 := hin i hi
    rw [q] at h1
    have h2 := h1.2
    rw [nI_toInt (by omega)] at h2
    omega
  constructor
  · intro i j hi hj e
    rcases val i hi with ⟨a1, a2⟩ | ⟨a1, a2⟩ | ⟨a1, a2⟩ <;> rcases val j hj with ⟨b1, b2⟩ | ⟨b1, b2⟩ | ⟨b1, b2⟩ <;> rw [a2, b2] at e
    · exact h.1 i j (by omega) (by omega) e
    · exact absurd e (ne i (by omega))
    · have := h.1 i (j - 1) (by omega) (by omega) e; omega
    · exact absurd e.symm (ne j (by omega))
    · omega
    · exact absurd e.symm (ne (j - 1) (by omega))
    · have := h.1 (i - 1) j (by omega) (by omega) e; omega
    · exact absurd e (ne (i - 1) (by omega))
    · have := h.1 (i - 1) (j - 1) (by omega) (by omega) e; omega
  · intro x hx
    by_cases q : x = k
    · subst q
      refine ⟨p, by omega, ?_⟩
      rcases val p (by omega) with ⟨a1, a2⟩ | ⟨a1, a2⟩ | ⟨a1, a2⟩
      · omega
      · exact a2
      · omega
    · obtain ⟨i, hi, e⟩ := h.2 x (by omega)
      by_cases z : i < p
      · refine ⟨i, by omega, ?_⟩
        rcases val i (by omega) with ⟨a1, a2⟩ | ⟨a1, a2⟩ | ⟨a1, a2⟩
        · rw [a2, e]
        · omega
        · omega
      · refine ⟨i + 1, by omega, ?_⟩
        rcases val (i + 1) (by omega) with ⟨a1, a2⟩ | ⟨a1, a2⟩ | ⟨a1, a2⟩
        · omega
        · omega
        · rw [a2, Nat.add_sub_cancel, e]
/-- the product of the parts 1 .. n -/
def prN (p : Nat → Nat) : Nat → Nat
  | 0 => 1
  | n + 1 => prN p n * p (n + 1)
def laF (La : Nat → Nat) (g : Nat → Int64) (i : Nat) : Nat → Int64 := fun j => if j < i then lN (La j) else g j
theorem laF_s (La : Nat → Nat) (g : Nat → Int64) (i : Nat) : vp_updL (laF La g i) i (lN (La i)) = laF La g (i + 1) := by
  funext j
  simp only [vp_updL, laF]
  by_cases h : j = i
  · subst h; simp
  · by_cases h2 : j < i
    · rw [if_neg h, if_pos h2, if_pos (by omega)]
    · rw [if_neg h, if_neg h2, if_neg (by omega)]
theorem laF_1 (La : Nat → Nat) (g : Nat → Int64) : vp_updL g 0 (lN (La 0)) = laF La g 1 := by
  have h := laF_s La g 0
  rw [show laF La g 0 = g from by funext j; simp [laF]] at h
  exact h
theorem xv_eqJ {cA : ClassId} {n : Nat} {f g : Nat → Int64} (h : ∀ j, j < n → f j = g j) : vp_cell cA (n, .inr (.inl f)) = vp_cell cA (n, .inr (.inl g)) := by
  rw [vp_cell_l, vp_cell_l]
  unfold arrV
  congr 2
  funext j
  exact congrArg Value.long (h j.val j.isLt)
theorem va_P.toJ {D : va_G} {cl : List vw_C} {ws : va_W} {H : Heap} {a n : Nat} {cA : ClassId} {f g : Nat → Int64} (hP : va_P D cl ws H) (q : Nat) (ha : ws[q]? = some (a, .inl (cA, n, .inr (.inl f)))) (h : ∀ j, j < n → f j = g j) : va_P D cl (ws.set q (a, .inl (cA, n, .inr (.inl g)))) H := by
  have hl := (List.getElem?_eq_some_iff.mp ha).1
  intro k z hk
  by_cases hkq : k = q
  · subst hkq
    rw [List.getElem?_set_self hl] at hk
    cases hk
    have h1 := hP k _ ha
    show H[a]? = some (vp_cell cA (n, .inr (.inl g)))
    rw [← xv_eqJ h]
    exact h1
  · rw [List.getElem?_set_ne (Ne.symm hkq)] at hk
    exact hP k z hk

def LayOk (k : Nat) (B M Pa : Nat → Int32) (La pp uu bb : Nat → Nat) : Prop := (∀ j, j < k → 0 < La j ∧ La j < 2 ^ 40) ∧ prN pp (k - 1) = La 0 ∧ ∀ j, 0 < j → j < k → Pa j = nI (pp j) ∧ M j = nI (uu j) ∧ B j = nI (bb j) ∧ bb j < j ∧ 0 < pp j ∧ pp j ≤ 9 ∧ uu j ≤ 9 ∧ La (bb j) / pp j * uu j = La j
/-! CORE 7: what holds between two calls -/
def LenOk (k : Nat) (fB mM mP : Nat → Int32) (fL : Nat → Int64) (La pp uu bb : Nat → Nat) : Prop :=
  (∀ j, j < k → fL j = lN (La j) ∧ 0 < La j ∧ La j ≤ 9 ^ (k - 1)) ∧ prN pp (k - 1) = La 0 ∧
  ∀ j, 0 < j → j < k → mP j = nI (pp j) ∧ mM j = nI (uu j) ∧ fB j = nI (bb j) ∧ bb j < j ∧ 0 < pp j ∧ pp j ≤ 9 ∧ 0 < uu j ∧ uu j ≤ 9 ∧ pp j ∣ La (bb j) ∧ La (bb j) / pp j * uu j = La j
def StOk (k : Nat) (fB fS : Nat → Int32) (g : Nat → Nat) : Prop := g 0 = 0 ∧ (∀ j, 0 < j → j < k → ∃ q, q < j ∧ fB j = nI q ∧ g j = g q + 1) ∧ ∀ j, j < k → fS j = nI (g j)
def LI (k st : Nat) (fB fS fO : Nat → Int32) (fL : Nat → Int64) (c : Nat) (t : Int32) (fD mM mP : Nat → Int32) : Prop :=
  MOk k fL fO ∧ st < k ∧ MPm k fO ∧ c ≤ 6 ∧ 0 ≤ t.toInt ∧ (∀ j, j < c → -300 ≤ (fD j).toInt ∧ (fD j).toInt ≤ 300) ∧ (∀ j, c ≤ j → j < 6 → fD j = 0) ∧
  (∃ La pp uu bb, LenOk k fB mM mP fL La pp uu bb) ∧ (∃ g, StOk k fB fS g) ∧ ∀ j, j < k → fO j = srt fL (fun _ => 0) k j
theorem p9 {k : Nat} (h : k ≤ 8) : 9 ^ (k - 1) ≤ 4782969 := by
  have h1 : 9 ^ (k - 1) ≤ 9 ^ 7 := Nat.pow_le_pow_right (by decide) (by omega)
  exact Nat.le_trans h1 (by decide)
theorem LenOk.lay {k : Nat} {fB mM mP : Nat → Int32} {fL : Nat → Int64} {La pp uu bb : Nat → Nat} (hk : k ≤ 8) (h : LenOk k fB mM mP fL La pp uu bb) : LayOk k fB mM mP La pp uu bb := by
  obtain ⟨h1, h2, h3⟩ := h
  have h9 := p9 hk
  refine ⟨fun j hj => ⟨(h1 j hj).2.1, ?_⟩, h2, fun j h0 hj => ?_⟩
  · have := (h1 j hj).2.2
    omega
  · obtain ⟨a1, a2, a3, a4, a5, a6, a7, a8, a9, b1⟩ := h3 j h0 hj
    exact ⟨a1, a2, a3, a4, a5, a6, a8, b1⟩
theorem prN_congr {p q : Nat → Nat} : ∀ n, (∀ j, 0 < j → j ≤ n → p j = q j) → prN p n = prN q n := by
  intro n
  induction n with
  | zero => intro _; rfl
  | succ n ih =>
    intro h
    show prN p n * p (n + 1) = prN q n * q (n + 1)
    rw [ih (fun j h0 hj => h j h0 (by omega)), h (n + 1) (by omega) (Nat.le_refl _)]
/-- the lengths when a measure is new -/
def nwL (fL : Nat → Int64) (k jx : Nat) (u q : Int32) : Nat → Int64 := vp_updL (rfU fL q.toInt64 k) k (fL jx * u.toInt64)
def nwA (La : Nat → Nat) (k jx un qn : Nat) : Nat → Nat := fun j => if j < k then La j * qn else La jx * un
def nwP (pp : Nat → Nat) (k q : Nat) : Nat → Nat := fun j => if j = k then q else pp j
theorem nwL_at {k : Nat} {fB mM mP : Nat → Int32} {fL : Nat → Int64} {La pp uu bb : Nat → Nat} {jx un qn : Nat} (h : LenOk k fB mM mP fL La pp uu bb) (hj : jx < k) (hu : un ≤ 9) (hq : qn ≤ 9) : ∀ j, j < k + 1 → nwL fL k jx (nI un) (nI qn) j = lN (nwA La k jx un qn j) := by
  intro j hjk
  unfold nwL nwA vp_updL rfU
  by_cases h1 : j = k
  · subst h1
    rw [if_pos rfl, if_neg (Nat.lt_irrefl _), (h.1 jx hj).1, nI_l (by omega), lN_mul]
  · rw [if_neg h1, if_pos (by omega), if_pos (by omega), (h.1 j (by omega)).1, nI_l (by omega), lN_mul]
theorem LenOk_new {k : Nat} {fB mM mP : Nat → Int32} {fL : Nat → Int64} {La pp uu bb : Nat → Nat} {jx un qn : Nat} (hk1 : 1 ≤ k) (h : LenOk k fB mM mP fL La pp uu bb) (hj : jx < k) (hu0 : 1 ≤ un) (hu : un ≤ 9) (hq0 : 1 ≤ qn) (hq : qn ≤ 9) :
    LenOk (k + 1) (upd fB k (nI jx)) (upd mM k (nI un)) (upd mP k (nI qn)) (nwL fL k jx (nI un) (nI qn)) (nwA La k jx un qn) (nwP pp k qn) (nwP uu k un) (nwP bb k jx) := by
  obtain ⟨h1, h2, h3⟩ := h
  obtain ⟨n, rfl⟩ : ∃ n, k = n + 1 := ⟨k - 1, by omega⟩
  have hA : ∀ i, i < n + 1 → nwA La (n + 1) jx un qn i = La i * qn := fun i hi => if_pos hi
  have hB : nwA La (n + 1) jx un qn (n + 1) = La jx * un := if_neg (Nat.lt_irrefl _)
  have e9 : 9 ^ (n + 1 - 1) * 9 = 9 ^ (n + 1 + 1 - 1) := by rw [Nat.add_sub_cancel, Nat.add_sub_cancel, Nat.pow_succ]
  refine ⟨fun j hjk => ⟨nwL_at ⟨h1, h2, h3⟩ hj hu hq j hjk, ?_⟩, ?_, ?_⟩
  · by_cases q : j = n + 1
    · subst q
      rw [hB]
      obtain ⟨-, a, b⟩ := h1 jx hj
      refine ⟨Nat.mul_pos a hu0, ?_⟩
      rw [← e9]
      exact Nat.mul_le_mul b hu
    · rw [hA j (by omega)]
      obtain ⟨-, a, b⟩ := h1 j (by omega)
      refine ⟨Nat.mul_pos a hq0, ?_⟩
      rw [← e9]
      exact Nat.mul_le_mul b hq
  · show prN (nwP pp (n + 1) qn) n * nwP pp (n + 1) qn (n + 1) = _
    rw [hA 0 (by omega), ← h2, show nwP pp (n + 1) qn (n + 1) = qn from if_pos rfl, Nat.add_sub_cancel]
    rw [prN_congr (p := nwP pp (n + 1) qn) (q := pp) n (fun j _ hj => (if_neg (by omega) : nwP pp (n + 1) qn j = pp j))]
  · intro j h0 hjk
    by_cases q : j = n + 1
    · subst q
      have e : ∀ f : Nat → Nat, ∀ z, nwP f (n + 1) z (n + 1) = z := fun f z => if_pos rfl
      rw [e, e, e, hA jx hj, hB]
      exact ⟨if_pos rfl, if_pos rfl, if_pos rfl, hj, hq0, hq, hu0, hu, Nat.dvd_mul_left qn (La jx), by rw [Nat.mul_div_cancel _ hq0]⟩
    · obtain ⟨a1, a2, a3, a4, a5, a6, a7, a8, a9, b1⟩ := h3 j h0 (by omega)
      have e : ∀ f : Nat → Nat, ∀ z, nwP f (n + 1) z j = f j := fun f z => if_neg q
      have e2 : ∀ f : Nat → Int32, ∀ z, upd f (n + 1) z j = f j := fun f z => if_neg q
      rw [e, e, e, e2, e2, e2, hA (bb j) (by omega), hA j (by omega)]
      refine ⟨a1, a2, a3, a4, a5, a6, a7, a8, Nat.dvd_trans a9 (Nat.dvd_mul_right _ _), ?_⟩
      obtain ⟨z, ez⟩ := a9
      rw [ez, Nat.mul_div_cancel_left _ a5] at b1
      rw [ez, Nat.mul_assoc, Nat.mul_div_cancel_left _ a5, ← b1]
      simp only [Nat.mul_assoc, Nat.mul_comm, Nat.mul_left_comm]
theorem StOk_new {k : Nat} {fB fS : Nat → Int32} {g : Nat → Nat} {jx : Nat} (hk1 : 1 ≤ k) (h : StOk k fB fS g) (hj : jx < k) : StOk (k + 1) (upd fB k (nI jx)) (upd fS k (fS jx + 1)) (nwP g k (g jx + 1)) := by
  obtain ⟨h0, h1, h2⟩ := h
  refine ⟨?_, ?_, ?_⟩
  · show nwP g k (g jx + 1) 0 = 0
    rw [nwP, if_neg (by omega)]; exact h0
  · intro j hj0 hjk
    by_cases q : j = k
    · subst q
      refine ⟨jx, hj, if_pos rfl, ?_⟩
      rw [show nwP g j (g jx + 1) j = g jx + 1 from if_pos rfl, show nwP g j (g jx + 1) jx = g jx from if_neg (by omega)]
    · obtain ⟨b, hb, e1, e2⟩ := h1 j hj0 (by omega)
      refine ⟨b, hb, (if_neg q).trans e1, ?_⟩
      rw [show nwP g k (g jx + 1) j = g j from if_neg q, show nwP g k (g jx + 1) b = g b from if_neg (by omega)]; exact e2
  · intro j hjk
    by_cases q : j = k
    · subst q
      rw [nwP, if_pos rfl, show upd fS j (fS jx + 1) j = fS jx + 1 from if_pos rfl, h2 jx hj]; exact nI_1 _
    · rw [nwP, if_neg q, show upd fS k (fS jx + 1) j = fS j from if_neg q]; exact h2 j (by omega)
theorem nwL_cmp {k : Nat} {fB mM mP : Nat → Int32} {fL : Nat → Int64} {La pp uu bb : Nat → Nat} {jx un qn : Nat} (hk : k ≤ 8) (h : LenOk k fB mM mP fL La pp uu bb) (hj : jx < k) (hu : un ≤ 9) (hq0 : 1 ≤ qn) (hq : qn ≤ 9) :
    ∀ a b, a < k → b < k → ((nwL fL k jx (nI un) (nI qn) a).toInt < (nwL fL k jx (nI un) (nI qn) b).toInt ↔ (fL a).toInt < (fL b).toInt) := by
  intro a b ha hb
  have h9 := p9 hk
  have ba := (h.1 a ha).2.2
  have bb' := (h.1 b hb).2.2
  have ma : La a * qn ≤ 4782969 * 9 := Nat.mul_le_mul (by omega) hq
  have mb : La b * qn ≤ 4782969 * 9 := Nat.mul_le_mul (by omega) hq
  rw [nwL_at h hj hu hq a (by omega), nwL_at h hj hu hq b (by omega), (h.1 a ha).1, (h.1 b hb).1, show nwA La k jx un qn a = La a * qn from if_pos ha, show nwA La k jx un qn b = La b * qn from if_pos hb,
    pk_lT (by omega), pk_lT (by omega), pk_lT (by omega), pk_lT (by omega)]
  constructor
  · intro z
    have z2 : La a * qn < La b * qn := by omega
    have z3 := Nat.lt_of_mul_lt_mul_right z2
    omega
  · intro z
    have z2 : La a < La b := by omega
    have z3 := (Nat.mul_lt_mul_right (show 0 < qn from hq0)).mpr z2
    omega
theorem srt_out (L : Nat → Int64) (o : Nat → Int32) : ∀ m j, m ≤ j → srt L o m j = o j := by
  intro m
  induction m with
  | zero => intro j _; rfl
  | succ m ih =>
    intro j hj
    have hp := insP_le L (L m) (srt L o m) m
    rw [srt, insO_eq, insF, if_neg (by omega), if_neg (by omega), if_neg (by omega)]
    exact ih j (by omega)
/-- the order of the reference is the class's -/
theorem ord_tie {k : Nat} {fB mM mP fO : Nat → Int32} {fL : Nat → Int64} {La pp uu bb : Nat → Nat} {jx un qn : Nat} (hk : k ≤ 8) (h : LenOk k fB mM mP fL La pp uu bb) (hj : jx < k) (hu : un ≤ 9) (hq0 : 1 ≤ qn) (hq : qn ≤ 9) (hO : ∀ j, j < k → fO j = srt fL (fun _ => 0) k j) :
    ∀ j, srt (laF (nwA La k jx un qn) fL (k + 1)) fO (k + 1) j = insO (nwL fL k jx (nI un) (nI qn)) (nwL fL k jx (nI un) (nI qn) k) (nI k) k fO j := by
  intro j
  by_cases hjk : j < k + 1
  · have h1 : ∀ i, i < k → fO i = srt (nwL fL k jx (nI un) (nI qn)) fO k i := fun i hi => (hO i hi).trans ((srt_congr (by omega) (nwL_cmp hk h hj hu hq0 hq) k (Nat.le_refl k) i hi).symm)
    rw [srt_new h1 j hjk]
    refine srt_congr (k := k + 1) (by omega) (fun a b ha hb => ?_) (k + 1) (Nat.le_refl _) j hjk
    rw [nwL_at h hj hu hq a ha, nwL_at h hj hu hq b hb, show laF (nwA La k jx un qn) fL (k + 1) a = lN (nwA La k jx un qn a) from if_pos ha, show laF (nwA La k jx un qn) fL (k + 1) b = lN (nwA La k jx un qn b) from if_pos hb]
  · rw [srt_out _ _ (k + 1) j (by omega), insO_eq, insF]
    have hp := insP_le (nwL fL k jx (nI un) (nI qn)) (nwL fL k jx (nI un) (nI qn) k) fO k
    rw [if_neg (by omega), if_neg (by omega), if_neg (by omega)]
theorem len_tie {k : Nat} {fB mM mP : Nat → Int32} {fL : Nat → Int64} {La pp uu bb : Nat → Nat} {jx un qn : Nat} (h : LenOk k fB mM mP fL La pp uu bb) (hj : jx < k) (hu : un ≤ 9) (hq : qn ≤ 9) : ∀ j, laF (nwA La k jx un qn) fL (k + 1) j = nwL fL k jx (nI un) (nI qn) j := by
  intro j
  by_cases hjk : j < k + 1
  · rw [nwL_at h hj hu hq j hjk]; exact if_pos hjk
  · unfold laF nwL vp_updL rfU
    rw [if_neg hjk, if_neg (by omega), if_neg (by omega)]
theorem LI_new {k st : Nat} {fB fS fO : Nat → Int32} {fL : Nat → Int64} {c : Nat} {t : Int32} {fD mM mP : Nat → Int32} {jx un qn : Nat} (h : LI k st fB fS fO fL c t fD mM mP) (hj : jx < k) (hk8 : k < 8) (hu0 : 1 ≤ un) (hu : un ≤ 9) (hq0 : 1 ≤ qn) (hq : qn ≤ 9) :
    LI (k + 1) st (upd fB k (nI jx)) (upd fS k (fS jx + 1)) (insO (nwL fL k jx (nI un) (nI qn)) (nwL fL k jx (nI un) (nI qn) k) (nI k) k fO) (nwL fL k jx (nI un) (nI qn)) c t fD (upd mM k (nI un)) (upd mP k (nI qn)) := by
  obtain ⟨hM, hst, hQ, hc, ht, hD, hDz, ⟨La, pp, uu, bb, hL⟩, ⟨g, hg⟩, hO⟩ := h
  have hL2 := LenOk_new hM.1 hL hj hu0 hu hq0 hq
  have h9 := p9 (k := k + 1) (by omega)
  refine ⟨⟨by omega, by omega, fun j hj => ?_, fun i hi => ?_⟩, by omega, ?_, hc, ht, hD, hDz, ⟨_, _, _, _, hL2⟩, ⟨_, StOk_new hM.1 hg hj⟩, ?_⟩
  · obtain ⟨a1, a2, a3⟩ := hL2.1 j hj
    rw [a1, pk_lT (by omega)]
    omega
  · rw [insO_eq]
    exact insF_in (by omega) (insP_le _ _ _ k) hM.2.2.2 i hi
  · rw [insO_eq]
    exact MPm_ins (by omega) (insP_le _ _ _ k) hM.2.2.2 hQ
  · refine srt_new (fun i hi => ?_)
    rw [hO i hi]
    exact (srt_congr (by omega) (nwL_cmp (by omega) hL hj hu hq0 hq) k (Nat.le_refl k) i hi).symm
theorem hld_r (x : Int32) : -300 ≤ (hld x).toInt ∧ (hld x).toInt ≤ 300 := by
  have e1 : (300 : Int32).toInt = 300 := rfl
  have e2 : (-300 : Int32).toInt = -300 := rfl
  unfold hld
  split <;> rename_i h1 <;> (try split at h1) <;> (try split) <;> simp only [Int32.lt_iff_toInt_lt] at * <;> omega
theorem hdD_r {fW fD : Nat → Int32} {c : Nat} : ∀ j, j < c → -300 ≤ (hdD fW fD c j).toInt ∧ (hdD fW fD c j).toInt ≤ 300 := fun j hj => by
  rw [hdD, if_pos hj]; exact hld_r _
theorem hdD_z {fW fD : Nat → Int32} {c : Nat} (h : ∀ j, c ≤ j → j < 6 → fD j = 0) : ∀ j, c ≤ j → j < 6 → hdD fW fD c j = 0 := fun j h1 h2 => by
  rw [hdD, if_neg (by omega)]; exact h j h1 h2
theorem dDr_r {c : Nat} {t : Int32} {y : Nat} {fW fD : Nat → Int32} : ∀ j, j < c → -300 ≤ (dDr c t y fW fD j).toInt ∧ (dDr c t y fW fD j).toInt ≤ 300 := fun j hj => by
  unfold dDr
  by_cases q : dNo c y t (hdD fW fD c)
  · rw [ic_t q]; exact hdD_r j hj
  · rw [ic_f q]
    unfold upd
    split
    · exact ⟨by decide, by decide⟩
    · exact hdD_r j hj
theorem dDr_z {c : Nat} {t : Int32} {y : Nat} {fW fD : Nat → Int32} (h : ∀ j, c ≤ j → j < 6 → fD j = 0) : ∀ j, c ≤ j → j < 6 → dDr c t y fW fD j = 0 := fun j h1 h2 => by
  unfold dDr
  by_cases q : dNo c y t (hdD fW fD c)
  · rw [ic_t q]; exact hdD_z h j h1 h2
  · rw [ic_f q]
    unfold upd
    split
    · rfl
    · exact hdD_z h j h1 h2
theorem dIt_r {c : Nat} {t : Int32} {y : Nat} {fW fD : Nat → Int32} (h : ∀ j, j < c → -300 ≤ (fD j).toInt ∧ (fD j).toInt ≤ 300) : ∀ n, ∀ j, j < c → -300 ≤ (dIt c t y fW fD n j).toInt ∧ (dIt c t y fW fD n j).toInt ≤ 300
  | 0 => h
  | _ + 1 => dDr_r
theorem dIt_z {c : Nat} {t : Int32} {y : Nat} {fW fD : Nat → Int32} (h : ∀ j, c ≤ j → j < 6 → fD j = 0) : ∀ n, ∀ j, c ≤ j → j < 6 → dIt c t y fW fD n j = 0
  | 0 => h
  | n + 1 => dDr_z (dIt_z h n)
section LIS
variable {k st : Nat} {fB fS fO : Nat → Int32} {fL : Nat → Int64} {c : Nat} {t : Int32} {fD mM mP : Nat → Int32}
theorem LI.std (h : LI k st fB fS fO fL c t fD mM mP) {j : Nat} (hj : j < k) : LI k j fB fS fO fL c t fD mM mP := ⟨h.1, hj, h.2.2⟩
theorem LI.tol (h : LI k st fB fS fO fL c t fD mM mP) {x : Int32} (hx : inR 0 100 x) : LI k st fB fS fO fL c x fD mM mP := ⟨h.1, h.2.1, h.2.2.1, h.2.2.2.1, hx.1, h.2.2.2.2.2⟩
theorem LI.days (h : LI k st fB fS fO fL c t fD mM mP) (y : Nat) (fW : Nat → Int32) (n : Nat) : LI k st fB fS fO fL c t (dIt c t y fW fD n) mM mP := ⟨h.1, h.2.1, h.2.2.1, h.2.2.2.1, h.2.2.2.2.1, dIt_r h.2.2.2.2.2.1 n, dIt_z h.2.2.2.2.2.2.1 n, h.2.2.2.2.2.2.2⟩
theorem LI.sealed (h : LI k st fB fS fO fL c t fD mM mP) (v : Nat) : LI k st fB fS fO fL c t (upd fD v 0) mM mP := by
  refine ⟨h.1, h.2.1, h.2.2.1, h.2.2.2.1, h.2.2.2.2.1, fun j hj => ?_, fun j h1 h2 => ?_, h.2.2.2.2.2.2.2⟩
  · unfold upd
    split
    · exact ⟨by decide, by decide⟩
    · exact h.2.2.2.2.2.1 j hj
  · unfold upd
    split
    · rfl
    · exact h.2.2.2.2.2.2.1 j h1 h2
theorem LI.stall (h : LI k st fB fS fO fL c t fD mM mP) (hc : c < 6) : LI k st fB fS fO fL (c + 1) t (upd fD c 0) mM mP := by
  refine ⟨h.1, h.2.1, h.2.2.1, by omega, h.2.2.2.2.1, fun j hj => ?_, fun j h1 h2 => ?_, h.2.2.2.2.2.2.2⟩
  · unfold upd
    split
    · exact ⟨by decide, by decide⟩
    · exact h.2.2.2.2.2.1 j (by omega)
  · unfold upd
    split
    · rfl
    · exact h.2.2.2.2.2.2.1 j (by omega) h2
end LIS
/-- a new object -/
theorem LI_0 : LI 1 0 (upd (fun _ => (0 : Int32)) 0 (-1)) (fun _ => 0) (fun _ => 0) (vp_updL (fun _ => (0 : Int64)) 0 1) 0 10 (fun _ => 0) (fun _ => 0) (fun _ => 0) := by
  refine ⟨⟨Nat.le_refl _, by decide, fun j hj => ?_, fun i hi => ?_⟩, by decide, ⟨fun i j hi hj _ => by omega, fun x hx => ⟨0, by decide, ?_⟩⟩, by decide, by decide, fun j hj => by omega, fun j _ _ => rfl,
    ⟨fun _ => 1, fun _ => 1, fun _ => 1, fun _ => 0, fun j hj => ?_, rfl, fun j h0 hj => by omega⟩, ⟨fun _ => 0, rfl, fun j h0 hj => by omega, fun j hj => rfl⟩, fun j hj => ?_⟩
  · have e : j = 0 := by omega
    subst e
    exact ⟨by decide, by decide⟩
  · show inM 1 (0 : Int32)
    exact ⟨by decide, by decide⟩
  · have e : x = 0 := by omega
    subst e
    rfl
  · have e : j = 0 := by omega
    subst e
    exact ⟨rfl, by decide, by decide⟩
  · have e : j = 0 := by omega
    subst e
    rfl
