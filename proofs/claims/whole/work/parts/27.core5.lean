/-! CORE 5: ranks and lengths, laid anew -/
noncomputable def insP (fL : Nat → Int64) (w : Int64) : Nat → (Nat → Int32) → Nat
  | 0, _ => 0
  | r + 1, o => ic ((fL (o r).toNatClampNeg).toInt < w.toInt) (insP fL w r o) (r + 1)
def insF (p : Nat) (v : Int32) (r : Nat) (o : Nat → Int32) : Nat → Int32 := fun j => if j < p then o j else if j = p then v else if j ≤ r then o (j - 1) else o j
theorem insP_le (fL : Nat → Int64) (w : Int64) (o : Nat → Int32) : ∀ r, insP fL w r o ≤ r := by
  intro r
  induction r with
  | zero => exact Nat.le_refl 0
  | succ r ih =>
    by_cases h : (fL (o r).toNatClampNeg).toInt < w.toInt
    · rw [insP, ic_t h]; omega
    · rw [insP, ic_f h]; exact Nat.le_refl _
theorem insP_congr {fL gL : Nat → Int64} {w w2 : Int64} {o o2 : Nat → Int32} : ∀ r, (∀ j, j < r → ((fL (o j).toNatClampNeg).toInt < w.toInt ↔ (gL (o2 j).toNatClampNeg).toInt < w2.toInt)) → insP fL w r o = insP gL w2 r o2 := by
  intro r
  induction r with
  | zero => intro _; rfl
  | succ r ih =>
    intro h
    have h1 := ih (fun j hj => h j (by omega))
    have h2 := h r (Nat.lt_succ_self r)
    by_cases q : (fL (o r).toNatClampNeg).toInt < w.toInt
    · rw [insP, insP, ic_t q, ic_t (h2.mp q), h1]
    · rw [insP, insP, ic_f q, ic_f (fun z => q (h2.mpr z))]
theorem insO_eq (fL : Nat → Int64) (w : Int64) (v : Int32) : ∀ r o, insO fL w v r o = insF (insP fL w r o) v r o := by
  intro r
  induction r with
  | zero =>
    intro o
    funext j
    show upd o 0 v j = insF 0 v 0 o j
    unfold upd insF
    by_cases h : j = 0
    · rw [if_pos h, if_neg (by omega), if_pos h]
    · rw [if_neg h, if_neg (by omega), if_neg h, if_neg (by omega)]
  | succ r ih =>
    intro o
    have hle := insP_le fL w o r
    by_cases h : (fL (o r).toNatClampNeg).toInt < w.toInt
    · rw [insO, ic_t h, insP, ic_t h, ih]
      have e : insP fL w r (upd o (r + 1) (o r)) = insP fL w r o := insP_congr r (fun j hj => by rw [show upd o (r + 1) (o r) j = o j from if_neg (by omega)])
      rw [e]
      funext j
      unfold insF
      by_cases h1 : j < insP fL w r o
      · rw [if_pos h1, if_pos h1]; exact if_neg (by omega)
      · rw [if_neg h1, if_neg h1]
        by_cases h2 : j = insP fL w r o
        · rw [if_pos h2, if_pos h2]
        · rw [if_neg h2, if_neg h2]
          by_cases h3 : j ≤ r
          · rw [if_pos h3, if_pos (by omega)]; exact if_neg (by omega)
          · rw [if_neg h3]
            by_cases h4 : j = r + 1
            · subst h4
              rw [if_pos (Nat.le_refl _)]
              exact if_pos rfl
            · rw [if_neg (by omega)]; exact if_neg h4
    · rw [insO, ic_f h, insP, ic_f h]
      funext j
      unfold upd insF
      by_cases h1 : j = r + 1
      · rw [if_pos h1, if_neg (by omega), if_pos h1]
      · rw [if_neg h1]
        by_cases h2 : j < r + 1
        · rw [if_pos h2]
        · rw [if_neg h2, if_neg h1, if_neg (by omega)]
noncomputable def srt (L : Nat → Int64) (o : Nat → Int32) : Nat → (Nat → Int32)
  | 0 => o
  | m + 1 => insO L (L m) (nI m) m (srt L o m)
theorem insF_in {p m : Nat} {o : Nat → Int32} (hm : m < 2 ^ 30) (hp : p ≤ m) (h : ∀ j, j < m → inM m (o j)) : ∀ j, j < m + 1 → inM (m + 1) (insF p (nI m) m o j) := by
  intro j hj
  unfold insF
  by_cases h1 : j < p
  · rw [if_pos h1]; exact inM_le (h j (by omega)) (by omega)
  · rw [if_neg h1]
    by_cases h2 : j = p
    · rw [if_pos h2]; exact inM_nI (Nat.lt_succ_self m) (by omega)
    · rw [if_neg h2, if_pos (by omega)]; exact inM_le (h (j - 1) (by omega)) (by omega)
theorem srtIn (L : Nat → Int64) (o : Nat → Int32) : ∀ m, m < 2 ^ 30 → ∀ j, j < m → inM m (srt L o m j) := by
  intro m
  induction m with
  | zero => intro _ j hj; omega
  | succ m ih =>
    intro hm j hj
    rw [srt, insO_eq]
    exact insF_in (by omega) (insP_le _ _ _ m) (ih (by omega)) j hj
theorem insF_congr {p m : Nat} {v : Int32} {o o2 : Nat → Int32} (hp : p ≤ m) (h : ∀ j, j < m → o j = o2 j) : ∀ j, j < m + 1 → insF p v m o j = insF p v m o2 j := by
  intro j hj
  unfold insF
  by_cases h1 : j < p
  · rw [if_pos h1, if_pos h1]; exact h j (by omega)
  · rw [if_neg h1, if_neg h1]
    by_cases h2 : j = p
    · rw [if_pos h2, if_pos h2]
    · rw [if_neg h2, if_neg h2, if_pos (by omega), if_pos (by omega)]; exact h (j - 1) (by omega)
theorem srt_congr {L L2 : Nat → Int64} {o o2 : Nat → Int32} {k : Nat} (hk : k < 2 ^ 30) (h : ∀ a b, a < k → b < k → ((L a).toInt < (L b).toInt ↔ (L2 a).toInt < (L2 b).toInt)) : ∀ m, m ≤ k → ∀ j, j < m → srt L o m j = srt L2 o2 m j := by
  intro m
  induction m with
  | zero => intro _ j hj; omega
  | succ m ih =>
    intro hm j hj
    have h1 := ih (by omega)
    rw [srt, srt, insO_eq, insO_eq]
    have e : insP L (L m) m (srt L o m) = insP L2 (L2 m) m (srt L2 o2 m) := insP_congr m (fun j hj => by
      rw [h1 j hj]
      have h2 := inM_clamp (srtIn L2 o2 m (by omega) j hj)
      exact h _ _ (by omega) (by omega))
    rw [e]
    exact insF_congr (insP_le _ _ _ m) h1 j hj
/-- the newest put into its rank: as if all were ranked anew -/
theorem srt_new {L : Nat → Int64} {o fO : Nat → Int32} {k : Nat} (h : ∀ j, j < k → fO j = srt L o k j) : ∀ j, j < k + 1 → insO L (L k) (nI k) k fO j = srt L o (k + 1) j := by
  intro j hj
  rw [srt, insO_eq, insO_eq]
  have e : insP L (L k) k fO = insP L (L k) k (srt L o k) := insP_congr k (fun j hj => by rw [h j hj])
  rw [e]
  exact insF_congr (insP_le _ _ _ k) h j hj
theorem MPm_ins {k p : Nat} {fO : Nat → Int32} (hk : k < 2 ^ 30) (hp : p ≤ k) (hin : ∀ i, i < k → inM k (fO i)) (h : MPm k fO) : MPm (k + 1) (insF p (nI k) k fO) := by
  have val : ∀ i, i < k + 1 → (i < p ∧ insF p (nI k) k fO i = fO i) ∨ (i = p ∧ insF p (nI k) k fO i = nI k) ∨ (p < i ∧ insF p (nI k) k fO i = fO (i - 1)) := by
    intro i hi
    unfold insF
    by_cases h1 : i < p
    · exact Or.inl ⟨h1, if_pos h1⟩
    · rw [if_neg h1]
      by_cases h2 : i = p
      · exact Or.inr (Or.inl ⟨h2, if_pos h2⟩)
      · exact Or.inr (Or.inr ⟨by omega, by rw [if_neg h2, if_pos (by omega)]⟩)
  have ne : ∀ i, i < k → fO i ≠ nI k := by
    intro i hi q
    have h1 := hin i hi
    rw [q] at h1
    have h2 := h1.2
    rw [nI_toInt (by omega)] at h2
    omega
  constructor
  · intro i j hi hj e
    rcases val i hi with ⟨a1, a2⟩ | ⟨a1, a2⟩ | ⟨a1, a2⟩ <;> rcases val j hj with ⟨b1, b2⟩ | ⟨b1, b2⟩ | ⟨b1, b2⟩ <;> rw [a2, b2] at e
    · exact h.1 i j (by omega) (by omega) e
    · exact absurd e (ne i (by omega))
    · have := h.1 i (j - 1) (by omega) (by omega) e; omega
    · exact absurd e.symm (ne j (by omega))
    · omega
    · exact absurd e.symm (ne (j - 1) (by omega))
    · have := h.1 (i - 1) j (by omega) (by omega) e; omega
    · exact absurd e (ne (i - 1) (by omega))
    · have := h.1 (i - 1) (j - 1) (by omega) (by omega) e; omega
  · intro x hx
    by_cases q : x = k
    · subst q
      refine ⟨p, by omega, ?_⟩
      rcases val p (by omega) with ⟨a1, a2⟩ | ⟨a1, a2⟩ | ⟨a1, a2⟩
      · omega
      · exact a2
      · omega
    · obtain ⟨i, hi, e⟩ := h.2 x (by omega)
      by_cases z : i < p
      · refine ⟨i, by omega, ?_⟩
        rcases val i (by omega) with ⟨a1, a2⟩ | ⟨a1, a2⟩ | ⟨a1, a2⟩
        · rw [a2, e]
        · omega
        · omega
      · refine ⟨i + 1, by omega, ?_⟩
        rcases val (i + 1) (by omega) with ⟨a1, a2⟩ | ⟨a1, a2⟩ | ⟨a1, a2⟩
        · omega
        · omega
        · rw [a2, Nat.add_sub_cancel, e]
/-- the product of the parts 1 .. n -/
def prN (p : Nat → Nat) : Nat → Nat
  | 0 => 1
  | n + 1 => prN p n * p (n + 1)
def laF (La : Nat → Nat) (g : Nat → Int64) (i : Nat) : Nat → Int64 := fun j => if j < i then lN (La j) else g j
theorem laF_s (La : Nat → Nat) (g : Nat → Int64) (i : Nat) : vp_updL (laF La g i) i (lN (La i)) = laF La g (i + 1) := by
  funext j
  simp only [vp_updL, laF]
  by_cases h : j = i
  · subst h; simp
  · by_cases h2 : j < i
    · rw [if_neg h, if_pos h2, if_pos (by omega)]
    · rw [if_neg h, if_neg h2, if_neg (by omega)]
theorem laF_1 (La : Nat → Nat) (g : Nat → Int64) : vp_updL g 0 (lN (La 0)) = laF La g 1 := by
  have h := laF_s La g 0
  rw [show laF La g 0 = g from by funext j; simp [laF]] at h
  exact h
theorem xv_eqJ {cA : ClassId} {n : Nat} {f g : Nat → Int64} (h : ∀ j, j < n → f j = g j) : vp_cell cA (n, .inr (.inl f)) = vp_cell cA (n, .inr (.inl g)) := by
  rw [vp_cell_l, vp_cell_l]
  unfold arrV
  congr 2
  funext j
  exact congrArg Value.long (h j.val j.isLt)
theorem va_P.toJ {D : va_G} {cl : List vw_C} {ws : va_W} {H : Heap} {a n : Nat} {cA : ClassId} {f g : Nat → Int64} (hP : va_P D cl ws H) (q : Nat) (ha : ws[q]? = some (a, .inl (cA, n, .inr (.inl f)))) (h : ∀ j, j < n → f j = g j) : va_P D cl (ws.set q (a, .inl (cA, n, .inr (.inl g)))) H := by
  have hl := (List.getElem?_eq_some_iff.mp ha).1
  intro k z hk
  by_cases hkq : k = q
  · subst hkq
    rw [List.getElem?_set_self hl] at hk
    cases hk
    have h1 := hP k _ ha
    show H[a]? = some (vp_cell cA (n, .inr (.inl g)))
    rw [← xv_eqJ h]
    exact h1
  · rw [List.getElem?_set_ne (Ne.symm hkq)] at hk
    exact hP k z hk
