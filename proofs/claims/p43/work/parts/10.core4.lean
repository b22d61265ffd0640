/-! CORE 4 (p43): fractions, orders, days -/
/-- Euclid's steps end within d calls -/
def Dv : Nat → Nat → Nat → Prop
  | 0, _, v => v = 0 ∧ False
  | d + 1, u, v => v = 0 ∨ Dv d v (u % v)
theorem Dv_of : ∀ (d u v : Nat), v < u → u * v < 2 ^ d → Dv (d + 1) u v := by
  intro d
  induction d with
  | zero =>
    intro u v h1 h2
    refine Or.inl ?_
    rcases Nat.eq_zero_or_pos v with h | h
    · exact h
    · have h3 : 1 ≤ u * v := Nat.mul_pos (by omega) h
      have h4 : (2 : Nat) ^ 0 = 1 := rfl
      omega
  | succ d ih =>
    intro u v h1 h2
    rcases Nat.eq_zero_or_pos v with h | h
    · exact Or.inl h
    · refine Or.inr (ih v (u % v) (Nat.mod_lt _ h) ?_)
      have h3 : 2 * (u % v) ≤ u := by
        have h5 := Nat.div_add_mod u v
        have h6 : 1 ≤ u / v := (Nat.le_div_iff_mul_le h).mpr (by omega)
        have h7 : v * 1 ≤ v * (u / v) := Nat.mul_le_mul_left v h6
        have h8 := Nat.mod_lt u h
        omega
      have h4 : v * (2 * (u % v)) ≤ v * u := Nat.mul_le_mul_left v h3
      rw [Nat.mul_comm v u, Nat.mul_left_comm] at h4
      rw [Nat.pow_succ] at h2
      omega
theorem Dv_all {u v : Nat} (hu : u < 2 ^ 45) (hv : v < 2 ^ 45) : Dv 92 u v := by
  rcases Nat.eq_zero_or_pos v with h | h
  · exact Or.inl h
  · refine Or.inr (Dv_of 90 v (u % v) (Nat.mod_lt _ h) ?_)
    have h1 := Nat.mod_lt u h
    have h3 : v * (u % v) < 2 ^ 45 * 2 ^ 45 := Nat.mul_lt_mul'' hv (by omega)
    rw [← Nat.pow_add] at h3
    exact h3
/-- the long's fraction -/
theorem frac_eq {a b c d : Nat} (ha : 0 < a) (hc : 0 < c) (h : a * d = b * c) : a / Nat.gcd a b = c / Nat.gcd c d := by
  have hg : 0 < Nat.gcd a b := Nat.gcd_pos_of_pos_left b ha
  have hh : 0 < Nat.gcd c d := Nat.gcd_pos_of_pos_left d hc
  have h1 : Nat.gcd a b * c = a * Nat.gcd c d := by
    rw [← Nat.gcd_mul_right, ← Nat.gcd_mul_left, h]
  obtain ⟨x, hx⟩ := Nat.gcd_dvd_left a b
  have e1 : a / Nat.gcd a b = x := by
    rw [Nat.div_eq_of_eq_mul_right hg hx]
  have h2 : Nat.gcd a b * c = Nat.gcd a b * (x * Nat.gcd c d) := by
    rw [h1, ← Nat.mul_assoc, ← hx]
  have h3 : c = x * Nat.gcd c d := Nat.eq_of_mul_eq_mul_left hg h2
  rw [e1]
  exact (Nat.div_eq_of_eq_mul_left hh h3).symm
theorem tp_of {a b c d : Nat} (ha : 0 < a) (hc : 0 < c) (hd : 0 < d) (hc2 : c ≤ 4782969) (hd2 : d ≤ 4782969) (h : a * d = b * c) (hb : 0 < b) : lN (a / Nat.gcd a b) = tp (lN c) (lN d) ∧ lN (b / Nat.gcd a b) = tp (lN d) (lN c) := by
  rw [tp_lN (by omega) (by omega), tp_lN (by omega) (by omega)]
  refine ⟨by rw [frac_eq ha hc h], ?_⟩
  rw [Nat.gcd_comm a b, frac_eq hb hd h.symm]
/-- one fraction's top is above its bottom just if the number is above the other -/
theorem tp_lt {x y : Int64} (hx : 0 < x.toInt ∧ x.toInt ≤ 4782969) (hy : 0 < y.toInt ∧ y.toInt ≤ 4782969) : ((tp y x).toInt < (tp x y).toInt ↔ y.toInt < x.toInt) := by
  obtain ⟨u, hu, hu2, rfl⟩ := lN_of (b := 4782969) hx.1 hx.2
  obtain ⟨v, hv, hv2, rfl⟩ := lN_of (b := 4782969) hy.1 hy.2
  rw [tp_lN (by omega) (by omega), tp_lN (by omega) (by omega), Nat.gcd_comm v u]
  have hg : 0 < Nat.gcd u v := Nat.gcd_pos_of_pos_left v hu
  obtain ⟨u1, eu⟩ := Nat.gcd_dvd_left u v
  obtain ⟨v1, ev⟩ := Nat.gcd_dvd_right u v
  generalize Nat.gcd u v = g at hg eu ev ⊢
  subst eu ev
  rw [Nat.mul_div_cancel_left _ hg, Nat.mul_div_cancel_left _ hg]
  have hu1 : u1 ≤ g * u1 := Nat.le_mul_of_pos_left _ hg
  have hv1 : v1 ≤ g * v1 := Nat.le_mul_of_pos_left _ hg
  rw [pk_lT (by omega), pk_lT (by omega), pk_lT (by omega), pk_lT (by omega)]
  have h9 : g * v1 < g * u1 ↔ v1 < u1 := Nat.mul_lt_mul_left hg
  omega
/-- an array of two longs, of rows as far as they are copied -/
def rt2 (a b : Int64) : Nat → Int64 := fun j => if j = 0 then a else b
theorem rt2_of (a b : Int64) : ∀ j, j < 2 → vp_updL (vp_updL (fun _ => (0 : Int64)) 0 a) 1 b j = rt2 a b j := by
  intro j hj
  match j, hj with
  | 0, _ => rfl
  | 1, _ => rfl
  | j + 2, h => exact absurd h (by omega)
def cpQ (g : Nat → Nat) (i : Nat) : Nat → Option Nat := fun j => if j < i then some (g j) else none
theorem cpQ_0 (g : Nat → Nat) : cpQ g 0 = fun _ => none := by funext j; simp [cpQ]
theorem cpQ_s (g : Nat → Nat) (i : Nat) : va_up (cpQ g i) i (some (g i)) = cpQ g (i + 1) := by
  funext j
  unfold va_up cpQ
  by_cases h : j = i
  · subst h; simp
  · by_cases h2 : j < i
    · rw [if_neg h, if_pos h2, if_pos (by omega)]
    · rw [if_neg h, if_neg h2, if_neg (by omega)]
theorem cpQ_e (g : Nat → Nat) (n v : Nat) : ∀ j, j < n + 1 → va_up (cpQ g n) n (some v) j = fr (upN g n v) j := by
  intro j hj
  unfold va_up cpQ fr upN
  by_cases h : j = n
  · rw [if_pos h, if_pos h]
  · rw [if_neg h, if_neg h, if_pos (by omega)]
theorem s2_0 {fW fD : Nat → Int32} (i : Nat) (x : Int32) : upd (s2 fW fD i) 0 x = s2 (upd fW i x) fD i := s2_w i x
theorem s2_1 {fW fD : Nat → Int32} (i : Nat) (x : Int32) : upd (s2 fW fD i) 1 x = s2 fW (upd fD i x) i := s2_v i x
theorem ui_ui (f : Nat → Int32) (i : Nat) (x y : Int32) : upd (upd f i x) i y = upd f i y := by
  funext j
  unfold upd
  by_cases h : j = i
  · rw [if_pos h, if_pos h]
  · rw [if_neg h, if_neg h, if_neg h]
/-- a drift that goes by, held -/
theorem hz_0 {x : Int32} (h1 : x.toInt ≤ 300) (h2 : -300 ≤ x.toInt) : hld x = x := by
  unfold hld
  have e1 : (300 : Int32).toInt = 300 := rfl
  have e2 : (-300 : Int32).toInt = -300 := rfl
  by_cases h : x < 300
  · rw [if_pos h]
    by_cases h3 : (-300) < x
    · rw [if_pos h3]
    · rw [if_neg h3]
      rw [Int32.lt_iff_toInt_lt, e2] at h3
      exact Int32.toInt_inj.mp (by omega)
  · rw [if_neg h, if_pos (by decide)]
    rw [Int32.lt_iff_toInt_lt, e1] at h
    exact Int32.toInt_inj.mp (by omega)
theorem hz_1 {x : Int32} (h1 : 300 < x.toInt) : hld x = 300 := by
  unfold hld
  have e1 : (300 : Int32).toInt = 300 := rfl
  have h : ¬ x < 300 := by rw [Int32.lt_iff_toInt_lt, e1]; omega
  rw [if_neg h, if_pos (by decide)]
theorem hz_2 {x : Int32} (h1 : x.toInt < -300) : hld x = -300 := by
  unfold hld
  have e1 : (300 : Int32).toInt = 300 := rfl
  have e2 : (-300 : Int32).toInt = -300 := rfl
  have h : x < 300 := by rw [Int32.lt_iff_toInt_lt, e1]; omega
  have h3 : ¬ (-300) < x := by rw [Int32.lt_iff_toInt_lt, e2]; omega
  rw [if_pos h, if_neg h3]
/-- honest, said by two bounds -/
theorem tol_iff {x t : Int32} (hx : -300 ≤ x.toInt ∧ x.toInt ≤ 300) (ht : 0 ≤ t.toInt ∧ t.toInt ≤ 100) : (x.toInt ≤ t.toInt ∧ (-t).toInt ≤ x.toInt) ↔ (absI x).toInt ≤ t.toInt := by
  rw [absI_toInt (by omega) (by omega), fb_negI (by omega)]
  split <;> omega
theorem addI_assoc (x y z : Int32) : x + y + z = x + (y + z) := by
  apply Int32.toBitVec_inj.1
  exact BitVec.add_assoc _ _ _
theorem addI_0 (x : Int32) : x + 0 = x := by
  apply Int32.toBitVec_inj.1
  exact BitVec.add_zero _
/-- the longest of the first, of those as long the first -/
noncomputable def lgN (L : Nat → Int64) : Nat → Nat
  | 0 => 0
  | i + 1 => ic ((L (lgN L i)).toInt < (L (i + 1)).toInt) (i + 1) (lgN L i)
theorem lgN_le (L : Nat → Int64) (i : Nat) : lgN L i ≤ i := by
  induction i with
  | zero => exact Nat.le_refl 0
  | succ i ih =>
    by_cases h : (L (lgN L i)).toInt < (L (i + 1)).toInt
    · rw [lgN, ic_t h]; omega
    · rw [lgN, ic_f h]; omega
theorem lgN_max (L : Nat → Int64) : ∀ i j, j ≤ i → (L j).toInt ≤ (L (lgN L i)).toInt := by
  intro i
  induction i with
  | zero => intro j hj; rw [show j = 0 by omega]; exact Int.le_refl _
  | succ i ih =>
    intro j hj
    by_cases h : (L (lgN L i)).toInt < (L (i + 1)).toInt
    · rw [lgN, ic_t h]
      by_cases q : j = i + 1
      · rw [q]; exact Int.le_refl _
      · have := ih j (by omega); omega
    · rw [lgN, ic_f h]
      by_cases q : j = i + 1
      · rw [q]; omega
      · exact ih j (by omega)
theorem lgN_fst (L : Nat → Int64) : ∀ i j, j < lgN L i → (L j).toInt < (L (lgN L i)).toInt := by
  intro i
  induction i with
  | zero => intro j hj; exact absurd hj (Nat.not_lt_zero j)
  | succ i ih =>
    intro j hj
    by_cases h : (L (lgN L i)).toInt < (L (i + 1)).toInt
    · rw [lgN, ic_t h] at hj ⊢
      have := lgN_max L i j (by omega)
      omega
    · rw [lgN, ic_f h] at hj ⊢
      exact ih j hj
theorem insO_first (L : Nat → Int64) (w : Int64) (v : Int32) : ∀ r (o : Nat → Int32), 0 < r → ¬ (L (o 0).toNatClampNeg).toInt < w.toInt → insO L w v r o 0 = o 0 := by
  intro r
  induction r with
  | zero => intro o h; omega
  | succ r ih =>
    intro o _ h
    by_cases q : (L (o r).toNatClampNeg).toInt < w.toInt
    · rw [insO, ic_t q]
      by_cases hr : r = 0
      · subst hr; exact absurd q h
      · have e : upd o (r + 1) (o r) 0 = o 0 := if_neg (by omega)
        have h9 := ih (upd o (r + 1) (o r)) (by omega) (by rw [e]; exact h)
        rw [h9, e]
    · rw [insO, ic_f q]
      exact if_neg (by omega)
theorem insO_all (L : Nat → Int64) (w : Int64) (v : Int32) : ∀ r (o : Nat → Int32), (∀ j, j < r → (L (o j).toNatClampNeg).toInt < w.toInt) → insO L w v r o 0 = v := by
  intro r
  induction r with
  | zero => intro o _; rw [insO]; exact if_pos rfl
  | succ r ih =>
    intro o h
    rw [insO, ic_t (h r (by omega))]
    refine ih _ (fun j hj => ?_)
    have e : upd o (r + 1) (o r) j = o j := if_neg (by omega)
    rw [e]
    exact h j (by omega)
theorem srt_0 (L : Nat → Int64) (o : Nat → Int32) : ∀ m, m < 2 ^ 20 → srt L o (m + 1) 0 = nI (lgN L m) := by
  intro m
  induction m with
  | zero => intro _; rw [srt, insO]; exact if_pos rfl
  | succ m ih =>
    intro hm
    have h1 := ih (by omega)
    rw [srt]
    have hin := srtIn L o (m + 1) (by omega)
    have hle := lgN_le L m
    by_cases h : (L (lgN L m)).toInt < (L (m + 1)).toInt
    · rw [lgN, ic_t h]
      refine insO_all _ _ _ _ _ (fun j hj => ?_)
      have h2 := inM_clamp (hin j hj)
      have h3 := lgN_max L m _ (show (srt L o (m + 1) j).toNatClampNeg ≤ m by omega)
      omega
    · rw [lgN, ic_f h, insO_first _ _ _ _ _ (by omega) (by rw [h1, nI_clamp (by omega)]; exact h), h1]
theorem shN_min (L : Nat → Int64) : ∀ i j, j ≤ i → (L (shN L i)).toInt ≤ (L j).toInt := by
  intro i
  induction i with
  | zero => intro j hj; rw [show j = 0 by omega]; exact Int.le_refl _
  | succ i ih =>
    intro j hj
    by_cases h : (L (i + 1)).toInt < (L (shN L i)).toInt
    · rw [shN, ic_t h]
      by_cases q : j = i + 1
      · rw [q]; exact Int.le_refl _
      · have := ih j (by omega); omega
    · rw [shN, ic_f h]
      by_cases q : j = i + 1
      · rw [q]; omega
      · exact ih j (by omega)
/-- what holds of the market between two calls, with the wears -/
def PI (k st : Nat) (fB fS fO : Nat → Int32) (fL : Nat → Int64) (c : Nat) (t : Int32) (fW fD mM mP : Nat → Int32) : Prop :=
  LI k st fB fS fO fL c t fD mM mP ∧ fB 0 = -1 ∧ t.toInt ≤ 100 ∧ ∀ j, j < c → -9 ≤ (fW j).toInt ∧ (fW j).toInt ≤ 9
