/-! CORE 4 -/
theorem dv_ok {u v g : Nat} (hu : 0 < u) (hu2 : u < 2 ^ 40) (e : g = Nat.gcd u v) (hv2 : v < 2 ^ 40) : ¬ lN g = 0 ∧ lN u / lN g = tp (lN u) (lN v) := by
  subst e
  have h1 : Nat.gcd u v ≤ u := Nat.gcd_le_left v hu
  have h2 : 0 < Nat.gcd u v := Nat.gcd_pos_of_pos_left v hu
  refine ⟨lN_ne0 h2 (by omega), ?_⟩
  rw [pk_lDiv (by omega) h2 (by omega), tp_lN (by omega) (by omega)]
theorem bhS {fD : Nat → Int32} {i j : Nat} (hj : j < 2 ^ 31) (e : bhN fD i = nI j) (h : (absI (fD j)).toInt ≤ (absI (fD i)).toInt) : bhN fD (i + 1) = nI j := by
  have hn : ¬ (bhN fD i = -1 ∨ (absI (fD i)).toInt < (absI (fD (bhN fD i).toNatClampNeg)).toInt) := by
    intro q
    rw [e, nI_clamp hj] at q
    rcases q with q | q
    · exact nI_nm1 hj q
    · omega
  exact (ic_f hn : bhN fD (i + 1) = bhN fD i).trans e
theorem bhY {fD : Nat → Int32} {i j : Nat} (hj : j < 2 ^ 31) (e : bhN fD i = nI j) (h : ¬ (absI (fD j)).toInt ≤ (absI (fD i)).toInt) : bhN fD (i + 1) = nI i := by
  refine ic_t (Or.inr ?_)
  rw [e, nI_clamp hj]
  omega
theorem bgS {fD : Nat → Int32} {i j : Nat} (hj : j < 2 ^ 31) (e : bgN fD i = nI j) (h : (fD i).toInt ≤ (fD j).toInt) : bgN fD (i + 1) = nI j := by
  have hn : ¬ (bgN fD i = -1 ∨ (fD (bgN fD i).toNatClampNeg).toInt < (fD i).toInt) := by
    intro q
    rw [e, nI_clamp hj] at q
    rcases q with q | q
    · exact nI_nm1 hj q
    · omega
  exact (ic_f hn : bgN fD (i + 1) = bgN fD i).trans e
theorem bgY {fD : Nat → Int32} {i j : Nat} (hj : j < 2 ^ 31) (e : bgN fD i = nI j) (h : ¬ (fD i).toInt ≤ (fD j).toInt) : bgN fD (i + 1) = nI i := by
  refine ic_t (Or.inr ?_)
  rw [e, nI_clamp hj]
  omega
theorem icz {P : Prop} {x n : Int32} (hn : ¬ n = 0) (h : ic P x n = 0) : P ∧ x = 0 := by
  by_cases q : P
  · rw [ic_t q] at h; exact ⟨q, h⟩
  · rw [ic_f q] at h; exact absurd h hn
theorem cd3 {A B C : Prop} (h : (ic A (ic B (ic C 0 2) 1) 1 : Int32) = 0) : A ∧ B ∧ C := by
  obtain ⟨h1, h⟩ := icz (by decide) h
  obtain ⟨h2, h⟩ := icz (by decide) h
  obtain ⟨h3, h⟩ := icz (by decide) h
  exact ⟨h1, h2, h3⟩
theorem cd2 {A B : Prop} (h : (ic A (ic B 0 2) 1 : Int32) = 0) : A ∧ B := by
  obtain ⟨h1, h⟩ := icz (by decide) h
  obtain ⟨h2, h⟩ := icz (by decide) h
  exact ⟨h1, h2⟩
