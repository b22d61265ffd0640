/-! CORE 3: the reference's cells in the same words -/
/-- the row 'now': the day, the fines, the drifts -/
def nwF (y : Nat) (fi : Int32) (fD : Nat → Int32) : Nat → Int32
  | 0 => nI y
  | 1 => fi
  | j + 2 => fD j
theorem nwF_d (y : Nat) (fi : Int32) (fD : Nat → Int32) (j : Nat) (v : Int32) : upd (nwF y fi fD) (j + 2) v = nwF y fi (upd fD j v) := by
  funext i
  match i with
  | 0 => simp [upd, nwF]
  | 1 => simp [upd, nwF]
  | i + 2 => simp [upd, nwF]
theorem nwF_0 (y z : Nat) (fi : Int32) (fD : Nat → Int32) : upd (nwF y fi fD) 0 (nI z) = nwF z fi fD := by
  funext i
  match i with
  | 0 => simp [upd, nwF]
  | 1 => simp [upd, nwF]
  | i + 2 => simp [upd, nwF]
theorem nwF_1 (y : Nat) (fi v : Int32) (fD : Nat → Int32) : upd (nwF y fi fD) 1 v = nwF y v fD := by
  funext i
  match i with
  | 0 => simp [upd, nwF]
  | 1 => simp [upd, nwF]
  | i + 2 => simp [upd, nwF]
theorem two_nI (j : Nat) : 2 + nI j = nI (j + 2) := by
  rw [Int32.add_comm]; exact nI_add j 2
theorem inM_iff2 {k : Nat} {x : Int32} (hk : k ≤ 8) : ((0 : Int32).toInt ≤ x.toInt ∧ x.toInt ≤ (nI k - 1).toInt) ↔ inM k x := by
  rw [nI_subI (by omega) (by decide) (by decide), t_0]
  have e1 : (1 : Int32).toInt = 1 := rfl
  unfold inM
  omega
theorem ne0_of {x : Int64} (h : 0 < x.toInt) : ¬ x = 0 := fun q => by
  rw [q] at h
  exact absurd h (by decide)
theorem cancelI (x z : Int32) : x + z - x = z := by
  apply Int32.toBitVec_inj.1
  show x.toBitVec + z.toBitVec - x.toBitVec = z.toBitVec
  rw [BitVec.add_comm, BitVec.add_sub_cancel]
theorem bhN_of {fD : Nat → Int32} {i : Nat} (h : ¬ bhN fD i = -1) : ∃ j, j < i ∧ bhN fD i = nI j := by
  induction i with
  | zero => exact absurd rfl h
  | succ i ih =>
    by_cases q : bhN fD i = -1 ∨ (absI (fD i)).toInt < (absI (fD (bhN fD i).toNatClampNeg)).toInt
    · exact ⟨i, Nat.lt_succ_self i, ic_t q⟩
    · have e : bhN fD (i + 1) = bhN fD i := ic_f q
      rw [e] at h ⊢
      obtain ⟨j, hj, e2⟩ := ih h
      exact ⟨j, by omega, e2⟩
theorem bgN_of {fD : Nat → Int32} {i : Nat} (h : ¬ bgN fD i = -1) : ∃ j, j < i ∧ bgN fD i = nI j := by
  induction i with
  | zero => exact absurd rfl h
  | succ i ih =>
    by_cases q : bgN fD i = -1 ∨ (fD (bgN fD i).toNatClampNeg).toInt < (fD i).toInt
    · exact ⟨i, Nat.lt_succ_self i, ic_t q⟩
    · have e : bgN fD (i + 1) = bgN fD i := ic_f q
      rw [e] at h ⊢
      obtain ⟨j, hj, e2⟩ := ih h
      exact ⟨j, by omega, e2⟩
theorem tp_pos {x y : Int64} (hx : 0 < x.toInt ∧ x.toInt ≤ 4782969) (hy : 0 < y.toInt ∧ y.toInt ≤ 4782969) : 0 < (tp x y).toInt := by
  obtain ⟨u, hu, hu2, rfl⟩ := lN_of (b := 4782969) hx.1 hx.2
  obtain ⟨v, hv, hv2, rfl⟩ := lN_of (b := 4782969) hy.1 hy.2
  rw [tp_lN (by omega) (by omega)]
  have h1 : 0 < u / Nat.gcd u v := Nat.div_pos (Nat.gcd_le_left v hu) (Nat.gcd_pos_of_pos_left v hu)
  have h2 : u / Nat.gcd u v ≤ u := Nat.div_le_self _ _
  rw [pk_lT (by omega)]
  omega
theorem inR_nI {x : Int32} {lo hi : Int} (h : inR lo hi x) (h0 : 0 ≤ lo) (h2 : hi ≤ 100000) : ∃ n : Nat, lo ≤ n ∧ (n : Int) ≤ hi ∧ x = nI n := by
  obtain ⟨h1, h3⟩ := h
  obtain ⟨n, hn, rfl⟩ := nI_of (x := x) (by rw [Int32.lt_iff_toInt_lt, t_0]; omega)
  rw [nI_toInt hn] at h1 h3
  exact ⟨n, by omega, h3, rfl⟩
theorem gvn_tp {x y : Int64} {w d : Int32} (hx : 0 < x.toInt ∧ x.toInt ≤ 4782969) (hy : 0 < y.toInt ∧ y.toInt ≤ 4782969) (hw : inR 1 200 w) (hd : -300 ≤ d.toInt ∧ d.toInt ≤ 300) :
    w.toInt64 * tp x y * (1000 + d).toInt64 / tp y x = gvn x y w d := by
  obtain ⟨u, hu, hu2, rfl⟩ := lN_of (b := 4782969) hx.1 hx.2
  obtain ⟨v, hv, hv2, rfl⟩ := lN_of (b := 4782969) hy.1 hy.2
  obtain ⟨n, hn1, hn2, rfl⟩ := inR_nI hw (by decide) (by decide)
  have e1 : (1000 : Int32).toInt = 1000 := rfl
  have hq : inR 700 1300 (1000 + d) := by
    unfold inR
    rw [fb_addI (by omega) (by omega)]
    omega
  obtain ⟨q, hq1, hq2, eq⟩ := inR_nI hq (by decide) (by decide)
  unfold gvn
  rw [eq, tp_lN (by omega) (by omega), tp_lN (by omega) (by omega), nI_l (by omega), nI_l (by omega), Nat.gcd_comm v u]
  have hg : 0 < Nat.gcd u v := Nat.gcd_pos_of_pos_left v hu
  obtain ⟨u1, eu⟩ := Nat.gcd_dvd_left u v
  obtain ⟨v1, ev⟩ := Nat.gcd_dvd_right u v
  generalize Nat.gcd u v = g at hg eu ev ⊢
  subst eu ev
  rw [Nat.mul_div_cancel_left _ hg, Nat.mul_div_cancel_left _ hg]
  have hu1 : u1 ≤ g * u1 := Nat.le_mul_of_pos_left _ hg
  have hv1 : v1 ≤ g * v1 := Nat.le_mul_of_pos_left _ hg
  have hv0 : 0 < v1 := Nat.pos_of_mul_pos_left hv
  simp only [lN_mul]
  have b1 : n * u1 * q < 2 ^ 63 := by
    have h1 : n * u1 ≤ 200 * 4782969 := Nat.mul_le_mul (by omega) (by omega)
    have h2 : n * u1 * q ≤ 200 * 4782969 * 1300 := Nat.mul_le_mul h1 (by omega)
    omega
  have b2 : g * u1 * n * q < 2 ^ 63 := by
    have h1 : g * u1 * n ≤ 4782969 * 200 := Nat.mul_le_mul (by omega) (by omega)
    have h2 : g * u1 * n * q ≤ 4782969 * 200 * 1300 := Nat.mul_le_mul h1 (by omega)
    omega
  rw [pk_lDiv b1 hv0 (by omega), pk_lDiv b2 hv (by omega)]
  congr 1
  rw [show g * u1 * n * q = g * (n * u1 * q) by simp only [Nat.mul_assoc, Nat.mul_comm, Nat.mul_left_comm]]
  exact (Nat.mul_div_mul_left _ _ hg).symm
/-- a measure goes into so many of itself without a rest -/
theorem jrem_self {x : Int64} {w : Int32} (hx : 0 < x.toInt ∧ x.toInt ≤ 4782969) (hw : inR 1 200 w) : (jrem (x * w.toInt64) x).toInt = (0 : Int64).toInt := by
  obtain ⟨u, hu, hu2, rfl⟩ := lN_of (b := 4782969) hx.1 hx.2
  obtain ⟨n, hn1, hn2, rfl⟩ := inR_nI hw (by decide) (by decide)
  rw [nI_l (by omega), lN_mul]
  have h2 : u * n ≤ 4782969 * 200 := Nat.mul_le_mul (by omega) (by omega)
  show (lN (u * n) - lN (u * n) / lN u * lN u).toInt = _
  rw [pk_lRem (by omega) hu (by omega), Nat.mul_mod_right]
  rfl
