/-! CORE 8 (p43): what the law asks, reckoned -/
section TOPD
variable {p : Program} {l : Launch} {e : Env} {R : Room} {s : State} {m : MethodId} {args : Array Value} {below : List Frame} {meth : Method} {c : Code} {H : Heap} {locs : List Loc} {cells slots : Nat} {Q : State → Prop}
variable {pc : Nat} {ls : Array Slot} {rest : List Value}
theorem topD {x y : UInt64} (h : x = y) (k : W p l e R s m args below meth c H locs cells slots Q (F0 m pc ls (.double y :: rest))) : W p l e R s m args below meth c H locs cells slots Q (F0 m pc ls (.double x :: rest)) := h ▸ k
end TOPD
/-- the shortest of those ahead of i -/
noncomputable def shP (L : Nat → Int64) : Nat → Nat
  | 0 => 0
  | i + 1 => shN L i
theorem shP_y {L : Nat → Int64} {i : Nat} (h : (L i).toInt < (L (shP L i)).toInt) : shP L (i + 1) = i := by
  cases i with
  | zero => rfl
  | succ i => exact ic_t h
theorem shP_n {L : Nat → Int64} {i : Nat} (h : ¬ (L i).toInt < (L (shP L i)).toInt) : shP L (i + 1) = shP L i := by
  cases i with
  | zero => rfl
  | succ i => exact ic_f h
theorem shP_lt {L : Nat → Int64} {i k : Nat} (hk : 1 ≤ k) (hi : i ≤ k) : shP L i < k := by
  cases i with
  | zero => exact hk
  | succ i => have := shN_le L i; show shN L i < k; omega
theorem shP_e {L : Nat → Int64} {k : Nat} (hk : 1 ≤ k) : shP L k = shN L (k - 1) := by
  obtain ⟨n, rfl⟩ : ∃ n, k = n + 1 := ⟨k - 1, by omega⟩
  rfl
theorem StOk.step {k : Nat} {fB fS mM mP : Nat → Int32} {fL : Nat → Int64} {La pp uu bb g : Nat → Nat} (h : StOk k fB fS g) (hL : LenOk k fB mM mP fL La pp uu bb) (hk : k ≤ 8) {j : Nat} (h0 : 0 < j) (hj : j < k) : g j = g (bb j) + 1 := by
  obtain ⟨q, hq, e1, e2⟩ := h.2.1 j h0 hj
  obtain ⟨-, -, e3, h4, -⟩ := hL.2.2 j h0 hj
  have e4 : q = bb j := (nI_eq (by omega) (by omega)).mp (e1.symm.trans e3)
  rw [e2, e4]
theorem LI.first {k st : Nat} {fB fS fO : Nat → Int32} {fL : Nat → Int64} {c : Nat} {t : Int32} {fD mM mP : Nat → Int32} (h : LI k st fB fS fO fL c t fD mM mP) : fO 0 = nI (lgN fL (k - 1)) := by
  have hk1 := h.1.1
  have hk8 := h.1.2.1
  have e := h.2.2.2.2.2.2.2.2.2 0 (by omega)
  obtain ⟨n, rfl⟩ : ∃ n, k = n + 1 := ⟨k - 1, by omega⟩
  rw [e, srt_0 _ _ n (by omega), Nat.add_sub_cancel]
theorem mnD_cmp {fD : Nat → Int32} {c : Nat} (hc : c ≤ 6) (h : ∀ j, j < c → -300 ≤ (fD j).toInt ∧ (fD j).toInt ≤ 300) : Op.cmpValue (FP.dcmp (mnD c fD) (mnD c fD)) .l = 0 := by
  by_cases hc0 : c = 0
  · have e : mnD c fD = FP.dconst0 := ic_t hc0
    rw [e]
    decide +kernel
  · have e : mnD c fD = FP.ddiv (FP.i2d (smD fD c)) (FP.i2d (nI c)) := ic_f hc0
    rw [e]
    have hb := smD_b hc h
    exact vf_eq (vf_nn hb.1 hb.2 hc0 hc)
/-- a fraction's number -/
def tN (x y : Int64) : Nat := x.toInt.toNat / Nat.gcd x.toInt.toNat y.toInt.toNat
theorem tN_r {x y : Int64} (hx : 0 < x.toInt ∧ x.toInt ≤ 4782969) (hy : 0 < y.toInt ∧ y.toInt ≤ 4782969) : 1 ≤ tN x y ∧ tN x y ≤ 4782969 ∧ Nat.gcd (tN x y) (tN y x) = 1 := by
  unfold tN
  have hu : 0 < x.toInt.toNat := by omega
  have hv : 0 < y.toInt.toNat := by omega
  have hu2 : x.toInt.toNat ≤ 4782969 := by omega
  generalize x.toInt.toNat = u at hu hu2 ⊢
  generalize y.toInt.toNat = v at hv ⊢
  refine ⟨Nat.div_pos (Nat.gcd_le_left v hu) (Nat.gcd_pos_of_pos_left v hu), Nat.le_trans (Nat.div_le_self _ _) hu2, ?_⟩
  rw [Nat.gcd_comm v u]
  exact Nat.gcd_div_gcd_div_gcd_of_pos_left hu
theorem tp_self {x : Int64} (hx : 0 < x.toInt ∧ x.toInt ≤ 4782969) : tp x x = 1 := by
  obtain ⟨u, hu, hu2, rfl⟩ := lN_of (b := 4782969) hx.1 hx.2
  rw [tp_lN (by omega) (by omega), Nat.gcd_self, Nat.div_self hu]
  rfl
/-- so many of one, how many of another -/
theorem cv_lN {u v n : Nat} (hu : u ≤ 4782969) (hv : 0 < v) (hv2 : v ≤ 4782969) (hn : n ≤ 200) : lN u * (nI n).toInt64 / lN v = lN (u * n / v) := by
  have h1 : u * n ≤ 4782969 * 200 := Nat.mul_le_mul hu hn
  rw [nI_l (by omega), lN_mul, pk_lDiv (by omega) hv (by omega)]
theorem cv_r {u v n : Nat} (hu : u ≤ 4782969) (hn : n ≤ 200) : u * n / v ≤ 956593800 := by
  have h1 : u * n ≤ 4782969 * 200 := Nat.mul_le_mul hu hn
  exact Nat.le_trans (Nat.div_le_self _ _) h1
theorem cv_gt {u v n : Nat} (hv : 0 < v) (h : v ≤ u) : n ≤ u * n / v := (Nat.le_div_iff_mul_le hv).mpr (by rw [Nat.mul_comm n v]; exact Nat.mul_le_mul_right n h)
theorem cv_lt {u v n : Nat} (h : u ≤ v) : u * n / v ≤ n := Nat.div_le_of_le_mul (Nat.mul_le_mul_right n h)
theorem cv_back {u v n : Nat} (hu : 0 < u) : v * (u * n / v) / u ≤ n := Nat.div_le_of_le_mul (Nat.mul_div_le _ _)
theorem ex_iff {u v n : Nat} (hv : 0 < v) : u * n % v = 0 ↔ n % (v / Nat.gcd v u) = 0 := by
  have hg : 0 < Nat.gcd v u := Nat.gcd_pos_of_pos_left u hv
  have hc : Nat.gcd (v / Nat.gcd v u) (u / Nat.gcd v u) = 1 := Nat.gcd_div_gcd_div_gcd_of_pos_left hv
  obtain ⟨v1, ev⟩ := Nat.gcd_dvd_left v u
  obtain ⟨u1, eu⟩ := Nat.gcd_dvd_right v u
  generalize Nat.gcd v u = g at hg ev eu hc ⊢
  subst ev
  subst eu
  rw [Nat.mul_div_cancel_left _ hg, Nat.mul_div_cancel_left _ hg] at hc
  rw [Nat.mul_div_cancel_left _ hg, ← Nat.dvd_iff_mod_eq_zero, ← Nat.dvd_iff_mod_eq_zero, Nat.mul_assoc]
  constructor
  · intro h
    have h1 : v1 ∣ u1 * n := Nat.dvd_of_mul_dvd_mul_left hg h
    exact Nat.Coprime.dvd_of_dvd_mul_left hc h1
  · intro h
    exact Nat.mul_dvd_mul_left g (Nat.dvd_trans h (Nat.dvd_mul_left n u1))
theorem ex_lN {u v n : Nat} (hu : u ≤ 4782969) (hv : 0 < v) (hv2 : v ≤ 4782969) (hn : n ≤ 200) : (jrem (lN u * (nI n).toInt64) (lN v)).toInt = (0 : Int64).toInt ↔ n % (v / Nat.gcd v u) = 0 := by
  have h1 : u * n ≤ 4782969 * 200 := Nat.mul_le_mul hu hn
  rw [nI_l (by omega), lN_mul]
  unfold jrem
  have h2 := Nat.mod_lt (u * n) hv
  rw [pk_lRem (by omega) hv (by omega), pk_lT (by omega), show (0 : Int64).toInt = 0 from rfl, ← ex_iff hv]
  omega
/-- what one gets, in numbers -/
theorem gv_lN {u s n : Nat} {d : Int32} (hu : u ≤ 4782969) (hs : 0 < s) (hs2 : s ≤ 4782969) (hn : n ≤ 200) (hd : -300 ≤ d.toInt ∧ d.toInt ≤ 300) : gvn (lN u) (lN s) (nI n) d = lN (u * n * (1000 + d.toInt).toNat / s) := by
  have e1 : (1000 : Int32).toInt = 1000 := rfl
  have e2 : (1000 + d).toInt = 1000 + d.toInt := by rw [fb_addI (by omega) (by omega), e1]
  have e3 : 1000 + d = nI (1000 + d.toInt).toNat := Int32.toInt_inj.mp (by rw [e2, nI_toInt (by omega)]; omega)
  have h1 : u * n ≤ 4782969 * 200 := Nat.mul_le_mul hu hn
  have h2 : u * n * (1000 + d.toInt).toNat ≤ 4782969 * 200 * 1300 := Nat.mul_le_mul h1 (by omega)
  unfold gvn
  rw [e3, nI_l (by omega), nI_l (by omega), lN_mul, lN_mul, pk_lDiv (by omega) hs (by omega)]
theorem gv_r {u s n q : Nat} (hu : u ≤ 4782969) (hn : n ≤ 200) (hq : q ≤ 1300) : u * n * q / s ≤ 1243571940000 := by
  have h1 : u * n ≤ 4782969 * 200 := Nat.mul_le_mul hu hn
  have h2 : u * n * q ≤ 4782969 * 200 * 1300 := Nat.mul_le_mul h1 hq
  exact Nat.le_trans (Nat.div_le_self _ _) h2
theorem gv_mono {a q1 q2 s : Nat} (h : q1 ≤ q2) : a * q1 / s ≤ a * q2 / s := Nat.div_le_div_right (Nat.mul_le_mul_left a h)
/-- loss and drift -/
theorem ls_sign {x s : Int64} {n : Nat} {d : Int32} (hx : 0 < x.toInt ∧ x.toInt ≤ 4782969) (hs : 0 < s.toInt ∧ s.toInt ≤ 4782969) (hn : n ≤ 200) (hd : -300 ≤ d.toInt ∧ d.toInt ≤ 300) :
    (d.toInt ≤ 0 → 0 ≤ (gvn x s (nI n) 0 - gvn x s (nI n) d).toInt) ∧ (0 ≤ d.toInt → (gvn x s (nI n) 0 - gvn x s (nI n) d).toInt ≤ 0) := by
  obtain ⟨u, hu, hu2, rfl⟩ := lN_of (b := 4782969) hx.1 hx.2
  obtain ⟨v, hv, hv2, rfl⟩ := lN_of (b := 4782969) hs.1 hs.2
  have e0 : (0 : Int32).toInt = 0 := rfl
  rw [gv_lN hu2 hv hv2 hn (by omega), gv_lN hu2 hv hv2 hn hd]
  have b1 := gv_r (s := v) hu2 hn (show (1000 + (0 : Int32).toInt).toNat ≤ 1300 by omega)
  have b2 := gv_r (s := v) hu2 hn (show (1000 + d.toInt).toNat ≤ 1300 by omega)
  have m1 : d.toInt ≤ 0 → u * n * (1000 + d.toInt).toNat / v ≤ u * n * (1000 + (0 : Int32).toInt).toNat / v := fun h => gv_mono (by omega)
  have m2 : 0 ≤ d.toInt → u * n * (1000 + (0 : Int32).toInt).toNat / v ≤ u * n * (1000 + d.toInt).toNat / v := fun h => gv_mono (by omega)
  generalize u * n * (1000 + (0 : Int32).toInt).toNat / v = A0 at b1 m1 m2 ⊢
  generalize u * n * (1000 + d.toInt).toNat / v = A1 at b2 m1 m2 ⊢
  rw [fb_subL (by rw [pk_lT (by omega), pk_lT (by omega)]; omega) (by rw [pk_lT (by omega), pk_lT (by omega)]; omega), pk_lT (by omega), pk_lT (by omega)]
  exact ⟨fun h => by have := m1 h; omega, fun h => by have := m2 h; omega⟩
theorem addsubL (x y : Int64) : x + (y - x) = y := by
  apply Int64.toBitVec_inj.1
  show x.toBitVec + (y.toBitVec - x.toBitVec) = y.toBitVec
  rw [BitVec.add_comm, BitVec.sub_add_cancel]
theorem mulL_comm (x y z : Int64) : x * y * z = x * z * y := by
  apply Int64.toBitVec_inj.1
  show x.toBitVec * y.toBitVec * z.toBitVec = x.toBitVec * z.toBitVec * y.toBitVec
  rw [BitVec.mul_assoc, BitVec.mul_comm y.toBitVec, ← BitVec.mul_assoc]
theorem sum_tp {x s : Int64} {n : Nat} (hx : 0 < x.toInt ∧ x.toInt ≤ 4782969) (hs : 0 < s.toInt ∧ s.toInt ≤ 4782969) (hn1 : 1 ≤ n) (hn : n ≤ 200) : (nI n).toInt64 * 1000 * tp x s / tp s x = gvn x s (nI n) 0 := by
  have h := gvn_tp (w := nI n) (d := 0) hx hs (by unfold inR; rw [nI_toInt (by omega)]; omega) (by decide)
  rw [← h, mulL_comm]
  rfl
/-- the least and the greatest, as the law goes through them -/
def mnA (fD : Nat → Int32) : Nat → Int32
  | 0 => 999
  | i + 1 => if absI (fD i) < mnA fD i then absI (fD i) else mnA fD i
def mxA (fD : Nat → Int32) : Nat → Int32
  | 0 => -999
  | i + 1 => if mxA fD i < fD i then fD i else mxA fD i
theorem bhN_le {fD : Nat → Int32} : ∀ i, i < 2 ^ 20 → bhN fD i = -1 ∨ ∃ j, j < i ∧ bhN fD i = nI j := fun i _ => by
  by_cases h : bhN fD i = -1
  · exact Or.inl h
  · exact Or.inr (bhN_of h)
theorem bhN_suc (fD : Nat → Int32) {i : Nat} (hi : i < 2 ^ 20) : ∃ j, j < i + 1 ∧ bhN fD (i + 1) = nI j := by
  by_cases q : bhN fD i = -1 ∨ (absI (fD i)).toInt < (absI (fD (bhN fD i).toNatClampNeg)).toInt
  · exact ⟨i, Nat.lt_succ_self i, ic_t q⟩
  · have e : bhN fD (i + 1) = bhN fD i := ic_f q
    obtain ⟨j, hj, e2⟩ := bhN_of (fD := fD) (i := i) (fun h => q (Or.inl h))
    exact ⟨j, by omega, e.trans e2⟩
theorem bgN_suc (fD : Nat → Int32) {i : Nat} (hi : i < 2 ^ 20) : ∃ j, j < i + 1 ∧ bgN fD (i + 1) = nI j := by
  by_cases q : bgN fD i = -1 ∨ (fD (bgN fD i).toNatClampNeg).toInt < (fD i).toInt
  · exact ⟨i, Nat.lt_succ_self i, ic_t q⟩
  · have e : bgN fD (i + 1) = bgN fD i := ic_f q
    obtain ⟨j, hj, e2⟩ := bgN_of (fD := fD) (i := i) (fun h => q (Or.inl h))
    exact ⟨j, by omega, e.trans e2⟩
theorem mnA_eq {fD : Nat → Int32} {c : Nat} (hc : c < 2 ^ 20) (h : ∀ j, j < c → -300 ≤ (fD j).toInt ∧ (fD j).toInt ≤ 300) : ∀ i, i + 1 ≤ c → mnA fD (i + 1) = absI (fD (bhN fD (i + 1)).toNatClampNeg) := by
  intro i
  induction i with
  | zero =>
    intro hi
    have e : bhN fD 1 = nI 0 := ic_t (Or.inl rfl)
    rw [e, nI_clamp (by omega)]
    have h1 := abs300 (h 0 (by omega))
    have e9 : (999 : Int32).toInt = 999 := rfl
    show (if absI (fD 0) < 999 then absI (fD 0) else 999) = _
    rw [if_pos (by rw [Int32.lt_iff_toInt_lt, e9]; omega)]
  | succ i ih =>
    intro hi
    have e1 := ih (by omega)
    obtain ⟨j, hj, ej⟩ := bhN_suc fD (i := i) (by omega)
    show (if absI (fD (i + 1)) < mnA fD (i + 1) then absI (fD (i + 1)) else mnA fD (i + 1)) = _
    by_cases q : (absI (fD (i + 1))).toInt < (absI (fD (bhN fD (i + 1)).toNatClampNeg)).toInt
    · have e : bhN fD (i + 1 + 1) = nI (i + 1) := ic_t (Or.inr q)
      rw [e, nI_clamp (by omega), if_pos (by rw [Int32.lt_iff_toInt_lt, e1]; exact q)]
    · have e : bhN fD (i + 1 + 1) = bhN fD (i + 1) := ic_f (fun z => z.elim (fun z => nI_nm1 (show j < 2 ^ 31 by omega) (ej.symm.trans z)) q)
      rw [e, if_neg (by rw [Int32.lt_iff_toInt_lt, e1]; exact q), e1]
theorem mxA_eq {fD : Nat → Int32} {c : Nat} (hc : c < 2 ^ 20) (h : ∀ j, j < c → -300 ≤ (fD j).toInt ∧ (fD j).toInt ≤ 300) : ∀ i, i + 1 ≤ c → mxA fD (i + 1) = fD (bgN fD (i + 1)).toNatClampNeg := by
  intro i
  induction i with
  | zero =>
    intro hi
    have e : bgN fD 1 = nI 0 := ic_t (Or.inl rfl)
    rw [e, nI_clamp (by omega)]
    have h1 := h 0 (by omega)
    have e9 : (-999 : Int32).toInt = -999 := rfl
    show (if -999 < fD 0 then fD 0 else -999) = _
    rw [if_pos (by rw [Int32.lt_iff_toInt_lt, e9]; omega)]
  | succ i ih =>
    intro hi
    have e1 := ih (by omega)
    obtain ⟨j, hj, ej⟩ := bgN_suc fD (i := i) (by omega)
    show (if mxA fD (i + 1) < fD (i + 1) then fD (i + 1) else mxA fD (i + 1)) = _
    by_cases q : (fD (bgN fD (i + 1)).toNatClampNeg).toInt < (fD (i + 1)).toInt
    · have e : bgN fD (i + 1 + 1) = nI (i + 1) := ic_t (Or.inr q)
      rw [e, nI_clamp (by omega), if_pos (by rw [Int32.lt_iff_toInt_lt, e1]; exact q)]
    · have e : bgN fD (i + 1 + 1) = bgN fD (i + 1) := ic_f (fun z => z.elim (fun z => nI_nm1 (show j < 2 ^ 31 by omega) (ej.symm.trans z)) q)
      rw [e, if_neg (by rw [Int32.lt_iff_toInt_lt, e1]; exact q), e1]
/-- one day -/
theorem zaddI (x : Int32) : 0 + x = x := by
  apply Int32.toBitVec_inj.1
  exact BitVec.zero_add _
theorem dSm_1 (c : Nat) (t : Int32) (y : Nat) (fW fD : Nat → Int32) : dSm c t y fW fD 1 = dFine c t y fW fD := zaddI _
theorem dDr_at {c : Nat} {t : Int32} {y : Nat} {fW fD : Nat → Int32} {i : Nat} (hi : i < c) :
    dDr c t y fW fD i = ic (y % c = i ∧ ¬ (absI (hld (fD i + fW i))).toInt ≤ t.toInt) 0 (hld (fD i + fW i)) := by
  have hc0 : ¬ c = 0 := by omega
  have e : hdD fW fD c i = hld (fD i + fW i) := if_pos hi
  rw [dDr_j hc0]
  by_cases h : (absI (hdD fW fD c (y % c))).toInt ≤ t.toInt
  · rw [ic_t h, e]
    by_cases q : y % c = i
    · rw [q, e] at h; rw [ic_f (fun z => z.2 h)]
    · rw [ic_f (fun z => q z.1)]
  · rw [ic_f h]
    by_cases q : y % c = i
    · rw [q] at h ⊢; rw [e] at h; rw [ic_t ⟨rfl, h⟩]; exact if_pos rfl
    · rw [ic_f (fun z => q z.1), ← e]; exact if_neg (fun z => q z.symm)
theorem dFine_at {c : Nat} {t : Int32} {y : Nat} {fW fD : Nat → Int32} {i : Nat} (hi : i < c) (q : y % c = i) :
    dFine c t y fW fD = ic ((absI (hld (fD i + fW i))).toInt ≤ t.toInt) 0 (absI (hld (fD i + fW i))) := by
  have hc0 : ¬ c = 0 := by omega
  have e : hdD fW fD c i = hld (fD i + fW i) := if_pos hi
  rw [dFine_j hc0, q, e]
