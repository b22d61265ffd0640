/-! CORE 10 (p43): chosen numbers; the market's steps -/
def bw (v : Int32) : Nat := v.toBitVec.toNat % 2 ^ 31
theorem bw_and (v : Int32) : v &&& 2147483647 = nI (bw v) := pk_and v 31 (by decide)
theorem bw_lt (v : Int32) : bw v < 2 ^ 31 := Nat.mod_lt _ (by decide)
theorem bw_at (v : Int32) {n : Nat} (h : 0 < n) : ∃ j, j < n ∧ nI (bw v % n) = nI j := ⟨_, Nat.mod_lt _ h, rfl⟩
theorem bw_up (v : Int32) {n : Nat} (h : 0 < n) : ∃ j, 1 ≤ j ∧ j ≤ n ∧ 1 + nI (bw v % n) = nI j := ⟨1 + bw v % n, by omega, by have := Nat.mod_lt (bw v) h; omega, nI_add 1 _⟩
theorem bw_wr (v : Int32) : ∃ w : Int32, inR (-9) 9 w ∧ nI (bw v % 19) - 9 = w := by
  refine ⟨_, ?_, rfl⟩
  have h1 := Nat.mod_lt (bw v) (show 0 < 19 by decide)
  have e : (9 : Int32).toInt = 9 := rfl
  unfold inR
  rw [nI_subI (by omega) (by decide) (by decide), e]
  omega
theorem inR_of {n : Nat} {lo hi : Int} (h1 : lo ≤ n) (h2 : (n : Int) ≤ hi) (h3 : n < 2 ^ 31) : inR lo hi (nI n) := by
  unfold inR
  rw [nI_toInt h3]
  exact ⟨h1, h2⟩
section PIS
variable {k st : Nat} {fB fS fO : Nat → Int32} {fL : Nat → Int64} {c : Nat} {t : Int32} {fW fD mM mP : Nat → Int32}
theorem PI.std (h : PI k st fB fS fO fL c t fW fD mM mP) {j : Nat} (hj : j < k) : PI k j fB fS fO fL c t fW fD mM mP := ⟨h.1.std hj, h.2⟩
theorem PI.tol (h : PI k st fB fS fO fL c t fW fD mM mP) {j : Nat} (hj : j ≤ 100) : PI k st fB fS fO fL c (nI j) fW fD mM mP :=
  ⟨h.1.tol (inR_of (by omega) (by omega) (by omega)), h.2.1, by rw [nI_toInt (by omega)]; omega, h.2.2.2⟩
theorem PI.days (h : PI k st fB fS fO fL c t fW fD mM mP) (y n : Nat) : PI k st fB fS fO fL c t fW (dIt c t y fW fD n) mM mP := ⟨h.1.days y fW n, h.2⟩
theorem PI.day (h : PI k st fB fS fO fL c t fW fD mM mP) (y : Nat) : PI k st fB fS fO fL c t fW (dDr c t y fW fD) mM mP := h.days y 1
theorem PI.sealed (h : PI k st fB fS fO fL c t fW fD mM mP) (v : Nat) : PI k st fB fS fO fL c t fW (upd fD v 0) mM mP := ⟨h.1.sealed v, h.2⟩
theorem PI.stall (h : PI k st fB fS fO fL c t fW fD mM mP) (hc : c < 6) {w : Int32} (hw : inR (-9) 9 w) : PI k st fB fS fO fL (c + 1) t (upd fW c w) (upd fD c 0) mM mP := by
  refine ⟨h.1.stall hc, h.2.1, h.2.2.1, fun j hj => ?_⟩
  unfold upd
  by_cases q : j = c
  · rw [if_pos q]; exact hw
  · rw [if_neg q]; exact h.2.2.2 j (by omega)
theorem PI.wear (h : PI k st fB fS fO fL c t fW fD mM mP) (v : Nat) {w : Int32} (hw : inR (-9) 9 w) : PI k st fB fS fO fL c t (upd fW v w) fD mM mP := by
  refine ⟨h.1, h.2.1, h.2.2.1, fun j hj => ?_⟩
  unfold upd
  by_cases q : j = v
  · rw [if_pos q]; exact hw
  · rw [if_neg q]; exact h.2.2.2 j hj
theorem PI.new (h : PI k st fB fS fO fL c t fW fD mM mP) {jx un qn : Nat} (hj : jx < k) (hk8 : k < 8) (hu0 : 1 ≤ un) (hu : un ≤ 9) (hq0 : 1 ≤ qn) (hq : qn ≤ 9) :
    PI (k + 1) st (upd fB k (nI jx)) (upd fS k (fS jx + 1)) (insO (vp_updL (rfU fL (nI qn).toInt64 k) k (fL jx * (nI un).toInt64)) ((vp_updL (rfU fL (nI qn).toInt64 k) k (fL jx * (nI un).toInt64)) k) (nI k) k fO) (vp_updL (rfU fL (nI qn).toInt64 k) k (fL jx * (nI un).toInt64)) c t fW fD (upd mM k (nI un)) (upd mP k (nI qn)) := by
  have hk1 := h.1.1.1
  refine ⟨LI_new h.1 hj hk8 hu0 hu hq0 hq, ?_, h.2.2⟩
  show upd fB k (nI jx) 0 = -1
  rw [upd, if_neg (by omega)]
  exact h.2.1
theorem m3_new {k q : Nat} {b u v : Int32} (j : Nat) (hj : j < 3) : upd (upd (upd (fun _ => (0 : Int32)) 0 b) 1 u) 2 v j = m3 (upd fB k b) (upd mM k u) (upd mP k v) k j := by
  have e1 : upd fB k b k = b := if_pos rfl
  have e2 : upd mM k u k = u := if_pos rfl
  have e3 : upd mP k v k = v := if_pos rfl
  unfold m3
  rw [e1, e2, e3]
  rcases (show j = 0 ∨ j = 1 ∨ j = 2 by omega) with rfl | rfl | rfl <;> rfl
end PIS
theorem PI_0 : PI 1 0 (upd (fun _ => (0 : Int32)) 0 (-1)) (fun _ => 0) (fun _ => 0) (vp_updL (fun _ => (0 : Int64)) 0 1) 0 10 (fun _ => 0) (fun _ => 0) (fun _ => 1) (fun _ => 1) := by
  refine ⟨?_, rfl, by decide, fun j hj => absurd hj (Nat.not_lt_zero j)⟩
  obtain ⟨a1, a2, a3, a4, a5, a6, a7, ⟨La, pp, uu, bb, b1, b2, b3⟩, a9, a10⟩ := LI_0
  exact ⟨a1, a2, a3, a4, a5, a6, a7, ⟨La, pp, uu, bb, b1, b2, fun j h0 hj => absurd hj (by omega)⟩, a9, a10⟩
