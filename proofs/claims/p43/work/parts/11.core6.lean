theorem LenOk.step {k : Nat} {fB mM mP : Nat → Int32} {fL : Nat → Int64} {La pp uu bb : Nat → Nat} (h : LenOk k fB mM mP fL La pp uu bb) {j : Nat} (h0 : 0 < j) (hj : j < k) : La (bb j) * uu j = La j * pp j := by
  obtain ⟨-, -, -, -, a5, -, -, -, a9, b1⟩ := h.2.2 j h0 hj
  obtain ⟨z, ez⟩ := a9
  rw [ez, Nat.mul_div_cancel_left _ a5] at b1
  rw [ez, ← b1]
  simp only [Nat.mul_assoc, Nat.mul_comm, Nat.mul_left_comm]
theorem LenOk.pos {k : Nat} {fB mM mP : Nat → Int32} {fL : Nat → Int64} {La pp uu bb : Nat → Nat} (h : LenOk k fB mM mP fL La pp uu bb) (hk : k ≤ 8) {j : Nat} (hj : j < k) : 0 < (fL j).toInt ∧ (fL j).toInt ≤ 4782969 := by
  obtain ⟨e, h1, h2⟩ := h.1 j hj
  have h9 := p9 hk
  rw [e, pk_lT (by omega)]
  omega
theorem rt_s1 {T U B P Lj Lb L : Nat} (h : T * Lj = B * L) (e : Lb * U = Lj * P) : T * U * Lb = B * P * L := by
  have h1 : T * U * Lb = T * (Lb * U) := by simp only [Nat.mul_assoc, Nat.mul_comm, Nat.mul_left_comm]
  rw [h1, e, show T * (Lj * P) = (T * Lj) * P by rw [Nat.mul_assoc], h]
  simp only [Nat.mul_assoc, Nat.mul_comm, Nat.mul_left_comm]
theorem rt_s2 {T P B U A Z L Lj Lb : Nat} (h : T * A * Z = B * L * Lj) (e : Lb * U = Lj * P) : T * P * A * Z = B * U * L * Lb := by
  have h1 : T * P * A * Z = (T * A * Z) * P := by simp only [Nat.mul_assoc, Nat.mul_comm, Nat.mul_left_comm]
  have h2 : B * U * L * Lb = B * L * (Lb * U) := by simp only [Nat.mul_assoc, Nat.mul_comm, Nat.mul_left_comm]
  rw [h1, h2, h, e]
  simp only [Nat.mul_assoc, Nat.mul_comm, Nat.mul_left_comm]
