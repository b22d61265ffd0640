/-- the measure q stands ahead of m -/
def Ah (L : Nat → Int64) (m q : Nat) : Prop := (L m).toInt < (L q).toInt ∨ (q < m ∧ ¬ (L q).toInt < (L m).toInt)
theorem Ah_self (L : Nat → Int64) (m : Nat) : ¬ Ah L m m := fun h => by
  rcases h with h | h <;> omega
theorem Ah_lg {L : Nat → Int64} {k q : Nat} (hk : 1 ≤ k) (hq : q < k) : ¬ Ah L (lgN L (k - 1)) q := fun h => by
  have h1 := lgN_max L (k - 1) q (by omega)
  rcases h with h | ⟨h, h2⟩
  · omega
  · exact h2 (lgN_fst L (k - 1) q h)
theorem Ah_ne {L : Nat → Int64} {k m : Nat} (hk : 1 ≤ k) (hm : m < k) (h : ¬ m = lgN L (k - 1)) : Ah L m (lgN L (k - 1)) := by
  have h1 := lgN_max L (k - 1) m (by omega)
  by_cases q : (L m).toInt < (L (lgN L (k - 1))).toInt
  · exact Or.inl q
  · by_cases z : m < lgN L (k - 1)
    · exact absurd (lgN_fst L (k - 1) m z) q
    · exact Or.inr ⟨by omega, by omega⟩
/-- how many stand ahead, of the first i -/
def AhN (L : Nat → Int64) (m i a : Nat) : Prop := a ≤ i ∧ (m < i → a < i) ∧ (0 < a ↔ ∃ q, q < i ∧ Ah L m q)
theorem AhN_0 (L : Nat → Int64) (m : Nat) : AhN L m 0 0 := ⟨Nat.le_refl 0, fun h => absurd h (Nat.not_lt_zero m), ⟨fun h => absurd h (Nat.not_lt_zero 0), fun ⟨q, h, _⟩ => absurd h (Nat.not_lt_zero q)⟩⟩
theorem AhN_y {L : Nat → Int64} {m i a : Nat} (h : AhN L m i a) (hy : Ah L m i) : AhN L m (i + 1) (a + 1) := by
  obtain ⟨h1, h2, h3⟩ := h
  refine ⟨by omega, fun hm => ?_, ⟨fun _ => ⟨i, by omega, hy⟩, fun _ => by omega⟩⟩
  by_cases q : m = i
  · subst q; exact absurd hy (Ah_self L m)
  · have := h2 (by omega); omega
theorem AhN_n {L : Nat → Int64} {m i a : Nat} (h : AhN L m i a) (hn : ¬ Ah L m i) : AhN L m (i + 1) a := by
  obtain ⟨h1, h2, h3⟩ := h
  refine ⟨by omega, fun hm => by omega, ⟨fun hp => ?_, fun ⟨q, hq, hA⟩ => ?_⟩⟩
  · obtain ⟨q, hq, hA⟩ := h3.mp hp
    exact ⟨q, by omega, hA⟩
  · by_cases z : q = i
    · subst z; exact absurd hA hn
    · exact h3.mpr ⟨q, by omega, hA⟩
/-- the first of the order, as far as it is laid -/
def Fst (L : Nat → Int64) (k i : Nat) (o : Nat → Int32) : Prop := lgN L (k - 1) < i → o 0 = nI (lgN L (k - 1))
theorem Fst_s {L : Nat → Int64} {k i a : Nat} {o : Nat → Int32} (hk : 1 ≤ k) (hi : i < k) (h : Fst L k i o) (ha : AhN L i k a) : Fst L k (i + 1) (upd o a (nI i)) := by
  intro hl
  by_cases q : i = lgN L (k - 1)
  · have e : a = 0 := by
      rcases Nat.eq_zero_or_pos a with z | z
      · exact z
      · obtain ⟨x, hx, hA⟩ := ha.2.2.mp z
        rw [q] at hA
        exact absurd hA (Ah_lg hk hx)
    subst e
    rw [← q]
    exact if_pos rfl
  · have hl2 := lgN_le L (k - 1)
    have hp : 0 < a := ha.2.2.mpr ⟨_, by omega, Ah_ne hk hi q⟩
    have e : upd o a (nI i) 0 = o 0 := if_neg (by omega)
    rw [e]
    exact h (by omega)
theorem pz_0 {f : Nat → Int32} {i : Nat} {x : Int32} (h1 : x.toInt ≤ 300) (h2 : -300 ≤ x.toInt) : upd f i x = upd f i (hld x) := by rw [hz_0 h1 h2]
theorem pz_1 {f : Nat → Int32} {i : Nat} {x : Int32} (h1 : 300 < x.toInt) : upd (upd f i x) i 300 = upd f i (hld x) := by rw [hz_1 h1, ui_ui]
theorem pz_2 {f : Nat → Int32} {i : Nat} {x : Int32} (h1 : x.toInt < -300) : upd (upd f i x) i (-300) = upd f i (hld x) := by rw [hz_2 h1, ui_ui]

theorem hdDi_r {fW fD : Nat → Int32} {c i j : Nat} (h : ∀ j, j < c → -300 ≤ (fD j).toInt ∧ (fD j).toInt ≤ 300) (hj : j < c) : -300 ≤ (hdD fW fD i j).toInt ∧ (hdD fW fD i j).toInt ≤ 300 := by
  unfold hdD
  by_cases q : j < i
  · rw [if_pos q]; exact hld_r _
  · rw [if_neg q]; exact h j hj
