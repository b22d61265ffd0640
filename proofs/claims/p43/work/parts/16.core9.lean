section JN
variable {p : Program} {l : Launch} {e : Env} {R : Room} {s : State} {m : MethodId} {args : Array Value} {below : List Frame} {meth : Method} {c : Code} {H : Heap} {locs : List Loc} {cells slots : Nat} {Q : State → Prop}
/-- ways that come together -/
theorem jnW {pc pc1 : Nat} {ls : Array Slot} {st st1 : List Value} (J : Array Slot → Prop) (k : ∀ ls1 : Array Slot, J ls1 → W p l e R s m args below meth c H locs cells slots Q (F0 m pc1 ls1 st1))
    (body : (∀ ls1 : Array Slot, J ls1 → W p l e R s m args below meth c H locs cells slots Q (F0 m pc1 ls1 st1)) → W p l e R s m args below meth c H locs cells slots Q (F0 m pc ls st)) : W p l e R s m args below meth c H locs cells slots Q (F0 m pc ls st) := body k
end JN

theorem bh_neg {fD : Nat → Int32} {i : Nat} (hi : i < 2 ^ 20) (h : (bhN fD i).toInt < (0 : Int32).toInt) : bhN fD i = -1 := by
  rcases bhN_le (fD := fD) i hi with q | ⟨j, hj, q⟩
  · exact q
  · rw [q, nI_toInt (by omega), t_0] at h; omega
theorem bh_pos {fD : Nat → Int32} {i : Nat} (h : ¬ (bhN fD i).toInt < (0 : Int32).toInt) : ¬ bhN fD i = -1 := fun q => by
  rw [q] at h
  exact h (by decide)
theorem bg_neg {fD : Nat → Int32} {i : Nat} (hi : i < 2 ^ 20) (h : (bgN fD i).toInt < (0 : Int32).toInt) : bgN fD i = -1 := by
  by_cases q : bgN fD i = -1
  · exact q
  · obtain ⟨j, hj, e⟩ := bgN_of q
    rw [e, nI_toInt (by omega), t_0] at h; omega
theorem bg_pos {fD : Nat → Int32} {i : Nat} (h : ¬ (bgN fD i).toInt < (0 : Int32).toInt) : ¬ bgN fD i = -1 := fun q => by
  rw [q] at h
  exact h (by decide)
