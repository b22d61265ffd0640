/-! CORE W (p43) -/
theorem vf_nn {x : Int32} {c : Nat} (h1 : -1800 ≤ x.toInt) (h2 : x.toInt ≤ 1800) (hc0 : ¬ c = 0) (hc : c ≤ 6) : FP.Core.dIsNaN (FP.ddiv (FP.i2d x) (FP.i2d (nI c))) = false := by
  have e : Int32.ofInt (((x.toInt + 1800).toNat : Int) - 1800) = x := by
    rw [show ((x.toInt + 1800).toNat : Int) - 1800 = x.toInt by omega]; exact fb_asI x
  have hm : (x.toInt + 1800).toNat ∈ List.range 3601 := List.mem_range.mpr (by omega)
  rcases (show c = 1 ∨ c = 2 ∨ c = 3 ∨ c = 4 ∨ c = 5 ∨ c = 6 by omega) with rfl | rfl | rfl | rfl | rfl | rfl
  · have h3 := List.all_eq_true.mp vf_nn1 _ hm
    rw [e] at h3
    simpa using h3
  · have h3 := List.all_eq_true.mp vf_nn2 _ hm
    rw [e] at h3
    simpa using h3
  · have h3 := List.all_eq_true.mp vf_nn3 _ hm
    rw [e] at h3
    simpa using h3
  · have h3 := List.all_eq_true.mp vf_nn4 _ hm
    rw [e] at h3
    simpa using h3
  · have h3 := List.all_eq_true.mp vf_nn5 _ hm
    rw [e] at h3
    simpa using h3
  · have h3 := List.all_eq_true.mp vf_nn6 _ hm
    rw [e] at h3
    simpa using h3
theorem dt_self {x : FP.Core.Datum} (h : x ≠ .nan) : FP.Core.order x x = some .eq := by
  have key : ∀ z : Int, compare z z = Ordering.eq := fun z => by simp [compare, compareOfLessAndEq]
  cases x with
  | nan => exact absurd rfl h
  | inf s => exact congrArg some (key _)
  | fin s c q => exact congrArg some (key _)
theorem vf_eq {x : UInt64} (h : FP.Core.dIsNaN x = false) : Op.cmpValue (FP.dcmp x x) .l = 0 := by
  have h1 : FP.Core.decode FP.Core.b64 x.toNat ≠ .nan := of_decide_eq_false h
  have h2 : FP.dcmp x x = some .eq := dt_self h1
  rw [h2]
  rfl
