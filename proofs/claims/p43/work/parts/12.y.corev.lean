/-! CORE V (p43): no mean of drifts is NaN: it is equal to itself -/
set_option maxRecDepth 100000 in
theorem vf_nn1 : (List.range 3601).all (fun i => !(FP.Core.dIsNaN (FP.ddiv (FP.i2d (Int32.ofInt ((i : Int) - 1800))) (FP.i2d (nI 1))))) = true := by decide +kernel
set_option maxRecDepth 100000 in
theorem vf_nn2 : (List.range 3601).all (fun i => !(FP.Core.dIsNaN (FP.ddiv (FP.i2d (Int32.ofInt ((i : Int) - 1800))) (FP.i2d (nI 2))))) = true := by decide +kernel
set_option maxRecDepth 100000 in
theorem vf_nn3 : (List.range 3601).all (fun i => !(FP.Core.dIsNaN (FP.ddiv (FP.i2d (Int32.ofInt ((i : Int) - 1800))) (FP.i2d (nI 3))))) = true := by decide +kernel
set_option maxRecDepth 100000 in
theorem vf_nn4 : (List.range 3601).all (fun i => !(FP.Core.dIsNaN (FP.ddiv (FP.i2d (Int32.ofInt ((i : Int) - 1800))) (FP.i2d (nI 4))))) = true := by decide +kernel
set_option maxRecDepth 100000 in
theorem vf_nn5 : (List.range 3601).all (fun i => !(FP.Core.dIsNaN (FP.ddiv (FP.i2d (Int32.ofInt ((i : Int) - 1800))) (FP.i2d (nI 5))))) = true := by decide +kernel
set_option maxRecDepth 100000 in
theorem vf_nn6 : (List.range 3601).all (fun i => !(FP.Core.dIsNaN (FP.ddiv (FP.i2d (Int32.ofInt ((i : Int) - 1800))) (FP.i2d (nI 6))))) = true := by decide +kernel
