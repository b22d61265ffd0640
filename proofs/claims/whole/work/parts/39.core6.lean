/-! CORE 6: the law's own methods: what the class throws is caught there -/
def Nn (U : State) : Prop := va_Nc "java/lang/IllegalArgumentException" "java/lang/IndexOutOfBoundsException" U ∧ va_Nc "java/lang/IllegalStateException" "java/lang/IndexOutOfBoundsException" U ∧ va_Nc "java/lang/IllegalStateException" "java/lang/IllegalArgumentException" U
def KN (D : va_G) (cI cJ : ClassId) (a : Nat → Nat) : State → Heap → Prop := fun U H => KC D cI cJ a U H ∧ Nn U
theorem Nn.moved {u U : State} (hvm : u.vm.Alike U.vm) (h : Nn u) : Nn U := ⟨h.1.moved hvm, h.2.1.moved hvm, h.2.2.moved hvm⟩
theorem KN_ok {D : va_G} {cI cJ : ClassId} {a : Nat → Nat} : KOk (KN D cI cJ a) := ⟨fun b U g mk q => ⟨KC_ok.1 b U g mk q.1, q.2.moved (U := U.calling g mk b) (Vm.Alike.refl U.vm)⟩, fun s U H hW q => ⟨KC_ok.2 s U H hW q.1, q.2.moved hW.alike⟩⟩
theorem va_P_up {D : va_G} {cl : List vw_C} {ws : va_W} {H H1 : Heap} (h : va_P D cl ws H) (hq : ∀ q : Nat, q < H.size → H1[q]? = H[q]?) : va_P D cl ws H1 := h.kept (fun k q hk => hq q.1 (h k q hk).lt)
theorem va_S_up {A : Nat → Prop} {H0 H1 : Heap} (hz : H0.size ≤ H1.size) (hq : ∀ q : Nat, q < H0.size → H1[q]? = H0[q]?) : va_S A H0 H1 [] := ⟨hz, fun q h _ => hq q h, fun _ h => by cases h⟩
section CORE6
variable {p : Program} {l : Launch} {e : Env} {R : Room} {s : State} {m : MethodId} {args : Array Value} {below : List Frame} {meth : Method} {c : Code} {H : Heap} {locs : List Loc} {cells slots : Nat} {Q : State → Prop}
variable {pc : Nat} {ls : Array Slot} {rest st0 : List Value} {a : Array Value} {A0 A1 : Nat → Prop} {H0 : Heap} {mc ms : Nat} {free : Addr → Prop}
theorem rox_X {px : String → Prop} {g : JFrame} {Qa : State → Outcome → State → Prop} (hr : vx_Run p l e R s m args below meth c H locs cells slots mc ms g rest Qa (rox px) free) : vx_Run p l e R s m args below meth c H locs cells slots mc ms g rest Qa (vx_X (S := Unit) (fun _ => True) (fun E _ _ => px E) (fun _ => False)) free := by
  intro T hT X
  rcases hr T hT X with h | ⟨q, st₀, t, T', L, E, ce, h0, X', hL, e1, e2, ⟨hp, hF⟩, hce, hcv, hcl, st⟩
  · exact Or.inl h
  · exact Or.inr ⟨q, st₀, t, T', L, E, ce, h0, X', hL, e1, e2, ⟨(), trivial, hp, hF⟩, hce, hcv, hcl, st⟩
end CORE6
theorem bL_ite (P : Prop) : bL P = ic P 1 0 := rfl
theorem updL_0 (f : Nat → Int64) (v : Int64) : vp_updL f 0 v 0 = v := if_pos rfl
