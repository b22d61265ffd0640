/-! CORE 11 (p43): the law's frame -/
def LC (p : Program) (s : State) (m : MethodId) (c : Code) (args : Array Value) : Prop := p.tables.exec = Jvm.exec ∧ c.code = code ∧ c.maxLocals = 18 ∧ s.vm.findClass RL = some m.cls ∧ ∀ w ∈ wsL_law, w.before args s = true
