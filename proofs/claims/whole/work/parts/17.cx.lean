/-- what a stretch of a method needs of its method's start -/
def Cx (p : Program) (s : State) (m : MethodId) (meth : Method) (c : Code) (args : Array Value) (D : va_G) (tys : List (ClassId × FieldType)) (A : Nat → Prop) (cc : ByteArray) (ws : List Cond) (own : String) (ret : Option FieldType) (nL : Nat) : Prop :=
  p.tables.exec = Jvm.exec ∧ c.code = cc ∧ meth.sig.returnType = ret ∧ c.maxLocals = nL ∧ s.vm.findClass own = some m.cls ∧ (∀ w ∈ ws, w.before args s = true) ∧ meth.locks = false ∧ va_K D vwCl tys s ∧ nest s ∧ (∀ q : Nat, s.heap.size ≤ q → A q)
