section RKC2
variable {R : Room} {s : State} {args : Array Value} {own host : String} {index maxL : Nat} {y : MethodName} {bytes : ByteArray} {ret : Option FieldType} {rm : Room}
theorem rk_cwN (n : Nat) (ht : ∀ w ∈ WT, w.before args s = true) (hl : va_Nw (.methodLinkNest own index y host) s) (hini : Cond.initialized y.cls ∈ WT) (hco : Cond.code y bytes maxL ret ∈ WT) (hst : Cond.static y ∈ WT) (hd : y.cls ≠ "java/lang/invoke/MethodHandle" ∧ y.cls ≠ "java/lang/invoke/VarHandle" ∧ (parseMethodDescriptor y.desc).map (fun d => d.parameters.length) = some n) (hR : rm.frames + 1 ≤ R.frames ∧ 8 + (maxL + 11) + rm.locals ≤ R.locals) :
    va_CN R s args own index y host bytes maxL ret (.code y bytes maxL ret :: WT) rm rm.cells rm.slots n ∧ (Cond.static y).before args s = true ∧ True :=
  ⟨va_cnB n ht (fun w hw => rk_good w (rk_in_code hco hw)) rfl rfl rfl hl (ht _ hini) hd hR, ht _ hst, trivial⟩
end RKC2
theorem rk_eqI {D : va_G} {cl : List vw_C} {cI cZ cJ cA : ClassId} {s : State} (h : va_K D cl [(cI, .int), (cZ, .boolean), (cJ, .long)] s) (h9 : va_K D cl ([(cI, .int), (cZ, .boolean), (cJ, .long)] ++ [(cA, .int)]) s) : cI = cA := by
  have h1 : s.vm.findClass ("[" ++ (FieldType.int).toString) = some cI := (h.2 0 _ rfl).2
  have h2 : s.vm.findClass ("[" ++ (FieldType.int).toString) = some cA := (h9.2 3 _ rfl).2
  exact Option.some.inj (h1.symm.trans h2)
theorem rk_eqZ {D : va_G} {cl : List vw_C} {cI cZ cJ cA : ClassId} {s : State} (h : va_K D cl [(cI, .int), (cZ, .boolean), (cJ, .long)] s) (h9 : va_K D cl ([(cI, .int), (cZ, .boolean), (cJ, .long)] ++ [(cA, .boolean)]) s) : cZ = cA := by
  have h1 : s.vm.findClass ("[" ++ (FieldType.boolean).toString) = some cZ := (h.2 1 _ rfl).2
  have h2 : s.vm.findClass ("[" ++ (FieldType.boolean).toString) = some cA := (h9.2 3 _ rfl).2
  exact Option.some.inj (h1.symm.trans h2)
theorem rk_eqJ {D : va_G} {cl : List vw_C} {cI cZ cJ cA : ClassId} {s : State} (h : va_K D cl [(cI, .int), (cZ, .boolean), (cJ, .long)] s) (h9 : va_K D cl ([(cI, .int), (cZ, .boolean), (cJ, .long)] ++ [(cA, .long)]) s) : cJ = cA := by
  have h1 : s.vm.findClass ("[" ++ (FieldType.long).toString) = some cJ := (h.2 2 _ rfl).2
  have h2 : s.vm.findClass ("[" ++ (FieldType.long).toString) = some cA := (h9.2 3 _ rfl).2
  exact Option.some.inj (h1.symm.trans h2)
