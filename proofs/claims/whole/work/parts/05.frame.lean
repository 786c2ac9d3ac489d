theorem rk_psub {D : va_G} {cl : List vw_C} {ws wc : va_W} {H : Heap} {isC : List Nat} (hP : va_P D cl ws H) (hC : isC.map (fun i => ws[i]?) = wc.map some) : va_P D cl wc H := by
  intro k q hk
  have h1 : (isC.map (fun i => ws[i]?))[k]? = some (some q) := by rw [hC, List.getElem?_map, hk]; rfl
  rw [List.getElem?_map] at h1
  cases hi : isC[k]? with
  | none => rw [hi] at h1; cases h1
  | some i => rw [hi] at h1; exact hP i q (Option.some.inj h1)
/-! the method frame of this claim: worlds of cells at variable addresses, one list of words WT for all methods -/
def rk_pre (D : va_G) (TY : List (ClassId × FieldType)) (sz : Nat) (ws : va_W) (U : State) : Prop := U.heap.size = sz ∧ va_P D classes ws U.heap ∧ va_K D classes TY U ∧ va_D (fun _ => True) ws
def rk_at (D : va_G) (TY : List (ClassId × FieldType)) (A : Nat → Prop) (ws : va_W) (t : State) : Prop := va_P D classes ws t.heap ∧ va_K D classes TY t ∧ va_D A ws
theorem rk_blind {D : va_G} {TY : List (ClassId × FieldType)} {sz : Nat} {ws : va_W} {av : List Value} : FrameBlind (va_Pc av (rk_pre D TY sz ws)) := fun a U g mk q => by
  obtain ⟨q0, q1, qP, qK, qD⟩ := q
  exact ⟨q0, q1, qP, va_K.moved (u := U) (U := U.calling g mk a) (Vm.Alike.refl U.vm) qK, qD⟩
theorem rk_give {D : va_G} {TY : List (ClassId × FieldType)} {ws : va_W} {av : List Value} {s : State} {H : Heap} {A : Nat → Prop} (hP : va_P D classes ws H) (hK : va_K D classes TY s) (hD : va_D A ws) : ∀ U : State, U.heap = H → s.WarmedH U.vm → va_Pc av (rk_pre D TY H.size ws) av.toArray U := fun U hU hW =>
  ⟨rfl, by rw [hU], by rw [hU]; exact hP, va_K.moved hW.alike hK, hD.weaken (fun _ _ _ _ => trivial)⟩
section RKB
variable {l : Launch} {y : MethodName} {cc : ByteArray} {maxL : Nat} {ret : Option FieldType} {av : List Value} {D : va_G} {TY : List (ClassId × FieldType)} {sz : Nat} {ws : va_W} {rm : Room} {Qc : Array Value → State → Outcome → State → Prop} {mc ms : Nat}
/-- a contract out of the walk of the body -/
theorem rk_body (hy : plainName y.cls = true) (hlen : (lg_sl av).length ≤ maxL)
    (body : ∀ (p : Program) (e : Env) (s : State) (m : MethodId) (below : List Frame) (meth : Method) (c : Code), p.tables.exec = Jvm.exec → c.code = cc → c.maxLocals = maxL → meth.sig.returnType = ret → (∀ w ∈ WT, w.before av.toArray s = true) → s.vm.findClass y.cls = some m.cls → meth.locks = false → meth.name = y.name → s.heap.size = sz →
      va_P D classes ws s.heap → va_K D classes TY s → va_D (va_A ws sz) ws → (∀ q : Nat, s.heap.size ≤ q → va_A ws sz q) → va_S (va_A ws sz) s.heap s.heap [] → ∀ ls : Array Slot, lv_has ls maxL (lv_args 0 av) →
      W p l e rm s m av.toArray below meth c s.heap [] 0 0 (MQ below Qc av.toArray s mc ms (va_A ws sz)) (F0 m 0 ls [])) :
    Met l y (.code y cc maxL ret :: WT) rm (va_Pc av (rk_pre D TY sz ws)) Qc mc ms (va_A ws sz) := by
  refine Met.ofW (cc := cc) (maxL := maxL) (ret := ret) hy rfl ?_
  intro p e s m args below meth c s₁ B hml hv
  obtain ⟨rfl, hsz, hP, hK, hD0⟩ := hv
  have hts := atoms_spec (ws := .code y cc maxL ret :: WT) B.pre
  have hD := hD0.self (sz := sz)
  have hl := lv_entry av (n := maxL) hlen
  rw [lg_entry_eq]
  exact body p e s m below meth c B.exec B.bytes hml B.returns (fun w h => hts w (List.mem_cons_of_mem _ h)) (findClass_of_methodNamed B.named) B.notSynchronized (name_of_methodNamed B.named B.method).1 hsz hP hK hD (fun q h => Or.inr (by rw [← hsz]; exact h)) va_S.rf _ hl
end RKB
section RKW
variable {p : Program} {l : Launch} {e : Env} {R : Room} {s : State} {m : MethodId} {args : Array Value} {below : List Frame} {meth : Method} {c : Code} {H : Heap} {locs : List Loc} {cells slots : Nat} {Q : State → Prop}
variable {pc : Nat} {ls : Array Slot} {rest : List Value} {cc : ByteArray} {D : va_G} {TY : List (ClassId × FieldType)} {A : Nat → Prop}
/-- the number on top, by another name -/
theorem rk_top {x y : Int32} (h : x = y) (k : W p l e R s m args below meth c H locs cells slots Q (F0 m pc ls (.int y :: rest))) : W p l e R s m args below meth c H locs cells slots Q (F0 m pc ls (.int x :: rest)) := by
  subst h
  exact k
theorem rk_iret {S : Type} {post : Int32 → S → Prop} {wf : S → va_W} {v : Int32} {ws : va_W} (u : S) (hx : p.tables.exec = Jvm.exec) (hb : c.code = cc) (hr : meth.sig.returnType = some .int) (hlocks : meth.locks = false) (hp : post v u) (hu : wf u = ws) (hP : va_P D classes ws H) (hK : va_K D classes TY s) (hD : va_D A ws) (hS : va_S A s.heap H locs) (hdg : decode cc pc = .ok (.ireturn, 1)) :
    W p l e R s m args below meth c H locs cells slots (MQ below (va_Qi post (fun u t => rk_at D TY A (wf u) t) A) args s cells slots A) (F0 m pc ls [.int v]) := by
  subst hu
  exact W.iret (v := v) hx hb hr (fun t ht hW => ⟨⟨v, u, rfl, hp, by rw [ht]; exact hP, va_K.moved hW.alike hK, hD⟩, hS.F ht⟩) hS.2.2 hdg hlocks
theorem rk_zret {S : Type} {post : Int32 → S → Prop} {wf : S → va_W} {z : Bool} {ws : va_W} (u : S) (hx : p.tables.exec = Jvm.exec) (hb : c.code = cc) (hr : meth.sig.returnType = some .boolean) (hlocks : meth.locks = false) (hp : post (zI z) u) (hu : wf u = ws) (hP : va_P D classes ws H) (hK : va_K D classes TY s) (hD : va_D A ws) (hS : va_S A s.heap H locs) (hdg : decode cc pc = .ok (.ireturn, 1)) :
    W p l e R s m args below meth c H locs cells slots (MQ below (va_Qi post (fun u t => rk_at D TY A (wf u) t) A) args s cells slots A) (F0 m pc ls [.int (zI z)]) := by
  subst hu
  exact W.zret (v := zI z) hx hb hr (by cases z <;> rfl) (fun t ht hW => ⟨⟨zI z, u, rfl, hp, by rw [ht]; exact hP, va_K.moved hW.alike hK, hD⟩, hS.F ht⟩) hS.2.2 hdg hlocks
theorem rk_vret {S : Type} {post : S → Prop} {wf : S → va_W} {ws : va_W} (u : S) (hx : p.tables.exec = Jvm.exec) (hb : c.code = cc) (hr : meth.sig.returnType = none) (hlocks : meth.locks = false) (hp : post u) (hu : wf u = ws) (hP : va_P D classes ws H) (hK : va_K D classes TY s) (hD : va_D A ws) (hS : va_S A s.heap H locs) (hdg : decode cc pc = .ok (.return_, 1)) :
    W p l e R s m args below meth c H locs cells slots (MQ below (va_Qv post (fun u t => rk_at D TY A (wf u) t) A) args s cells slots A) (F0 m pc ls []) := by
  subst hu
  exact W.vret hx hb hr (fun t ht hW => ⟨⟨u, rfl, hp, by rw [ht]; exact hP, va_K.moved hW.alike hK, hD⟩, hS.F ht⟩) hS.2.2 hdg hlocks
/-! calls: the callee's cells cut out by places, what came back laid beside the rest -/
variable {own C : String} {index n maxL nL mc ms : Nat} {y : MethodName} {bytes : ByteArray} {ret : Option FieldType} {wsY : List Cond} {rm : Room} {wc wr ws : va_W} {b : Nat} {st0 : List Value} {A0 : Nat → Prop} {H0 : Heap}
theorem rk_backi {S : Type} {post : Int32 → S → Prop} {wf : S → va_W} {a : Array Value} (hr : va_Run p l e R s m args below meth c H locs cells slots mc ms (F0 m pc ls st0) rest (va_Qi post (fun u t => rk_at D TY (va_A wc H.size) (wf u) t) (va_A wc H.size) a) (va_A wc H.size))
    (hP : va_P D classes ws H) (hD : va_D A0 ws) (hS : va_S A0 H0 H locs) (hA : ∀ q : Nat, H0.size ≤ q → A0 q) (isC isR : List Nat) (hC : isC.map (fun i => ws[i]?) = wc.map some) (hR : isR.map (fun i => ws[i]?) = wr.map some) (hn : va_nd isR = true) (hdis : ∀ i ∈ isR, i ∉ isC)
    (kk : ∀ (r : Int32) (u : S) (H1 : Heap) (locs1 : List Loc), post r u → va_P D classes (wr ++ wf u) H1 → va_D A0 (wr ++ wf u) → va_S A0 H0 H1 locs1 → W p l e R s m args below meth c H1 locs1 (cells + mc) (slots + ms) Q (F0 m (pc + 3) ls (.int r :: rest))) :
    W p l e R s m args below meth c H locs cells slots Q (F0 m pc ls st0) := by
  have hFc := va_free (wc := wc) hD hS hA isC hC
  refine va_calli hr hS (fun q _ h => hFc q h) hFc (fun r u t H1 locs1 ht hvm hp hB hz1 hk1 hS1 => ?_)
  obtain ⟨hP1, hK1, hD1⟩ := hB
  rw [ht] at hP1
  obtain ⟨hP2, hD2⟩ := va_join hP hD isC isR hC hR hn hdis hk1 hFc hP1 hD1
  exact kk r u H1 locs1 hp hP2 hD2 hS1
theorem rk_backv {S : Type} {post : S → Prop} {wf : S → va_W} {a : Array Value} (hr : va_Run p l e R s m args below meth c H locs cells slots mc ms (F0 m pc ls st0) rest (va_Qv post (fun u t => rk_at D TY (va_A wc H.size) (wf u) t) (va_A wc H.size) a) (va_A wc H.size))
    (hP : va_P D classes ws H) (hD : va_D A0 ws) (hS : va_S A0 H0 H locs) (hA : ∀ q : Nat, H0.size ≤ q → A0 q) (isC isR : List Nat) (hC : isC.map (fun i => ws[i]?) = wc.map some) (hR : isR.map (fun i => ws[i]?) = wr.map some) (hn : va_nd isR = true) (hdis : ∀ i ∈ isR, i ∉ isC)
    (kk : ∀ (u : S) (H1 : Heap) (locs1 : List Loc), post u → va_P D classes (wr ++ wf u) H1 → va_D A0 (wr ++ wf u) → va_S A0 H0 H1 locs1 → W p l e R s m args below meth c H1 locs1 (cells + mc) (slots + ms) Q (F0 m (pc + 3) ls rest)) :
    W p l e R s m args below meth c H locs cells slots Q (F0 m pc ls st0) := by
  have hFc := va_free (wc := wc) hD hS hA isC hC
  refine va_callv hr hS (fun q _ h => hFc q h) hFc (fun u t H1 locs1 ht hvm hp hB hz1 hk1 hS1 => ?_)
  obtain ⟨hP1, hK1, hD1⟩ := hB
  rw [ht] at hP1
  obtain ⟨hP2, hD2⟩ := va_join hP hD isC isR hC hR hn hdis hk1 hFc hP1 hD1
  exact kk u H1 locs1 hp hP2 hD2 hS1
end RKW
/-! the words of a call, all out of WT -/
def rk_mV (own : String) (index : Nat) (C : String) (y : MethodName) (bytes : ByteArray) (maxL : Nat) (ret : Option FieldType) : Prop := Cond.methodLink own index y ∈ WT ∧ Cond.instanceMethod y ∈ WT ∧ Cond.selects C y y ∈ WT ∧ Cond.initialized C ∈ WT ∧ Cond.code y bytes maxL ret ∈ WT
def rk_mS (own : String) (index : Nat) (y : MethodName) (bytes : ByteArray) (maxL : Nat) (ret : Option FieldType) : Prop := Cond.methodLink own index y ∈ WT ∧ Cond.static y ∈ WT ∧ Cond.initialized y.cls ∈ WT ∧ Cond.code y bytes maxL ret ∈ WT
def rk_mI (own : String) (index : Nat) (y : MethodName) (bytes : ByteArray) (maxL : Nat) : Prop := Cond.methodLink own index y ∈ WT ∧ Cond.instanceMethod y ∈ WT ∧ Cond.initialized y.cls ∈ WT ∧ Cond.code y bytes maxL none ∈ WT
section RKC
variable {R : Room} {s : State} {args : Array Value} {own C : String} {index maxL : Nat} {y : MethodName} {bytes : ByteArray} {ret : Option FieldType} {rm : Room}
theorem rk_in_code {w x : Cond} (hx : x ∈ WT) (h : w ∈ x :: WT) : w ∈ WT := (List.mem_cons.mp h).elim (fun e => by rw [e]; exact hx) (fun h => h)
theorem rk_cwV (n : Nat) (ht : ∀ w ∈ WT, w.before args s = true) (h : rk_mV own index C y bytes maxL ret) (hd : y.cls = C ∧ y.cls ≠ "java/lang/invoke/MethodHandle" ∧ y.cls ≠ "java/lang/invoke/VarHandle" ∧ (parseMethodDescriptor y.desc).map (fun d => d.parameters.length) = some n) (hR : rm.frames + 1 ≤ R.frames ∧ 8 + (maxL + 11) + rm.locals ≤ R.locals) :
    CallW R s args own C index y bytes maxL ret (.code y bytes maxL ret :: WT) rm rm.cells rm.slots n := by
  obtain ⟨h1, h2, h3, h4, h5⟩ := h
  refine cwV n ht (fun w hw => rk_good w ?_) rfl rfl rfl hd hR
  unfold wsV at hw
  rcases List.mem_append.mp hw with h | h
  · simp only [List.mem_cons, List.not_mem_nil, or_false] at h
    rcases h with rfl | rfl | rfl | rfl
    · exact h1
    · exact h2
    · exact h3
    · exact h4
  · exact rk_in_code h5 h
theorem rk_cwS (n : Nat) (ht : ∀ w ∈ WT, w.before args s = true) (h : rk_mS own index y bytes maxL ret) (hd : y.cls ≠ "java/lang/invoke/MethodHandle" ∧ y.cls ≠ "java/lang/invoke/VarHandle" ∧ (parseMethodDescriptor y.desc).map (fun d => d.parameters.length) = some n) (hR : rm.frames + 1 ≤ R.frames ∧ 8 + (maxL + 11) + rm.locals ≤ R.locals) :
    CallB R s args own index y bytes maxL ret (.code y bytes maxL ret :: WT) rm rm.cells rm.slots n ∧ (Cond.static y).before args s = true := by
  obtain ⟨h1, h2, h3, h4⟩ := h
  refine va_cwS n ht (fun w hw => rk_good w ?_) rfl rfl rfl hd hR
  unfold va_wsS at hw
  rcases List.mem_append.mp hw with h | h
  · simp only [List.mem_cons, List.not_mem_nil, or_false] at h
    rcases h with rfl | rfl | rfl
    · exact h1
    · exact h2
    · exact h3
  · exact rk_in_code h4 h
theorem rk_cwI (n : Nat) (ht : ∀ w ∈ WT, w.before args s = true) (h : rk_mI own index y bytes maxL) (hy1 : y.name = "<init>") (hd : y.cls ≠ "java/lang/invoke/MethodHandle" ∧ y.cls ≠ "java/lang/invoke/VarHandle" ∧ (parseMethodDescriptor y.desc).map (fun d => d.parameters.length) = some n) (hR : rm.frames + 1 ≤ R.frames ∧ 8 + (maxL + 11) + rm.locals ≤ R.locals) :
    CallB R s args own index y bytes maxL none (.code y bytes maxL none :: WT) rm rm.cells rm.slots n ∧ y.name = "<init>" ∧ (Cond.instanceMethod y).before args s = true := by
  obtain ⟨h1, h2, h3, h4⟩ := h
  exact cwI n ht (fun w hw => rk_good w (rk_in_code h4 hw)) rfl rfl rfl (ht _ h3) (ht _ h1) (ht _ h2) hy1 hd hR
end RKC
theorem gc_P_has_7 : rk_mS R_P 15 y_P_hasBit b_P_hasBit 2 (some .boolean) := ⟨ml_P_15, st_P_hasBit, in_P, co_P_hasBit⟩
theorem gc_P_size_17 : rk_mS R_P 19 y_JI_bitCount b_JI_bitCount 1 (some .int) := ⟨ml_P_19, st_JI_bitCount, in_JI, co_JI_bitCount⟩
theorem gc_P_pairAt_22 : rk_mS R_P 19 y_JI_bitCount b_JI_bitCount 1 (some .int) := ⟨ml_P_19, st_JI_bitCount, in_JI, co_JI_bitCount⟩
theorem gc_P_pairAt_41 : rk_mS R_P 25 y_P_bitAt b_P_bitAt 4 (some .int) := ⟨ml_P_25, st_P_bitAt, in_P, co_P_bitAt⟩
-- no link gc_P_pairAt_44
theorem gc_P_joinWays_19 : rk_mV R_P 32 R_P y_P_has b_P_has 3 (some .boolean) := ⟨ml_P_32, im_P_has, se_P_has, in_P, co_P_has⟩
theorem gc_P_shortestWay_19 : rk_mS R_P 15 y_P_hasBit b_P_hasBit 2 (some .boolean) := ⟨ml_P_15, st_P_hasBit, in_P, co_P_hasBit⟩
theorem gc_P_shortestWay_31 : rk_mV R_P 35 R_P y_P_oneStepFrom b_P_oneStepFrom 4 (some .int) := ⟨ml_P_35, im_P_oneStepFrom, se_P_oneStepFrom, in_P, co_P_oneStepFrom⟩
theorem gc_P_loops_13 : rk_mV R_P 32 R_P y_P_has b_P_has 3 (some .boolean) := ⟨ml_P_32, im_P_has, se_P_has, in_P, co_P_has⟩
theorem gc_P_circles_13 : rk_mV R_P 32 R_P y_P_has b_P_has 3 (some .boolean) := ⟨ml_P_32, im_P_has, se_P_has, in_P, co_P_has⟩
theorem gc_P_circles_21 : rk_mV R_P 38 R_P y_P_hasLowerMate b_P_hasLowerMate 3 (some .boolean) := ⟨ml_P_38, im_P_hasLowerMate, se_P_hasLowerMate, in_P, co_P_hasLowerMate⟩
theorem gc_P_hasLowerMate_10 : rk_mV R_P 32 R_P y_P_has b_P_has 3 (some .boolean) := ⟨ml_P_32, im_P_has, se_P_has, in_P, co_P_has⟩
theorem gc_P_hasLowerMate_19 : rk_mV R_P 32 R_P y_P_has b_P_has 3 (some .boolean) := ⟨ml_P_32, im_P_has, se_P_has, in_P, co_P_has⟩
theorem gc_P_oneStepFrom_12 : rk_mS R_P 15 y_P_hasBit b_P_hasBit 2 (some .boolean) := ⟨ml_P_15, st_P_hasBit, in_P, co_P_hasBit⟩
theorem gc_P_bitAt_12 : rk_mS R_P 15 y_P_hasBit b_P_hasBit 2 (some .boolean) := ⟨ml_P_15, st_P_hasBit, in_P, co_P_hasBit⟩
theorem gc_K_init_40 : rk_mI R_K 25 y_P_init b_P_init 1 := ⟨ml_K_25, im_P_init, in_P, co_P_init⟩
theorem gc_K_init_51 : rk_mI R_K 25 y_P_init b_P_init 1 := ⟨ml_K_25, im_P_init, in_P, co_P_init⟩
theorem gc_K_init_62 : rk_mI R_K 25 y_P_init b_P_init 1 := ⟨ml_K_25, im_P_init, in_P, co_P_init⟩
theorem gc_K_init_73 : rk_mI R_K 25 y_P_init b_P_init 1 := ⟨ml_K_25, im_P_init, in_P, co_P_init⟩
theorem gc_K_init_84 : rk_mI R_K 25 y_P_init b_P_init 1 := ⟨ml_K_25, im_P_init, in_P, co_P_init⟩
theorem gc_K_change_2 : rk_mS R_K 42 y_K_requireVertices b_K_requireVertices 2 none := ⟨ml_K_42, st_K_requireVertices, in_K, co_K_requireVertices⟩
theorem gc_K_change_26 : rk_mS R_K 53 y_K_numberOf b_K_numberOf 2 (some .int) := ⟨ml_K_53, st_K_numberOf, in_K, co_K_numberOf⟩
theorem gc_K_forget_6 : rk_mV R_K 57 R_K y_K_clearGathered b_K_clearGathered 2 none := ⟨ml_K_57, im_K_clearGathered, se_K_clearGathered, in_K, co_K_clearGathered⟩
theorem gc_K_apply_1 : rk_mV R_K 60 R_K y_K_gatheredConflicts b_K_gatheredConflicts 3 (some .boolean) := ⟨ml_K_60, im_K_gatheredConflicts, se_K_gatheredConflicts, in_K, co_K_gatheredConflicts⟩
theorem gc_K_apply_18 : rk_mV R_K 69 R_K y_K_addGatheredToCounts b_K_addGatheredToCounts 3 none := ⟨ml_K_69, im_K_addGatheredToCounts, se_K_addGatheredToCounts, in_K, co_K_addGatheredToCounts⟩
theorem gc_K_apply_22 : rk_mV R_K 57 R_K y_K_clearGathered b_K_clearGathered 2 none := ⟨ml_K_57, im_K_clearGathered, se_K_clearGathered, in_K, co_K_clearGathered⟩
theorem gc_K_apply_26 : rk_mV R_K 72 R_K y_K_followEdges b_K_followEdges 1 none := ⟨ml_K_72, im_K_followEdges, se_K_followEdges, in_K, co_K_followEdges⟩
theorem gc_K_apply_33 : rk_mV R_K 75 R_P y_P_size b_P_size 3 (some .int) := ⟨ml_K_75, im_P_size, se_P_size, in_P, co_P_size⟩
theorem gc_K_apply_40 : rk_mV R_K 75 R_P y_P_size b_P_size 3 (some .int) := ⟨ml_K_75, im_P_size, se_P_size, in_P, co_P_size⟩
theorem gc_K_holds_2 : rk_mS R_K 42 y_K_requireVertices b_K_requireVertices 2 none := ⟨ml_K_42, st_K_requireVertices, in_K, co_K_requireVertices⟩
theorem gc_K_holds_11 : rk_mV R_K 79 R_P y_P_has b_P_has 3 (some .boolean) := ⟨ml_K_79, im_P_has, se_P_has, in_P, co_P_has⟩
theorem gc_K_came_5 : rk_mV R_K 83 R_P y_P_pairAt b_P_pairAt 5 (some .int) := ⟨ml_K_83, im_P_pairAt, se_P_pairAt, in_P, co_P_pairAt⟩
theorem gc_K_came_8 : rk_mS R_K 87 y_K_requirePair b_K_requirePair 1 (some .int) := ⟨ml_K_87, st_K_requirePair, in_K, co_K_requirePair⟩
theorem gc_K_went_5 : rk_mV R_K 83 R_P y_P_pairAt b_P_pairAt 5 (some .int) := ⟨ml_K_83, im_P_pairAt, se_P_pairAt, in_P, co_P_pairAt⟩
theorem gc_K_went_8 : rk_mS R_K 87 y_K_requirePair b_K_requirePair 1 (some .int) := ⟨ml_K_87, st_K_requirePair, in_K, co_K_requirePair⟩
theorem gc_K_distance_2 : rk_mS R_K 42 y_K_requireVertices b_K_requireVertices 2 none := ⟨ml_K_42, st_K_requireVertices, in_K, co_K_requireVertices⟩
theorem gc_K_distance_11 : rk_mV R_K 90 R_P y_P_shortestWay b_P_shortestWay 5 (some .int) := ⟨ml_K_90, im_P_shortestWay, se_P_shortestWay, in_P, co_P_shortestWay⟩
theorem gc_K_times_2 : rk_mS R_K 42 y_K_requireVertices b_K_requireVertices 2 none := ⟨ml_K_42, st_K_requireVertices, in_K, co_K_requireVertices⟩
theorem gc_K_times_11 : rk_mS R_K 53 y_K_numberOf b_K_numberOf 2 (some .int) := ⟨ml_K_53, st_K_numberOf, in_K, co_K_numberOf⟩
theorem gc_K_count_52 : rk_mV R_K 75 R_P y_P_size b_P_size 3 (some .int) := ⟨ml_K_75, im_P_size, se_P_size, in_P, co_P_size⟩
theorem gc_K_count_57 : rk_mV R_K 98 R_K y_K_sumOfCounts b_K_sumOfCounts 3 (some .int) := ⟨ml_K_98, im_K_sumOfCounts, se_K_sumOfCounts, in_K, co_K_sumOfCounts⟩
theorem gc_K_count_65 : rk_mV R_K 75 R_P y_P_size b_P_size 3 (some .int) := ⟨ml_K_75, im_P_size, se_P_size, in_P, co_P_size⟩
theorem gc_K_count_78 : rk_mV R_K 75 R_P y_P_size b_P_size 3 (some .int) := ⟨ml_K_75, im_P_size, se_P_size, in_P, co_P_size⟩
theorem gc_K_count_86 : rk_mV R_K 75 R_P y_P_size b_P_size 3 (some .int) := ⟨ml_K_75, im_P_size, se_P_size, in_P, co_P_size⟩
theorem gc_K_count_94 : rk_mV R_K 101 R_P y_P_loops b_P_loops 3 (some .int) := ⟨ml_K_101, im_P_loops, se_P_loops, in_P, co_P_loops⟩
theorem gc_K_count_102 : rk_mV R_K 104 R_P y_P_circles b_P_circles 3 (some .int) := ⟨ml_K_104, im_P_circles, se_P_circles, in_P, co_P_circles⟩
theorem gc_K_requireVertices_1 : rk_mS R_K 107 y_K_isVertex b_K_isVertex 1 (some .boolean) := ⟨ml_K_107, st_K_isVertex, in_K, co_K_isVertex⟩
theorem gc_K_requireVertices_8 : rk_mS R_K 107 y_K_isVertex b_K_isVertex 1 (some .boolean) := ⟨ml_K_107, st_K_isVertex, in_K, co_K_isVertex⟩
theorem gc_K_addGatheredToCounts_65 : rk_mV R_K 118 R_P y_P_put b_P_put 4 none := ⟨ml_K_118, im_P_put, se_P_put, in_P, co_P_put⟩
theorem gc_K_followEdges_8 : rk_mV R_K 122 R_P y_P_copyFrom b_P_copyFrom 3 none := ⟨ml_K_122, im_P_copyFrom, se_P_copyFrom, in_P, co_P_copyFrom⟩
theorem gc_K_followEdges_19 : rk_mV R_K 122 R_P y_P_copyFrom b_P_copyFrom 3 none := ⟨ml_K_122, im_P_copyFrom, se_P_copyFrom, in_P, co_P_copyFrom⟩
theorem gc_K_followEdges_26 : rk_mV R_K 126 R_P y_P_joinWays b_P_joinWays 3 none := ⟨ml_K_126, im_P_joinWays, se_P_joinWays, in_P, co_P_joinWays⟩
theorem gc_K_followEdges_41 : rk_mV R_K 129 R_P y_P_becomeDifference b_P_becomeDifference 4 none := ⟨ml_K_129, im_P_becomeDifference, se_P_becomeDifference, in_P, co_P_becomeDifference⟩
theorem gc_K_followEdges_56 : rk_mV R_K 129 R_P y_P_becomeDifference b_P_becomeDifference 4 none := ⟨ml_K_129, im_P_becomeDifference, se_P_becomeDifference, in_P, co_P_becomeDifference⟩
theorem gc_M_change_2 : rk_mS R_M 36 y_M_isVertex b_M_isVertex 1 (some .boolean) := ⟨ml_M_36, st_M_isVertex, in_M, co_M_isVertex⟩
theorem gc_M_change_9 : rk_mS R_M 36 y_M_isVertex b_M_isVertex 1 (some .boolean) := ⟨ml_M_36, st_M_isVertex, in_M, co_M_isVertex⟩
theorem gc_M_apply_257 : rk_mV R_M 43 R_M y_M_many b_M_many 4 (some .int) := ⟨ml_M_43, im_M_many, se_M_many, in_M, co_M_many⟩
theorem gc_M_apply_262 : rk_mV R_M 43 R_M y_M_many b_M_many 4 (some .int) := ⟨ml_M_43, im_M_many, se_M_many, in_M, co_M_many⟩
theorem gc_M_holds_2 : rk_mS R_M 36 y_M_isVertex b_M_isVertex 1 (some .boolean) := ⟨ml_M_36, st_M_isVertex, in_M, co_M_isVertex⟩
theorem gc_M_holds_9 : rk_mS R_M 36 y_M_isVertex b_M_isVertex 1 (some .boolean) := ⟨ml_M_36, st_M_isVertex, in_M, co_M_isVertex⟩
theorem gc_M_came_3 : rk_mV R_M 47 R_M y_M_other b_M_other 5 (some .int) := ⟨ml_M_47, im_M_other, se_M_other, in_M, co_M_other⟩
theorem gc_M_went_3 : rk_mV R_M 47 R_M y_M_other b_M_other 5 (some .int) := ⟨ml_M_47, im_M_other, se_M_other, in_M, co_M_other⟩
theorem gc_M_distance_2 : rk_mS R_M 36 y_M_isVertex b_M_isVertex 1 (some .boolean) := ⟨ml_M_36, st_M_isVertex, in_M, co_M_isVertex⟩
theorem gc_M_distance_9 : rk_mS R_M 36 y_M_isVertex b_M_isVertex 1 (some .boolean) := ⟨ml_M_36, st_M_isVertex, in_M, co_M_isVertex⟩
theorem gc_M_times_2 : rk_mS R_M 36 y_M_isVertex b_M_isVertex 1 (some .boolean) := ⟨ml_M_36, st_M_isVertex, in_M, co_M_isVertex⟩
theorem gc_M_times_9 : rk_mS R_M 36 y_M_isVertex b_M_isVertex 1 (some .boolean) := ⟨ml_M_36, st_M_isVertex, in_M, co_M_isVertex⟩
theorem gc_M_count_234 : rk_mV R_M 43 R_M y_M_many b_M_many 4 (some .int) := ⟨ml_M_43, im_M_many, se_M_many, in_M, co_M_many⟩
theorem gc_M_count_240 : rk_mV R_M 43 R_M y_M_many b_M_many 4 (some .int) := ⟨ml_M_43, im_M_many, se_M_many, in_M, co_M_many⟩
theorem gc_L_change_7 : rk_mV R_L 7 R_K y_K_change b_K_change 5 (some .int) := ⟨ml_L_7, im_K_change, se_K_change, in_K, co_K_change⟩
theorem gc_L_apply_3 : rk_mV R_L 17 R_K y_K_apply b_K_apply 1 (some .int) := ⟨ml_L_17, im_K_apply, se_K_apply, in_K, co_K_apply⟩
theorem gc_L_holds_5 : rk_mV R_L 23 R_K y_K_holds b_K_holds 3 (some .boolean) := ⟨ml_L_23, im_K_holds, se_K_holds, in_K, co_K_holds⟩
theorem gc_L_came_4 : rk_mV R_L 27 R_K y_K_came b_K_came 2 (some .int) := ⟨ml_L_27, im_K_came, se_K_came, in_K, co_K_came⟩
theorem gc_L_went_4 : rk_mV R_L 33 R_K y_K_went b_K_went 2 (some .int) := ⟨ml_L_33, im_K_went, se_K_went, in_K, co_K_went⟩
theorem gc_L_distance_5 : rk_mV R_L 36 R_K y_K_distance b_K_distance 4 (some .int) := ⟨ml_L_36, im_K_distance, se_K_distance, in_K, co_K_distance⟩
theorem gc_L_times_5 : rk_mV R_L 40 R_K y_K_times b_K_times 3 (some .int) := ⟨ml_L_40, im_K_times, se_K_times, in_K, co_K_times⟩
theorem gc_L_law_4 : rk_mI R_L 43 y_K_init b_K_init 1 := ⟨ml_L_43, im_K_init, in_K, co_K_init⟩
theorem gc_L_law_12 : rk_mI R_L 46 y_M_init b_M_init 1 := ⟨ml_L_46, im_M_init, in_M, co_M_init⟩
theorem gc_L_law_148 : rk_mV R_L 52 R_M y_M_change b_M_change 4 (some .int) := ⟨ml_L_52, im_M_change, se_M_change, in_M, co_M_change⟩
theorem gc_L_law_154 : rk_mV R_L 53 R_M y_M_thrown b_M_thrown 1 (some .int) := ⟨ml_L_53, im_M_thrown, se_M_thrown, in_M, co_M_thrown⟩
theorem gc_L_law_185 : rk_mV R_L 56 R_K y_K_forget b_K_forget 2 (some .int) := ⟨ml_L_56, im_K_forget, se_K_forget, in_K, co_K_forget⟩
theorem gc_L_law_189 : rk_mV R_L 59 R_M y_M_forget b_M_forget 2 (some .int) := ⟨ml_L_59, im_M_forget, se_M_forget, in_M, co_M_forget⟩
theorem gc_L_law_205 : rk_mV R_L 63 R_M y_M_apply b_M_apply 4 (some .int) := ⟨ml_L_63, im_M_apply, se_M_apply, in_M, co_M_apply⟩
theorem gc_L_law_211 : rk_mV R_L 53 R_M y_M_thrown b_M_thrown 1 (some .int) := ⟨ml_L_53, im_M_thrown, se_M_thrown, in_M, co_M_thrown⟩
theorem gc_L_law_273 : rk_mV R_L 67 R_M y_M_holds b_M_holds 3 (some .boolean) := ⟨ml_L_67, im_M_holds, se_M_holds, in_M, co_M_holds⟩
theorem gc_L_law_279 : rk_mV R_L 53 R_M y_M_thrown b_M_thrown 1 (some .int) := ⟨ml_L_53, im_M_thrown, se_M_thrown, in_M, co_M_thrown⟩
theorem gc_L_law_336 : rk_mV R_L 71 R_M y_M_came b_M_came 2 (some .int) := ⟨ml_L_71, im_M_came, se_M_came, in_M, co_M_came⟩
theorem gc_L_law_342 : rk_mV R_L 53 R_M y_M_thrown b_M_thrown 1 (some .int) := ⟨ml_L_53, im_M_thrown, se_M_thrown, in_M, co_M_thrown⟩
theorem gc_L_law_392 : rk_mV R_L 74 R_M y_M_went b_M_went 2 (some .int) := ⟨ml_L_74, im_M_went, se_M_went, in_M, co_M_went⟩
theorem gc_L_law_398 : rk_mV R_L 53 R_M y_M_thrown b_M_thrown 1 (some .int) := ⟨ml_L_53, im_M_thrown, se_M_thrown, in_M, co_M_thrown⟩
theorem gc_L_law_460 : rk_mV R_L 77 R_M y_M_distance b_M_distance 6 (some .int) := ⟨ml_L_77, im_M_distance, se_M_distance, in_M, co_M_distance⟩
theorem gc_L_law_466 : rk_mV R_L 53 R_M y_M_thrown b_M_thrown 1 (some .int) := ⟨ml_L_53, im_M_thrown, se_M_thrown, in_M, co_M_thrown⟩
theorem gc_L_law_528 : rk_mV R_L 80 R_M y_M_times b_M_times 3 (some .int) := ⟨ml_L_80, im_M_times, se_M_times, in_M, co_M_times⟩
theorem gc_L_law_534 : rk_mV R_L 53 R_M y_M_thrown b_M_thrown 1 (some .int) := ⟨ml_L_53, im_M_thrown, se_M_thrown, in_M, co_M_thrown⟩
theorem gc_L_law_571 : rk_mV R_L 81 R_K y_K_count b_K_count 2 (some .int) := ⟨ml_L_81, im_K_count, se_K_count, in_K, co_K_count⟩
theorem gc_L_law_581 : rk_mV R_L 84 R_M y_M_count b_M_count 10 (some .int) := ⟨ml_L_84, im_M_count, se_M_count, in_M, co_M_count⟩
