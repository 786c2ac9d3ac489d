/-! methods that throw, and what they need of the start -/
def rk_IAE : String := "java/lang/IllegalArgumentException"
def rk_IOO : String := "java/lang/IndexOutOfBoundsException"
def rk_ISE : String := "java/lang/IllegalStateException"
def rk_NSE : String := "java/util/NoSuchElementException"
def rk_NM : List String := ["java/lang/RuntimeException", "java/lang/Exception"]
def rk_iS (X : String) : MethodName := ⟨X, "<init>", "(Ljava/lang/String;)V"⟩
def rk_BW (cls : String) : List Cond := [.castable cls cls, .declares (rk_iS "java/lang/RuntimeException"), .declares (rk_iS "java/lang/Exception"), .declares (rk_iS "java/lang/Throwable")]
def rk_Y (U : State) : Prop := (∃ a, vk_R R_K 113 "no such vertex" a U) ∧ (∃ a, vk_R R_K 48 "the round is full" a U) ∧ (∃ a, vk_R R_K 66 "a count would be below 0" a U) ∧ (∃ a, vk_R R_K 116 "no such pair" a U) ∧ (∃ a, vk_R R_K 95 "no way leads there" a U) ∧
  va_Nw (.castable rk_IAE rk_IAE) U ∧ va_Nw (.castable rk_IOO rk_IOO) U ∧ va_Nw (.castable rk_ISE rk_ISE) U ∧ va_Nw (.castable rk_NSE rk_NSE) U ∧ va_Nw (.methodLinkNest R_P 29 y_K_numberOf R_K) U ∧ va_Nc rk_IOO rk_IAE U ∧ va_Nc rk_NSE rk_IAE U ∧ va_Nw (.declares (rk_iS "java/lang/RuntimeException")) U ∧ va_Nw (.declares (rk_iS "java/lang/Exception")) U ∧ va_Nw (.declares (rk_iS "java/lang/Throwable")) U
theorem rk_Y.warm {s U : State} (hW : s.WarmedH U.vm) (h : rk_Y s) : rk_Y U := by
  obtain ⟨⟨a1, h1⟩, ⟨a2, h2⟩, ⟨a3, h3⟩, ⟨a4, h4⟩, ⟨a5, h5⟩, c1, c2, c3, c4, n1, d1, d2, e1, e2, e3⟩ := h
  exact ⟨⟨a1, vk_R.warm hW h1⟩, ⟨a2, vk_R.warm hW h2⟩, ⟨a3, vk_R.warm hW h3⟩, ⟨a4, vk_R.warm hW h4⟩, ⟨a5, vk_R.warm hW h5⟩, va_Nw.warmC hW c1, va_Nw.warmC hW c2, va_Nw.warmC hW c3, va_Nw.warmC hW c4, va_Nw.warmM hW n1, va_Nc.moved hW.alike d1, va_Nc.moved hW.alike d2, va_Nw.warmD hW e1, va_Nw.warmD hW e2, va_Nw.warmD hW e3⟩
def rk_Z (A : Nat → Prop) (U : State) (H : Heap) : Prop := vx_Zq Bundle.tN "UNASSIGNED_STACK" Bundle.steD A U H ∧ vx_Zq Bundle.tN "SUPPRESSED_SENTINEL" Bundle.listD A U H
theorem rk_Z.moved {A : Nat → Prop} {u U : State} {H : Heap} (hvm : u.vm.Alike U.vm) (h : rk_Z A u H) : rk_Z A U H := ⟨vx_Zq.moved hvm h.1, vx_Zq.moved hvm h.2⟩
theorem rk_Z.kept {A : Nat → Prop} {U : State} {H H1 : Heap} (h : rk_Z A U H) (hq : ∀ a : Nat, a < H.size → ¬ A a → H1[a]? = H[a]?) : rk_Z A U H1 := ⟨h.1.kept hq, h.2.kept hq⟩
theorem rk_Z.narrow {A B : Nat → Prop} {U : State} {H : Heap} (h : rk_Z A U H) (hAB : ∀ q, B q → A q) : rk_Z B U H := ⟨h.1.narrow hAB, h.2.narrow hAB⟩
def rk_preX (D : va_G) (TY : List (ClassId × FieldType)) (sz : Nat) (ws : va_W) (U : State) : Prop := rk_pre D TY sz ws U ∧ rk_Y U ∧ rk_Z (va_A ws sz) U U.heap
theorem rk_blindX {D : va_G} {TY : List (ClassId × FieldType)} {sz : Nat} {ws : va_W} {av : List Value} : FrameBlind (va_Pc av (rk_preX D TY sz ws)) := fun a U g mk q => by
  obtain ⟨q0, ⟨q1, qP, qK, qD⟩, qY, qZ⟩ := q
  exact ⟨q0, ⟨q1, qP, va_K.moved (u := U) (U := U.calling g mk a) (Vm.Alike.refl U.vm) qK, qD⟩, rk_Y.warm (s := U) (U := U.calling g mk a) (State.WarmedH.refl U) qY, rk_Z.moved (u := U) (U := U.calling g mk a) (Vm.Alike.refl U.vm) qZ⟩
theorem rk_giveX {D : va_G} {TY : List (ClassId × FieldType)} {ws wc : va_W} {av : List Value} {s : State} {H : Heap} {A0 : Nat → Prop} {locs : List Loc} (isC : List Nat) (hP : va_P D classes ws H) (hK : va_K D classes TY s) (hD : va_D A0 ws) (hY : rk_Y s) (hZ : rk_Z A0 s s.heap) (hS : va_S A0 s.heap H locs) (hA : ∀ q : Nat, s.heap.size ≤ q → A0 q) (hnC : va_nd isC = true) (hC : isC.map (fun i => ws[i]?) = wc.map some) :
    ∀ U : State, U.heap = H → s.WarmedH U.vm → va_Pc av (rk_preX D TY H.size wc) av.toArray U := fun U hU hW => by
  obtain ⟨q0, q1⟩ := rk_give (av := av) (rk_psub hP hC) hK (hD.sub isC hnC hC) U hU hW
  refine ⟨q0, q1, rk_Y.warm hW hY, ?_⟩
  rw [hU]
  exact rk_Z.moved hW.alike ((hZ.kept hS.2.1).narrow (va_free hD hS hA isC hC))
def rk_XC (D : va_G) (TY : List (ClassId × FieldType)) (A : Nat → Prop) (ws : va_W) (px : String → Prop) : String → State → State → Prop := vx_X (S := Unit) (fun _ => True) (fun E _ t => px E ∧ rk_at D TY A ws t) A
section RKBX
variable {l : Launch} {y : MethodName} {cc : ByteArray} {maxL : Nat} {ret : Option FieldType} {av : List Value} {D : va_G} {TY : List (ClassId × FieldType)} {sz : Nat} {ws : va_W} {rm : Room} {Qc : Array Value → State → Outcome → State → Prop} {XC : String → State → State → Prop} {mc ms : Nat} {hh : List (Nat × Nat × Nat × Nat)}
theorem rk_bodyY (hy : plainName y.cls = true) (hlen : (lg_sl av).length ≤ maxL)
    (body : ∀ (p : Program) (e : Env) (s : State) (m : MethodId) (below : List Frame) (meth : Method) (c : Code), p.tables.exec = Jvm.exec → c.code = cc → c.maxLocals = maxL → meth.sig.returnType = ret → (∀ w ∈ WT, w.before av.toArray s = true) → s.vm.findClass y.cls = some m.cls → meth.locks = false → meth.name = y.name → s.heap.size = sz →
      va_P D classes ws s.heap → va_K D classes TY s → va_D (va_A ws sz) ws → (∀ q : Nat, s.heap.size ≤ q → va_A ws sz q) → va_S (va_A ws sz) s.heap s.heap [] → rk_Y s → rk_Z (va_A ws sz) s s.heap → ∀ ls : Array Slot, lv_has ls maxL (lv_args 0 av) →
      W p l e rm s m av.toArray below meth c s.heap [] 0 0 (MQ below Qc av.toArray s mc ms (va_A ws sz)) (F0 m 0 ls [])) :
    Met l y (.code y cc maxL ret :: WT) rm (va_Pc av (rk_preX D TY sz ws)) Qc mc ms (va_A ws sz) := by
  refine Met.ofW (cc := cc) (maxL := maxL) (ret := ret) hy rfl ?_
  intro p e s m args below meth c s₁ B hml hv
  obtain ⟨rfl, ⟨hsz, hP, hK, hD0⟩, hY, hZ⟩ := hv
  have hts := atoms_spec (ws := .code y cc maxL ret :: WT) B.pre
  have hD := hD0.self (sz := sz)
  have hl := lv_entry av (n := maxL) hlen
  rw [lg_entry_eq]
  exact body p e s m below meth c B.exec B.bytes hml B.returns (fun w h => hts w (List.mem_cons_of_mem _ h)) (findClass_of_methodNamed B.named) B.notSynchronized (name_of_methodNamed B.named B.method).1 hsz hP hK hD (fun q h => Or.inr (by rw [← hsz]; exact h)) va_S.rf hY hZ _ hl
/-- a method that may throw -/
theorem rk_bodyX (hy : plainName y.cls = true) (hlen : (lg_sl av).length ≤ maxL)
    (body : ∀ (p : Program) (e : Env) (s : State) (m : MethodId) (below : List Frame) (meth : Method) (c : Code), p.tables.exec = Jvm.exec → c.code = cc → c.maxLocals = maxL → meth.sig.returnType = ret → (∀ w ∈ WT, w.before av.toArray s = true) → s.vm.findClass y.cls = some m.cls → meth.locks = false → meth.name = y.name → s.heap.size = sz →
      va_P D classes ws s.heap → va_K D classes TY s → va_D (va_A ws sz) ws → (∀ q : Nat, s.heap.size ≤ q → va_A ws sz q) → va_S (va_A ws sz) s.heap s.heap [] → rk_Y s → rk_Z (va_A ws sz) s s.heap → (∀ x ∈ c.exceptionTable.toList, False) → ∀ ls : Array Slot, lv_has ls maxL (lv_args 0 av) →
      W p l e rm s m av.toArray below meth c s.heap [] 0 0 (vx_MQ below Qc XC av.toArray s mc ms (va_A ws sz)) (F0 m 0 ls [])) :
    vx_Met l y (.code y cc maxL ret :: WT) rm (va_Pc av (rk_preX D TY sz ws)) Qc XC mc ms (va_A ws sz) := by
  refine vx_ofW (cc := cc) (maxL := maxL) (ret := ret) hy rfl ?_
  intro p e s m args below meth c s₁ B hml ht hv
  obtain ⟨rfl, ⟨hsz, hP, hK, hD0⟩, hY, hZ⟩ := hv
  have hts := atoms_spec (ws := .code y cc maxL ret :: WT) B.pre
  have hD := hD0.self (sz := sz)
  have hl := lv_entry av (n := maxL) hlen
  rw [lg_entry_eq]
  exact body p e s m below meth c B.exec B.bytes hml B.returns (fun w h => hts w (List.mem_cons_of_mem _ h)) (findClass_of_methodNamed B.named) B.notSynchronized (name_of_methodNamed B.named B.method).1 hsz hP hK hD (fun q h => Or.inr (by rw [← hsz]; exact h)) va_S.rf hY hZ ht _ hl
/-- a method with an exception table, all caught -/
theorem rk_bodyH (hy : plainName y.cls = true) (hlen : (lg_sl av).length ≤ maxL)
    (body : ∀ (p : Program) (e : Env) (s : State) (m : MethodId) (below : List Frame) (meth : Method) (c : Code), p.tables.exec = Jvm.exec → c.code = cc → c.maxLocals = maxL → meth.sig.returnType = ret → (∀ w ∈ WT, w.before av.toArray s = true) → s.vm.findClass y.cls = some m.cls → meth.locks = false → meth.name = y.name → s.heap.size = sz →
      va_P D classes ws s.heap → va_K D classes TY s → va_D (va_A ws sz) ws → (∀ q : Nat, s.heap.size ≤ q → va_A ws sz q) → va_S (va_A ws sz) s.heap s.heap [] → rk_Y s → rk_Z (va_A ws sz) s s.heap → c.exceptionTable.toList = tableOf hh → ∀ ls : Array Slot, lv_has ls maxL (lv_args 0 av) →
      W p l e rm s m av.toArray below meth c s.heap [] 0 0 (MQ below Qc av.toArray s mc ms (va_A ws sz)) (F0 m 0 ls [])) :
    Met l y (.codeWith y cc maxL ret hh :: WT) rm (va_Pc av (rk_preX D TY sz ws)) Qc mc ms (va_A ws sz) := by
  refine va_MetW (cc := cc) (maxL := maxL) (ret := ret) (hh := hh) hy rfl ?_
  intro p e s m args below meth c s₁ B hml hv
  obtain ⟨rfl, ⟨hsz, hP, hK, hD0⟩, hY, hZ⟩ := hv
  have hts := atoms_spec (ws := .codeWith y cc maxL ret hh :: WT) B.pre
  have hD := hD0.self (sz := sz)
  have hl := lv_entry av (n := maxL) hlen
  rw [lg_entry_eq]
  exact body p e s m below meth c B.exec B.bytes hml B.returns (fun w h => hts w (List.mem_cons_of_mem _ h)) (findClass_of_methodNamed B.named) B.notSynchronized (name_of_methodNamed B.named B.method).1 hsz hP hK hD (fun q h => Or.inr (by rw [← hsz]; exact h)) va_S.rf hY hZ (vx_table (x := y) B (hts _ List.mem_cons_self)) _ hl
end RKBX
theorem rk_bw {cls : String} {s : State} {args : Array Value} (hc : va_Nw (.castable cls cls) s) (hY : rk_Y s) : ∀ w ∈ rk_BW cls, w.before args s = true := by
  obtain ⟨-, -, -, -, -, -, -, -, -, -, -, -, e1, e2, e3⟩ := hY
  exact vx_c (va_Nw.use rfl hc) (vx_c (va_Nw.use rfl e1) (vx_c (va_Nw.use rfl e2) (vx_c (va_Nw.use rfl e3) vx_n)))
section RKX
variable {p : Program} {l : Launch} {e : Env} {R : Room} {s : State} {m : MethodId} {args : Array Value} {below : List Frame} {meth : Method} {c : Code} {H : Heap} {locs : List Loc} {cells slots : Nat} {Q : State → Prop}
variable {pc : Nat} {ls : Array Slot} {rest : List Value} {cc : ByteArray} {D : va_G} {TY : List (ClassId × FieldType)} {A : Nat → Prop} {mc ms : Nat} {wc wr ws wx : va_W} {st0 : List Value} {A0 : Nat → Prop} {H0 : Heap} {px : String → Prop} {Qc : Array Value → State → Outcome → State → Prop}
theorem rk_xc {cls : String} (hp : px cls) (hP : va_P D classes ws H) (hK : va_K D classes TY s) (hD : va_D A ws) (hS : va_S A s.heap H locs) : ∀ t : State, s.vm.Alike t.vm → H.size ≤ t.heap.size → (∀ q : Nat, q < H.size → t.heap[q]? = H[q]?) → rk_XC D TY A ws px cls s t := fun t ha hz hk =>
  ⟨(), trivial, ⟨hp, hP.kept (fun k q hq => hk q.1 (hP k q hq).lt), va_K.moved ha hK, hD⟩, Nat.le_trans hS.1 hz, fun q h1 h2 => (hk q (Nat.lt_of_lt_of_le h1 hS.1)).trans (hS.2.1 q h1 h2)⟩
theorem rk_xout {E : String} {ce : Cell} {q : Addr} (hout : ∀ x ∈ c.exceptionTable.toList, False) (hlocks : meth.locks = false) (hcell : H[q]? = some ce) (hv : ce.vm = .none) (hcl : s.vm.findClass E = some ce.cls) (hp : px E) (hP : va_P D classes ws H) (hK : va_K D classes TY s) (hD : va_D A ws) (hS : va_S A s.heap H locs) (hc : cells ≤ mc) (hs : slots ≤ ms) :
    vx_W p l e R s m args below meth c H locs cells slots (vx_MQ below Qc (rk_XC D TY A ws px) args s mc ms A) (F0 m pc ls rest) q :=
  vx_out (fun x hx => (hout x hx).elim) hlocks hcell hv hcl (fun t ht ha => rk_xc hp hP hK hD hS t ha (by rw [ht]; exact Nat.le_refl _) (fun q _ => by rw [ht])) hS.2.2 hc hs
theorem rk_xbacki {S : Type} {post : Int32 → S → Prop} {wf : S → va_W} {a : Array Value} (hr : vx_Run p l e R s m args below meth c H locs cells slots mc ms (F0 m pc ls st0) rest (va_Qi post (fun u t => rk_at D TY (va_A wc H.size) (wf u) t) (va_A wc H.size) a) (rk_XC D TY (va_A wc H.size) wx px) (va_A wc H.size))
    (hP : va_P D classes ws H) (hD : va_D A0 ws) (hS : va_S A0 H0 H locs) (hA : ∀ q : Nat, H0.size ≤ q → A0 q) (isC isR : List Nat) (hC : isC.map (fun i => ws[i]?) = wc.map some) (hR : isR.map (fun i => ws[i]?) = wr.map some) (hn : va_nd isR = true) (hdis : ∀ i ∈ isR, i ∉ isC)
    (kx : ∀ (E : String) (ce : Cell) (q9 : Addr) (H1 : Heap) (locs1 : List Loc), px E → va_P D classes (wr ++ wx) H1 → va_D A0 (wr ++ wx) → va_S A0 H0 H1 locs1 → H1[q9]? = some ce → ce.vm = .none → s.vm.findClass E = some ce.cls → vx_W p l e R s m args below meth c H1 locs1 (cells + mc) (slots + ms) Q (F0 m pc ls rest) q9)
    (kk : ∀ (r : Int32) (u : S) (H1 : Heap) (locs1 : List Loc), post r u → va_P D classes (wr ++ wf u) H1 → va_D A0 (wr ++ wf u) → va_S A0 H0 H1 locs1 → W p l e R s m args below meth c H1 locs1 (cells + mc) (slots + ms) Q (F0 m (pc + 3) ls (.int r :: rest))) :
    W p l e R s m args below meth c H locs cells slots Q (F0 m pc ls st0) := by
  have hFc := va_free (wc := wc) hD hS hA isC hC
  refine vx_calli hr hS (fun q _ h => hFc q h) hFc (fun q _ h => hFc q h) (fun E ce q9 u t H1 locs1 ht hvm _ hB hz1 hk1 hS1 hce hcv hcl => ?_) (fun r u t H1 locs1 ht hvm hp hB hz1 hk1 hS1 => ?_)
  · obtain ⟨hp, hP1, hK1, hD1⟩ := hB
    rw [ht] at hP1
    obtain ⟨hP2, hD2⟩ := va_join hP hD isC isR hC hR hn hdis hk1 hFc hP1 hD1
    exact kx E ce q9 H1 locs1 hp hP2 hD2 hS1 hce hcv hcl
  · obtain ⟨hP1, hK1, hD1⟩ := hB
    rw [ht] at hP1
    obtain ⟨hP2, hD2⟩ := va_join hP hD isC isR hC hR hn hdis hk1 hFc hP1 hD1
    exact kk r u H1 locs1 hp hP2 hD2 hS1
theorem rk_xbackv {S : Type} {post : S → Prop} {wf : S → va_W} {a : Array Value} (hr : vx_Run p l e R s m args below meth c H locs cells slots mc ms (F0 m pc ls st0) rest (va_Qv post (fun u t => rk_at D TY (va_A wc H.size) (wf u) t) (va_A wc H.size) a) (rk_XC D TY (va_A wc H.size) wx px) (va_A wc H.size))
    (hP : va_P D classes ws H) (hD : va_D A0 ws) (hS : va_S A0 H0 H locs) (hA : ∀ q : Nat, H0.size ≤ q → A0 q) (isC isR : List Nat) (hC : isC.map (fun i => ws[i]?) = wc.map some) (hR : isR.map (fun i => ws[i]?) = wr.map some) (hn : va_nd isR = true) (hdis : ∀ i ∈ isR, i ∉ isC)
    (kx : ∀ (E : String) (ce : Cell) (q9 : Addr) (H1 : Heap) (locs1 : List Loc), px E → va_P D classes (wr ++ wx) H1 → va_D A0 (wr ++ wx) → va_S A0 H0 H1 locs1 → H1[q9]? = some ce → ce.vm = .none → s.vm.findClass E = some ce.cls → vx_W p l e R s m args below meth c H1 locs1 (cells + mc) (slots + ms) Q (F0 m pc ls rest) q9)
    (kk : ∀ (u : S) (H1 : Heap) (locs1 : List Loc), post u → va_P D classes (wr ++ wf u) H1 → va_D A0 (wr ++ wf u) → va_S A0 H0 H1 locs1 → W p l e R s m args below meth c H1 locs1 (cells + mc) (slots + ms) Q (F0 m (pc + 3) ls rest)) :
    W p l e R s m args below meth c H locs cells slots Q (F0 m pc ls st0) := by
  have hFc := va_free (wc := wc) hD hS hA isC hC
  refine vx_callv hr hS (fun q _ h => hFc q h) hFc (fun q _ h => hFc q h) (fun E ce q9 u t H1 locs1 ht hvm _ hB hz1 hk1 hS1 hce hcv hcl => ?_) (fun u t H1 locs1 ht hvm hp hB hz1 hk1 hS1 => ?_)
  · obtain ⟨hp, hP1, hK1, hD1⟩ := hB
    rw [ht] at hP1
    obtain ⟨hP2, hD2⟩ := va_join hP hD isC isR hC hR hn hdis hk1 hFc hP1 hD1
    exact kx E ce q9 H1 locs1 hp hP2 hD2 hS1 hce hcv hcl
  · obtain ⟨hP1, hK1, hD1⟩ := hB
    rw [ht] at hP1
    obtain ⟨hP2, hD2⟩ := va_join hP hD isC isR hC hR hn hdis hk1 hFc hP1 hD1
    exact kk u H1 locs1 hp hP2 hD2 hS1
/-- throw new cls(text), with the words of the throw out of WT -/
def rk_Xw (ic : Nat) (cls : String) : Prop := (∀ w ∈ (vx_atS R_K ic cls rk_NM).filter goodWord, w ∈ WT) ∧ (∀ w ∈ (vx_atS R_K ic cls rk_NM).filter (fun w => !goodWord w), w ∈ rk_BW cls)
theorem rk_throw {ik is ic sa : Nat} {cls text : String} (hx : p.tables.exec = Jvm.exec) (hb : c.code = cc) (hl9 : l.stackTraces = false) (hml : c.maxLocals = ls.size) (htw : ∀ w ∈ WT, w.before args s = true) (hown : s.vm.findClass R_K = some m.cls) (hfit : Bundle.fit cls = true) (hk : Cond.classLink R_K ik cls ∈ WT) (hini : Cond.initialized cls ∈ WT) (hstr : vk_R R_K is text sa s) (hw : rk_Xw ic cls) (hcast : va_Nw (.castable cls cls) s) (hY : rk_Y s)
    (hgood : ∀ w ∈ Cond.classLink R_K ik cls :: Cond.initialized cls :: vx_atS R_K ic cls rk_NM, vx_ot w = true) (hZ : rk_Z A s s.heap)
    (d0 : decode cc pc = .ok (.new ik, 3)) (d3 : decode cc (pc + 3) = .ok (.dup, 1)) (d4 : decode cc (pc + 4) = .ok (.ldc is, 2)) (d6 : decode cc (pc + 6) = .ok (.invokespecial ic, 3)) (d9 : decode cc (pc + 9) = .ok (.athrow, 1))
    (hout : ∀ x ∈ c.exceptionTable.toList, False) (hRf : 5 < R.frames) (hRl : (rest.map fun v => v.category).sum + 82 ≤ R.locals) (hRc : cells + 1 ≤ R.cells) (hRs : slots + 6 ≤ R.slots) (hlocks : meth.locks = false)
    (hp : px cls) (hP : va_P D classes ws H) (hK : va_K D classes TY s) (hD : va_D A ws) (hS : va_S A s.heap H locs) (hc : cells + 1 ≤ mc) (hs : slots + 6 ≤ ms) :
    W p l e R s m args below meth c H locs cells slots (vx_MQ below Qc (rk_XC D TY A ws px) args s mc ms A) (F0 m pc ls rest) :=
  vx_throwS (names := rk_NM) hx hb hl9 hown hfit (by decide) (htw _ hk) (htw _ hini) hstr (vx_hat (fun w h => htw w (hw.1 w h)) hw.2 (rk_bw hcast hY)) hgood hZ.1 hZ.2 hS hml.symm d0 d3 d4 d6 d9 (fun x h => (hout x h).elim) hRf hRl hRc hRs hlocks (rk_xc hp hP hK hD hS) hS.2.2 hc hs
end RKX
theorem rk_xw {ic : Nat} {cls : String} (h1 : ∀ w ∈ (vx_atS R_K ic cls rk_NM).filter goodWord, w ∈ lw_tbl) (h2 : ∀ w ∈ (vx_atS R_K ic cls rk_NM).filter (fun w => !goodWord w), w ∈ rk_BW cls) : rk_Xw ic cls := ⟨fun w h => List.mem_filter.mpr ⟨h1 w h, (List.mem_filter.mp h).2⟩, h2⟩
theorem xw_115 : rk_Xw 115 rk_IAE := rk_xw (by decide +kernel) (by decide +kernel)
theorem xw_50 : rk_Xw 50 rk_IOO := rk_xw (by decide +kernel) (by decide +kernel)
theorem xw_68 : rk_Xw 68 rk_ISE := rk_xw (by decide +kernel) (by decide +kernel)
theorem xg_115 : ∀ w ∈ Cond.classLink R_K 111 rk_IAE :: Cond.initialized rk_IAE :: vx_atS R_K 115 rk_IAE rk_NM, vx_ot w = true := by decide +kernel
theorem xg_50 : ∀ w ∈ Cond.classLink R_K 46 rk_IOO :: Cond.initialized rk_IOO :: vx_atS R_K 50 rk_IOO rk_NM, vx_ot w = true := by decide +kernel
theorem xg_68 : ∀ w ∈ Cond.classLink R_K 64 rk_ISE :: Cond.initialized rk_ISE :: vx_atS R_K 68 rk_ISE rk_NM, vx_ot w = true := by decide +kernel
