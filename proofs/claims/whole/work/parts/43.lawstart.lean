def rk_mSW (own : String) (index : Nat) (y : MethodName) (bytes : ByteArray) (maxL : Nat) (ret : Option FieldType) (hh : List (Nat × Nat × Nat × Nat)) : Prop := Cond.methodLink own index y ∈ WT ∧ Cond.static y ∈ WT ∧ Cond.initialized y.cls ∈ WT ∧ Cond.codeWith y bytes maxL ret hh ∈ WT
section RKC3
variable {R : Room} {s : State} {args : Array Value} {own : String} {index maxL : Nat} {y : MethodName} {bytes : ByteArray} {ret : Option FieldType} {rm : Room} {hh : List (Nat × Nat × Nat × Nat)}
theorem rk_cwSW (n : Nat) (ht : ∀ w ∈ WT, w.before args s = true) (h : rk_mSW own index y bytes maxL ret hh) (hd : y.cls ≠ "java/lang/invoke/MethodHandle" ∧ y.cls ≠ "java/lang/invoke/VarHandle" ∧ (parseMethodDescriptor y.desc).map (fun d => d.parameters.length) = some n) (hR : rm.frames + 1 ≤ R.frames ∧ 8 + (maxL + 11) + rm.locals ≤ R.locals) :
    vx_CSW R s args own index y bytes maxL ret hh (.codeWith y bytes maxL ret hh :: WT) rm rm.cells rm.slots n := by
  obtain ⟨h1, h2, h3, h4⟩ := h
  refine vx_cwSW n ht (fun w hw => rk_good w ?_) rfl rfl rfl hd hR
  unfold va_wsS at hw
  rcases List.mem_append.mp hw with h | h
  · simp only [List.mem_cons, List.not_mem_nil, or_false] at h
    rcases h with rfl | rfl | rfl
    · exact h1
    · exact h2
    · exact h3
  · exact rk_in_code h4 h
end RKC3
/-! what the Statement gives of the start -/
theorem rk_K0 {s : State} {args : Array Value} (htw : ∀ w ∈ WT, w.before args s = true) : ∃ (dC : Nat → ClassId) (dI : Nat → Nat → Nat) (cI cZ cJ : ClassId), va_K (dC, dI) classes [(cI, .int), (cZ, .boolean), (cJ, .long)] s := by
  obtain ⟨cP, iP, kP⟩ := u_known htw u_P (htw _ it_P)
  obtain ⟨cK, iK, kK⟩ := u_known htw u_K (htw _ it_K)
  obtain ⟨cM, iM, kM⟩ := u_known htw u_M (htw _ it_M)
  obtain ⟨cI, k1, p1, a1, b1, e1⟩ := Cond.arrayClass_spec (htw _ ac_int)
  obtain ⟨cZ, k2, p2, a2, b2, e2⟩ := Cond.arrayClass_spec (htw _ ac_boolean)
  obtain ⟨cJ, k3, p3, a3, b3, e3⟩ := Cond.arrayClass_spec (htw _ ac_long)
  refine ⟨fun c => match c with | 0 => cP | 1 => cK | _ => cM, fun c => match c with | 0 => iP | 1 => iK | _ => iM, cI, cZ, cJ, fun c q hq => ?_, fun k q hq => ?_⟩
  · rcases c with _ | _ | _ | c
    · cases hq
      exact kP
    · cases hq
      exact kK
    · cases hq
      exact kM
    · cases hq
  · rcases k with _ | _ | _ | k
    · cases hq
      exact ⟨fun n z => ⟨fun k h => (by cases h), k1, b1, p1, e1⟩, a1⟩
    · cases hq
      exact ⟨fun n z => ⟨fun k h => (by cases h), k2, b2, p2, e2⟩, a2⟩
    · cases hq
      exact ⟨fun n z => ⟨fun k h => (by cases h), k3, b3, p3, e3⟩, a3⟩
    · cases hq
set_option maxRecDepth 20000 in
theorem rk_Y0 {s : State} {b : Nat} (hts : ∀ w ∈ lw_tbl, w.before #[Value.ref b] s = true) (hg : (Jvm.Cond.and given_1 narrow_1).before #[Value.ref b] s = true) : rk_Y s ∧ rk_Z (fun q => s.heap.size ≤ q) s s.heap := by
  have hs := flat_of_before _ hg
  obtain ⟨a1, -, -, -, s1, -⟩ := Cond.exactly_spec (hs (.exactly (.string "ReachKeeper" 113) "java/lang/String") (by decide +kernel))
  obtain ⟨a2, -, -, -, s2, -⟩ := Cond.exactly_spec (hs (.exactly (.string "ReachKeeper" 48) "java/lang/String") (by decide +kernel))
  obtain ⟨a3, -, -, -, s3, -⟩ := Cond.exactly_spec (hs (.exactly (.string "ReachKeeper" 66) "java/lang/String") (by decide +kernel))
  obtain ⟨a4, -, -, -, s4, -⟩ := Cond.exactly_spec (hs (.exactly (.string "ReachKeeper" 116) "java/lang/String") (by decide +kernel))
  obtain ⟨a5, -, -, -, s5, -⟩ := Cond.exactly_spec (hs (.exactly (.string "ReachKeeper" 95) "java/lang/String") (by decide +kernel))
  refine ⟨⟨⟨a1, vk_R.of (hts (.stringRef "ReachKeeper" 113 "no such vertex") (by decide +kernel)) s1⟩, ⟨a2, vk_R.of (hts (.stringRef "ReachKeeper" 48 "the round is full") (by decide +kernel)) s2⟩, ⟨a3, vk_R.of (hts (.stringRef "ReachKeeper" 66 "a count would be below 0") (by decide +kernel)) s3⟩, ⟨a4, vk_R.of (hts (.stringRef "ReachKeeper" 116 "no such pair") (by decide +kernel)) s4⟩, ⟨a5, vk_R.of (hts (.stringRef "ReachKeeper" 95 "no way leads there") (by decide +kernel)) s5⟩,
    va_Nw.of rfl (hts (.castable rk_IAE rk_IAE) (by decide +kernel)), va_Nw.of rfl (hts (.castable rk_IOO rk_IOO) (by decide +kernel)), va_Nw.of rfl (hts (.castable rk_ISE rk_ISE) (by decide +kernel)), va_Nw.of rfl (hts (.castable rk_NSE rk_NSE) (by decide +kernel)), va_Nw.of rfl (hts (.methodLinkNest R_P 29 y_K_numberOf R_K) (by decide +kernel)),
    va_Nc.of (hs (.not (.castable rk_IOO rk_IAE)) (by decide +kernel)), va_Nc.of (hs (.not (.castable rk_NSE rk_IAE)) (by decide +kernel)), va_Nw.of rfl (hts (.declares (rk_iS "java/lang/RuntimeException")) (by decide +kernel)), va_Nw.of rfl (hts (.declares (rk_iS "java/lang/Exception")) (by decide +kernel)), va_Nw.of rfl (hts (.declares (rk_iS "java/lang/Throwable")) (by decide +kernel))⟩, ?_⟩
  exact ⟨vx_Zqof (hts (.laysStatic Bundle.tN "UNASSIGNED_STACK" Bundle.steD) (by decide +kernel)) (hts (.initialized Bundle.tN) (by decide +kernel)) (hs (.isRef (.static Bundle.tN "UNASSIGNED_STACK" Bundle.steD)) (by decide +kernel)) (fun a h => Nat.not_le.mpr h),
    vx_Zqof (hts (.laysStatic Bundle.tN "SUPPRESSED_SENTINEL" Bundle.listD) (by decide +kernel)) (hts (.initialized Bundle.tN) (by decide +kernel)) (hs (.isRef (.static Bundle.tN "SUPPRESSED_SENTINEL" Bundle.listD)) (by decide +kernel)) (fun a h => Nat.not_le.mpr h)⟩
theorem gc_L_law_116 : rk_mSW R_L 47 y_L_change b_L_change 6 (some .int) [(0, 12, 15, 13), (0, 12, 19, 15)] := ⟨ml_L_47, st_L_change, in_L, co_L_change⟩
theorem gc_L_law_199 : rk_mSW R_L 60 y_L_apply b_L_apply 3 (some .int) [(0, 8, 11, 21)] := ⟨ml_L_60, st_L_apply, in_L, co_L_apply⟩
theorem gc_L_law_255 : rk_mSW R_L 64 y_L_holds b_L_holds 5 (some .int) [(0, 17, 20, 13)] := ⟨ml_L_64, st_L_holds, in_L, co_L_holds⟩
theorem gc_L_law_324 : rk_mSW R_L 68 y_L_came b_L_came 4 (some .int) [(0, 9, 12, 31)] := ⟨ml_L_68, st_L_came, in_L, co_L_came⟩
theorem gc_L_law_380 : rk_mSW R_L 72 y_L_went b_L_went 4 (some .int) [(0, 9, 12, 31)] := ⟨ml_L_72, st_L_went, in_L, co_L_went⟩
theorem gc_L_law_442 : rk_mSW R_L 75 y_L_distance b_L_distance 5 (some .int) [(0, 10, 13, 13), (0, 10, 17, 31)] := ⟨ml_L_75, st_L_distance, in_L, co_L_distance⟩
theorem gc_L_law_510 : rk_mSW R_L 78 y_L_times b_L_times 5 (some .int) [(0, 10, 13, 13)] := ⟨ml_L_78, st_L_times, in_L, co_L_times⟩
