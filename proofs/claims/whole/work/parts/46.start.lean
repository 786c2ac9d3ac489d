set_option maxHeartbeats 16000000 in
set_option maxRecDepth 100000 in
theorem whole_start {p : Program} {e : Env} {s : State} {m : MethodId} {below : List Frame} {meth : Method} {c : Code} (l : Launch) (hl9 : l.stackTraces = false) {b L : Nat} {xs : Nat → Int32} (hL : L ≤ 2048) (C0 : lw_At p s m meth c b L xs) : W p l e room_1 s m #[Value.ref b] below meth c s.heap [] 0 0 (lw_Z below #[Value.ref b] s) (entryFrame m ([Value.ref b] : List Value).toArray 7) := by
  obtain ⟨hx, hb, hr, hml, hown0, hts, hX, hbl, hlocks, hgv⟩ := C0
  have hown : s.vm.findClass R_L = some m.cls := hown0
  have htw : ∀ w ∈ WT, w.before #[Value.ref b] s = true := fun w h => hts w (List.mem_filter.mp h).1
  obtain ⟨dC, dI, cI, cZ, cJ, hK⟩ := rk_K0 htw
  obtain ⟨hY, hZ⟩ := rk_Y0 hts hgv
  have hA : ∀ q : Nat, s.heap.size ≤ q → (fun q => s.heap.size ≤ q) q := fun q h => h
  have hS : va_S (fun q => s.heap.size ≤ q) s.heap s.heap [] := va_S.rf
  have hP : va_P (dC, dI) classes [] s.heap := fun k q h => by cases h
  have hD : va_D (fun q => s.heap.size ≤ q) [] := ⟨fun i j p q h => (by cases h), fun k q h => (by cases h)⟩
  have hl := lv_entry [Value.ref b] (n := 7) (Nat.le_of_ble_eq_true rfl)
  rw [lg_entry_eq]
  revert hl
  intro hl
  have hl : lv_has _ 7 [(0, .ref b)] := hl
  refine va_new (ci := 1) (fs := [.null, .null, .null, .int 0, .null, .null, .null, .null, .null]) (C := R_K) (T := F_K) (N := 9) hx hb htw u_K t_K t_K_ok hown (htw _ cl_L_8) (htw _ it_K) (htw _ in_K) hK hP hD hS hA rfl (fun j hj => by rcases (show j = 0 ∨ j = 1 ∨ j = 2 ∨ j = 3 ∨ j = 4 ∨ j = 5 ∨ j = 6 ∨ j = 7 ∨ j = 8 by omega) with rfl | rfl | rfl | rfl | rfl | rfl | rfl | rfl | rfl <;> rfl) (Nat.le_of_ble_eq_true rfl) (Nat.le_of_ble_eq_true rfl) d_L_law_0 (fun hk H hP hD hS => ?_)
  have hP : va_P (dC, dI) classes [(hk, .inr (1, [.null, .null, .null, .int 0, .null, .null, .null, .null, .null]))] H := hP
  have hD : va_D _ [(hk, .inr (1, [.null, .null, .null, .int 0, .null, .null, .null, .null, .null]))] := hD
  refine lv_dup hx hb d_L_law_3 rfl ?_
  refine rk_backv (wc := [(hk, .inr (1, [.null, .null, .null, .int 0, .null, .null, .null, .null, .null]))]) (wr := []) (va_runI (As := []) (rest := [.ref hk]) ⟨hx, hb, hml, hown, htw⟩ (c_K_init l dC dI cI cZ cJ _ hk) (rk_cwI 0 htw gc_L_law_4 rfl (by decide +kernel) ⟨(Nat.le_of_ble_eq_true rfl), (Nat.le_of_ble_eq_true rfl)⟩) (⟨rk_blind, rk_give (rk_psub (isC := [0]) hP rfl) hK (hD.sub [0] rfl rfl)⟩) rfl rfl hl.1 rfl (lv_room (Nat.le_of_ble_eq_true rfl)) d_L_law_4 ⟨(Nat.le_of_ble_eq_true rfl), (Nat.le_of_ble_eq_true rfl)⟩) hP hD hS hA [0] [] rfl rfl rfl (by decide) (fun uk H locs hpk hP hD hS => ?_)
  obtain ⟨qt, qe, qs, o1, o2, o3, o4, o5, q1, q2, q3, q4, q5⟩ := uk
  have hP : va_P (dC, dI) classes [(hk, .inr (1, [.ref qt, .ref qe, .ref qs, .int (nI 0), .ref o1, .ref o2, .ref o3, .ref o4, .ref o5])), (qt, .inl (cI, 1024, .inl (fun _ => 0))), (qe, .inl (cI, 60, .inl (fun _ => 0))), (qs, .inl (cI, 1024, .inl (fun _ => 0))), (o1, .inr (0, [.ref q1])), (q1, .inl (cI, 32, .inl (fun _ => 0))), (o2, .inr (0, [.ref q2])), (q2, .inl (cI, 32, .inl (fun _ => 0))), (o3, .inr (0, [.ref q3])), (q3, .inl (cI, 32, .inl (fun _ => 0))), (o4, .inr (0, [.ref q4])), (q4, .inl (cI, 32, .inl (fun _ => 0))), (o5, .inr (0, [.ref q5])), (q5, .inl (cI, 32, .inl (fun _ => 0)))] H := hP
  have hD : va_D _ [(hk, .inr (1, [.ref qt, .ref qe, .ref qs, .int (nI 0), .ref o1, .ref o2, .ref o3, .ref o4, .ref o5])), (qt, .inl (cI, 1024, .inl (fun _ => 0))), (qe, .inl (cI, 60, .inl (fun _ => 0))), (qs, .inl (cI, 1024, .inl (fun _ => 0))), (o1, .inr (0, [.ref q1])), (q1, .inl (cI, 32, .inl (fun _ => 0))), (o2, .inr (0, [.ref q2])), (q2, .inl (cI, 32, .inl (fun _ => 0))), (o3, .inr (0, [.ref q3])), (q3, .inl (cI, 32, .inl (fun _ => 0))), (o4, .inr (0, [.ref q4])), (q4, .inl (cI, 32, .inl (fun _ => 0))), (o5, .inr (0, [.ref q5])), (q5, .inl (cI, 32, .inl (fun _ => 0)))] := hD
  refine lv_astore_n (lv' := [(1, .ref hk), (0, .ref b)]) hx hb d_L_law_7 rfl hl (by decide) rfl (fun ls hl => ?_)
  refine va_new (ci := 2) (fs := [.int 0, .int 0, .null, .null, .null, .null, .null, .null, .null]) (C := R_M) (T := F_M) (N := 9) hx hb htw u_M t_M t_M_ok hown (htw _ cl_L_44) (htw _ it_M) (htw _ in_M) hK hP hD hS hA rfl (fun j hj => by rcases (show j = 0 ∨ j = 1 ∨ j = 2 ∨ j = 3 ∨ j = 4 ∨ j = 5 ∨ j = 6 ∨ j = 7 ∨ j = 8 by omega) with rfl | rfl | rfl | rfl | rfl | rfl | rfl | rfl | rfl <;> rfl) (Nat.le_of_ble_eq_true rfl) (Nat.le_of_ble_eq_true rfl) d_L_law_8 (fun hm H hP hD hS => ?_)
  have hP : va_P (dC, dI) classes [(hk, .inr (1, [.ref qt, .ref qe, .ref qs, .int (nI 0), .ref o1, .ref o2, .ref o3, .ref o4, .ref o5])), (qt, .inl (cI, 1024, .inl (fun _ => 0))), (qe, .inl (cI, 60, .inl (fun _ => 0))), (qs, .inl (cI, 1024, .inl (fun _ => 0))), (o1, .inr (0, [.ref q1])), (q1, .inl (cI, 32, .inl (fun _ => 0))), (o2, .inr (0, [.ref q2])), (q2, .inl (cI, 32, .inl (fun _ => 0))), (o3, .inr (0, [.ref q3])), (q3, .inl (cI, 32, .inl (fun _ => 0))), (o4, .inr (0, [.ref q4])), (q4, .inl (cI, 32, .inl (fun _ => 0))), (o5, .inr (0, [.ref q5])), (q5, .inl (cI, 32, .inl (fun _ => 0))), (hm, .inr (2, [.int 0, .int 0, .null, .null, .null, .null, .null, .null, .null]))] H := hP
  have hD : va_D _ [(hk, .inr (1, [.ref qt, .ref qe, .ref qs, .int (nI 0), .ref o1, .ref o2, .ref o3, .ref o4, .ref o5])), (qt, .inl (cI, 1024, .inl (fun _ => 0))), (qe, .inl (cI, 60, .inl (fun _ => 0))), (qs, .inl (cI, 1024, .inl (fun _ => 0))), (o1, .inr (0, [.ref q1])), (q1, .inl (cI, 32, .inl (fun _ => 0))), (o2, .inr (0, [.ref q2])), (q2, .inl (cI, 32, .inl (fun _ => 0))), (o3, .inr (0, [.ref q3])), (q3, .inl (cI, 32, .inl (fun _ => 0))), (o4, .inr (0, [.ref q4])), (q4, .inl (cI, 32, .inl (fun _ => 0))), (o5, .inr (0, [.ref q5])), (q5, .inl (cI, 32, .inl (fun _ => 0))), (hm, .inr (2, [.int 0, .int 0, .null, .null, .null, .null, .null, .null, .null]))] := hD
  refine lv_dup hx hb d_L_law_11 rfl ?_
  refine rk_backv (wc := [(hm, .inr (2, [.int 0, .int 0, .null, .null, .null, .null, .null, .null, .null]))]) (wr := [(hk, .inr (1, [.ref qt, .ref qe, .ref qs, .int (nI 0), .ref o1, .ref o2, .ref o3, .ref o4, .ref o5])), (qt, .inl (cI, 1024, .inl (fun _ => 0))), (qe, .inl (cI, 60, .inl (fun _ => 0))), (qs, .inl (cI, 1024, .inl (fun _ => 0))), (o1, .inr (0, [.ref q1])), (q1, .inl (cI, 32, .inl (fun _ => 0))), (o2, .inr (0, [.ref q2])), (q2, .inl (cI, 32, .inl (fun _ => 0))), (o3, .inr (0, [.ref q3])), (q3, .inl (cI, 32, .inl (fun _ => 0))), (o4, .inr (0, [.ref q4])), (q4, .inl (cI, 32, .inl (fun _ => 0))), (o5, .inr (0, [.ref q5])), (q5, .inl (cI, 32, .inl (fun _ => 0)))]) (va_runI (As := []) (rest := [.ref hm]) ⟨hx, hb, hml, hown, htw⟩ (c_M_init l dC dI cI cZ cJ _ hm) (rk_cwI 0 htw gc_L_law_12 rfl (by decide +kernel) ⟨(Nat.le_of_ble_eq_true rfl), (Nat.le_of_ble_eq_true rfl)⟩) (⟨rk_blind, rk_give (rk_psub (isC := [14]) hP rfl) hK (hD.sub [14] rfl rfl)⟩) rfl rfl hl.1 rfl (lv_room (Nat.le_of_ble_eq_true rfl)) d_L_law_12 ⟨(Nat.le_of_ble_eq_true rfl), (Nat.le_of_ble_eq_true rfl)⟩) hP hD hS hA [14] [0, 1, 2, 3, 4, 5, 6, 7, 8, 9, 10, 11, 12, 13] rfl rfl rfl (by decide) (fun um H locs hpm hP hD hS => ?_)
  obtain ⟨mt, mn, mp, mb, mf, mh, md⟩ := um
  have hP : va_P (dC, dI) classes [(hk, .inr (1, [.ref qt, .ref qe, .ref qs, .int (nI 0), .ref o1, .ref o2, .ref o3, .ref o4, .ref o5])), (qt, .inl (cI, 1024, .inl (fun _ => 0))), (qe, .inl (cI, 60, .inl (fun _ => 0))), (qs, .inl (cI, 1024, .inl (fun _ => 0))), (o1, .inr (0, [.ref q1])), (q1, .inl (cI, 32, .inl (fun _ => 0))), (o2, .inr (0, [.ref q2])), (q2, .inl (cI, 32, .inl (fun _ => 0))), (o3, .inr (0, [.ref q3])), (q3, .inl (cI, 32, .inl (fun _ => 0))), (o4, .inr (0, [.ref q4])), (q4, .inl (cI, 32, .inl (fun _ => 0))), (o5, .inr (0, [.ref q5])), (q5, .inl (cI, 32, .inl (fun _ => 0))), (hm, .inr (2, [.int 0, .int (nI 0), .ref mt, .ref mn, .ref mp, .ref mb, .ref mf, .ref mh, .ref md])), (mt, .inl (cI, 1024, .inl (fun _ => 0))), (mn, .inl (cI, 1024, .inl (fun _ => 0))), (mp, .inl (cI, 60, .inl (fun _ => 0))), (mb, .inl (cI, 60, .inl (fun _ => 0))), (mf, .inl (cI, 32, .inl (fun _ => 0))), (mh, .inl (cZ, 1024, .inl (fun p => zI ((fun _ => false) p)))), (md, .inl (cZ, 1024, .inl (fun p => zI ((fun _ => false) p))))] H := hP
  have hD : va_D _ [(hk, .inr (1, [.ref qt, .ref qe, .ref qs, .int (nI 0), .ref o1, .ref o2, .ref o3, .ref o4, .ref o5])), (qt, .inl (cI, 1024, .inl (fun _ => 0))), (qe, .inl (cI, 60, .inl (fun _ => 0))), (qs, .inl (cI, 1024, .inl (fun _ => 0))), (o1, .inr (0, [.ref q1])), (q1, .inl (cI, 32, .inl (fun _ => 0))), (o2, .inr (0, [.ref q2])), (q2, .inl (cI, 32, .inl (fun _ => 0))), (o3, .inr (0, [.ref q3])), (q3, .inl (cI, 32, .inl (fun _ => 0))), (o4, .inr (0, [.ref q4])), (q4, .inl (cI, 32, .inl (fun _ => 0))), (o5, .inr (0, [.ref q5])), (q5, .inl (cI, 32, .inl (fun _ => 0))), (hm, .inr (2, [.int 0, .int (nI 0), .ref mt, .ref mn, .ref mp, .ref mb, .ref mf, .ref mh, .ref md])), (mt, .inl (cI, 1024, .inl (fun _ => 0))), (mn, .inl (cI, 1024, .inl (fun _ => 0))), (mp, .inl (cI, 60, .inl (fun _ => 0))), (mb, .inl (cI, 60, .inl (fun _ => 0))), (mf, .inl (cI, 32, .inl (fun _ => 0))), (mh, .inl (cZ, 1024, .inl (fun p => zI ((fun _ => false) p)))), (md, .inl (cZ, 1024, .inl (fun p => zI ((fun _ => false) p))))] := hD
  refine lv_astore_n (lv' := [(2, .ref hm), (1, .ref hk), (0, .ref b)]) hx hb d_L_law_15 rfl hl (by decide) rfl (fun ls hl => ?_)
  refine lv_iconst (v := nI 1) hx hb d_L_law_16 (by decide) ?_
  refine va_newa (atype := .long) (ty := .long) (N' := 1) (a0 := (1, .inr (.inl (fun _ => 0)))) hx hb (htw _ ac_long) rfl hK hP hD hS hA (fun _ => rfl) (by decide) (by decide) (by decide) (Nat.le_of_ble_eq_true rfl) (Nat.le_of_ble_eq_true rfl) d_L_law_17 (fun qo cA H hK9 hP hD hS => ?_)
  have ec := rk_eqJ hK hK9
  subst ec
  have hP : va_P (dC, dI) classes [(hk, .inr (1, [.ref qt, .ref qe, .ref qs, .int (nI 0), .ref o1, .ref o2, .ref o3, .ref o4, .ref o5])), (qt, .inl (cI, 1024, .inl (fun _ => 0))), (qe, .inl (cI, 60, .inl (fun _ => 0))), (qs, .inl (cI, 1024, .inl (fun _ => 0))), (o1, .inr (0, [.ref q1])), (q1, .inl (cI, 32, .inl (fun _ => 0))), (o2, .inr (0, [.ref q2])), (q2, .inl (cI, 32, .inl (fun _ => 0))), (o3, .inr (0, [.ref q3])), (q3, .inl (cI, 32, .inl (fun _ => 0))), (o4, .inr (0, [.ref q4])), (q4, .inl (cI, 32, .inl (fun _ => 0))), (o5, .inr (0, [.ref q5])), (q5, .inl (cI, 32, .inl (fun _ => 0))), (hm, .inr (2, [.int 0, .int (nI 0), .ref mt, .ref mn, .ref mp, .ref mb, .ref mf, .ref mh, .ref md])), (mt, .inl (cI, 1024, .inl (fun _ => 0))), (mn, .inl (cI, 1024, .inl (fun _ => 0))), (mp, .inl (cI, 60, .inl (fun _ => 0))), (mb, .inl (cI, 60, .inl (fun _ => 0))), (mf, .inl (cI, 32, .inl (fun _ => 0))), (mh, .inl (cZ, 1024, .inl (fun p => zI ((fun _ => false) p)))), (md, .inl (cZ, 1024, .inl (fun p => zI ((fun _ => false) p)))), (qo, .inl (cJ, 1, .inr (.inl (fun _ => 0))))] H := hP
  have hD : va_D _ [(hk, .inr (1, [.ref qt, .ref qe, .ref qs, .int (nI 0), .ref o1, .ref o2, .ref o3, .ref o4, .ref o5])), (qt, .inl (cI, 1024, .inl (fun _ => 0))), (qe, .inl (cI, 60, .inl (fun _ => 0))), (qs, .inl (cI, 1024, .inl (fun _ => 0))), (o1, .inr (0, [.ref q1])), (q1, .inl (cI, 32, .inl (fun _ => 0))), (o2, .inr (0, [.ref q2])), (q2, .inl (cI, 32, .inl (fun _ => 0))), (o3, .inr (0, [.ref q3])), (q3, .inl (cI, 32, .inl (fun _ => 0))), (o4, .inr (0, [.ref q4])), (q4, .inl (cI, 32, .inl (fun _ => 0))), (o5, .inr (0, [.ref q5])), (q5, .inl (cI, 32, .inl (fun _ => 0))), (hm, .inr (2, [.int 0, .int (nI 0), .ref mt, .ref mn, .ref mp, .ref mb, .ref mf, .ref mh, .ref md])), (mt, .inl (cI, 1024, .inl (fun _ => 0))), (mn, .inl (cI, 1024, .inl (fun _ => 0))), (mp, .inl (cI, 60, .inl (fun _ => 0))), (mb, .inl (cI, 60, .inl (fun _ => 0))), (mf, .inl (cI, 32, .inl (fun _ => 0))), (mh, .inl (cZ, 1024, .inl (fun p => zI ((fun _ => false) p)))), (md, .inl (cZ, 1024, .inl (fun p => zI ((fun _ => false) p)))), (qo, .inl (cJ, 1, .inr (.inl (fun _ => 0))))] := hD
  refine lv_astore_n (lv' := [(3, .ref qo), (2, .ref hm), (1, .ref hk), (0, .ref b)]) hx hb d_L_law_19 rfl hl (by decide) rfl (fun ls hl => ?_)
  refine lv_iconst (v := nI 0) hx hb d_L_law_20 (by decide) ?_
  refine lv_istore (lv' := [(4, .int (nI 0)), (3, .ref qo), (2, .ref hm), (1, .ref hk), (0, .ref b)]) hx hb d_L_law_21 hl (by decide) rfl (fun ls hl => ?_)
  have hl := lv_sub (l' := [(4, .int (nI 0)), (0, .ref b), (1, .ref hk), (2, .ref hm), (3, .ref qo)]) hl [0, 4, 3, 2, 1] rfl
  exact rk_loop l hl9 hL hx hb hr hml hown htw hX hbl hlocks hY hZ dC dI cI cZ cJ hK hk qt qe qs o1 o2 o3 o4 o5 q1 q2 q3 q4 q5 hm mt mn mp mb mf mh md qo (L + 1) 0 _ _ 0 0 (fun _ => 0) (fun _ => 0) (fun _ => 0) (fun _ => 0) (fun _ => 0) (fun _ => 0) (fun _ => 0) (fun _ => 0) (fun _ => 0) (fun _ => 0) (fun _ => 0) (fun _ => 0) (fun _ => 0) (fun _ => 0) (fun _ => false) (fun _ => false) 0 (fun _ => 0) (by omega) (by omega) (by decide) (by decide) rk_I0 _ _ _ hl hP hD hS
set_option maxHeartbeats 4000000 in
theorem lw_walk (l : Launch) (hl9 : l.stackTraces = false) (b : Addr) (xs : List Int32) : MetFree l x (headSpec (Jvm.Cond.code x code maxLocals ret :: tables_1) room_1) (lw_P b xs) (fun _ _ _ _ _ => True) lw_Q := by
  refine MetFree.of_bodyS (code := code) (maxLocals := maxLocals) (ret := ret) (by decide) ?_ ?_
  · intro args s m h hn
    obtain ⟨meth, c, h1, h2, h3, h4, h5, h6, -, -⟩ := Cond.code_spec hn (atoms_spec (ws := Jvm.Cond.code x code maxLocals ret :: tables_1) h _ List.mem_cons_self)
    exact ⟨meth, c, h1, h2, h3, h4, h5, h6⟩
  · intro p e s m args below meth c s₁ B hml0 hP _
    obtain ⟨rfl, hx, hbd, hgv⟩ := hP
    obtain ⟨scr, harrAt, hlist, hof, hsmall⟩ := hx
    obtain ⟨hcb, hkn, -, -⟩ := State.arrayAt?_spec harrAt
    have hown : s.vm.findClass R_law = some m.cls := findClass_of_methodNamed B.named
    have hts0 : ∀ c ∈ (Jvm.Cond.code x code maxLocals ret :: tables_1), c.before #[Value.ref b] s = true := atoms_spec (ws := Jvm.Cond.code x code maxLocals ret :: tables_1) B.pre
    have hts : ∀ w ∈ lw_tbl, w.before #[Value.ref b] s = true := k2_hts_sels lw_privs (fun w hw => hts0 w (List.mem_cons_of_mem _ hw)) lw_privs_ok
    have hml : c.maxLocals = 7 := B.maxLocals_eq (hts0 _ List.mem_cons_self)
    have X₀ : Stand p l e room_1 s m #[Value.ref b] below meth c s₁ [] 0 0 := Stand.of_body B
    have hh0 : s₁.heap = s.heap := by rw [B.state]; rfl
    have hsz : scr.slots.size = xs.length := by rw [← Array.length_toList, hlist, List.length_map]
    have hval : ∀ j : Nat, j < xs.length → scr.slots[j]? = some (.int (xs.getD j 0)) := fun j hj => by
      rw [← Array.getElem?_toList, hlist]
      simp [hj]
    have hbl : b < s.heap.size := (Array.getElem?_eq_some_iff.mp hcb).1
    have hX : va_X b xs.length (fun j => xs.getD j 0) s s.heap := ⟨scr, hcb, hof, hkn, hsz, hval⟩
    have K : W p l e room_1 s m #[Value.ref b] below meth c s₁.heap [] 0 0 (lw_Z below #[Value.ref b] s) (entryFrame m ([Value.ref b] : List Value).toArray 7) := by
      rw [hh0]
      exact whole_start l hl9 hbd ⟨B.exec, B.bytes, B.returns, hml, hown, hts, hX, hbl, B.notSynchronized, hgv⟩
    obtain ⟨t, a1, o, b1, b2, b3⟩ := K s₁ rfl X₀
    exact ⟨t, o, a1, b1, b2, b3⟩
theorem lw_pre_spec {args : Array Value} {s : State} (h : (Jvm.Cond.and given_1 narrow_1).before args s = true) (hr : rest_1_c.before args s = true) : ∃ (b : Addr) (xs : List Int32), lw_P b xs args s := by
  have hs := flat_of_before _ h
  have hq := flat_of_before _ hr
  have hc : (Cond.count 1).before args s = true := hs _ (by decide +kernel)
  have harr : (Cond.arrayOf (.arg 0) .int).before args s = true := hs _ (by decide +kernel)
  have hle : (Cond.le (.length (.arg 0)) (.int 2048)).before args s = true := hs _ (by decide +kernel)
  have hlen : (Cond.isInt (.length (.arg 0))).before args s = true := hq _ (by decide +kernel)
  have hall : (Cond.all (.arg 0) (.isInt (.elem (.arg 0) (.index 0)))).before args s = true := hq _ (by decide +kernel)
  obtain ⟨b, xs, hb, hx⟩ := State.ints_of_pre rfl harr hlen hall
  have hsm : xs.length < 2 ^ 31 := hx.choose_spec.2.2.2
  have hev : (Term.length (.arg 0)).eval args s none [] s = some (.int xs.length.toInt32) := hx.length_eval hb
  have hv := Cond.le_ints hev (show (Term.int 2048).eval args s none [] s = some (.int 2048) from rfl)
  have hd : xs.length.toInt32 ≤ 2048 := by
    simpa [Cond.before, Cond.holds, hv] using hle
  have hN : xs.length ≤ 2048 := (Int32.ofNat_le_ofNat hsm (by decide)).mp (show Int32.ofNat xs.length ≤ Int32.ofNat 2048 from hd)
  exact ⟨b, xs, Cond.one_arg hc (show args[0]? = some (.ref b) from hb), hx, hN, h⟩
theorem lw_comes (l : Launch) (hl9 : l.stackTraces = false) : Comes l x (Jvm.Cond.code x code maxLocals ret :: tables_1) room_1 (fun tb e args s => Calls_1 tb e args s ∧ rest_1 tb e args s ∧ Pre_1 tb e args s)
    (fun _ _ args s o t => lw_Q args s o t) := by
  intro p e ha hc hk s m args below hf hfit hheap happ hpre
  obtain ⟨b, xs, hP⟩ := lw_pre_spec hpre.2.2 hpre.2.1
  obtain ⟨k, o, h1, h2, h3, hQ⟩ := lw_walk l hl9 b xs p e ha hc hk s m args below hf ((Spec.applies_iff_loose hf).mp happ).1 hP trivial
  exact ⟨k, o, h1, h2, h3, hQ⟩
theorem lw_frame {s t : State} {o : Outcome} {args : Array Value} (h : Framed s o t [] 1052 14762) :
    Framed s o t (fieldLocs frame_1_writes args s ++ arrayLocs frame_1_arrays args s ++ staticLocs frame_1_statics s) 1052 14762 := h
theorem lw_limb (L : Cond) (hL : ∀ (args : Array Value) (s t : State), L.after args s (.returned (some (.int 1))) t = true) :
    ArmFor flags0 classFile x code maxLocals ret World_1 tables_1 room_1 Calls_1 rest_1 Pre_1
      (fun tb e a s o t => postC L tb e a s o t ∧ Framed s o t (fieldLocs frame_1_writes a s ++ arrayLocs frame_1_arrays a s ++ staticLocs frame_1_statics s) 1052 14762) := by
  intro l hfl _ _ p e ha hc hk s m args below hf hfit hheap happ hpre
  have hl9 : l.stackTraces = false := by
    show (!l.flags.contains Jvm.noTraceFlag) = false
    rw [hfl]
    decide +kernel
  obtain ⟨k, o, h1, h2, h3, rfl, hF⟩ := lw_comes l hl9 p e ha hc hk s m args below hf hfit hheap happ hpre
  exact ⟨k, _, h1, h2, h3, hL args s _, lw_frame hF⟩
theorem i_vc : Claimed_1_1 ∧ Claimed_1_2 := ⟨lw_limb limb_1_1 (fun args s t => by simp [limb_1_1, Cond.after, Cond.holds, Cond.value]), lw_limb limb_1_2 (fun args s t => Cond.after_iff.mpr (by
  first | (rw [show limb_1_2 = Cond.eq .result (.int 1) from rfl, Cond.eq_ints (x := 1) (y := 1) rfl rfl]; simp; done) | (simp [limb_1_2, Cond.value, Term.eval]; done)))⟩
