set_option maxHeartbeats 4000000 in
set_option maxRecDepth 100000 in
theorem c_JI_bitCountN (l : Launch) (dC : Nat → ClassId) (dI : Nat → Nat → Nat) (cI cZ cJ : ClassId) (sz : Nat) (X : Nat) (hX : X < 4294967296) : Met l y_JI_bitCount (.code y_JI_bitCount b_JI_bitCount 1 (some .int) :: WT) { frames := 0, cells := 0, slots := 0, locals := 0 } (va_Pc [.int (nI X)] (rk_pre (dC, dI) [(cI, .int), (cZ, .boolean), (cJ, .long)] sz [])) (va_Qi (fun (r : Int32) (u : Unit) => r = nI (rk_c (fun i => X.testBit i) 32)) (fun _ s9 => rk_at (dC, dI) [(cI, .int), (cZ, .boolean), (cJ, .long)] (va_A [] sz) [] s9) (va_A [] sz)) 0 0 (va_A [] sz) := by
  refine rk_body (by decide) (Nat.le_of_ble_eq_true rfl) ?_
  intro p e s m below meth c hx hb hml hr htw hown hlocks hin hsz hP hK hD hA hS ls hl
  have hown : s.vm.findClass R_JI = some m.cls := hown
  have hl : lv_has ls 1 [(0, .int (nI X))] := hl
  obtain ⟨g0, g1, g2, g3, g4, g5, g6, g7⟩ := pc_all hX
  refine lv_iload_n hx hb d_JI_bitCount_0 rfl (lv_at hl 0 rfl) ?_
  refine lv_iload_n hx hb d_JI_bitCount_1 rfl (lv_at hl 0 rfl) ?_
  refine lv_iconst (v := nI 1) hx hb d_JI_bitCount_2 (by decide) ?_
  refine lv_iushr (v := ((nI X).toUInt32 >>> ((nI 1).toUInt32 &&& Int32.toUInt32 31)).toInt32) hx hb d_JI_bitCount_3 rfl ?_
  refine rk_top (y := nI (X / 2)) (pk_ushrN hX (nI 1) 1 (by decide)) ?_
  refine lv_ldcw (v := 1431655765) hx hb hown (htw _ k_JI_265) d_JI_bitCount_4 ?_
  refine rk_top (y := nI 1431655765) rfl ?_
  refine lv_iand hx hb d_JI_bitCount_7 ?_
  refine rk_top (y := nI (X / 2 &&& 1431655765)) (nx_and _ _) ?_
  refine lv_isub hx hb d_JI_bitCount_8 ?_
  refine rk_top (y := nI (pc_y1 X)) (pk_sub g0) ?_
  refine lv_istore_n (lv' := [(0, .int (nI (pc_y1 X)))]) hx hb d_JI_bitCount_9 rfl hl (by decide) rfl (fun ls hl => ?_)
  refine lv_iload_n hx hb d_JI_bitCount_10 rfl (lv_at hl 0 rfl) ?_
  refine lv_ldcw (v := 858993459) hx hb hown (htw _ k_JI_266) d_JI_bitCount_11 ?_
  refine rk_top (y := nI 858993459) rfl ?_
  refine lv_iand hx hb d_JI_bitCount_14 ?_
  refine rk_top (y := nI (pc_y1 X &&& 858993459)) (nx_and _ _) ?_
  refine lv_iload_n hx hb d_JI_bitCount_15 rfl (lv_at hl 0 rfl) ?_
  refine lv_iconst (v := nI 2) hx hb d_JI_bitCount_16 (by decide) ?_
  refine lv_iushr (v := ((nI (pc_y1 X)).toUInt32 >>> ((nI 2).toUInt32 &&& Int32.toUInt32 31)).toInt32) hx hb d_JI_bitCount_17 rfl ?_
  refine rk_top (y := nI (pc_y1 X / 4)) (pk_ushrN g1 (nI 2) 2 (by decide)) ?_
  refine lv_ldcw (v := 858993459) hx hb hown (htw _ k_JI_266) d_JI_bitCount_18 ?_
  refine rk_top (y := nI 858993459) rfl ?_
  refine lv_iand hx hb d_JI_bitCount_21 ?_
  refine rk_top (y := nI (pc_y1 X / 4 &&& 858993459)) (nx_and _ _) ?_
  refine lv_iadd hx hb d_JI_bitCount_22 ?_
  refine rk_top (y := nI (pc_y2 X)) (nI_add _ _) ?_
  refine lv_istore_n (lv' := [(0, .int (nI (pc_y2 X)))]) hx hb d_JI_bitCount_23 rfl hl (by decide) rfl (fun ls hl => ?_)
  refine lv_iload_n hx hb d_JI_bitCount_24 rfl (lv_at hl 0 rfl) ?_
  refine lv_iload_n hx hb d_JI_bitCount_25 rfl (lv_at hl 0 rfl) ?_
  refine lv_iconst (v := nI 4) hx hb d_JI_bitCount_26 (by decide) ?_
  refine lv_iushr (v := ((nI (pc_y2 X)).toUInt32 >>> ((nI 4).toUInt32 &&& Int32.toUInt32 31)).toInt32) hx hb d_JI_bitCount_27 rfl ?_
  refine rk_top (y := nI (pc_y2 X / 16)) (pk_ushrN g2 (nI 4) 4 (by decide)) ?_
  refine lv_iadd hx hb d_JI_bitCount_28 ?_
  refine rk_top (y := nI (pc_y2 X + pc_y2 X / 16)) (nI_add _ _) ?_
  refine lv_ldcw (v := 252645135) hx hb hown (htw _ k_JI_267) d_JI_bitCount_29 ?_
  refine rk_top (y := nI 252645135) rfl ?_
  refine lv_iand hx hb d_JI_bitCount_32 ?_
  refine rk_top (y := nI (pc_y3 X)) (nx_and _ _) ?_
  refine lv_istore_n (lv' := [(0, .int (nI (pc_y3 X)))]) hx hb d_JI_bitCount_33 rfl hl (by decide) rfl (fun ls hl => ?_)
  refine lv_iload_n hx hb d_JI_bitCount_34 rfl (lv_at hl 0 rfl) ?_
  refine lv_iload_n hx hb d_JI_bitCount_35 rfl (lv_at hl 0 rfl) ?_
  refine lv_bipush (v := nI 8) hx hb d_JI_bitCount_36 (by decide) ?_
  refine lv_iushr (v := ((nI (pc_y3 X)).toUInt32 >>> ((nI 8).toUInt32 &&& Int32.toUInt32 31)).toInt32) hx hb d_JI_bitCount_38 rfl ?_
  refine rk_top (y := nI (pc_y3 X / 256)) (pk_ushrN g4 (nI 8) 8 (by decide)) ?_
  refine lv_iadd hx hb d_JI_bitCount_39 ?_
  refine rk_top (y := nI (pc_y4 X)) (nI_add _ _) ?_
  refine lv_istore_n (lv' := [(0, .int (nI (pc_y4 X)))]) hx hb d_JI_bitCount_40 rfl hl (by decide) rfl (fun ls hl => ?_)
  refine lv_iload_n hx hb d_JI_bitCount_41 rfl (lv_at hl 0 rfl) ?_
  refine lv_iload_n hx hb d_JI_bitCount_42 rfl (lv_at hl 0 rfl) ?_
  refine lv_bipush (v := nI 16) hx hb d_JI_bitCount_43 (by decide) ?_
  refine lv_iushr (v := ((nI (pc_y4 X)).toUInt32 >>> ((nI 16).toUInt32 &&& Int32.toUInt32 31)).toInt32) hx hb d_JI_bitCount_45 rfl ?_
  refine rk_top (y := nI (pc_y4 X / 65536)) (pk_ushrN g5 (nI 16) 16 (by decide)) ?_
  refine lv_iadd hx hb d_JI_bitCount_46 ?_
  refine rk_top (y := nI (pc_y5 X)) (nI_add _ _) ?_
  refine lv_istore_n (lv' := [(0, .int (nI (pc_y5 X)))]) hx hb d_JI_bitCount_47 rfl hl (by decide) rfl (fun ls hl => ?_)
  refine lv_iload_n hx hb d_JI_bitCount_48 rfl (lv_at hl 0 rfl) ?_
  refine lv_bipush (v := nI 63) hx hb d_JI_bitCount_49 (by decide) ?_
  refine lv_iand hx hb d_JI_bitCount_51 ?_
  refine rk_top (y := nI (rk_c (fun i => X.testBit i) 32)) (by rw [pk_andN g6 (m := nI 63) 6 (by decide)]; exact congrArg nI g7) ?_
  exact rk_iret (()) hx hb hr hlocks (rfl) rfl hP hK hD hS d_JI_bitCount_52
theorem c_JI_bitCount (l : Launch) (dC : Nat → ClassId) (dI : Nat → Nat → Nat) (cI cZ cJ : ClassId) (sz : Nat) (x : Int32) : Met l y_JI_bitCount (.code y_JI_bitCount b_JI_bitCount 1 (some .int) :: WT) { frames := 0, cells := 0, slots := 0, locals := 0 } (va_Pc [.int x] (rk_pre (dC, dI) [(cI, .int), (cZ, .boolean), (cJ, .long)] sz [])) (va_Qi (fun (r : Int32) (u : Unit) => r = nI (rk_c (bt x) 32)) (fun _ t => rk_at (dC, dI) [(cI, .int), (cZ, .boolean), (cJ, .long)] (va_A [] sz) [] t) (va_A [] sz)) 0 0 (va_A [] sz) := by
  have h := c_JI_bitCountN l dC dI cI cZ cJ sz x.toBitVec.toNat x.toBitVec.isLt
  rw [← pc_nI x] at h
  exact h
set_option maxHeartbeats 4000000 in
set_option maxRecDepth 100000 in
theorem c_P_hasBit (l : Launch) (dC : Nat → ClassId) (dI : Nat → Nat → Nat) (cI cZ cJ : ClassId) (sz : Nat) (x : Int32) (b : Nat) (hb32 : b < 32) : Met l y_P_hasBit (.code y_P_hasBit b_P_hasBit 2 (some .boolean) :: WT) { frames := 0, cells := 0, slots := 0, locals := 0 } (va_Pc [.int x, .int (nI b)] (rk_pre (dC, dI) [(cI, .int), (cZ, .boolean), (cJ, .long)] sz [])) (va_Qi (fun (r : Int32) (u : Unit) => r = zI (bt x b)) (fun _ s9 => rk_at (dC, dI) [(cI, .int), (cZ, .boolean), (cJ, .long)] (va_A [] sz) [] s9) (va_A [] sz)) 0 0 (va_A [] sz) := by
  refine rk_body (by decide) (Nat.le_of_ble_eq_true rfl) ?_
  intro p e s m below meth c hx hb hml hr htw hown hlocks hin hsz hP hK hD hA hS ls hl
  have hown : s.vm.findClass R_P = some m.cls := hown
  have hl : lv_has ls 2 [(0, .int x), (1, .int (nI b))] := hl
  refine lv_iload_n hx hb d_P_hasBit_0 rfl (lv_at hl 0 rfl) ?_
  refine lv_iload_n hx hb d_P_hasBit_1 rfl (lv_at hl 1 rfl) ?_
  refine lv_iushr (v := ((x).toUInt32 >>> ((nI b).toUInt32 &&& Int32.toUInt32 31)).toInt32) hx hb d_P_hasBit_2 rfl ?_
  refine lv_iconst (v := nI 1) hx hb d_P_hasBit_3 (by decide) ?_
  refine lv_iand hx hb d_P_hasBit_4 ?_
  refine lv_if_eq (tgt := 12) hx hb d_P_hasBit_5 (by decide) (fun hc => ?_) (fun hc => ?_)
  · have hc := (rk_bit x hb32).mp hc
    refine lv_iconst (v := nI 0) hx hb d_P_hasBit_12 (by decide) ?_
    refine rk_top (y := zI (bt x b)) (by rw [hc]; rfl) ?_
    exact rk_zret (()) hx hb hr hlocks (rfl) rfl hP hK hD hS d_P_hasBit_13
  · have hc := ts_nf (fun z => hc ((rk_bit x hb32).mpr z))
    refine lv_iconst (v := nI 1) hx hb d_P_hasBit_8 (by decide) ?_
    refine lv_goto (tgt := 13) hx hb d_P_hasBit_9 (by decide) ?_
    refine rk_top (y := zI (bt x b)) (by rw [hc]; rfl) ?_
    exact rk_zret (()) hx hb hr hlocks (rfl) rfl hP hK hD hS d_P_hasBit_13
set_option maxHeartbeats 4000000 in
set_option maxRecDepth 100000 in
theorem c_P_has (l : Launch) (dC : Nat → ClassId) (dI : Nat → Nat → Nat) (cI cZ cJ : ClassId) (sz : Nat) (h0 q0 : Nat) (r0 : Nat → Int32) (a b : Nat) (ha : a < 32) (hb32 : b < 32) : Met l y_P_has (.code y_P_has b_P_has 3 (some .boolean) :: WT) { frames := 1, cells := 0, slots := 0, locals := 21 } (va_Pc [.ref h0, .int (nI a), .int (nI b)] (rk_pre (dC, dI) [(cI, .int), (cZ, .boolean), (cJ, .long)] sz [(h0, .inr (0, [.ref q0])), (q0, .inl (cI, 32, .inl r0))])) (va_Qi (fun (r : Int32) (u : Unit) => r = zI (bt (r0 a) b)) (fun _ s9 => rk_at (dC, dI) [(cI, .int), (cZ, .boolean), (cJ, .long)] (va_A [(h0, .inr (0, [.ref q0])), (q0, .inl (cI, 32, .inl r0))] sz) [(h0, .inr (0, [.ref q0])), (q0, .inl (cI, 32, .inl r0))] s9) (va_A [(h0, .inr (0, [.ref q0])), (q0, .inl (cI, 32, .inl r0))] sz)) 0 0 (va_A [(h0, .inr (0, [.ref q0])), (q0, .inl (cI, 32, .inl r0))] sz) := by
  refine rk_body (by decide) (Nat.le_of_ble_eq_true rfl) ?_
  intro p e s m below meth c hx hb hml hr htw hown hlocks hin hsz hP hK hD hA hS ls hl
  have hown : s.vm.findClass R_P = some m.cls := hown
  have hl : lv_has ls 3 [(0, .ref h0), (1, .int (nI a)), (2, .int (nI b))] := hl
  refine lv_aload_n hx hb d_P_has_0 rfl (lv_at hl 0 rfl) ?_
  refine va_get (D := (dC, dI)) (ci := 0) (v := .ref q0) (C := R_P) (T := F_P) (N := 1) hx hb htw u_P hown hK hP 0 rfl rfl 0 (by decide) (htw _ l_P_9) (fun _ h9 => h9) rfl d_P_has_1 ?_
  refine lv_iload_n hx hb d_P_has_4 rfl (lv_at hl 1 rfl) ?_
  refine va_iald hx hb hK hP 1 0 rfl rfl (vp_in_nI (n := a) (show a < 32 by omega) (by decide)) d_P_has_5 ?_
  refine rk_top (y := r0 a) (congrArg r0 (nI_clamp (show a < 2 ^ 31 by omega))) ?_
  refine lv_iload_n hx hb d_P_has_6 rfl (lv_at hl 2 rfl) ?_
  refine rk_backi (wc := []) (wr := [(h0, .inr (0, [.ref q0])), (q0, .inl (cI, 32, .inl r0))]) (va_runS (As := [.int (r0 a), .int (nI b)]) (rest := []) ⟨hx, hb, hml, hown, htw⟩ (c_P_hasBit l dC dI cI cZ cJ _ (r0 a) b hb32) (rk_cwS 2 htw gc_P_has_7 (by decide +kernel) ⟨(Nat.le_of_ble_eq_true rfl), (Nat.le_of_ble_eq_true rfl)⟩) (⟨rk_blind, rk_give (rk_psub (isC := []) hP rfl) hK (hD.sub [] rfl rfl)⟩) rfl rfl hl.1 rfl (lv_room (Nat.le_of_ble_eq_true rfl)) d_P_has_7 ⟨(Nat.le_of_ble_eq_true rfl), (Nat.le_of_ble_eq_true rfl)⟩) hP hD hS hA [] [0, 1] rfl rfl rfl (by decide) (fun x5 u5 H locs hp hP hD hS => ?_)
  subst hp
  have hP : va_P (dC, dI) classes [(h0, .inr (0, [.ref q0])), (q0, .inl (cI, 32, .inl r0))] H := hP
  have hD : va_D _ [(h0, .inr (0, [.ref q0])), (q0, .inl (cI, 32, .inl r0))] := hD
  exact rk_zret (()) hx hb hr hlocks (rfl) rfl hP hK hD hS d_P_has_10
set_option maxHeartbeats 4000000 in
set_option maxRecDepth 100000 in
theorem c_P_put (l : Launch) (dC : Nat → ClassId) (dI : Nat → Nat → Nat) (cI cZ cJ : ClassId) (sz : Nat) (h0 q0 : Nat) (r0 : Nat → Int32) (f0 : Nat → Bool) (hR : rk_R r0 f0) (a b : Nat) (ha : a < 32) (hb32 : b < 32) (z : Bool) : Met l y_P_put (.code y_P_put b_P_put 4 none :: WT) { frames := 0, cells := 0, slots := 0, locals := 0 } (va_Pc [.ref h0, .int (nI a), .int (nI b), .int (zI z)] (rk_pre (dC, dI) [(cI, .int), (cZ, .boolean), (cJ, .long)] sz [(h0, .inr (0, [.ref q0])), (q0, .inl (cI, 32, .inl r0))])) (va_Qv (fun (u : Nat → Int32) => rk_R u (fun p => if p = 32 * a + b then z else f0 p)) (fun u s9 => rk_at (dC, dI) [(cI, .int), (cZ, .boolean), (cJ, .long)] (va_A [(h0, .inr (0, [.ref q0])), (q0, .inl (cI, 32, .inl r0))] sz) [(h0, .inr (0, [.ref q0])), (q0, .inl (cI, 32, .inl u))] s9) (va_A [(h0, .inr (0, [.ref q0])), (q0, .inl (cI, 32, .inl r0))] sz)) 0 0 (va_A [(h0, .inr (0, [.ref q0])), (q0, .inl (cI, 32, .inl r0))] sz) := by
  refine rk_body (by decide) (Nat.le_of_ble_eq_true rfl) ?_
  intro p e s m below meth c hx hb hml hr htw hown hlocks hin hsz hP hK hD hA hS ls hl
  have hown : s.vm.findClass R_P = some m.cls := hown
  have hl : lv_has ls 4 [(0, .ref h0), (1, .int (nI a)), (2, .int (nI b)), (3, .int (zI z))] := hl
  refine lv_iload_n hx hb d_P_put_0 rfl (lv_at hl 3 rfl) ?_
  refine lv_if_eq (tgt := 19) hx hb d_P_put_1 (by decide) (fun hc => ?_) (fun hc => ?_)
  · have hc := zI_0.mp hc
    subst hc
    refine lv_aload_n hx hb d_P_put_19 rfl (lv_at hl 0 rfl) ?_
    refine va_get (D := (dC, dI)) (ci := 0) (v := .ref q0) (C := R_P) (T := F_P) (N := 1) hx hb htw u_P hown hK hP 0 rfl rfl 0 (by decide) (htw _ l_P_9) (fun _ h9 => h9) rfl d_P_put_20 ?_
    refine lv_iload_n hx hb d_P_put_23 rfl (lv_at hl 1 rfl) ?_
    refine lv_dup2_11 hx hb d_P_put_24 rfl rfl ?_
    refine va_iald hx hb hK hP 1 0 rfl rfl (vp_in_nI (n := a) (show a < 32 by omega) (by decide)) d_P_put_25 ?_
    refine rk_top (y := r0 a) (congrArg r0 (nI_clamp (show a < 2 ^ 31 by omega))) ?_
    refine lv_iconst (v := nI 1) hx hb d_P_put_26 (by decide) ?_
    refine lv_iload_n hx hb d_P_put_27 rfl (lv_at hl 2 rfl) ?_
    refine lv_ishl hx hb d_P_put_28 ?_
    refine lv_iconst (v := -1) hx hb d_P_put_29 (by decide) ?_
    refine lv_ixor hx hb d_P_put_30 ?_
    refine lv_iand hx hb d_P_put_31 ?_
    refine va_iast hx hb hK hP hD hS 1 0 rfl rfl (vp_in_nI (n := a) (show a < 32 by omega) (by decide)) d_P_put_32 (fun H locs hP hD hS => ?_)
    rw [nI_clamp (show a < 2 ^ 31 by omega)] at hP hD
    have hP : va_P (dC, dI) classes [(h0, .inr (0, [.ref q0])), (q0, .inl (cI, 32, .inl (upd r0 a ((r0 a) &&& (((nI 1) <<< (nI b &&& 31)) ^^^ (-1))))))] H := hP
    have hD : va_D _ [(h0, .inr (0, [.ref q0])), (q0, .inl (cI, 32, .inl (upd r0 a ((r0 a) &&& (((nI 1) <<< (nI b &&& 31)) ^^^ (-1))))))] := hD
    exact rk_vret (_) hx hb hr hlocks (rk_put0 hR ha hb32) rfl hP hK hD hS d_P_put_33
  · have hc := zI_n.mp hc
    subst hc
    refine lv_aload_n hx hb d_P_put_4 rfl (lv_at hl 0 rfl) ?_
    refine va_get (D := (dC, dI)) (ci := 0) (v := .ref q0) (C := R_P) (T := F_P) (N := 1) hx hb htw u_P hown hK hP 0 rfl rfl 0 (by decide) (htw _ l_P_9) (fun _ h9 => h9) rfl d_P_put_5 ?_
    refine lv_iload_n hx hb d_P_put_8 rfl (lv_at hl 1 rfl) ?_
    refine lv_dup2_11 hx hb d_P_put_9 rfl rfl ?_
    refine va_iald hx hb hK hP 1 0 rfl rfl (vp_in_nI (n := a) (show a < 32 by omega) (by decide)) d_P_put_10 ?_
    refine rk_top (y := r0 a) (congrArg r0 (nI_clamp (show a < 2 ^ 31 by omega))) ?_
    refine lv_iconst (v := nI 1) hx hb d_P_put_11 (by decide) ?_
    refine lv_iload_n hx hb d_P_put_12 rfl (lv_at hl 2 rfl) ?_
    refine lv_ishl hx hb d_P_put_13 ?_
    refine lv_ior hx hb d_P_put_14 ?_
    refine va_iast hx hb hK hP hD hS 1 0 rfl rfl (vp_in_nI (n := a) (show a < 32 by omega) (by decide)) d_P_put_15 (fun H locs hP hD hS => ?_)
    rw [nI_clamp (show a < 2 ^ 31 by omega)] at hP hD
    have hP : va_P (dC, dI) classes [(h0, .inr (0, [.ref q0])), (q0, .inl (cI, 32, .inl (upd r0 a ((r0 a) ||| ((nI 1) <<< (nI b &&& 31))))))] H := hP
    have hD : va_D _ [(h0, .inr (0, [.ref q0])), (q0, .inl (cI, 32, .inl (upd r0 a ((r0 a) ||| ((nI 1) <<< (nI b &&& 31))))))] := hD
    refine lv_goto (tgt := 33) hx hb d_P_put_16 (by decide) ?_
    exact rk_vret (_) hx hb hr hlocks (rk_put1 hR ha hb32) rfl hP hK hD hS d_P_put_33
set_option maxHeartbeats 4000000 in
set_option maxRecDepth 100000 in
theorem c_P_copyFrom (l : Launch) (dC : Nat → ClassId) (dI : Nat → Nat → Nat) (cI cZ cJ : ClassId) (sz : Nat) (h0 q0 h1 q1 : Nat) (r0 r1 : Nat → Int32) : Met l y_P_copyFrom (.code y_P_copyFrom b_P_copyFrom 3 none :: WT) { frames := 0, cells := 0, slots := 0, locals := 0 } (va_Pc [.ref h0, .ref h1] (rk_pre (dC, dI) [(cI, .int), (cZ, .boolean), (cJ, .long)] sz [(h0, .inr (0, [.ref q0])), (q0, .inl (cI, 32, .inl r0)), (h1, .inr (0, [.ref q1])), (q1, .inl (cI, 32, .inl r1))])) (va_Qv (fun (u : Nat → Int32) => ∀ j, j < 32 → u j = r1 j) (fun u s9 => rk_at (dC, dI) [(cI, .int), (cZ, .boolean), (cJ, .long)] (va_A [(h0, .inr (0, [.ref q0])), (q0, .inl (cI, 32, .inl r0)), (h1, .inr (0, [.ref q1])), (q1, .inl (cI, 32, .inl r1))] sz) [(h0, .inr (0, [.ref q0])), (q0, .inl (cI, 32, .inl u)), (h1, .inr (0, [.ref q1])), (q1, .inl (cI, 32, .inl r1))] s9) (va_A [(h0, .inr (0, [.ref q0])), (q0, .inl (cI, 32, .inl r0)), (h1, .inr (0, [.ref q1])), (q1, .inl (cI, 32, .inl r1))] sz)) 0 0 (va_A [(h0, .inr (0, [.ref q0])), (q0, .inl (cI, 32, .inl r0)), (h1, .inr (0, [.ref q1])), (q1, .inl (cI, 32, .inl r1))] sz) := by
  refine rk_body (by decide) (Nat.le_of_ble_eq_true rfl) ?_
  intro p e s m below meth c hx hb hml hr htw hown hlocks hin hsz hP hK hD hA hS ls hl
  have hown : s.vm.findClass R_P = some m.cls := hown
  have hl : lv_has ls 3 [(0, .ref h0), (1, .ref h1)] := hl
  refine lv_iconst (v := nI 0) hx hb d_P_copyFrom_0 (by decide) ?_
  refine lv_istore_n (lv' := [(2, .int (nI 0)), (0, .ref h0), (1, .ref h1)]) hx hb d_P_copyFrom_1 rfl hl (by decide) rfl (fun ls hl => ?_)
  have lp : ∀ (kf : Nat) (i : Nat), 32 - i < kf → i ≤ 32 → ∀ x : Nat → Int32, (∀ j, j < i → x j = r1 j) → ∀ (ls : Array Slot) (H : Heap) (locs : List Loc), lv_has ls 3 [(2, .int (nI i)), (0, .ref h0), (1, .ref h1)] → va_P (dC, dI) classes [(h0, .inr (0, [.ref q0])), (q0, .inl (cI, 32, .inl x)), (h1, .inr (0, [.ref q1])), (q1, .inl (cI, 32, .inl r1))] H → va_D (va_A [(h0, .inr (0, [.ref q0])), (q0, .inl (cI, 32, .inl r0)), (h1, .inr (0, [.ref q1])), (q1, .inl (cI, 32, .inl r1))] sz) [(h0, .inr (0, [.ref q0])), (q0, .inl (cI, 32, .inl x)), (h1, .inr (0, [.ref q1])), (q1, .inl (cI, 32, .inl r1))] → va_S (va_A [(h0, .inr (0, [.ref q0])), (q0, .inl (cI, 32, .inl r0)), (h1, .inr (0, [.ref q1])), (q1, .inl (cI, 32, .inl r1))] sz) s.heap H locs → W p l e { frames := 0, cells := 0, slots := 0, locals := 0 } s m ([.ref h0, .ref h1]).toArray below meth c H locs 0 0 (MQ below (va_Qv (fun (u : Nat → Int32) => ∀ j, j < 32 → u j = r1 j) (fun u s9 => rk_at (dC, dI) [(cI, .int), (cZ, .boolean), (cJ, .long)] (va_A [(h0, .inr (0, [.ref q0])), (q0, .inl (cI, 32, .inl r0)), (h1, .inr (0, [.ref q1])), (q1, .inl (cI, 32, .inl r1))] sz) [(h0, .inr (0, [.ref q0])), (q0, .inl (cI, 32, .inl u)), (h1, .inr (0, [.ref q1])), (q1, .inl (cI, 32, .inl r1))] s9) (va_A [(h0, .inr (0, [.ref q0])), (q0, .inl (cI, 32, .inl r0)), (h1, .inr (0, [.ref q1])), (q1, .inl (cI, 32, .inl r1))] sz)) ([.ref h0, .ref h1]).toArray s 0 0 (va_A [(h0, .inr (0, [.ref q0])), (q0, .inl (cI, 32, .inl r0)), (h1, .inr (0, [.ref q1])), (q1, .inl (cI, 32, .inl r1))] sz)) (F0 m 2 ls []) := by
    intro kf
    induction kf with
    | zero => intro i hk hi x hx0; exact absurd hk (by omega)
    | succ kf ih =>
      intro i hk hi x hx0 ls H locs hl hP hD hS
      refine lv_iload_n hx hb d_P_copyFrom_2 rfl (lv_at hl 0 rfl) ?_
      refine lv_bipush (v := nI 32) hx hb d_P_copyFrom_3 (by decide) ?_
      refine lv_icmp_ge (tgt := 26) hx hb d_P_copyFrom_5 (by decide) (fun hc => ?_) (fun hc => ?_)
      · have hc := (nI_leI (by omega) (by omega)).mp hc
        exact rk_vret (x) hx hb hr hlocks (fun j hj => hx0 j (by omega)) rfl hP hK hD hS d_P_copyFrom_26
      · have hc := rk_gt (by omega) (by omega) hc
        refine lv_aload_n hx hb d_P_copyFrom_8 rfl (lv_at hl 1 rfl) ?_
        refine va_get (D := (dC, dI)) (ci := 0) (v := .ref q0) (C := R_P) (T := F_P) (N := 1) hx hb htw u_P hown hK hP 0 rfl rfl 0 (by decide) (htw _ l_P_9) (fun _ h9 => h9) rfl d_P_copyFrom_9 ?_
        refine lv_iload_n hx hb d_P_copyFrom_12 rfl (lv_at hl 0 rfl) ?_
        refine lv_aload_n hx hb d_P_copyFrom_13 rfl (lv_at hl 2 rfl) ?_
        refine va_get (D := (dC, dI)) (ci := 0) (v := .ref q1) (C := R_P) (T := F_P) (N := 1) hx hb htw u_P hown hK hP 2 rfl rfl 0 (by decide) (htw _ l_P_9) (fun _ h9 => h9) rfl d_P_copyFrom_14 ?_
        refine lv_iload_n hx hb d_P_copyFrom_17 rfl (lv_at hl 0 rfl) ?_
        refine va_iald hx hb hK hP 3 0 rfl rfl (vp_in_nI (n := i) (show i < 32 by omega) (by decide)) d_P_copyFrom_18 ?_
        refine rk_top (y := r1 i) (congrArg r1 (nI_clamp (show i < 2 ^ 31 by omega))) ?_
        refine va_iast hx hb hK hP hD hS 1 0 rfl rfl (vp_in_nI (n := i) (show i < 32 by omega) (by decide)) d_P_copyFrom_19 (fun H locs hP hD hS => ?_)
        rw [nI_clamp (show i < 2 ^ 31 by omega)] at hP hD
        have hP : va_P (dC, dI) classes [(h0, .inr (0, [.ref q0])), (q0, .inl (cI, 32, .inl (upd x i (r1 i)))), (h1, .inr (0, [.ref q1])), (q1, .inl (cI, 32, .inl r1))] H := hP
        have hD : va_D _ [(h0, .inr (0, [.ref q0])), (q0, .inl (cI, 32, .inl (upd x i (r1 i)))), (h1, .inr (0, [.ref q1])), (q1, .inl (cI, 32, .inl r1))] := hD
        refine lv_iinc (k := 0) (v := nI (i + 1)) (lv' := [(2, .int (nI (i + 1))), (0, .ref h0), (1, .ref h1)]) hx hb d_P_copyFrom_20 hl rfl (nI_1 i) (by decide) rfl (fun ls hl => ?_)
        refine lv_goto (tgt := 2) hx hb d_P_copyFrom_23 (by decide) ?_
        exact ih (i + 1) (by omega) (by omega) _ (rk_upd_lt hx0 rfl) ls H locs hl hP hD hS
  exact lp 33 0 (by omega) (by omega) r0 (fun j hj => by omega) ls _ _ hl hP hD hS
set_option maxHeartbeats 4000000 in
set_option maxRecDepth 100000 in
theorem c_P_becomeDifference (l : Launch) (dC : Nat → ClassId) (dI : Nat → Nat → Nat) (cI cZ cJ : ClassId) (sz : Nat) (h0 q0 h1 q1 h2 q2 : Nat) (r0 r1 r2 : Nat → Int32) : Met l y_P_becomeDifference (.code y_P_becomeDifference b_P_becomeDifference 4 none :: WT) { frames := 0, cells := 0, slots := 0, locals := 0 } (va_Pc [.ref h0, .ref h1, .ref h2] (rk_pre (dC, dI) [(cI, .int), (cZ, .boolean), (cJ, .long)] sz [(h0, .inr (0, [.ref q0])), (q0, .inl (cI, 32, .inl r0)), (h1, .inr (0, [.ref q1])), (q1, .inl (cI, 32, .inl r1)), (h2, .inr (0, [.ref q2])), (q2, .inl (cI, 32, .inl r2))])) (va_Qv (fun (u : Nat → Int32) => ∀ j, j < 32 → u j = r1 j &&& (r2 j ^^^ (-1))) (fun u s9 => rk_at (dC, dI) [(cI, .int), (cZ, .boolean), (cJ, .long)] (va_A [(h0, .inr (0, [.ref q0])), (q0, .inl (cI, 32, .inl r0)), (h1, .inr (0, [.ref q1])), (q1, .inl (cI, 32, .inl r1)), (h2, .inr (0, [.ref q2])), (q2, .inl (cI, 32, .inl r2))] sz) [(h0, .inr (0, [.ref q0])), (q0, .inl (cI, 32, .inl u)), (h1, .inr (0, [.ref q1])), (q1, .inl (cI, 32, .inl r1)), (h2, .inr (0, [.ref q2])), (q2, .inl (cI, 32, .inl r2))] s9) (va_A [(h0, .inr (0, [.ref q0])), (q0, .inl (cI, 32, .inl r0)), (h1, .inr (0, [.ref q1])), (q1, .inl (cI, 32, .inl r1)), (h2, .inr (0, [.ref q2])), (q2, .inl (cI, 32, .inl r2))] sz)) 0 0 (va_A [(h0, .inr (0, [.ref q0])), (q0, .inl (cI, 32, .inl r0)), (h1, .inr (0, [.ref q1])), (q1, .inl (cI, 32, .inl r1)), (h2, .inr (0, [.ref q2])), (q2, .inl (cI, 32, .inl r2))] sz) := by
  refine rk_body (by decide) (Nat.le_of_ble_eq_true rfl) ?_
  intro p e s m below meth c hx hb hml hr htw hown hlocks hin hsz hP hK hD hA hS ls hl
  have hown : s.vm.findClass R_P = some m.cls := hown
  have hl : lv_has ls 4 [(0, .ref h0), (1, .ref h1), (2, .ref h2)] := hl
  refine lv_iconst (v := nI 0) hx hb d_P_becomeDifference_0 (by decide) ?_
  refine lv_istore_n (lv' := [(3, .int (nI 0)), (0, .ref h0), (1, .ref h1), (2, .ref h2)]) hx hb d_P_becomeDifference_1 rfl hl (by decide) rfl (fun ls hl => ?_)
  have lp : ∀ (kf : Nat) (i : Nat), 32 - i < kf → i ≤ 32 → ∀ x : Nat → Int32, (∀ j, j < i → x j = r1 j &&& (r2 j ^^^ (-1))) → ∀ (ls : Array Slot) (H : Heap) (locs : List Loc), lv_has ls 4 [(3, .int (nI i)), (0, .ref h0), (1, .ref h1), (2, .ref h2)] → va_P (dC, dI) classes [(h0, .inr (0, [.ref q0])), (q0, .inl (cI, 32, .inl x)), (h1, .inr (0, [.ref q1])), (q1, .inl (cI, 32, .inl r1)), (h2, .inr (0, [.ref q2])), (q2, .inl (cI, 32, .inl r2))] H → va_D (va_A [(h0, .inr (0, [.ref q0])), (q0, .inl (cI, 32, .inl r0)), (h1, .inr (0, [.ref q1])), (q1, .inl (cI, 32, .inl r1)), (h2, .inr (0, [.ref q2])), (q2, .inl (cI, 32, .inl r2))] sz) [(h0, .inr (0, [.ref q0])), (q0, .inl (cI, 32, .inl x)), (h1, .inr (0, [.ref q1])), (q1, .inl (cI, 32, .inl r1)), (h2, .inr (0, [.ref q2])), (q2, .inl (cI, 32, .inl r2))] → va_S (va_A [(h0, .inr (0, [.ref q0])), (q0, .inl (cI, 32, .inl r0)), (h1, .inr (0, [.ref q1])), (q1, .inl (cI, 32, .inl r1)), (h2, .inr (0, [.ref q2])), (q2, .inl (cI, 32, .inl r2))] sz) s.heap H locs → W p l e { frames := 0, cells := 0, slots := 0, locals := 0 } s m ([.ref h0, .ref h1, .ref h2]).toArray below meth c H locs 0 0 (MQ below (va_Qv (fun (u : Nat → Int32) => ∀ j, j < 32 → u j = r1 j &&& (r2 j ^^^ (-1))) (fun u s9 => rk_at (dC, dI) [(cI, .int), (cZ, .boolean), (cJ, .long)] (va_A [(h0, .inr (0, [.ref q0])), (q0, .inl (cI, 32, .inl r0)), (h1, .inr (0, [.ref q1])), (q1, .inl (cI, 32, .inl r1)), (h2, .inr (0, [.ref q2])), (q2, .inl (cI, 32, .inl r2))] sz) [(h0, .inr (0, [.ref q0])), (q0, .inl (cI, 32, .inl u)), (h1, .inr (0, [.ref q1])), (q1, .inl (cI, 32, .inl r1)), (h2, .inr (0, [.ref q2])), (q2, .inl (cI, 32, .inl r2))] s9) (va_A [(h0, .inr (0, [.ref q0])), (q0, .inl (cI, 32, .inl r0)), (h1, .inr (0, [.ref q1])), (q1, .inl (cI, 32, .inl r1)), (h2, .inr (0, [.ref q2])), (q2, .inl (cI, 32, .inl r2))] sz)) ([.ref h0, .ref h1, .ref h2]).toArray s 0 0 (va_A [(h0, .inr (0, [.ref q0])), (q0, .inl (cI, 32, .inl r0)), (h1, .inr (0, [.ref q1])), (q1, .inl (cI, 32, .inl r1)), (h2, .inr (0, [.ref q2])), (q2, .inl (cI, 32, .inl r2))] sz)) (F0 m 2 ls []) := by
    intro kf
    induction kf with
    | zero => intro i hk hi x hx0; exact absurd hk (by omega)
    | succ kf ih =>
      intro i hk hi x hx0 ls H locs hl hP hD hS
      refine lv_iload_n hx hb d_P_becomeDifference_2 rfl (lv_at hl 0 rfl) ?_
      refine lv_bipush (v := nI 32) hx hb d_P_becomeDifference_3 (by decide) ?_
      refine lv_icmp_ge (tgt := 35) hx hb d_P_becomeDifference_5 (by decide) (fun hc => ?_) (fun hc => ?_)
      · have hc := (nI_leI (by omega) (by omega)).mp hc
        exact rk_vret (x) hx hb hr hlocks (fun j hj => hx0 j (by omega)) rfl hP hK hD hS d_P_becomeDifference_35
      · have hc := rk_gt (by omega) (by omega) hc
        refine lv_aload_n hx hb d_P_becomeDifference_8 rfl (lv_at hl 1 rfl) ?_
        refine va_get (D := (dC, dI)) (ci := 0) (v := .ref q0) (C := R_P) (T := F_P) (N := 1) hx hb htw u_P hown hK hP 0 rfl rfl 0 (by decide) (htw _ l_P_9) (fun _ h9 => h9) rfl d_P_becomeDifference_9 ?_
        refine lv_iload_n hx hb d_P_becomeDifference_12 rfl (lv_at hl 0 rfl) ?_
        refine lv_aload_n hx hb d_P_becomeDifference_13 rfl (lv_at hl 2 rfl) ?_
        refine va_get (D := (dC, dI)) (ci := 0) (v := .ref q1) (C := R_P) (T := F_P) (N := 1) hx hb htw u_P hown hK hP 2 rfl rfl 0 (by decide) (htw _ l_P_9) (fun _ h9 => h9) rfl d_P_becomeDifference_14 ?_
        refine lv_iload_n hx hb d_P_becomeDifference_17 rfl (lv_at hl 0 rfl) ?_
        refine va_iald hx hb hK hP 3 0 rfl rfl (vp_in_nI (n := i) (show i < 32 by omega) (by decide)) d_P_becomeDifference_18 ?_
        refine rk_top (y := r1 i) (congrArg r1 (nI_clamp (show i < 2 ^ 31 by omega))) ?_
        refine lv_aload_n hx hb d_P_becomeDifference_19 rfl (lv_at hl 3 rfl) ?_
        refine va_get (D := (dC, dI)) (ci := 0) (v := .ref q2) (C := R_P) (T := F_P) (N := 1) hx hb htw u_P hown hK hP 4 rfl rfl 0 (by decide) (htw _ l_P_9) (fun _ h9 => h9) rfl d_P_becomeDifference_20 ?_
        refine lv_iload_n hx hb d_P_becomeDifference_23 rfl (lv_at hl 0 rfl) ?_
        refine va_iald hx hb hK hP 5 0 rfl rfl (vp_in_nI (n := i) (show i < 32 by omega) (by decide)) d_P_becomeDifference_24 ?_
        refine rk_top (y := r2 i) (congrArg r2 (nI_clamp (show i < 2 ^ 31 by omega))) ?_
        refine lv_iconst (v := -1) hx hb d_P_becomeDifference_25 (by decide) ?_
        refine lv_ixor hx hb d_P_becomeDifference_26 ?_
        refine lv_iand hx hb d_P_becomeDifference_27 ?_
        refine va_iast hx hb hK hP hD hS 1 0 rfl rfl (vp_in_nI (n := i) (show i < 32 by omega) (by decide)) d_P_becomeDifference_28 (fun H locs hP hD hS => ?_)
        rw [nI_clamp (show i < 2 ^ 31 by omega)] at hP hD
        have hP : va_P (dC, dI) classes [(h0, .inr (0, [.ref q0])), (q0, .inl (cI, 32, .inl (upd x i ((r1 i) &&& ((r2 i) ^^^ (-1)))))), (h1, .inr (0, [.ref q1])), (q1, .inl (cI, 32, .inl r1)), (h2, .inr (0, [.ref q2])), (q2, .inl (cI, 32, .inl r2))] H := hP
        have hD : va_D _ [(h0, .inr (0, [.ref q0])), (q0, .inl (cI, 32, .inl (upd x i ((r1 i) &&& ((r2 i) ^^^ (-1)))))), (h1, .inr (0, [.ref q1])), (q1, .inl (cI, 32, .inl r1)), (h2, .inr (0, [.ref q2])), (q2, .inl (cI, 32, .inl r2))] := hD
        refine lv_iinc (k := 0) (v := nI (i + 1)) (lv' := [(3, .int (nI (i + 1))), (0, .ref h0), (1, .ref h1), (2, .ref h2)]) hx hb d_P_becomeDifference_29 hl rfl (nI_1 i) (by decide) rfl (fun ls hl => ?_)
        refine lv_goto (tgt := 2) hx hb d_P_becomeDifference_32 (by decide) ?_
        exact ih (i + 1) (by omega) (by omega) _ (rk_upd_lt (g := fun j => r1 j &&& (r2 j ^^^ (-1))) hx0 rfl) ls H locs hl hP hD hS
  exact lp 33 0 (by omega) (by omega) r0 (fun j hj => by omega) ls _ _ hl hP hD hS
set_option maxHeartbeats 4000000 in
set_option maxRecDepth 100000 in
theorem c_P_size (l : Launch) (dC : Nat → ClassId) (dI : Nat → Nat → Nat) (cI cZ cJ : ClassId) (sz : Nat) (h0 q0 : Nat) (r0 : Nat → Int32) : Met l y_P_size (.code y_P_size b_P_size 3 (some .int) :: WT) { frames := 1, cells := 0, slots := 0, locals := 20 } (va_Pc [.ref h0] (rk_pre (dC, dI) [(cI, .int), (cZ, .boolean), (cJ, .long)] sz [(h0, .inr (0, [.ref q0])), (q0, .inl (cI, 32, .inl r0))])) (va_Qi (fun (r : Int32) (u : Unit) => r = nI (rk_sz r0 32)) (fun _ s9 => rk_at (dC, dI) [(cI, .int), (cZ, .boolean), (cJ, .long)] (va_A [(h0, .inr (0, [.ref q0])), (q0, .inl (cI, 32, .inl r0))] sz) [(h0, .inr (0, [.ref q0])), (q0, .inl (cI, 32, .inl r0))] s9) (va_A [(h0, .inr (0, [.ref q0])), (q0, .inl (cI, 32, .inl r0))] sz)) 0 0 (va_A [(h0, .inr (0, [.ref q0])), (q0, .inl (cI, 32, .inl r0))] sz) := by
  refine rk_body (by decide) (Nat.le_of_ble_eq_true rfl) ?_
  intro p e s m below meth c hx hb hml hr htw hown hlocks hin hsz hP hK hD hA hS ls hl
  have hown : s.vm.findClass R_P = some m.cls := hown
  have hl : lv_has ls 3 [(0, .ref h0)] := hl
  refine lv_iconst (v := nI 0) hx hb d_P_size_0 (by decide) ?_
  refine lv_istore_n (lv' := [(1, .int (nI 0)), (0, .ref h0)]) hx hb d_P_size_1 rfl hl (by decide) rfl (fun ls hl => ?_)
  refine lv_iconst (v := nI 0) hx hb d_P_size_2 (by decide) ?_
  refine lv_istore_n (lv' := [(2, .int (nI 0)), (1, .int (nI 0)), (0, .ref h0)]) hx hb d_P_size_3 rfl hl (by decide) rfl (fun ls hl => ?_)
  have lp : ∀ (kf : Nat) (i : Nat), 32 - i < kf → i ≤ 32 → ∀ (ls : Array Slot) (H : Heap) (locs : List Loc), lv_has ls 3 [(2, .int (nI i)), (1, .int (nI (rk_sz r0 i))), (0, .ref h0)] → va_P (dC, dI) classes [(h0, .inr (0, [.ref q0])), (q0, .inl (cI, 32, .inl r0))] H → va_D (va_A [(h0, .inr (0, [.ref q0])), (q0, .inl (cI, 32, .inl r0))] sz) [(h0, .inr (0, [.ref q0])), (q0, .inl (cI, 32, .inl r0))] → va_S (va_A [(h0, .inr (0, [.ref q0])), (q0, .inl (cI, 32, .inl r0))] sz) s.heap H locs → W p l e { frames := 1, cells := 0, slots := 0, locals := 20 } s m ([.ref h0]).toArray below meth c H locs 0 0 (MQ below (va_Qi (fun (r : Int32) (u : Unit) => r = nI (rk_sz r0 32)) (fun _ s9 => rk_at (dC, dI) [(cI, .int), (cZ, .boolean), (cJ, .long)] (va_A [(h0, .inr (0, [.ref q0])), (q0, .inl (cI, 32, .inl r0))] sz) [(h0, .inr (0, [.ref q0])), (q0, .inl (cI, 32, .inl r0))] s9) (va_A [(h0, .inr (0, [.ref q0])), (q0, .inl (cI, 32, .inl r0))] sz)) ([.ref h0]).toArray s 0 0 (va_A [(h0, .inr (0, [.ref q0])), (q0, .inl (cI, 32, .inl r0))] sz)) (F0 m 4 ls []) := by
    intro kf
    induction kf with
    | zero => intro i hk hi; exact absurd hk (by omega)
    | succ kf ih =>
      intro i hk hi ls H locs hl hP hD hS
      refine lv_iload_n hx hb d_P_size_4 rfl (lv_at hl 0 rfl) ?_
      refine lv_bipush (v := nI 32) hx hb d_P_size_5 (by decide) ?_
      refine lv_icmp_ge (tgt := 28) hx hb d_P_size_7 (by decide) (fun hc => ?_) (fun hc => ?_)
      · have hc := (nI_leI (by omega) (by omega)).mp hc
        refine lv_iload_n hx hb d_P_size_28 rfl (lv_at hl 1 rfl) ?_
        exact rk_iret (()) hx hb hr hlocks (by rw [show i = 32 by omega]) rfl hP hK hD hS d_P_size_29
      · have hc := rk_gt (by omega) (by omega) hc
        refine lv_iload_n hx hb d_P_size_10 rfl (lv_at hl 1 rfl) ?_
        refine lv_aload_n hx hb d_P_size_11 rfl (lv_at hl 2 rfl) ?_
        refine va_get (D := (dC, dI)) (ci := 0) (v := .ref q0) (C := R_P) (T := F_P) (N := 1) hx hb htw u_P hown hK hP 0 rfl rfl 0 (by decide) (htw _ l_P_9) (fun _ h9 => h9) rfl d_P_size_12 ?_
        refine lv_iload_n hx hb d_P_size_15 rfl (lv_at hl 0 rfl) ?_
        refine va_iald hx hb hK hP 1 0 rfl rfl (vp_in_nI (n := i) (show i < 32 by omega) (by decide)) d_P_size_16 ?_
        refine rk_top (y := r0 i) (congrArg r0 (nI_clamp (show i < 2 ^ 31 by omega))) ?_
        refine rk_backi (wc := []) (wr := [(h0, .inr (0, [.ref q0])), (q0, .inl (cI, 32, .inl r0))]) (va_runS (As := [.int (r0 i)]) (rest := [.int (nI (rk_sz r0 i))]) ⟨hx, hb, hml, hown, htw⟩ (c_JI_bitCount l dC dI cI cZ cJ _ (r0 i)) (rk_cwS 1 htw gc_P_size_17 (by decide +kernel) ⟨(Nat.le_of_ble_eq_true rfl), (Nat.le_of_ble_eq_true rfl)⟩) (⟨rk_blind, rk_give (rk_psub (isC := []) hP rfl) hK (hD.sub [] rfl rfl)⟩) rfl rfl hl.1 rfl (lv_room (Nat.le_of_ble_eq_true rfl)) d_P_size_17 ⟨(Nat.le_of_ble_eq_true rfl), (Nat.le_of_ble_eq_true rfl)⟩) hP hD hS hA [] [0, 1] rfl rfl rfl (by decide) (fun x5 u5 H locs hp hP hD hS => ?_)
        subst hp
        have hP : va_P (dC, dI) classes [(h0, .inr (0, [.ref q0])), (q0, .inl (cI, 32, .inl r0))] H := hP
        have hD : va_D _ [(h0, .inr (0, [.ref q0])), (q0, .inl (cI, 32, .inl r0))] := hD
        refine lv_iadd hx hb d_P_size_20 ?_
        refine rk_top (y := nI (rk_sz r0 i + (rk_c (bt (r0 i)) 32))) (nI_add (rk_sz r0 i) (rk_c (bt (r0 i)) 32)) ?_
        refine lv_istore_n (lv' := [(1, .int (nI (rk_sz r0 i + (rk_c (bt (r0 i)) 32)))), (2, .int (nI i)), (0, .ref h0)]) hx hb d_P_size_21 rfl hl (by decide) rfl (fun ls hl => ?_)
        refine lv_iinc (k := 1) (v := nI (i + 1)) (lv' := [(2, .int (nI (i + 1))), (1, .int (nI (rk_sz r0 i + (rk_c (bt (r0 i)) 32)))), (0, .ref h0)]) hx hb d_P_size_22 hl rfl (nI_1 i) (by decide) rfl (fun ls hl => ?_)
        refine lv_goto (tgt := 4) hx hb d_P_size_25 (by decide) ?_
        exact ih (i + 1) (by omega) (by omega) ls H locs hl hP hD hS
  exact lp 33 0 (by omega) (by omega) ls _ _ hl hP hD hS
set_option maxHeartbeats 4000000 in
set_option maxRecDepth 100000 in
theorem c_P_bitAt (l : Launch) (dC : Nat → ClassId) (dI : Nat → Nat → Nat) (cI cZ cJ : ClassId) (sz : Nat) (x : Int32) (k : Nat) (hk0 : k < rk_c (bt x) 32) : Met l y_P_bitAt (.code y_P_bitAt b_P_bitAt 4 (some .int) :: WT) { frames := 1, cells := 0, slots := 0, locals := 21 } (va_Pc [.int x, .int (nI k)] (rk_pre (dC, dI) [(cI, .int), (cZ, .boolean), (cJ, .long)] sz [])) (va_Qi (fun (r : Int32) (u : Unit) => ∃ b, b < 32 ∧ bt x b = true ∧ rk_c (bt x) b = k ∧ r = nI b) (fun _ s9 => rk_at (dC, dI) [(cI, .int), (cZ, .boolean), (cJ, .long)] (va_A [] sz) [] s9) (va_A [] sz)) 0 0 (va_A [] sz) := by
  refine rk_body (by decide) (Nat.le_of_ble_eq_true rfl) ?_
  intro p e s m below meth c hx hb hml hr htw hown hlocks hin hsz hP hK hD hA hS ls hl
  have hown : s.vm.findClass R_P = some m.cls := hown
  have hl : lv_has ls 4 [(0, .int x), (1, .int (nI k))] := hl
  refine lv_iload_n hx hb d_P_bitAt_0 rfl (lv_at hl 1 rfl) ?_
  refine lv_istore_n (lv' := [(2, .int (nI k)), (0, .int x), (1, .int (nI k))]) hx hb d_P_bitAt_1 rfl hl (by decide) rfl (fun ls hl => ?_)
  refine lv_iconst (v := nI 0) hx hb d_P_bitAt_2 (by decide) ?_
  refine lv_istore_n (lv' := [(3, .int (nI 0)), (2, .int (nI k)), (0, .int x), (1, .int (nI k))]) hx hb d_P_bitAt_3 rfl hl (by decide) rfl (fun ls hl => ?_)
  have lp : ∀ (kf : Nat) (i : Nat), 32 - i < kf → i ≤ 32 → rk_c (bt x) i ≤ k → ∀ (ls : Array Slot) (H : Heap) (locs : List Loc), lv_has ls 4 [(3, .int (nI i)), (2, .int (nI (k - rk_c (bt x) i))), (0, .int x), (1, .int (nI k))] → va_P (dC, dI) classes [] H → va_D (va_A [] sz) [] → va_S (va_A [] sz) s.heap H locs → W p l e { frames := 1, cells := 0, slots := 0, locals := 21 } s m ([.int x, .int (nI k)]).toArray below meth c H locs 0 0 (MQ below (va_Qi (fun (r : Int32) (u : Unit) => ∃ b, b < 32 ∧ bt x b = true ∧ rk_c (bt x) b = k ∧ r = nI b) (fun _ s9 => rk_at (dC, dI) [(cI, .int), (cZ, .boolean), (cJ, .long)] (va_A [] sz) [] s9) (va_A [] sz)) ([.int x, .int (nI k)]).toArray s 0 0 (va_A [] sz)) (F0 m 4 ls []) := by
    intro kf
    induction kf with
    | zero => intro i hk hi hj; exact absurd hk (by omega)
    | succ kf ih =>
      intro i hk hi hj ls H locs hl hP hD hS
      have hkl := rk_c_le (bt x) 32
      refine lv_iload_n hx hb d_P_bitAt_4 rfl (lv_at hl 0 rfl) ?_
      refine lv_bipush (v := nI 32) hx hb d_P_bitAt_5 (by decide) ?_
      refine lv_icmp_ge (tgt := 33) hx hb d_P_bitAt_7 (by decide) (fun hc => ?_) (fun hc => ?_)
      · have hc := (nI_leI (by omega) (by omega)).mp hc
        rw [show i = 32 by omega] at hj
        exact absurd hj (by omega)
      · have hc := rk_gt (by omega) (by omega) hc
        refine lv_iload_n hx hb d_P_bitAt_10 rfl (lv_at hl 2 rfl) ?_
        refine lv_iload_n hx hb d_P_bitAt_11 rfl (lv_at hl 0 rfl) ?_
        refine rk_backi (wc := []) (wr := []) (va_runS (As := [.int x, .int (nI i)]) (rest := []) ⟨hx, hb, hml, hown, htw⟩ (c_P_hasBit l dC dI cI cZ cJ _ x i (by omega)) (rk_cwS 2 htw gc_P_bitAt_12 (by decide +kernel) ⟨(Nat.le_of_ble_eq_true rfl), (Nat.le_of_ble_eq_true rfl)⟩) (⟨rk_blind, rk_give (rk_psub (isC := []) hP rfl) hK (hD.sub [] rfl rfl)⟩) rfl rfl hl.1 rfl (lv_room (Nat.le_of_ble_eq_true rfl)) d_P_bitAt_12 ⟨(Nat.le_of_ble_eq_true rfl), (Nat.le_of_ble_eq_true rfl)⟩) hP hD hS hA [] [] rfl rfl rfl (by decide) (fun x5 u5 H locs hp hP hD hS => ?_)
        subst hp
        have hP : va_P (dC, dI) classes [] H := hP
        have hD : va_D _ [] := hD
        refine lv_if_eq (tgt := 27) hx hb d_P_bitAt_15 (by decide) (fun hc => ?_) (fun hc => ?_)
        · have hc2 := rk_c_f (zI_0.mp hc)
          refine lv_iinc (k := 0) (v := nI (i + 1)) (lv' := [(3, .int (nI (i + 1))), (2, .int (nI (k - rk_c (bt x) i))), (0, .int x), (1, .int (nI k))]) hx hb d_P_bitAt_27 hl rfl (nI_1 i) (by decide) rfl (fun ls hl => ?_)
          refine lv_goto (tgt := 4) hx hb d_P_bitAt_30 (by decide) ?_
          rw [← hc2] at hl
          exact ih (i + 1) (by omega) (by omega) (by omega) ls H locs hl hP hD hS
        · have hbi := zI_n.mp hc
          have hc2 := rk_c_t hbi
          refine lv_iload_n hx hb d_P_bitAt_18 rfl (lv_at hl 1 rfl) ?_
          refine lv_if_ne (tgt := 24) hx hb d_P_bitAt_19 (by decide) (fun hc => ?_) (fun hc => ?_)
          · have hlt : rk_c (bt x) i < k := by
              rcases Nat.lt_or_ge (rk_c (bt x) i) k with z | z
              · exact z
              · exact absurd (by rw [show k - rk_c (bt x) i = 0 by omega]; rfl) hc
            have hl : lv_has ls 4 [(3, .int (nI i)), (2, .int (nI (k - rk_c (bt x) (i + 1) + 1))), (0, .int x), (1, .int (nI k))] := by rw [show k - rk_c (bt x) (i + 1) + 1 = k - rk_c (bt x) i by omega]; exact hl
            refine lv_iinc (k := 1) (v := nI (k - rk_c (bt x) (i + 1))) (lv' := [(2, .int (nI (k - rk_c (bt x) (i + 1)))), (3, .int (nI i)), (0, .int x), (1, .int (nI k))]) hx hb d_P_bitAt_24 hl rfl (pk_m1 _) (by decide) rfl (fun ls hl => ?_)
            refine lv_iinc (k := 1) (v := nI (i + 1)) (lv' := [(3, .int (nI (i + 1))), (2, .int (nI (k - rk_c (bt x) (i + 1)))), (0, .int x), (1, .int (nI k))]) hx hb d_P_bitAt_27 hl rfl (nI_1 i) (by decide) rfl (fun ls hl => ?_)
            refine lv_goto (tgt := 4) hx hb d_P_bitAt_30 (by decide) ?_
            exact ih (i + 1) (by omega) (by omega) (by omega) ls H locs hl hP hD hS
          · have hz : k - rk_c (bt x) i = 0 := by rw [← nI_0, nI_eq (by omega) (by omega)] at hc; exact hc
            refine lv_iload_n hx hb d_P_bitAt_22 rfl (lv_at hl 0 rfl) ?_
            exact rk_iret (()) hx hb hr hlocks (⟨i, by omega, hbi, by omega, rfl⟩) rfl hP hK hD hS d_P_bitAt_23
  exact lp 33 0 (by omega) (by omega) (Nat.zero_le _) ls _ _ hl hP hD hS
set_option maxHeartbeats 4000000 in
set_option maxRecDepth 100000 in
theorem c_P_joinWays (l : Launch) (dC : Nat → ClassId) (dI : Nat → Nat → Nat) (cI cZ cJ : ClassId) (sz : Nat) (h0 q0 : Nat) (r0 : Nat → Int32) (f0 : Nat → Bool) (hR : rk_R r0 f0) : Met l y_P_joinWays (.code y_P_joinWays b_P_joinWays 3 none :: WT) { frames := 2, cells := 0, slots := 0, locals := 43 } (va_Pc [.ref h0] (rk_pre (dC, dI) [(cI, .int), (cZ, .boolean), (cJ, .long)] sz [(h0, .inr (0, [.ref q0])), (q0, .inl (cI, 32, .inl r0))])) (va_Qv (fun (u : Nat → Int32) => rk_R u (rk_jv 32 f0)) (fun u s9 => rk_at (dC, dI) [(cI, .int), (cZ, .boolean), (cJ, .long)] (va_A [(h0, .inr (0, [.ref q0])), (q0, .inl (cI, 32, .inl r0))] sz) [(h0, .inr (0, [.ref q0])), (q0, .inl (cI, 32, .inl u))] s9) (va_A [(h0, .inr (0, [.ref q0])), (q0, .inl (cI, 32, .inl r0))] sz)) 0 0 (va_A [(h0, .inr (0, [.ref q0])), (q0, .inl (cI, 32, .inl r0))] sz) := by
  refine rk_body (by decide) (Nat.le_of_ble_eq_true rfl) ?_
  intro p e s m below meth c hx hb hml hr htw hown hlocks hin hsz hP hK hD hA hS ls hl
  have hown : s.vm.findClass R_P = some m.cls := hown
  have hl : lv_has ls 3 [(0, .ref h0)] := hl
  refine lv_iconst (v := nI 0) hx hb d_P_joinWays_0 (by decide) ?_
  refine lv_istore_n (lv' := [(1, .int (nI 0)), (0, .ref h0)]) hx hb d_P_joinWays_1 rfl hl (by decide) rfl (fun ls hl => ?_)
  have lp : ∀ (kf : Nat) (v : Nat), 32 - v < kf → v ≤ 32 → ∀ x : Nat → Int32, rk_R x (rk_jv v f0) → ∀ (ls : Array Slot) (H : Heap) (locs : List Loc), lv_has ls 3 [(1, .int (nI v)), (0, .ref h0)] → va_P (dC, dI) classes [(h0, .inr (0, [.ref q0])), (q0, .inl (cI, 32, .inl x))] H → va_D (va_A [(h0, .inr (0, [.ref q0])), (q0, .inl (cI, 32, .inl r0))] sz) [(h0, .inr (0, [.ref q0])), (q0, .inl (cI, 32, .inl x))] → va_S (va_A [(h0, .inr (0, [.ref q0])), (q0, .inl (cI, 32, .inl r0))] sz) s.heap H locs → W p l e { frames := 2, cells := 0, slots := 0, locals := 43 } s m ([.ref h0]).toArray below meth c H locs 0 0 (MQ below (va_Qv (fun (u : Nat → Int32) => rk_R u (rk_jv 32 f0)) (fun u s9 => rk_at (dC, dI) [(cI, .int), (cZ, .boolean), (cJ, .long)] (va_A [(h0, .inr (0, [.ref q0])), (q0, .inl (cI, 32, .inl r0))] sz) [(h0, .inr (0, [.ref q0])), (q0, .inl (cI, 32, .inl u))] s9) (va_A [(h0, .inr (0, [.ref q0])), (q0, .inl (cI, 32, .inl r0))] sz)) ([.ref h0]).toArray s 0 0 (va_A [(h0, .inr (0, [.ref q0])), (q0, .inl (cI, 32, .inl r0))] sz)) (F0 m 2 ls []) := by
    intro kf
    induction kf with
    | zero => intro v hk hv x hx0; exact absurd hk (by omega)
    | succ kf ih =>
      intro v hk hv x hx0 ls H locs hl hP hD hS
      refine lv_iload_n hx hb d_P_joinWays_2 rfl (lv_at hl 0 rfl) ?_
      refine lv_bipush (v := nI 32) hx hb d_P_joinWays_3 (by decide) ?_
      refine lv_icmp_ge (tgt := 52) hx hb d_P_joinWays_5 (by decide) (fun hc => ?_) (fun hc => ?_)
      · have hc := (nI_leI (by omega) (by omega)).mp hc
        exact rk_vret (x) hx hb hr hlocks (by rw [show v = 32 by omega] at hx0; exact hx0) rfl hP hK hD hS d_P_joinWays_52
      · have hc := rk_gt (by omega) (by omega) hc
        refine lv_iconst (v := nI 0) hx hb d_P_joinWays_8 (by decide) ?_
        refine lv_istore_n (lv' := [(2, .int (nI 0)), (1, .int (nI v)), (0, .ref h0)]) hx hb d_P_joinWays_9 rfl hl (by decide) rfl (fun ls hl => ?_)
        have lp2 : ∀ (kf2 : Nat) (a : Nat), 32 - a < kf2 → a ≤ 32 → ∀ y : Nat → Int32, rk_R y (rk_ja v a (rk_jv v f0)) → ∀ (ls : Array Slot) (H : Heap) (locs : List Loc), lv_has ls 3 [(2, .int (nI a)), (1, .int (nI v)), (0, .ref h0)] → va_P (dC, dI) classes [(h0, .inr (0, [.ref q0])), (q0, .inl (cI, 32, .inl y))] H → va_D (va_A [(h0, .inr (0, [.ref q0])), (q0, .inl (cI, 32, .inl r0))] sz) [(h0, .inr (0, [.ref q0])), (q0, .inl (cI, 32, .inl y))] → va_S (va_A [(h0, .inr (0, [.ref q0])), (q0, .inl (cI, 32, .inl r0))] sz) s.heap H locs → W p l e { frames := 2, cells := 0, slots := 0, locals := 43 } s m ([.ref h0]).toArray below meth c H locs 0 0 (MQ below (va_Qv (fun (u : Nat → Int32) => rk_R u (rk_jv 32 f0)) (fun u s9 => rk_at (dC, dI) [(cI, .int), (cZ, .boolean), (cJ, .long)] (va_A [(h0, .inr (0, [.ref q0])), (q0, .inl (cI, 32, .inl r0))] sz) [(h0, .inr (0, [.ref q0])), (q0, .inl (cI, 32, .inl u))] s9) (va_A [(h0, .inr (0, [.ref q0])), (q0, .inl (cI, 32, .inl r0))] sz)) ([.ref h0]).toArray s 0 0 (va_A [(h0, .inr (0, [.ref q0])), (q0, .inl (cI, 32, .inl r0))] sz)) (F0 m 10 ls []) := by
          intro kf2
          induction kf2 with
          | zero => intro a hk2 ha y hy0; exact absurd hk2 (by omega)
          | succ kf2 ih2 =>
            intro a hk2 ha y hy0 ls H locs hl hP hD hS
            refine lv_iload_n hx hb d_P_joinWays_10 rfl (lv_at hl 0 rfl) ?_
            refine lv_bipush (v := nI 32) hx hb d_P_joinWays_11 (by decide) ?_
            refine lv_icmp_ge (tgt := 46) hx hb d_P_joinWays_13 (by decide) (fun hc2 => ?_) (fun hc2 => ?_)
            · have hc2 := (nI_leI (by omega) (by omega)).mp hc2
              have hl := lv_sub (l' := [(1, .int (nI v)), (0, .ref h0)]) hl [1, 2] rfl
              refine lv_iinc (k := 0) (v := nI (v + 1)) (lv' := [(1, .int (nI (v + 1))), (0, .ref h0)]) hx hb d_P_joinWays_46 hl rfl (nI_1 v) (by decide) rfl (fun ls hl => ?_)
              refine lv_goto (tgt := 2) hx hb d_P_joinWays_49 (by decide) ?_
              exact ih (v + 1) (by omega) (by omega) y (by rw [show a = 32 by omega] at hy0; exact hy0) ls H locs hl hP hD hS
            · have hc2 := rk_gt (by omega) (by omega) hc2
              refine lv_aload_n hx hb d_P_joinWays_16 rfl (lv_at hl 2 rfl) ?_
              refine lv_iload_n hx hb d_P_joinWays_17 rfl (lv_at hl 0 rfl) ?_
              refine lv_iload_n hx hb d_P_joinWays_18 rfl (lv_at hl 1 rfl) ?_
              refine rk_backi (wc := [(h0, .inr (0, [.ref q0])), (q0, .inl (cI, 32, .inl y))]) (wr := []) (va_runV (As := [.int (nI a), .int (nI v)]) (rest := []) ⟨hx, hb, hml, hown, htw⟩ (c_P_has l dC dI cI cZ cJ _ h0 q0 y a v (by omega) (by omega)) (rk_cwV 2 htw gc_P_joinWays_19 (by decide +kernel) ⟨(Nat.le_of_ble_eq_true rfl), (Nat.le_of_ble_eq_true rfl)⟩) (⟨rk_blind, va_recv hK hP (ci := 0) rfl (q0 := 0) rfl, rk_give (rk_psub (isC := [0, 1]) hP rfl) hK (hD.sub [0, 1] rfl rfl)⟩) rfl rfl hl.1 rfl (lv_room (Nat.le_of_ble_eq_true rfl)) d_P_joinWays_19 ⟨(Nat.le_of_ble_eq_true rfl), (Nat.le_of_ble_eq_true rfl)⟩) hP hD hS hA [0, 1] [] rfl rfl rfl (by decide) (fun x5 u5 H locs hp hP hD hS => ?_)
              subst hp
              have hP : va_P (dC, dI) classes [(h0, .inr (0, [.ref q0])), (q0, .inl (cI, 32, .inl y))] H := hP
              have hD : va_D _ [(h0, .inr (0, [.ref q0])), (q0, .inl (cI, 32, .inl y))] := hD
              refine lv_if_eq (tgt := 40) hx hb d_P_joinWays_22 (by decide) (fun hc3 => ?_) (fun hc3 => ?_)
              · refine lv_iinc (k := 0) (v := nI (a + 1)) (lv' := [(2, .int (nI (a + 1))), (1, .int (nI v)), (0, .ref h0)]) hx hb d_P_joinWays_40 hl rfl (nI_1 a) (by decide) rfl (fun ls hl => ?_)
                refine lv_goto (tgt := 10) hx hb d_P_joinWays_43 (by decide) ?_
                exact ih2 (a + 1) (by omega) (by omega) y (rk_j_N hy0 (by omega) (by omega) (zI_0.mp hc3)) ls H locs hl hP hD hS
              · refine lv_aload_n hx hb d_P_joinWays_25 rfl (lv_at hl 2 rfl) ?_
                refine va_get (D := (dC, dI)) (ci := 0) (v := .ref q0) (C := R_P) (T := F_P) (N := 1) hx hb htw u_P hown hK hP 0 rfl rfl 0 (by decide) (htw _ l_P_9) (fun _ h9 => h9) rfl d_P_joinWays_26 ?_
                refine lv_iload_n hx hb d_P_joinWays_29 rfl (lv_at hl 0 rfl) ?_
                refine lv_dup2_11 hx hb d_P_joinWays_30 rfl rfl ?_
                refine va_iald hx hb hK hP 1 0 rfl rfl (vp_in_nI (n := a) (show a < 32 by omega) (by decide)) d_P_joinWays_31 ?_
                refine rk_top (y := y a) (congrArg y (nI_clamp (show a < 2 ^ 31 by omega))) ?_
                refine lv_aload_n hx hb d_P_joinWays_32 rfl (lv_at hl 2 rfl) ?_
                refine va_get (D := (dC, dI)) (ci := 0) (v := .ref q0) (C := R_P) (T := F_P) (N := 1) hx hb htw u_P hown hK hP 0 rfl rfl 0 (by decide) (htw _ l_P_9) (fun _ h9 => h9) rfl d_P_joinWays_33 ?_
                refine lv_iload_n hx hb d_P_joinWays_36 rfl (lv_at hl 1 rfl) ?_
                refine va_iald hx hb hK hP 1 0 rfl rfl (vp_in_nI (n := v) (show v < 32 by omega) (by decide)) d_P_joinWays_37 ?_
                refine rk_top (y := y v) (congrArg y (nI_clamp (show v < 2 ^ 31 by omega))) ?_
                refine lv_ior hx hb d_P_joinWays_38 ?_
                refine va_iast hx hb hK hP hD hS 1 0 rfl rfl (vp_in_nI (n := a) (show a < 32 by omega) (by decide)) d_P_joinWays_39 (fun H locs hP hD hS => ?_)
                rw [nI_clamp (show a < 2 ^ 31 by omega)] at hP hD
                have hP : va_P (dC, dI) classes [(h0, .inr (0, [.ref q0])), (q0, .inl (cI, 32, .inl (upd y a ((y a) ||| (y v)))))] H := hP
                have hD : va_D _ [(h0, .inr (0, [.ref q0])), (q0, .inl (cI, 32, .inl (upd y a ((y a) ||| (y v)))))] := hD
                refine lv_iinc (k := 0) (v := nI (a + 1)) (lv' := [(2, .int (nI (a + 1))), (1, .int (nI v)), (0, .ref h0)]) hx hb d_P_joinWays_40 hl rfl (nI_1 a) (by decide) rfl (fun ls hl => ?_)
                refine lv_goto (tgt := 10) hx hb d_P_joinWays_43 (by decide) ?_
                exact ih2 (a + 1) (by omega) (by omega) _ (rk_j_R hy0 (by omega) (by omega) (zI_n.mp hc3)) ls H locs hl hP hD hS
        exact lp2 33 0 (by omega) (by omega) x hx0 ls _ _ hl hP hD hS
  exact lp 33 0 (by omega) (by omega) r0 hR ls _ _ hl hP hD hS
set_option maxHeartbeats 4000000 in
set_option maxRecDepth 100000 in
theorem c_P_oneStepFrom (l : Launch) (dC : Nat → ClassId) (dI : Nat → Nat → Nat) (cI cZ cJ : ClassId) (sz : Nat) (h0 q0 : Nat) (r0 : Nat → Int32) (f0 : Nat → Bool) (hR : rk_R r0 f0) (vs : Int32) : Met l y_P_oneStepFrom (.code y_P_oneStepFrom b_P_oneStepFrom 4 (some .int) :: WT) { frames := 1, cells := 0, slots := 0, locals := 21 } (va_Pc [.ref h0, .int vs] (rk_pre (dC, dI) [(cI, .int), (cZ, .boolean), (cJ, .long)] sz [(h0, .inr (0, [.ref q0])), (q0, .inl (cI, 32, .inl r0))])) (va_Qi (fun (r : Int32) (u : Unit) => ∀ b, b < 32 → bt r b = rk_any (fun v => bt vs v && f0 (32 * v + b)) 32) (fun _ s9 => rk_at (dC, dI) [(cI, .int), (cZ, .boolean), (cJ, .long)] (va_A [(h0, .inr (0, [.ref q0])), (q0, .inl (cI, 32, .inl r0))] sz) [(h0, .inr (0, [.ref q0])), (q0, .inl (cI, 32, .inl r0))] s9) (va_A [(h0, .inr (0, [.ref q0])), (q0, .inl (cI, 32, .inl r0))] sz)) 0 0 (va_A [(h0, .inr (0, [.ref q0])), (q0, .inl (cI, 32, .inl r0))] sz) := by
  refine rk_body (by decide) (Nat.le_of_ble_eq_true rfl) ?_
  intro p e s m below meth c hx hb hml hr htw hown hlocks hin hsz hP hK hD hA hS ls hl
  have hown : s.vm.findClass R_P = some m.cls := hown
  have hl : lv_has ls 4 [(0, .ref h0), (1, .int vs)] := hl
  refine lv_iconst (v := nI 0) hx hb d_P_oneStepFrom_0 (by decide) ?_
  refine lv_istore_n (lv' := [(2, .int (nI 0)), (0, .ref h0), (1, .int vs)]) hx hb d_P_oneStepFrom_1 rfl hl (by decide) rfl (fun ls hl => ?_)
  refine lv_iconst (v := nI 0) hx hb d_P_oneStepFrom_2 (by decide) ?_
  refine lv_istore_n (lv' := [(3, .int (nI 0)), (2, .int (nI 0)), (0, .ref h0), (1, .int vs)]) hx hb d_P_oneStepFrom_3 rfl hl (by decide) rfl (fun ls hl => ?_)
  have lp : ∀ (kf : Nat) (i : Nat), 32 - i < kf → i ≤ 32 → ∀ x : Int32, (∀ b, b < 32 → bt x b = rk_any (fun v => bt vs v && f0 (32 * v + b)) i) → ∀ (ls : Array Slot) (H : Heap) (locs : List Loc), lv_has ls 4 [(3, .int (nI i)), (2, .int x), (0, .ref h0), (1, .int vs)] → va_P (dC, dI) classes [(h0, .inr (0, [.ref q0])), (q0, .inl (cI, 32, .inl r0))] H → va_D (va_A [(h0, .inr (0, [.ref q0])), (q0, .inl (cI, 32, .inl r0))] sz) [(h0, .inr (0, [.ref q0])), (q0, .inl (cI, 32, .inl r0))] → va_S (va_A [(h0, .inr (0, [.ref q0])), (q0, .inl (cI, 32, .inl r0))] sz) s.heap H locs → W p l e { frames := 1, cells := 0, slots := 0, locals := 21 } s m ([.ref h0, .int vs]).toArray below meth c H locs 0 0 (MQ below (va_Qi (fun (r : Int32) (u : Unit) => ∀ b, b < 32 → bt r b = rk_any (fun v => bt vs v && f0 (32 * v + b)) 32) (fun _ s9 => rk_at (dC, dI) [(cI, .int), (cZ, .boolean), (cJ, .long)] (va_A [(h0, .inr (0, [.ref q0])), (q0, .inl (cI, 32, .inl r0))] sz) [(h0, .inr (0, [.ref q0])), (q0, .inl (cI, 32, .inl r0))] s9) (va_A [(h0, .inr (0, [.ref q0])), (q0, .inl (cI, 32, .inl r0))] sz)) ([.ref h0, .int vs]).toArray s 0 0 (va_A [(h0, .inr (0, [.ref q0])), (q0, .inl (cI, 32, .inl r0))] sz)) (F0 m 4 ls []) := by
    intro kf
    induction kf with
    | zero => intro i hk hi x hx0; exact absurd hk (by omega)
    | succ kf ih =>
      intro i hk hi x hx0 ls H locs hl hP hD hS
      refine lv_iload_n hx hb d_P_oneStepFrom_4 rfl (lv_at hl 0 rfl) ?_
      refine lv_bipush (v := nI 32) hx hb d_P_oneStepFrom_5 (by decide) ?_
      refine lv_icmp_ge (tgt := 33) hx hb d_P_oneStepFrom_7 (by decide) (fun hc => ?_) (fun hc => ?_)
      · have hc := (nI_leI (by omega) (by omega)).mp hc
        refine lv_iload_n hx hb d_P_oneStepFrom_33 rfl (lv_at hl 1 rfl) ?_
        exact rk_iret (()) hx hb hr hlocks (by rw [show i = 32 by omega] at hx0; exact hx0) rfl hP hK hD hS d_P_oneStepFrom_34
      · have hc := rk_gt (by omega) (by omega) hc
        refine lv_iload_n hx hb d_P_oneStepFrom_10 rfl (lv_at hl 3 rfl) ?_
        refine lv_iload_n hx hb d_P_oneStepFrom_11 rfl (lv_at hl 0 rfl) ?_
        refine rk_backi (wc := []) (wr := [(h0, .inr (0, [.ref q0])), (q0, .inl (cI, 32, .inl r0))]) (va_runS (As := [.int vs, .int (nI i)]) (rest := []) ⟨hx, hb, hml, hown, htw⟩ (c_P_hasBit l dC dI cI cZ cJ _ vs i (by omega)) (rk_cwS 2 htw gc_P_oneStepFrom_12 (by decide +kernel) ⟨(Nat.le_of_ble_eq_true rfl), (Nat.le_of_ble_eq_true rfl)⟩) (⟨rk_blind, rk_give (rk_psub (isC := []) hP rfl) hK (hD.sub [] rfl rfl)⟩) rfl rfl hl.1 rfl (lv_room (Nat.le_of_ble_eq_true rfl)) d_P_oneStepFrom_12 ⟨(Nat.le_of_ble_eq_true rfl), (Nat.le_of_ble_eq_true rfl)⟩) hP hD hS hA [] [0, 1] rfl rfl rfl (by decide) (fun x5 u5 H locs hp hP hD hS => ?_)
        subst hp
        have hP : va_P (dC, dI) classes [(h0, .inr (0, [.ref q0])), (q0, .inl (cI, 32, .inl r0))] H := hP
        have hD : va_D _ [(h0, .inr (0, [.ref q0])), (q0, .inl (cI, 32, .inl r0))] := hD
        refine lv_if_eq (tgt := 27) hx hb d_P_oneStepFrom_15 (by decide) (fun hc3 => ?_) (fun hc3 => ?_)
        · refine lv_iinc (k := 0) (v := nI (i + 1)) (lv' := [(3, .int (nI (i + 1))), (2, .int x), (0, .ref h0), (1, .int vs)]) hx hb d_P_oneStepFrom_27 hl rfl (nI_1 i) (by decide) rfl (fun ls hl => ?_)
          refine lv_goto (tgt := 4) hx hb d_P_oneStepFrom_30 (by decide) ?_
          exact ih (i + 1) (by omega) (by omega) x (fun b hb9 => by rw [rk_any_s, hx0 b hb9, zI_0.mp hc3, Bool.false_and, Bool.or_false]) ls H locs hl hP hD hS
        · refine lv_iload_n hx hb d_P_oneStepFrom_18 rfl (lv_at hl 1 rfl) ?_
          refine lv_aload_n hx hb d_P_oneStepFrom_19 rfl (lv_at hl 2 rfl) ?_
          refine va_get (D := (dC, dI)) (ci := 0) (v := .ref q0) (C := R_P) (T := F_P) (N := 1) hx hb htw u_P hown hK hP 0 rfl rfl 0 (by decide) (htw _ l_P_9) (fun _ h9 => h9) rfl d_P_oneStepFrom_20 ?_
          refine lv_iload_n hx hb d_P_oneStepFrom_23 rfl (lv_at hl 0 rfl) ?_
          refine va_iald hx hb hK hP 1 0 rfl rfl (vp_in_nI (n := i) (show i < 32 by omega) (by decide)) d_P_oneStepFrom_24 ?_
          refine rk_top (y := r0 i) (congrArg r0 (nI_clamp (show i < 2 ^ 31 by omega))) ?_
          refine lv_ior hx hb d_P_oneStepFrom_25 ?_
          refine lv_istore_n (lv' := [(2, .int (x ||| (r0 i))), (3, .int (nI i)), (0, .ref h0), (1, .int vs)]) hx hb d_P_oneStepFrom_26 rfl hl (by decide) rfl (fun ls hl => ?_)
          refine lv_iinc (k := 1) (v := nI (i + 1)) (lv' := [(3, .int (nI (i + 1))), (2, .int (x ||| (r0 i))), (0, .ref h0), (1, .int vs)]) hx hb d_P_oneStepFrom_27 hl rfl (nI_1 i) (by decide) rfl (fun ls hl => ?_)
          refine lv_goto (tgt := 4) hx hb d_P_oneStepFrom_30 (by decide) ?_
          exact ih (i + 1) (by omega) (by omega) _ (fun b hb9 => by rw [b_or, rk_any_s, hx0 b hb9, zI_n.mp hc3, Bool.true_and, hR i (by omega) b hb9]) ls H locs hl hP hD hS
  exact lp 33 0 (by omega) (by omega) (nI 0) (fun b hb9 => b_0 b) ls _ _ hl hP hD hS
set_option maxHeartbeats 4000000 in
set_option maxRecDepth 100000 in
theorem c_P_shortestWay (l : Launch) (dC : Nat → ClassId) (dI : Nat → Nat → Nat) (cI cZ cJ : ClassId) (sz : Nat) (h0 q0 : Nat) (r0 : Nat → Int32) (f0 : Nat → Bool) (hR : rk_R r0 f0) (a b : Nat) (ha : a < 32) (hb32 : b < 32) : Met l y_P_shortestWay (.code y_P_shortestWay b_P_shortestWay 5 (some .int) :: WT) { frames := 2, cells := 0, slots := 0, locals := 44 } (va_Pc [.ref h0, .int (nI a), .int (nI b)] (rk_pre (dC, dI) [(cI, .int), (cZ, .boolean), (cJ, .long)] sz [(h0, .inr (0, [.ref q0])), (q0, .inl (cI, 32, .inl r0))])) (va_Qi (fun (r : Int32) (u : Unit) => rk_dist f0 a b r) (fun _ s9 => rk_at (dC, dI) [(cI, .int), (cZ, .boolean), (cJ, .long)] (va_A [(h0, .inr (0, [.ref q0])), (q0, .inl (cI, 32, .inl r0))] sz) [(h0, .inr (0, [.ref q0])), (q0, .inl (cI, 32, .inl r0))] s9) (va_A [(h0, .inr (0, [.ref q0])), (q0, .inl (cI, 32, .inl r0))] sz)) 0 0 (va_A [(h0, .inr (0, [.ref q0])), (q0, .inl (cI, 32, .inl r0))] sz) := by
  refine rk_body (by decide) (Nat.le_of_ble_eq_true rfl) ?_
  intro p e s m below meth c hx hb hml hr htw hown hlocks hin hsz hP hK hD hA hS ls hl
  have hown : s.vm.findClass R_P = some m.cls := hown
  have hl : lv_has ls 5 [(0, .ref h0), (1, .int (nI a)), (2, .int (nI b))] := hl
  refine lv_aload_n hx hb d_P_shortestWay_0 rfl (lv_at hl 0 rfl) ?_
  refine va_get (D := (dC, dI)) (ci := 0) (v := .ref q0) (C := R_P) (T := F_P) (N := 1) hx hb htw u_P hown hK hP 0 rfl rfl 0 (by decide) (htw _ l_P_9) (fun _ h9 => h9) rfl d_P_shortestWay_1 ?_
  refine lv_iload_n hx hb d_P_shortestWay_4 rfl (lv_at hl 1 rfl) ?_
  refine va_iald hx hb hK hP 1 0 rfl rfl (vp_in_nI (n := a) (show a < 32 by omega) (by decide)) d_P_shortestWay_5 ?_
  refine rk_top (y := r0 a) (congrArg r0 (nI_clamp (show a < 2 ^ 31 by omega))) ?_
  refine lv_istore_n (lv' := [(3, .int (r0 a)), (0, .ref h0), (1, .int (nI a)), (2, .int (nI b))]) hx hb d_P_shortestWay_6 rfl hl (by decide) rfl (fun ls hl => ?_)
  refine lv_iconst (v := nI 1) hx hb d_P_shortestWay_7 (by decide) ?_
  refine lv_istore (lv' := [(4, .int (nI 1)), (3, .int (r0 a)), (0, .ref h0), (1, .int (nI a)), (2, .int (nI b))]) hx hb d_P_shortestWay_8 hl (by decide) rfl (fun ls hl => ?_)
  have lp : ∀ (kf : Nat) (i : Nat), 32 - i < kf → i ≤ 32 → ∀ x : Int32, (∀ b, b < 32 → bt x b = rk_w f0 a i b) → (∀ j, j < i → rk_w f0 a j b = false) → ∀ (ls : Array Slot) (H : Heap) (locs : List Loc), lv_has ls 5 [(4, .int (nI (i + 1))), (3, .int x), (0, .ref h0), (1, .int (nI a)), (2, .int (nI b))] → va_P (dC, dI) classes [(h0, .inr (0, [.ref q0])), (q0, .inl (cI, 32, .inl r0))] H → va_D (va_A [(h0, .inr (0, [.ref q0])), (q0, .inl (cI, 32, .inl r0))] sz) [(h0, .inr (0, [.ref q0])), (q0, .inl (cI, 32, .inl r0))] → va_S (va_A [(h0, .inr (0, [.ref q0])), (q0, .inl (cI, 32, .inl r0))] sz) s.heap H locs → W p l e { frames := 2, cells := 0, slots := 0, locals := 44 } s m ([.ref h0, .int (nI a), .int (nI b)]).toArray below meth c H locs 0 0 (MQ below (va_Qi (fun (r : Int32) (u : Unit) => rk_dist f0 a b r) (fun _ s9 => rk_at (dC, dI) [(cI, .int), (cZ, .boolean), (cJ, .long)] (va_A [(h0, .inr (0, [.ref q0])), (q0, .inl (cI, 32, .inl r0))] sz) [(h0, .inr (0, [.ref q0])), (q0, .inl (cI, 32, .inl r0))] s9) (va_A [(h0, .inr (0, [.ref q0])), (q0, .inl (cI, 32, .inl r0))] sz)) ([.ref h0, .int (nI a), .int (nI b)]).toArray s 0 0 (va_A [(h0, .inr (0, [.ref q0])), (q0, .inl (cI, 32, .inl r0))] sz)) (F0 m 10 ls []) := by
    intro kf
    induction kf with
    | zero => intro i hk hi x hx0 hn; exact absurd hk (by omega)
    | succ kf ih =>
      intro i hk hi x hx0 hn ls H locs hl hP hD hS
      refine lv_iload hx hb d_P_shortestWay_10 (lv_at hl 0 rfl) ?_
      refine lv_bipush (v := nI 32) hx hb d_P_shortestWay_12 (by decide) ?_
      refine lv_icmp_gt (tgt := 42) hx hb d_P_shortestWay_14 (by decide) (fun hc => ?_) (fun hc => ?_)
      · have hc := (nI_ltI (by omega) (by omega)).mp hc
        refine lv_iconst (v := -1) hx hb d_P_shortestWay_42 (by decide) ?_
        exact rk_iret (()) hx hb hr hlocks (Or.inr ⟨fun k hk9 => hn k (by omega), rfl⟩) rfl hP hK hD hS d_P_shortestWay_43
      · have hc := rk_ge (by omega) (by omega) hc
        refine lv_iload_n hx hb d_P_shortestWay_17 rfl (lv_at hl 1 rfl) ?_
        refine lv_iload_n hx hb d_P_shortestWay_18 rfl (lv_at hl 4 rfl) ?_
        refine rk_backi (wc := []) (wr := [(h0, .inr (0, [.ref q0])), (q0, .inl (cI, 32, .inl r0))]) (va_runS (As := [.int x, .int (nI b)]) (rest := []) ⟨hx, hb, hml, hown, htw⟩ (c_P_hasBit l dC dI cI cZ cJ _ x b hb32) (rk_cwS 2 htw gc_P_shortestWay_19 (by decide +kernel) ⟨(Nat.le_of_ble_eq_true rfl), (Nat.le_of_ble_eq_true rfl)⟩) (⟨rk_blind, rk_give (rk_psub (isC := []) hP rfl) hK (hD.sub [] rfl rfl)⟩) rfl rfl hl.1 rfl (lv_room (Nat.le_of_ble_eq_true rfl)) d_P_shortestWay_19 ⟨(Nat.le_of_ble_eq_true rfl), (Nat.le_of_ble_eq_true rfl)⟩) hP hD hS hA [] [0, 1] rfl rfl rfl (by decide) (fun x5 u5 H locs hp hP hD hS => ?_)
        subst hp
        have hP : va_P (dC, dI) classes [(h0, .inr (0, [.ref q0])), (q0, .inl (cI, 32, .inl r0))] H := hP
        have hD : va_D _ [(h0, .inr (0, [.ref q0])), (q0, .inl (cI, 32, .inl r0))] := hD
        refine lv_if_eq (tgt := 28) hx hb d_P_shortestWay_22 (by decide) (fun hc3 => ?_) (fun hc3 => ?_)
        · have hxb := zI_0.mp hc3
          refine lv_iload_n hx hb d_P_shortestWay_28 rfl (lv_at hl 1 rfl) ?_
          refine lv_aload_n hx hb d_P_shortestWay_29 rfl (lv_at hl 2 rfl) ?_
          refine lv_iload_n hx hb d_P_shortestWay_30 rfl (lv_at hl 1 rfl) ?_
          refine rk_backi (wc := [(h0, .inr (0, [.ref q0])), (q0, .inl (cI, 32, .inl r0))]) (wr := []) (va_runV (As := [.int x]) (rest := [.int x]) ⟨hx, hb, hml, hown, htw⟩ (c_P_oneStepFrom l dC dI cI cZ cJ _ h0 q0 r0 f0 hR x) (rk_cwV 1 htw gc_P_shortestWay_31 (by decide +kernel) ⟨(Nat.le_of_ble_eq_true rfl), (Nat.le_of_ble_eq_true rfl)⟩) (⟨rk_blind, va_recv hK hP (ci := 0) rfl (q0 := 0) rfl, rk_give (rk_psub (isC := [0, 1]) hP rfl) hK (hD.sub [0, 1] rfl rfl)⟩) rfl rfl hl.1 rfl (lv_room (Nat.le_of_ble_eq_true rfl)) d_P_shortestWay_31 ⟨(Nat.le_of_ble_eq_true rfl), (Nat.le_of_ble_eq_true rfl)⟩) hP hD hS hA [0, 1] [] rfl rfl rfl (by decide) (fun x6 u6 H locs hp6 hP hD hS => ?_)
          have hP : va_P (dC, dI) classes [(h0, .inr (0, [.ref q0])), (q0, .inl (cI, 32, .inl r0))] H := hP
          have hD : va_D _ [(h0, .inr (0, [.ref q0])), (q0, .inl (cI, 32, .inl r0))] := hD
          refine lv_ior hx hb d_P_shortestWay_34 ?_
          refine lv_istore_n (lv' := [(3, .int (x ||| x6)), (4, .int (nI (i + 1))), (0, .ref h0), (1, .int (nI a)), (2, .int (nI b))]) hx hb d_P_shortestWay_35 rfl hl (by decide) rfl (fun ls hl => ?_)
          refine lv_iinc (k := 1) (v := nI (i + 1 + 1)) (lv' := [(4, .int (nI (i + 1 + 1))), (3, .int (x ||| x6)), (0, .ref h0), (1, .int (nI a)), (2, .int (nI b))]) hx hb d_P_shortestWay_36 hl rfl (nI_1 (i + 1)) (by decide) rfl (fun ls hl => ?_)
          refine lv_goto (tgt := 10) hx hb d_P_shortestWay_39 (by decide) ?_
          exact ih (i + 1) (by omega) (by omega) _ (fun b9 hb9 => by rw [b_or, rk_w_s, hx0 b9 hb9, hp6 b9 hb9, rk_any_congr (fun v hv => by rw [hx0 v hv])]) (fun j hj => by rcases Nat.lt_or_ge j i with z | z; exact hn j z; rw [show j = i by omega, ← hx0 b hb32]; exact hxb) ls H locs hl hP hD hS
        · have hxb := zI_n.mp hc3
          refine lv_iload hx hb d_P_shortestWay_25 (lv_at hl 0 rfl) ?_
          exact rk_iret (()) hx hb hr hlocks (Or.inl ⟨i, by omega, by rw [← hx0 b hb32]; exact hxb, hn, rfl⟩) rfl hP hK hD hS d_P_shortestWay_27
  exact lp 33 0 (by omega) (by omega) (r0 a) (fun b9 hb9 => hR a ha b9 hb9) (fun j hj => by omega) ls _ _ hl hP hD hS
set_option maxHeartbeats 4000000 in
set_option maxRecDepth 100000 in
theorem c_P_loops (l : Launch) (dC : Nat → ClassId) (dI : Nat → Nat → Nat) (cI cZ cJ : ClassId) (sz : Nat) (h0 q0 : Nat) (r0 : Nat → Int32) : Met l y_P_loops (.code y_P_loops b_P_loops 3 (some .int) :: WT) { frames := 2, cells := 0, slots := 0, locals := 43 } (va_Pc [.ref h0] (rk_pre (dC, dI) [(cI, .int), (cZ, .boolean), (cJ, .long)] sz [(h0, .inr (0, [.ref q0])), (q0, .inl (cI, 32, .inl r0))])) (va_Qi (fun (r : Int32) (u : Unit) => r = nI (rk_c (fun a => bt (r0 a) a) 32)) (fun _ s9 => rk_at (dC, dI) [(cI, .int), (cZ, .boolean), (cJ, .long)] (va_A [(h0, .inr (0, [.ref q0])), (q0, .inl (cI, 32, .inl r0))] sz) [(h0, .inr (0, [.ref q0])), (q0, .inl (cI, 32, .inl r0))] s9) (va_A [(h0, .inr (0, [.ref q0])), (q0, .inl (cI, 32, .inl r0))] sz)) 0 0 (va_A [(h0, .inr (0, [.ref q0])), (q0, .inl (cI, 32, .inl r0))] sz) := by
  refine rk_body (by decide) (Nat.le_of_ble_eq_true rfl) ?_
  intro p e s m below meth c hx hb hml hr htw hown hlocks hin hsz hP hK hD hA hS ls hl
  have hown : s.vm.findClass R_P = some m.cls := hown
  have hl : lv_has ls 3 [(0, .ref h0)] := hl
  refine lv_iconst (v := nI 0) hx hb d_P_loops_0 (by decide) ?_
  refine lv_istore_n (lv' := [(1, .int (nI 0)), (0, .ref h0)]) hx hb d_P_loops_1 rfl hl (by decide) rfl (fun ls hl => ?_)
  refine lv_iconst (v := nI 0) hx hb d_P_loops_2 (by decide) ?_
  refine lv_istore_n (lv' := [(2, .int (nI 0)), (1, .int (nI 0)), (0, .ref h0)]) hx hb d_P_loops_3 rfl hl (by decide) rfl (fun ls hl => ?_)
  have lp : ∀ (kf : Nat) (i : Nat), 32 - i < kf → i ≤ 32 → ∀ (ls : Array Slot) (H : Heap) (locs : List Loc), lv_has ls 3 [(2, .int (nI i)), (1, .int (nI (rk_c (fun a => bt (r0 a) a) i))), (0, .ref h0)] → va_P (dC, dI) classes [(h0, .inr (0, [.ref q0])), (q0, .inl (cI, 32, .inl r0))] H → va_D (va_A [(h0, .inr (0, [.ref q0])), (q0, .inl (cI, 32, .inl r0))] sz) [(h0, .inr (0, [.ref q0])), (q0, .inl (cI, 32, .inl r0))] → va_S (va_A [(h0, .inr (0, [.ref q0])), (q0, .inl (cI, 32, .inl r0))] sz) s.heap H locs → W p l e { frames := 2, cells := 0, slots := 0, locals := 43 } s m ([.ref h0]).toArray below meth c H locs 0 0 (MQ below (va_Qi (fun (r : Int32) (u : Unit) => r = nI (rk_c (fun a => bt (r0 a) a) 32)) (fun _ s9 => rk_at (dC, dI) [(cI, .int), (cZ, .boolean), (cJ, .long)] (va_A [(h0, .inr (0, [.ref q0])), (q0, .inl (cI, 32, .inl r0))] sz) [(h0, .inr (0, [.ref q0])), (q0, .inl (cI, 32, .inl r0))] s9) (va_A [(h0, .inr (0, [.ref q0])), (q0, .inl (cI, 32, .inl r0))] sz)) ([.ref h0]).toArray s 0 0 (va_A [(h0, .inr (0, [.ref q0])), (q0, .inl (cI, 32, .inl r0))] sz)) (F0 m 4 ls []) := by
    intro kf
    induction kf with
    | zero => intro i hk hi; exact absurd hk (by omega)
    | succ kf ih =>
      intro i hk hi ls H locs hl hP hD hS
      refine lv_iload_n hx hb d_P_loops_4 rfl (lv_at hl 0 rfl) ?_
      refine lv_bipush (v := nI 32) hx hb d_P_loops_5 (by decide) ?_
      refine lv_icmp_ge (tgt := 28) hx hb d_P_loops_7 (by decide) (fun hc => ?_) (fun hc => ?_)
      · have hc := (nI_leI (by omega) (by omega)).mp hc
        refine lv_iload_n hx hb d_P_loops_28 rfl (lv_at hl 1 rfl) ?_
        exact rk_iret (()) hx hb hr hlocks (by rw [show i = 32 by omega]) rfl hP hK hD hS d_P_loops_29
      · have hc := rk_gt (by omega) (by omega) hc
        refine lv_aload_n hx hb d_P_loops_10 rfl (lv_at hl 2 rfl) ?_
        refine lv_iload_n hx hb d_P_loops_11 rfl (lv_at hl 0 rfl) ?_
        refine lv_iload_n hx hb d_P_loops_12 rfl (lv_at hl 0 rfl) ?_
        refine rk_backi (wc := [(h0, .inr (0, [.ref q0])), (q0, .inl (cI, 32, .inl r0))]) (wr := []) (va_runV (As := [.int (nI i), .int (nI i)]) (rest := []) ⟨hx, hb, hml, hown, htw⟩ (c_P_has l dC dI cI cZ cJ _ h0 q0 r0 i i (by omega) (by omega)) (rk_cwV 2 htw gc_P_loops_13 (by decide +kernel) ⟨(Nat.le_of_ble_eq_true rfl), (Nat.le_of_ble_eq_true rfl)⟩) (⟨rk_blind, va_recv hK hP (ci := 0) rfl (q0 := 0) rfl, rk_give (rk_psub (isC := [0, 1]) hP rfl) hK (hD.sub [0, 1] rfl rfl)⟩) rfl rfl hl.1 rfl (lv_room (Nat.le_of_ble_eq_true rfl)) d_P_loops_13 ⟨(Nat.le_of_ble_eq_true rfl), (Nat.le_of_ble_eq_true rfl)⟩) hP hD hS hA [0, 1] [] rfl rfl rfl (by decide) (fun x5 u5 H locs hp hP hD hS => ?_)
        subst hp
        have hP : va_P (dC, dI) classes [(h0, .inr (0, [.ref q0])), (q0, .inl (cI, 32, .inl r0))] H := hP
        have hD : va_D _ [(h0, .inr (0, [.ref q0])), (q0, .inl (cI, 32, .inl r0))] := hD
        refine lv_if_eq (tgt := 22) hx hb d_P_loops_16 (by decide) (fun hc3 => ?_) (fun hc3 => ?_)
        · rw [← rk_c_f (f := fun a => bt (r0 a) a) (zI_0.mp hc3)] at hl
          refine lv_iinc (k := 0) (v := nI (i + 1)) (lv' := [(2, .int (nI (i + 1))), (1, .int (nI (rk_c (fun a => bt (r0 a) a) (i + 1)))), (0, .ref h0)]) hx hb d_P_loops_22 hl rfl (nI_1 i) (by decide) rfl (fun ls hl => ?_)
          refine lv_goto (tgt := 4) hx hb d_P_loops_25 (by decide) ?_
          exact ih (i + 1) (by omega) (by omega) ls H locs hl hP hD hS
        · refine lv_iinc (k := 1) (v := nI (rk_c (fun a => bt (r0 a) a) i + 1)) (lv' := [(1, .int (nI (rk_c (fun a => bt (r0 a) a) i + 1))), (2, .int (nI i)), (0, .ref h0)]) hx hb d_P_loops_19 hl rfl (nI_1 (rk_c (fun a => bt (r0 a) a) i)) (by decide) rfl (fun ls hl => ?_)
          rw [← rk_c_t (f := fun a => bt (r0 a) a) (zI_n.mp hc3)] at hl
          refine lv_iinc (k := 1) (v := nI (i + 1)) (lv' := [(2, .int (nI (i + 1))), (1, .int (nI (rk_c (fun a => bt (r0 a) a) (i + 1)))), (0, .ref h0)]) hx hb d_P_loops_22 hl rfl (nI_1 i) (by decide) rfl (fun ls hl => ?_)
          refine lv_goto (tgt := 4) hx hb d_P_loops_25 (by decide) ?_
          exact ih (i + 1) (by omega) (by omega) ls H locs hl hP hD hS
  exact lp 33 0 (by omega) (by omega) ls _ _ hl hP hD hS
set_option maxHeartbeats 4000000 in
set_option maxRecDepth 100000 in
theorem c_P_hasLowerMate (l : Launch) (dC : Nat → ClassId) (dI : Nat → Nat → Nat) (cI cZ cJ : ClassId) (sz : Nat) (h0 q0 : Nat) (r0 : Nat → Int32) (a : Nat) (ha : a < 32) : Met l y_P_hasLowerMate (.code y_P_hasLowerMate b_P_hasLowerMate 3 (some .boolean) :: WT) { frames := 2, cells := 0, slots := 0, locals := 43 } (va_Pc [.ref h0, .int (nI a)] (rk_pre (dC, dI) [(cI, .int), (cZ, .boolean), (cJ, .long)] sz [(h0, .inr (0, [.ref q0])), (q0, .inl (cI, 32, .inl r0))])) (va_Qi (fun (r : Int32) (u : Unit) => r = zI (rk_any (fun b => bt (r0 a) b && bt (r0 b) a) a)) (fun _ s9 => rk_at (dC, dI) [(cI, .int), (cZ, .boolean), (cJ, .long)] (va_A [(h0, .inr (0, [.ref q0])), (q0, .inl (cI, 32, .inl r0))] sz) [(h0, .inr (0, [.ref q0])), (q0, .inl (cI, 32, .inl r0))] s9) (va_A [(h0, .inr (0, [.ref q0])), (q0, .inl (cI, 32, .inl r0))] sz)) 0 0 (va_A [(h0, .inr (0, [.ref q0])), (q0, .inl (cI, 32, .inl r0))] sz) := by
  refine rk_body (by decide) (Nat.le_of_ble_eq_true rfl) ?_
  intro p e s m below meth c hx hb hml hr htw hown hlocks hin hsz hP hK hD hA hS ls hl
  have hown : s.vm.findClass R_P = some m.cls := hown
  have hl : lv_has ls 3 [(0, .ref h0), (1, .int (nI a))] := hl
  refine lv_iconst (v := nI 0) hx hb d_P_hasLowerMate_0 (by decide) ?_
  refine lv_istore_n (lv' := [(2, .int (nI 0)), (0, .ref h0), (1, .int (nI a))]) hx hb d_P_hasLowerMate_1 rfl hl (by decide) rfl (fun ls hl => ?_)
  have lp : ∀ (kf : Nat) (i : Nat), a - i < kf → i ≤ a → rk_any (fun b => bt (r0 a) b && bt (r0 b) a) i = false → ∀ (ls : Array Slot) (H : Heap) (locs : List Loc), lv_has ls 3 [(2, .int (nI i)), (0, .ref h0), (1, .int (nI a))] → va_P (dC, dI) classes [(h0, .inr (0, [.ref q0])), (q0, .inl (cI, 32, .inl r0))] H → va_D (va_A [(h0, .inr (0, [.ref q0])), (q0, .inl (cI, 32, .inl r0))] sz) [(h0, .inr (0, [.ref q0])), (q0, .inl (cI, 32, .inl r0))] → va_S (va_A [(h0, .inr (0, [.ref q0])), (q0, .inl (cI, 32, .inl r0))] sz) s.heap H locs → W p l e { frames := 2, cells := 0, slots := 0, locals := 43 } s m ([.ref h0, .int (nI a)]).toArray below meth c H locs 0 0 (MQ below (va_Qi (fun (r : Int32) (u : Unit) => r = zI (rk_any (fun b => bt (r0 a) b && bt (r0 b) a) a)) (fun _ s9 => rk_at (dC, dI) [(cI, .int), (cZ, .boolean), (cJ, .long)] (va_A [(h0, .inr (0, [.ref q0])), (q0, .inl (cI, 32, .inl r0))] sz) [(h0, .inr (0, [.ref q0])), (q0, .inl (cI, 32, .inl r0))] s9) (va_A [(h0, .inr (0, [.ref q0])), (q0, .inl (cI, 32, .inl r0))] sz)) ([.ref h0, .int (nI a)]).toArray s 0 0 (va_A [(h0, .inr (0, [.ref q0])), (q0, .inl (cI, 32, .inl r0))] sz)) (F0 m 2 ls []) := by
    intro kf
    induction kf with
    | zero => intro i hk hi hn; exact absurd hk (by omega)
    | succ kf ih =>
      intro i hk hi hn ls H locs hl hP hD hS
      refine lv_iload_n hx hb d_P_hasLowerMate_2 rfl (lv_at hl 0 rfl) ?_
      refine lv_iload_n hx hb d_P_hasLowerMate_3 rfl (lv_at hl 2 rfl) ?_
      refine lv_icmp_ge (tgt := 33) hx hb d_P_hasLowerMate_4 (by decide) (fun hc => ?_) (fun hc => ?_)
      · have hc := (nI_leI (by omega) (by omega)).mp hc
        refine lv_iconst (v := nI 0) hx hb d_P_hasLowerMate_33 (by decide) ?_
        refine rk_top (y := zI (rk_any (fun b => bt (r0 a) b && bt (r0 b) a) a)) (by rw [show i = a by omega] at hn; rw [hn]; rfl) ?_
        exact rk_zret (()) hx hb hr hlocks (rfl) rfl hP hK hD hS d_P_hasLowerMate_34
      · have hc := rk_gt (by omega) (by omega) hc
        refine lv_aload_n hx hb d_P_hasLowerMate_7 rfl (lv_at hl 1 rfl) ?_
        refine lv_iload_n hx hb d_P_hasLowerMate_8 rfl (lv_at hl 2 rfl) ?_
        refine lv_iload_n hx hb d_P_hasLowerMate_9 rfl (lv_at hl 0 rfl) ?_
        refine rk_backi (wc := [(h0, .inr (0, [.ref q0])), (q0, .inl (cI, 32, .inl r0))]) (wr := []) (va_runV (As := [.int (nI a), .int (nI i)]) (rest := []) ⟨hx, hb, hml, hown, htw⟩ (c_P_has l dC dI cI cZ cJ _ h0 q0 r0 a i (by omega) (by omega)) (rk_cwV 2 htw gc_P_hasLowerMate_10 (by decide +kernel) ⟨(Nat.le_of_ble_eq_true rfl), (Nat.le_of_ble_eq_true rfl)⟩) (⟨rk_blind, va_recv hK hP (ci := 0) rfl (q0 := 0) rfl, rk_give (rk_psub (isC := [0, 1]) hP rfl) hK (hD.sub [0, 1] rfl rfl)⟩) rfl rfl hl.1 rfl (lv_room (Nat.le_of_ble_eq_true rfl)) d_P_hasLowerMate_10 ⟨(Nat.le_of_ble_eq_true rfl), (Nat.le_of_ble_eq_true rfl)⟩) hP hD hS hA [0, 1] [] rfl rfl rfl (by decide) (fun x5 u5 H locs hp hP hD hS => ?_)
        subst hp
        have hP : va_P (dC, dI) classes [(h0, .inr (0, [.ref q0])), (q0, .inl (cI, 32, .inl r0))] H := hP
        have hD : va_D _ [(h0, .inr (0, [.ref q0])), (q0, .inl (cI, 32, .inl r0))] := hD
        refine lv_if_eq (tgt := 27) hx hb d_P_hasLowerMate_13 (by decide) (fun hc3 => ?_) (fun hc3 => ?_)
        · refine lv_iinc (k := 0) (v := nI (i + 1)) (lv' := [(2, .int (nI (i + 1))), (0, .ref h0), (1, .int (nI a))]) hx hb d_P_hasLowerMate_27 hl rfl (nI_1 i) (by decide) rfl (fun ls hl => ?_)
          refine lv_goto (tgt := 2) hx hb d_P_hasLowerMate_30 (by decide) ?_
          exact ih (i + 1) (by omega) (by omega) (by rw [rk_any_s, hn, zI_0.mp hc3]; rfl) ls H locs hl hP hD hS
        · refine lv_aload_n hx hb d_P_hasLowerMate_16 rfl (lv_at hl 1 rfl) ?_
          refine lv_iload_n hx hb d_P_hasLowerMate_17 rfl (lv_at hl 0 rfl) ?_
          refine lv_iload_n hx hb d_P_hasLowerMate_18 rfl (lv_at hl 2 rfl) ?_
          refine rk_backi (wc := [(h0, .inr (0, [.ref q0])), (q0, .inl (cI, 32, .inl r0))]) (wr := []) (va_runV (As := [.int (nI i), .int (nI a)]) (rest := []) ⟨hx, hb, hml, hown, htw⟩ (c_P_has l dC dI cI cZ cJ _ h0 q0 r0 i a (by omega) (by omega)) (rk_cwV 2 htw gc_P_hasLowerMate_19 (by decide +kernel) ⟨(Nat.le_of_ble_eq_true rfl), (Nat.le_of_ble_eq_true rfl)⟩) (⟨rk_blind, va_recv hK hP (ci := 0) rfl (q0 := 0) rfl, rk_give (rk_psub (isC := [0, 1]) hP rfl) hK (hD.sub [0, 1] rfl rfl)⟩) rfl rfl hl.1 rfl (lv_room (Nat.le_of_ble_eq_true rfl)) d_P_hasLowerMate_19 ⟨(Nat.le_of_ble_eq_true rfl), (Nat.le_of_ble_eq_true rfl)⟩) hP hD hS hA [0, 1] [] rfl rfl rfl (by decide) (fun x6 u6 H locs hp hP hD hS => ?_)
          subst hp
          have hP : va_P (dC, dI) classes [(h0, .inr (0, [.ref q0])), (q0, .inl (cI, 32, .inl r0))] H := hP
          have hD : va_D _ [(h0, .inr (0, [.ref q0])), (q0, .inl (cI, 32, .inl r0))] := hD
          refine lv_if_eq (tgt := 27) hx hb d_P_hasLowerMate_22 (by decide) (fun hc4 => ?_) (fun hc4 => ?_)
          · refine lv_iinc (k := 0) (v := nI (i + 1)) (lv' := [(2, .int (nI (i + 1))), (0, .ref h0), (1, .int (nI a))]) hx hb d_P_hasLowerMate_27 hl rfl (nI_1 i) (by decide) rfl (fun ls hl => ?_)
            refine lv_goto (tgt := 2) hx hb d_P_hasLowerMate_30 (by decide) ?_
            exact ih (i + 1) (by omega) (by omega) (by rw [rk_any_s, hn, zI_0.mp hc4, Bool.and_false]; rfl) ls H locs hl hP hD hS
          · refine lv_iconst (v := nI 1) hx hb d_P_hasLowerMate_25 (by decide) ?_
            refine rk_top (y := zI (rk_any (fun b => bt (r0 a) b && bt (r0 b) a) a)) (by rw [rk_any_iff.mpr ⟨i, by omega, by rw [zI_n.mp hc3, zI_n.mp hc4]; rfl⟩]; rfl) ?_
            exact rk_zret (()) hx hb hr hlocks (rfl) rfl hP hK hD hS d_P_hasLowerMate_26
  exact lp 33 0 (by omega) (by omega) rfl ls _ _ hl hP hD hS
set_option maxHeartbeats 4000000 in
set_option maxRecDepth 100000 in
theorem c_P_circles (l : Launch) (dC : Nat → ClassId) (dI : Nat → Nat → Nat) (cI cZ cJ : ClassId) (sz : Nat) (h0 q0 : Nat) (r0 : Nat → Int32) : Met l y_P_circles (.code y_P_circles b_P_circles 3 (some .int) :: WT) { frames := 3, cells := 0, slots := 0, locals := 65 } (va_Pc [.ref h0] (rk_pre (dC, dI) [(cI, .int), (cZ, .boolean), (cJ, .long)] sz [(h0, .inr (0, [.ref q0])), (q0, .inl (cI, 32, .inl r0))])) (va_Qi (fun (r : Int32) (u : Unit) => r = nI (rk_c (fun a => bt (r0 a) a && !rk_any (fun b => bt (r0 a) b && bt (r0 b) a) a) 32)) (fun _ s9 => rk_at (dC, dI) [(cI, .int), (cZ, .boolean), (cJ, .long)] (va_A [(h0, .inr (0, [.ref q0])), (q0, .inl (cI, 32, .inl r0))] sz) [(h0, .inr (0, [.ref q0])), (q0, .inl (cI, 32, .inl r0))] s9) (va_A [(h0, .inr (0, [.ref q0])), (q0, .inl (cI, 32, .inl r0))] sz)) 0 0 (va_A [(h0, .inr (0, [.ref q0])), (q0, .inl (cI, 32, .inl r0))] sz) := by
  refine rk_body (by decide) (Nat.le_of_ble_eq_true rfl) ?_
  intro p e s m below meth c hx hb hml hr htw hown hlocks hin hsz hP hK hD hA hS ls hl
  have hown : s.vm.findClass R_P = some m.cls := hown
  have hl : lv_has ls 3 [(0, .ref h0)] := hl
  refine lv_iconst (v := nI 0) hx hb d_P_circles_0 (by decide) ?_
  refine lv_istore_n (lv' := [(1, .int (nI 0)), (0, .ref h0)]) hx hb d_P_circles_1 rfl hl (by decide) rfl (fun ls hl => ?_)
  refine lv_iconst (v := nI 0) hx hb d_P_circles_2 (by decide) ?_
  refine lv_istore_n (lv' := [(2, .int (nI 0)), (1, .int (nI 0)), (0, .ref h0)]) hx hb d_P_circles_3 rfl hl (by decide) rfl (fun ls hl => ?_)
  have lp : ∀ (kf : Nat) (i : Nat), 32 - i < kf → i ≤ 32 → ∀ (ls : Array Slot) (H : Heap) (locs : List Loc), lv_has ls 3 [(2, .int (nI i)), (1, .int (nI (rk_c (fun a => bt (r0 a) a && !rk_any (fun b => bt (r0 a) b && bt (r0 b) a) a) i))), (0, .ref h0)] → va_P (dC, dI) classes [(h0, .inr (0, [.ref q0])), (q0, .inl (cI, 32, .inl r0))] H → va_D (va_A [(h0, .inr (0, [.ref q0])), (q0, .inl (cI, 32, .inl r0))] sz) [(h0, .inr (0, [.ref q0])), (q0, .inl (cI, 32, .inl r0))] → va_S (va_A [(h0, .inr (0, [.ref q0])), (q0, .inl (cI, 32, .inl r0))] sz) s.heap H locs → W p l e { frames := 3, cells := 0, slots := 0, locals := 65 } s m ([.ref h0]).toArray below meth c H locs 0 0 (MQ below (va_Qi (fun (r : Int32) (u : Unit) => r = nI (rk_c (fun a => bt (r0 a) a && !rk_any (fun b => bt (r0 a) b && bt (r0 b) a) a) 32)) (fun _ s9 => rk_at (dC, dI) [(cI, .int), (cZ, .boolean), (cJ, .long)] (va_A [(h0, .inr (0, [.ref q0])), (q0, .inl (cI, 32, .inl r0))] sz) [(h0, .inr (0, [.ref q0])), (q0, .inl (cI, 32, .inl r0))] s9) (va_A [(h0, .inr (0, [.ref q0])), (q0, .inl (cI, 32, .inl r0))] sz)) ([.ref h0]).toArray s 0 0 (va_A [(h0, .inr (0, [.ref q0])), (q0, .inl (cI, 32, .inl r0))] sz)) (F0 m 4 ls []) := by
    intro kf
    induction kf with
    | zero => intro i hk hi; exact absurd hk (by omega)
    | succ kf ih =>
      intro i hk hi ls H locs hl hP hD hS
      refine lv_iload_n hx hb d_P_circles_4 rfl (lv_at hl 0 rfl) ?_
      refine lv_bipush (v := nI 32) hx hb d_P_circles_5 (by decide) ?_
      refine lv_icmp_ge (tgt := 36) hx hb d_P_circles_7 (by decide) (fun hc => ?_) (fun hc => ?_)
      · have hc := (nI_leI (by omega) (by omega)).mp hc
        refine lv_iload_n hx hb d_P_circles_36 rfl (lv_at hl 1 rfl) ?_
        exact rk_iret (()) hx hb hr hlocks (by rw [show i = 32 by omega]) rfl hP hK hD hS d_P_circles_37
      · have hc := rk_gt (by omega) (by omega) hc
        refine lv_aload_n hx hb d_P_circles_10 rfl (lv_at hl 2 rfl) ?_
        refine lv_iload_n hx hb d_P_circles_11 rfl (lv_at hl 0 rfl) ?_
        refine lv_iload_n hx hb d_P_circles_12 rfl (lv_at hl 0 rfl) ?_
        refine rk_backi (wc := [(h0, .inr (0, [.ref q0])), (q0, .inl (cI, 32, .inl r0))]) (wr := []) (va_runV (As := [.int (nI i), .int (nI i)]) (rest := []) ⟨hx, hb, hml, hown, htw⟩ (c_P_has l dC dI cI cZ cJ _ h0 q0 r0 i i (by omega) (by omega)) (rk_cwV 2 htw gc_P_circles_13 (by decide +kernel) ⟨(Nat.le_of_ble_eq_true rfl), (Nat.le_of_ble_eq_true rfl)⟩) (⟨rk_blind, va_recv hK hP (ci := 0) rfl (q0 := 0) rfl, rk_give (rk_psub (isC := [0, 1]) hP rfl) hK (hD.sub [0, 1] rfl rfl)⟩) rfl rfl hl.1 rfl (lv_room (Nat.le_of_ble_eq_true rfl)) d_P_circles_13 ⟨(Nat.le_of_ble_eq_true rfl), (Nat.le_of_ble_eq_true rfl)⟩) hP hD hS hA [0, 1] [] rfl rfl rfl (by decide) (fun x5 u5 H locs hp hP hD hS => ?_)
        subst hp
        have hP : va_P (dC, dI) classes [(h0, .inr (0, [.ref q0])), (q0, .inl (cI, 32, .inl r0))] H := hP
        have hD : va_D _ [(h0, .inr (0, [.ref q0])), (q0, .inl (cI, 32, .inl r0))] := hD
        refine lv_if_eq (tgt := 30) hx hb d_P_circles_16 (by decide) (fun hc3 => ?_) (fun hc3 => ?_)
        · rw [← rk_c_f (f := (fun a => bt (r0 a) a && !rk_any (fun b => bt (r0 a) b && bt (r0 b) a) a)) (n := i) (by show (bt (r0 i) i && _) = false; rw [zI_0.mp hc3]; rfl)] at hl
          refine lv_iinc (k := 0) (v := nI (i + 1)) (lv' := [(2, .int (nI (i + 1))), (1, .int (nI (rk_c (fun a => bt (r0 a) a && !rk_any (fun b => bt (r0 a) b && bt (r0 b) a) a) (i + 1)))), (0, .ref h0)]) hx hb d_P_circles_30 hl rfl (nI_1 i) (by decide) rfl (fun ls hl => ?_)
          refine lv_goto (tgt := 4) hx hb d_P_circles_33 (by decide) ?_
          exact ih (i + 1) (by omega) (by omega) ls H locs hl hP hD hS
        · refine lv_aload_n hx hb d_P_circles_19 rfl (lv_at hl 2 rfl) ?_
          refine lv_iload_n hx hb d_P_circles_20 rfl (lv_at hl 0 rfl) ?_
          refine rk_backi (wc := [(h0, .inr (0, [.ref q0])), (q0, .inl (cI, 32, .inl r0))]) (wr := []) (va_runV (As := [.int (nI i)]) (rest := []) ⟨hx, hb, hml, hown, htw⟩ (c_P_hasLowerMate l dC dI cI cZ cJ _ h0 q0 r0 i (by omega)) (rk_cwV 1 htw gc_P_circles_21 (by decide +kernel) ⟨(Nat.le_of_ble_eq_true rfl), (Nat.le_of_ble_eq_true rfl)⟩) (⟨rk_blind, va_recv hK hP (ci := 0) rfl (q0 := 0) rfl, rk_give (rk_psub (isC := [0, 1]) hP rfl) hK (hD.sub [0, 1] rfl rfl)⟩) rfl rfl hl.1 rfl (lv_room (Nat.le_of_ble_eq_true rfl)) d_P_circles_21 ⟨(Nat.le_of_ble_eq_true rfl), (Nat.le_of_ble_eq_true rfl)⟩) hP hD hS hA [0, 1] [] rfl rfl rfl (by decide) (fun x6 u6 H locs hp hP hD hS => ?_)
          subst hp
          have hP : va_P (dC, dI) classes [(h0, .inr (0, [.ref q0])), (q0, .inl (cI, 32, .inl r0))] H := hP
          have hD : va_D _ [(h0, .inr (0, [.ref q0])), (q0, .inl (cI, 32, .inl r0))] := hD
          refine lv_if_ne (tgt := 30) hx hb d_P_circles_24 (by decide) (fun hc4 => ?_) (fun hc4 => ?_)
          · rw [← rk_c_f (f := (fun a => bt (r0 a) a && !rk_any (fun b => bt (r0 a) b && bt (r0 b) a) a)) (n := i) (by show (_ && !(rk_any (fun b => bt (r0 i) b && bt (r0 b) i) i)) = false; rw [zI_n.mp hc4]; exact Bool.and_false _)] at hl
            refine lv_iinc (k := 0) (v := nI (i + 1)) (lv' := [(2, .int (nI (i + 1))), (1, .int (nI (rk_c (fun a => bt (r0 a) a && !rk_any (fun b => bt (r0 a) b && bt (r0 b) a) a) (i + 1)))), (0, .ref h0)]) hx hb d_P_circles_30 hl rfl (nI_1 i) (by decide) rfl (fun ls hl => ?_)
            refine lv_goto (tgt := 4) hx hb d_P_circles_33 (by decide) ?_
            exact ih (i + 1) (by omega) (by omega) ls H locs hl hP hD hS
          · refine lv_iinc (k := 1) (v := nI (rk_c (fun a => bt (r0 a) a && !rk_any (fun b => bt (r0 a) b && bt (r0 b) a) a) i + 1)) (lv' := [(1, .int (nI (rk_c (fun a => bt (r0 a) a && !rk_any (fun b => bt (r0 a) b && bt (r0 b) a) a) i + 1))), (2, .int (nI i)), (0, .ref h0)]) hx hb d_P_circles_27 hl rfl (nI_1 (rk_c (fun a => bt (r0 a) a && !rk_any (fun b => bt (r0 a) b && bt (r0 b) a) a) i)) (by decide) rfl (fun ls hl => ?_)
            rw [← rk_c_t (f := (fun a => bt (r0 a) a && !rk_any (fun b => bt (r0 a) b && bt (r0 b) a) a)) (n := i) (by show (bt (r0 i) i && !(rk_any (fun b => bt (r0 i) b && bt (r0 b) i) i)) = true; rw [zI_n.mp hc3, zI_0.mp hc4]; rfl)] at hl
            refine lv_iinc (k := 1) (v := nI (i + 1)) (lv' := [(2, .int (nI (i + 1))), (1, .int (nI (rk_c (fun a => bt (r0 a) a && !rk_any (fun b => bt (r0 a) b && bt (r0 b) a) a) (i + 1)))), (0, .ref h0)]) hx hb d_P_circles_30 hl rfl (nI_1 i) (by decide) rfl (fun ls hl => ?_)
            refine lv_goto (tgt := 4) hx hb d_P_circles_33 (by decide) ?_
            exact ih (i + 1) (by omega) (by omega) ls H locs hl hP hD hS
  exact lp 33 0 (by omega) (by omega) ls _ _ hl hP hD hS
