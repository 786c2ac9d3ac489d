set_option maxHeartbeats 4000000 in
set_option maxRecDepth 100000 in
theorem c_M_isVertex (l : Launch) (dC : Nat → ClassId) (dI : Nat → Nat → Nat) (cI cZ cJ : ClassId) (sz : Nat) (x : Int32) : Met l y_M_isVertex (.code y_M_isVertex b_M_isVertex 1 (some .boolean) :: WT) { frames := 0, cells := 0, slots := 0, locals := 0 } (va_Pc [.int x] (rk_pre (dC, dI) [(cI, .int), (cZ, .boolean), (cJ, .long)] sz [])) (va_Qi (fun (r : Int32) (u : Unit) => r = zI (rk_v x)) (fun _ s9 => rk_at (dC, dI) [(cI, .int), (cZ, .boolean), (cJ, .long)] (va_A [] sz) [] s9) (va_A [] sz)) 0 0 (va_A [] sz) := by
  refine rk_body (by decide) (Nat.le_of_ble_eq_true rfl) ?_
  intro p e s m below meth c hx hb hml hr htw hown hlocks hin hsz hP hK hD hA hS ls hl
  have hown : s.vm.findClass R_M = some m.cls := hown
  have hl : lv_has ls 1 [(0, .int x)] := hl
  refine lv_iload_n hx hb d_M_isVertex_0 rfl (lv_at hl 0 rfl) ?_
  refine lv_if_lt (tgt := 14) hx hb d_M_isVertex_1 (by decide) (fun hc => ?_) (fun hc => ?_)
  · refine lv_iconst (v := nI 0) hx hb d_M_isVertex_14 (by decide) ?_
    refine rk_top (y := zI (rk_v x)) (by rw [rk_v_neg hc]; rfl) ?_
    exact rk_zret (()) hx hb hr hlocks (rfl) rfl hP hK hD hS d_M_isVertex_15
  · refine lv_iload_n hx hb d_M_isVertex_4 rfl (lv_at hl 0 rfl) ?_
    refine lv_bipush (v := nI 32) hx hb d_M_isVertex_5 (by decide) ?_
    refine lv_icmp_ge (tgt := 14) hx hb d_M_isVertex_7 (by decide) (fun hc2 => ?_) (fun hc2 => ?_)
    · refine lv_iconst (v := nI 0) hx hb d_M_isVertex_14 (by decide) ?_
      refine rk_top (y := zI (rk_v x)) (by rw [rk_v_big hc2]; rfl) ?_
      exact rk_zret (()) hx hb hr hlocks (rfl) rfl hP hK hD hS d_M_isVertex_15
    · refine lv_iconst (v := nI 1) hx hb d_M_isVertex_10 (by decide) ?_
      refine lv_goto (tgt := 15) hx hb d_M_isVertex_11 (by decide) ?_
      refine rk_top (y := zI (rk_v x)) (by rw [rk_v_ok hc hc2]; rfl) ?_
      exact rk_zret (()) hx hb hr hlocks (rfl) rfl hP hK hD hS d_M_isVertex_15
set_option maxHeartbeats 4000000 in
set_option maxRecDepth 100000 in
theorem c_M_thrown (l : Launch) (dC : Nat → ClassId) (dI : Nat → Nat → Nat) (cI cZ cJ : ClassId) (sz : Nat) (h0 qt qn qp qb qf qh qd : Nat) (th : Int32) (g : Nat) : Met l y_M_thrown (.code y_M_thrown b_M_thrown 1 (some .int) :: WT) { frames := 0, cells := 0, slots := 0, locals := 0 } (va_Pc [.ref h0] (rk_pre (dC, dI) [(cI, .int), (cZ, .boolean), (cJ, .long)] sz [(h0, .inr (2, [.int th, .int (nI g), .ref qt, .ref qn, .ref qp, .ref qb, .ref qf, .ref qh, .ref qd]))])) (va_Qi (fun (r : Int32) (u : Unit) => r = th) (fun _ s9 => rk_at (dC, dI) [(cI, .int), (cZ, .boolean), (cJ, .long)] (va_A [(h0, .inr (2, [.int th, .int (nI g), .ref qt, .ref qn, .ref qp, .ref qb, .ref qf, .ref qh, .ref qd]))] sz) [(h0, .inr (2, [.int th, .int (nI g), .ref qt, .ref qn, .ref qp, .ref qb, .ref qf, .ref qh, .ref qd]))] s9) (va_A [(h0, .inr (2, [.int th, .int (nI g), .ref qt, .ref qn, .ref qp, .ref qb, .ref qf, .ref qh, .ref qd]))] sz)) 0 0 (va_A [(h0, .inr (2, [.int th, .int (nI g), .ref qt, .ref qn, .ref qp, .ref qb, .ref qf, .ref qh, .ref qd]))] sz) := by
  refine rk_body (by decide) (Nat.le_of_ble_eq_true rfl) ?_
  intro p e s m below meth c hx hb hml hr htw hown hlocks hin hsz hP hK hD hA hS ls hl
  have hown : s.vm.findClass R_M = some m.cls := hown
  have hl : lv_has ls 1 [(0, .ref h0)] := hl
  refine lv_aload_n hx hb d_M_thrown_0 rfl (lv_at hl 0 rfl) ?_
  refine va_get (D := (dC, dI)) (ci := 2) (v := .int th) (C := R_M) (T := F_M) (N := 9) hx hb htw u_M hown hK hP 0 rfl rfl 0 (by decide) (htw _ l_M_32) (fun _ h9 => h9) rfl d_M_thrown_1 ?_
  exact rk_iret (()) hx hb hr hlocks (rfl) rfl hP hK hD hS d_M_thrown_4
set_option maxHeartbeats 4000000 in
set_option maxRecDepth 100000 in
theorem c_M_change (l : Launch) (dC : Nat → ClassId) (dI : Nat → Nat → Nat) (cI cZ cJ : ClassId) (sz : Nat) (h0 qt qn qp qb qf qh qd : Nat) (th : Int32) (g : Nat) (hg : g ≤ 60) (pl by_ : Nat → Int32) (x y : Int32) (z : Bool) : Met l y_M_change (.code y_M_change b_M_change 4 (some .int) :: WT) { frames := 1, cells := 0, slots := 0, locals := 20 } (va_Pc [.ref h0, .int x, .int y, .int (zI z)] (rk_pre (dC, dI) [(cI, .int), (cZ, .boolean), (cJ, .long)] sz [(h0, .inr (2, [.int th, .int (nI g), .ref qt, .ref qn, .ref qp, .ref qb, .ref qf, .ref qh, .ref qd])), (qp, .inl (cI, 60, .inl pl)), (qb, .inl (cI, 60, .inl by_))])) (va_Qi (fun (r : Int32) (u : Int32 × Nat × (Nat → Int32) × (Nat → Int32)) => rk_chM g pl by_ x y z r u) (fun u s9 => rk_at (dC, dI) [(cI, .int), (cZ, .boolean), (cJ, .long)] (va_A [(h0, .inr (2, [.int th, .int (nI g), .ref qt, .ref qn, .ref qp, .ref qb, .ref qf, .ref qh, .ref qd])), (qp, .inl (cI, 60, .inl pl)), (qb, .inl (cI, 60, .inl by_))] sz) [(h0, .inr (2, [.int (u.1), .int (nI u.2.1), .ref qt, .ref qn, .ref qp, .ref qb, .ref qf, .ref qh, .ref qd])), (qp, .inl (cI, 60, .inl u.2.2.1)), (qb, .inl (cI, 60, .inl u.2.2.2))] s9) (va_A [(h0, .inr (2, [.int th, .int (nI g), .ref qt, .ref qn, .ref qp, .ref qb, .ref qf, .ref qh, .ref qd])), (qp, .inl (cI, 60, .inl pl)), (qb, .inl (cI, 60, .inl by_))] sz)) 0 0 (va_A [(h0, .inr (2, [.int th, .int (nI g), .ref qt, .ref qn, .ref qp, .ref qb, .ref qf, .ref qh, .ref qd])), (qp, .inl (cI, 60, .inl pl)), (qb, .inl (cI, 60, .inl by_))] sz) := by
  refine rk_body (by decide) (Nat.le_of_ble_eq_true rfl) ?_
  intro p e s m below meth c hx hb hml hr htw hown hlocks hin hsz hP hK hD hA hS ls hl
  have hown : s.vm.findClass R_M = some m.cls := hown
  have hl : lv_has ls 4 [(0, .ref h0), (1, .int x), (2, .int y), (3, .int (zI z))] := hl
  refine lv_aload_n hx hb d_M_change_0 rfl (lv_at hl 0 rfl) ?_
  refine lv_iload_n hx hb d_M_change_1 rfl (lv_at hl 1 rfl) ?_
  refine rk_backi (wc := []) (wr := [(h0, .inr (2, [.int th, .int (nI g), .ref qt, .ref qn, .ref qp, .ref qb, .ref qf, .ref qh, .ref qd])), (qp, .inl (cI, 60, .inl pl)), (qb, .inl (cI, 60, .inl by_))]) (va_runS (As := [.int x]) (rest := [.ref h0]) ⟨hx, hb, hml, hown, htw⟩ (c_M_isVertex l dC dI cI cZ cJ _ x) (rk_cwS 1 htw gc_M_change_2 (by decide +kernel) ⟨(Nat.le_of_ble_eq_true rfl), (Nat.le_of_ble_eq_true rfl)⟩) (⟨rk_blind, rk_give (rk_psub (isC := []) hP rfl) hK (hD.sub [] rfl rfl)⟩) rfl rfl hl.1 rfl (lv_room (Nat.le_of_ble_eq_true rfl)) d_M_change_2 ⟨(Nat.le_of_ble_eq_true rfl), (Nat.le_of_ble_eq_true rfl)⟩) hP hD hS hA [] [0, 1, 2] rfl rfl rfl (by decide) (fun x5 u5 H locs hp hP hD hS => ?_)
  subst hp
  have hP : va_P (dC, dI) classes [(h0, .inr (2, [.int th, .int (nI g), .ref qt, .ref qn, .ref qp, .ref qb, .ref qf, .ref qh, .ref qd])), (qp, .inl (cI, 60, .inl pl)), (qb, .inl (cI, 60, .inl by_))] H := hP
  have hD : va_D _ [(h0, .inr (2, [.int th, .int (nI g), .ref qt, .ref qn, .ref qp, .ref qb, .ref qf, .ref qh, .ref qd])), (qp, .inl (cI, 60, .inl pl)), (qb, .inl (cI, 60, .inl by_))] := hD
  refine lv_if_eq (tgt := 15) hx hb d_M_change_5 (by decide) (fun hc => ?_) (fun hc => ?_)
  · have hv : (rk_v x && rk_v y) = false := by rw [zI_0.mp hc]; rfl
    refine lv_iconst (v := nI 1) hx hb d_M_change_15 (by decide) ?_
    refine lv_goto (tgt := 33) hx hb d_M_change_16 (by decide) ?_
    refine va_put (D := (dC, dI)) (ci := 2) (v := .int (nI 1)) (ty := .int) (C := R_M) (T := F_M) (N := 9) hx hb htw u_M t_M t_M_ok n_M hown hK hP hD hS 0 rfl rfl 0 (by decide) (htw _ l_M_32) (fun _ h9 => h9) rfl (by decide +kernel) rfl rfl (Nat.le_of_ble_eq_true rfl) d_M_change_33 (fun H locs hP hD hS => ?_)
    have hP : va_P (dC, dI) classes [(h0, .inr (2, [.int (nI 1), .int (nI g), .ref qt, .ref qn, .ref qp, .ref qb, .ref qf, .ref qh, .ref qd])), (qp, .inl (cI, 60, .inl pl)), (qb, .inl (cI, 60, .inl by_))] H := hP
    have hD : va_D _ [(h0, .inr (2, [.int (nI 1), .int (nI g), .ref qt, .ref qn, .ref qp, .ref qb, .ref qf, .ref qh, .ref qd])), (qp, .inl (cI, 60, .inl pl)), (qb, .inl (cI, 60, .inl by_))] := hD
    refine lv_aload_n hx hb d_M_change_36 rfl (lv_at hl 0 rfl) ?_
    refine va_get (D := (dC, dI)) (ci := 2) (v := .int (nI 1)) (C := R_M) (T := F_M) (N := 9) hx hb htw u_M hown hK hP 0 rfl rfl 0 (by decide) (htw _ l_M_32) (fun _ h9 => h9) rfl d_M_change_37 ?_
    refine lv_if_le (tgt := 45) hx hb d_M_change_40 (by decide) (fun hd1 => ?_) (fun hd1 => ?_)
    · exact absurd hd1 (by decide)
    · refine lv_iconst (v := nI 0) hx hb d_M_change_43 (by decide) ?_
      exact rk_iret ((nI 1, g, pl, by_)) hx hb hr hlocks (Or.inl ⟨hv, rfl, rfl⟩) rfl hP hK hD hS d_M_change_44
  · refine lv_iload_n hx hb d_M_change_8 rfl (lv_at hl 2 rfl) ?_
    refine rk_backi (wc := []) (wr := [(h0, .inr (2, [.int th, .int (nI g), .ref qt, .ref qn, .ref qp, .ref qb, .ref qf, .ref qh, .ref qd])), (qp, .inl (cI, 60, .inl pl)), (qb, .inl (cI, 60, .inl by_))]) (va_runS (As := [.int y]) (rest := [.ref h0]) ⟨hx, hb, hml, hown, htw⟩ (c_M_isVertex l dC dI cI cZ cJ _ y) (rk_cwS 1 htw gc_M_change_9 (by decide +kernel) ⟨(Nat.le_of_ble_eq_true rfl), (Nat.le_of_ble_eq_true rfl)⟩) (⟨rk_blind, rk_give (rk_psub (isC := []) hP rfl) hK (hD.sub [] rfl rfl)⟩) rfl rfl hl.1 rfl (lv_room (Nat.le_of_ble_eq_true rfl)) d_M_change_9 ⟨(Nat.le_of_ble_eq_true rfl), (Nat.le_of_ble_eq_true rfl)⟩) hP hD hS hA [] [0, 1, 2] rfl rfl rfl (by decide) (fun x6 u6 H locs hp hP hD hS => ?_)
    subst hp
    have hP : va_P (dC, dI) classes [(h0, .inr (2, [.int th, .int (nI g), .ref qt, .ref qn, .ref qp, .ref qb, .ref qf, .ref qh, .ref qd])), (qp, .inl (cI, 60, .inl pl)), (qb, .inl (cI, 60, .inl by_))] H := hP
    have hD : va_D _ [(h0, .inr (2, [.int th, .int (nI g), .ref qt, .ref qn, .ref qp, .ref qb, .ref qf, .ref qh, .ref qd])), (qp, .inl (cI, 60, .inl pl)), (qb, .inl (cI, 60, .inl by_))] := hD
    refine lv_if_ne (tgt := 19) hx hb d_M_change_12 (by decide) (fun hc2 => ?_) (fun hc2 => ?_)
    · obtain ⟨a, ha, rfl⟩ := rk_v_t (zI_n.mp hc)
      obtain ⟨b, hb32, rfl⟩ := rk_v_t (zI_n.mp hc2)
      refine lv_aload_n hx hb d_M_change_19 rfl (lv_at hl 0 rfl) ?_
      refine va_get (D := (dC, dI)) (ci := 2) (v := .int (nI g)) (C := R_M) (T := F_M) (N := 9) hx hb htw u_M hown hK hP 0 rfl rfl 1 (by decide) (htw _ l_M_40) (fun _ h9 => h9) rfl d_M_change_20 ?_
      refine lv_bipush (v := nI 60) hx hb d_M_change_23 (by decide) ?_
      refine lv_icmp_ne (tgt := 32) hx hb d_M_change_25 (by decide) (fun hc3 => ?_) (fun hc3 => ?_)
      · have hgn : g ≠ 60 := fun z9 => hc3 (by rw [z9])
        refine lv_iconst (v := nI 0) hx hb d_M_change_32 (by decide) ?_
        refine va_put (D := (dC, dI)) (ci := 2) (v := .int (nI 0)) (ty := .int) (C := R_M) (T := F_M) (N := 9) hx hb htw u_M t_M t_M_ok n_M hown hK hP hD hS 0 rfl rfl 0 (by decide) (htw _ l_M_32) (fun _ h9 => h9) rfl (by decide +kernel) rfl rfl (Nat.le_of_ble_eq_true rfl) d_M_change_33 (fun H locs hP hD hS => ?_)
        have hP : va_P (dC, dI) classes [(h0, .inr (2, [.int (nI 0), .int (nI g), .ref qt, .ref qn, .ref qp, .ref qb, .ref qf, .ref qh, .ref qd])), (qp, .inl (cI, 60, .inl pl)), (qb, .inl (cI, 60, .inl by_))] H := hP
        have hD : va_D _ [(h0, .inr (2, [.int (nI 0), .int (nI g), .ref qt, .ref qn, .ref qp, .ref qb, .ref qf, .ref qh, .ref qd])), (qp, .inl (cI, 60, .inl pl)), (qb, .inl (cI, 60, .inl by_))] := hD
        refine lv_aload_n hx hb d_M_change_36 rfl (lv_at hl 0 rfl) ?_
        refine va_get (D := (dC, dI)) (ci := 2) (v := .int (nI 0)) (C := R_M) (T := F_M) (N := 9) hx hb htw u_M hown hK hP 0 rfl rfl 0 (by decide) (htw _ l_M_32) (fun _ h9 => h9) rfl d_M_change_37 ?_
        refine lv_if_le (tgt := 45) hx hb d_M_change_40 (by decide) (fun hd1 => ?_) (fun hd1 => ?_)
        · refine lv_aload_n hx hb d_M_change_45 rfl (lv_at hl 0 rfl) ?_
          refine va_get (D := (dC, dI)) (ci := 2) (v := .ref qp) (C := R_M) (T := F_M) (N := 9) hx hb htw u_M hown hK hP 0 rfl rfl 4 (by decide) (htw _ l_M_16) (fun _ h9 => h9) rfl d_M_change_46 ?_
          refine lv_aload_n hx hb d_M_change_49 rfl (lv_at hl 0 rfl) ?_
          refine va_get (D := (dC, dI)) (ci := 2) (v := .int (nI g)) (C := R_M) (T := F_M) (N := 9) hx hb htw u_M hown hK hP 0 rfl rfl 1 (by decide) (htw _ l_M_40) (fun _ h9 => h9) rfl d_M_change_50 ?_
          refine lv_bipush (v := nI 32) hx hb d_M_change_53 (by decide) ?_
          refine lv_iload_n hx hb d_M_change_55 rfl (lv_at hl 1 rfl) ?_
          refine lv_imul hx hb d_M_change_56 ?_
          refine rk_top (y := nI (32 * a)) (pk_mul 32 a) ?_
          refine lv_iload_n hx hb d_M_change_57 rfl (lv_at hl 2 rfl) ?_
          refine lv_iadd hx hb d_M_change_58 ?_
          refine rk_top (y := nI (32 * a + b)) (nI_add (32 * a) b) ?_
          refine va_iast hx hb hK hP hD hS 1 0 rfl rfl (vp_in_nI (n := g) (show g < 60 by omega) (by decide)) d_M_change_59 (fun H locs hP hD hS => ?_)
          rw [nI_clamp (show g < 2 ^ 31 by omega)] at hP hD
          have hP : va_P (dC, dI) classes [(h0, .inr (2, [.int (nI 0), .int (nI g), .ref qt, .ref qn, .ref qp, .ref qb, .ref qf, .ref qh, .ref qd])), (qp, .inl (cI, 60, .inl (upd pl g (nI (32 * a + b))))), (qb, .inl (cI, 60, .inl by_))] H := hP
          have hD : va_D _ [(h0, .inr (2, [.int (nI 0), .int (nI g), .ref qt, .ref qn, .ref qp, .ref qb, .ref qf, .ref qh, .ref qd])), (qp, .inl (cI, 60, .inl (upd pl g (nI (32 * a + b))))), (qb, .inl (cI, 60, .inl by_))] := hD
          refine lv_aload_n hx hb d_M_change_60 rfl (lv_at hl 0 rfl) ?_
          refine va_get (D := (dC, dI)) (ci := 2) (v := .ref qb) (C := R_M) (T := F_M) (N := 9) hx hb htw u_M hown hK hP 0 rfl rfl 5 (by decide) (htw _ l_M_19) (fun _ h9 => h9) rfl d_M_change_61 ?_
          refine lv_aload_n hx hb d_M_change_64 rfl (lv_at hl 0 rfl) ?_
          refine va_get (D := (dC, dI)) (ci := 2) (v := .int (nI g)) (C := R_M) (T := F_M) (N := 9) hx hb htw u_M hown hK hP 0 rfl rfl 1 (by decide) (htw _ l_M_40) (fun _ h9 => h9) rfl d_M_change_65 ?_
          refine lv_iload_n hx hb d_M_change_68 rfl (lv_at hl 3 rfl) ?_
          refine lv_if_eq (tgt := 76) hx hb d_M_change_69 (by decide) (fun hd2 => ?_) (fun hd2 => ?_)
          · have hd2 := zI_0.mp hd2
            subst hd2
            refine lv_iconst (v := -1) hx hb d_M_change_76 (by decide) ?_
            refine va_iast hx hb hK hP hD hS 2 0 rfl rfl (vp_in_nI (n := g) (show g < 60 by omega) (by decide)) d_M_change_77 (fun H locs hP hD hS => ?_)
            rw [nI_clamp (show g < 2 ^ 31 by omega)] at hP hD
            have hP : va_P (dC, dI) classes [(h0, .inr (2, [.int (nI 0), .int (nI g), .ref qt, .ref qn, .ref qp, .ref qb, .ref qf, .ref qh, .ref qd])), (qp, .inl (cI, 60, .inl (upd pl g (nI (32 * a + b))))), (qb, .inl (cI, 60, .inl (upd by_ g (-1))))] H := hP
            have hD : va_D _ [(h0, .inr (2, [.int (nI 0), .int (nI g), .ref qt, .ref qn, .ref qp, .ref qb, .ref qf, .ref qh, .ref qd])), (qp, .inl (cI, 60, .inl (upd pl g (nI (32 * a + b))))), (qb, .inl (cI, 60, .inl (upd by_ g (-1))))] := hD
            refine lv_aload_n hx hb d_M_change_78 rfl (lv_at hl 0 rfl) ?_
            refine lv_dup hx hb d_M_change_79 rfl ?_
            refine va_get (D := (dC, dI)) (ci := 2) (v := .int (nI g)) (C := R_M) (T := F_M) (N := 9) hx hb htw u_M hown hK hP 0 rfl rfl 1 (by decide) (htw _ l_M_40) (fun _ h9 => h9) rfl d_M_change_80 ?_
            refine lv_iconst (v := nI 1) hx hb d_M_change_83 (by decide) ?_
            refine lv_iadd hx hb d_M_change_84 ?_
            refine rk_top (y := nI (g + 1)) (nI_add g 1) ?_
            refine va_put (D := (dC, dI)) (ci := 2) (v := .int (nI (g + 1))) (ty := .int) (C := R_M) (T := F_M) (N := 9) hx hb htw u_M t_M t_M_ok n_M hown hK hP hD hS 0 rfl rfl 1 (by decide) (htw _ l_M_40) (fun _ h9 => h9) rfl (by decide +kernel) rfl rfl (Nat.le_of_ble_eq_true rfl) d_M_change_85 (fun H locs hP hD hS => ?_)
            have hP : va_P (dC, dI) classes [(h0, .inr (2, [.int (nI 0), .int (nI (g + 1)), .ref qt, .ref qn, .ref qp, .ref qb, .ref qf, .ref qh, .ref qd])), (qp, .inl (cI, 60, .inl (upd pl g (nI (32 * a + b))))), (qb, .inl (cI, 60, .inl (upd by_ g (-1))))] H := hP
            have hD : va_D _ [(h0, .inr (2, [.int (nI 0), .int (nI (g + 1)), .ref qt, .ref qn, .ref qp, .ref qb, .ref qf, .ref qh, .ref qd])), (qp, .inl (cI, 60, .inl (upd pl g (nI (32 * a + b))))), (qb, .inl (cI, 60, .inl (upd by_ g (-1))))] := hD
            refine lv_aload_n hx hb d_M_change_88 rfl (lv_at hl 0 rfl) ?_
            refine va_get (D := (dC, dI)) (ci := 2) (v := .int (nI (g + 1))) (C := R_M) (T := F_M) (N := 9) hx hb htw u_M hown hK hP 0 rfl rfl 1 (by decide) (htw _ l_M_40) (fun _ h9 => h9) rfl d_M_change_89 ?_
            exact rk_iret ((nI 0, g + 1, upd pl g (nI (32 * a + b)), upd by_ g (-1))) hx hb hr hlocks (Or.inr (Or.inr ⟨a, b, ha, hb32, rfl, rfl, by omega, rfl, rfl⟩)) rfl hP hK hD hS d_M_change_92
          · have hd2 := zI_n.mp hd2
            subst hd2
            refine lv_iconst (v := nI 1) hx hb d_M_change_72 (by decide) ?_
            refine lv_goto (tgt := 77) hx hb d_M_change_73 (by decide) ?_
            refine va_iast hx hb hK hP hD hS 2 0 rfl rfl (vp_in_nI (n := g) (show g < 60 by omega) (by decide)) d_M_change_77 (fun H locs hP hD hS => ?_)
            rw [nI_clamp (show g < 2 ^ 31 by omega)] at hP hD
            have hP : va_P (dC, dI) classes [(h0, .inr (2, [.int (nI 0), .int (nI g), .ref qt, .ref qn, .ref qp, .ref qb, .ref qf, .ref qh, .ref qd])), (qp, .inl (cI, 60, .inl (upd pl g (nI (32 * a + b))))), (qb, .inl (cI, 60, .inl (upd by_ g (nI 1))))] H := hP
            have hD : va_D _ [(h0, .inr (2, [.int (nI 0), .int (nI g), .ref qt, .ref qn, .ref qp, .ref qb, .ref qf, .ref qh, .ref qd])), (qp, .inl (cI, 60, .inl (upd pl g (nI (32 * a + b))))), (qb, .inl (cI, 60, .inl (upd by_ g (nI 1))))] := hD
            refine lv_aload_n hx hb d_M_change_78 rfl (lv_at hl 0 rfl) ?_
            refine lv_dup hx hb d_M_change_79 rfl ?_
            refine va_get (D := (dC, dI)) (ci := 2) (v := .int (nI g)) (C := R_M) (T := F_M) (N := 9) hx hb htw u_M hown hK hP 0 rfl rfl 1 (by decide) (htw _ l_M_40) (fun _ h9 => h9) rfl d_M_change_80 ?_
            refine lv_iconst (v := nI 1) hx hb d_M_change_83 (by decide) ?_
            refine lv_iadd hx hb d_M_change_84 ?_
            refine rk_top (y := nI (g + 1)) (nI_add g 1) ?_
            refine va_put (D := (dC, dI)) (ci := 2) (v := .int (nI (g + 1))) (ty := .int) (C := R_M) (T := F_M) (N := 9) hx hb htw u_M t_M t_M_ok n_M hown hK hP hD hS 0 rfl rfl 1 (by decide) (htw _ l_M_40) (fun _ h9 => h9) rfl (by decide +kernel) rfl rfl (Nat.le_of_ble_eq_true rfl) d_M_change_85 (fun H locs hP hD hS => ?_)
            have hP : va_P (dC, dI) classes [(h0, .inr (2, [.int (nI 0), .int (nI (g + 1)), .ref qt, .ref qn, .ref qp, .ref qb, .ref qf, .ref qh, .ref qd])), (qp, .inl (cI, 60, .inl (upd pl g (nI (32 * a + b))))), (qb, .inl (cI, 60, .inl (upd by_ g (nI 1))))] H := hP
            have hD : va_D _ [(h0, .inr (2, [.int (nI 0), .int (nI (g + 1)), .ref qt, .ref qn, .ref qp, .ref qb, .ref qf, .ref qh, .ref qd])), (qp, .inl (cI, 60, .inl (upd pl g (nI (32 * a + b))))), (qb, .inl (cI, 60, .inl (upd by_ g (nI 1))))] := hD
            refine lv_aload_n hx hb d_M_change_88 rfl (lv_at hl 0 rfl) ?_
            refine va_get (D := (dC, dI)) (ci := 2) (v := .int (nI (g + 1))) (C := R_M) (T := F_M) (N := 9) hx hb htw u_M hown hK hP 0 rfl rfl 1 (by decide) (htw _ l_M_40) (fun _ h9 => h9) rfl d_M_change_89 ?_
            exact rk_iret ((nI 0, g + 1, upd pl g (nI (32 * a + b)), upd by_ g (nI 1))) hx hb hr hlocks (Or.inr (Or.inr ⟨a, b, ha, hb32, rfl, rfl, by omega, rfl, rfl⟩)) rfl hP hK hD hS d_M_change_92
        · exact absurd (by decide : (nI 0 : Int32) ≤ 0) hd1
      · have hg60 : g = 60 := (nI_eq (by omega) (by omega)).mp hc3
        refine lv_iconst (v := nI 2) hx hb d_M_change_28 (by decide) ?_
        refine lv_goto (tgt := 33) hx hb d_M_change_29 (by decide) ?_
        refine va_put (D := (dC, dI)) (ci := 2) (v := .int (nI 2)) (ty := .int) (C := R_M) (T := F_M) (N := 9) hx hb htw u_M t_M t_M_ok n_M hown hK hP hD hS 0 rfl rfl 0 (by decide) (htw _ l_M_32) (fun _ h9 => h9) rfl (by decide +kernel) rfl rfl (Nat.le_of_ble_eq_true rfl) d_M_change_33 (fun H locs hP hD hS => ?_)
        have hP : va_P (dC, dI) classes [(h0, .inr (2, [.int (nI 2), .int (nI g), .ref qt, .ref qn, .ref qp, .ref qb, .ref qf, .ref qh, .ref qd])), (qp, .inl (cI, 60, .inl pl)), (qb, .inl (cI, 60, .inl by_))] H := hP
        have hD : va_D _ [(h0, .inr (2, [.int (nI 2), .int (nI g), .ref qt, .ref qn, .ref qp, .ref qb, .ref qf, .ref qh, .ref qd])), (qp, .inl (cI, 60, .inl pl)), (qb, .inl (cI, 60, .inl by_))] := hD
        refine lv_aload_n hx hb d_M_change_36 rfl (lv_at hl 0 rfl) ?_
        refine va_get (D := (dC, dI)) (ci := 2) (v := .int (nI 2)) (C := R_M) (T := F_M) (N := 9) hx hb htw u_M hown hK hP 0 rfl rfl 0 (by decide) (htw _ l_M_32) (fun _ h9 => h9) rfl d_M_change_37 ?_
        refine lv_if_le (tgt := 45) hx hb d_M_change_40 (by decide) (fun hd1 => ?_) (fun hd1 => ?_)
        · exact absurd hd1 (by decide)
        · refine lv_iconst (v := nI 0) hx hb d_M_change_43 (by decide) ?_
          exact rk_iret ((nI 2, g, pl, by_)) hx hb hr hlocks (Or.inr (Or.inl ⟨by rw [zI_n.mp hc, zI_n.mp hc2]; rfl, hg60, rfl, rfl⟩)) rfl hP hK hD hS d_M_change_44
    · have hv : (rk_v x && rk_v y) = false := by rw [zI_0.mp hc2]; exact Bool.and_false _
      refine lv_iconst (v := nI 1) hx hb d_M_change_15 (by decide) ?_
      refine lv_goto (tgt := 33) hx hb d_M_change_16 (by decide) ?_
      refine va_put (D := (dC, dI)) (ci := 2) (v := .int (nI 1)) (ty := .int) (C := R_M) (T := F_M) (N := 9) hx hb htw u_M t_M t_M_ok n_M hown hK hP hD hS 0 rfl rfl 0 (by decide) (htw _ l_M_32) (fun _ h9 => h9) rfl (by decide +kernel) rfl rfl (Nat.le_of_ble_eq_true rfl) d_M_change_33 (fun H locs hP hD hS => ?_)
      have hP : va_P (dC, dI) classes [(h0, .inr (2, [.int (nI 1), .int (nI g), .ref qt, .ref qn, .ref qp, .ref qb, .ref qf, .ref qh, .ref qd])), (qp, .inl (cI, 60, .inl pl)), (qb, .inl (cI, 60, .inl by_))] H := hP
      have hD : va_D _ [(h0, .inr (2, [.int (nI 1), .int (nI g), .ref qt, .ref qn, .ref qp, .ref qb, .ref qf, .ref qh, .ref qd])), (qp, .inl (cI, 60, .inl pl)), (qb, .inl (cI, 60, .inl by_))] := hD
      refine lv_aload_n hx hb d_M_change_36 rfl (lv_at hl 0 rfl) ?_
      refine va_get (D := (dC, dI)) (ci := 2) (v := .int (nI 1)) (C := R_M) (T := F_M) (N := 9) hx hb htw u_M hown hK hP 0 rfl rfl 0 (by decide) (htw _ l_M_32) (fun _ h9 => h9) rfl d_M_change_37 ?_
      refine lv_if_le (tgt := 45) hx hb d_M_change_40 (by decide) (fun hd1 => ?_) (fun hd1 => ?_)
      · exact absurd hd1 (by decide)
      · refine lv_iconst (v := nI 0) hx hb d_M_change_43 (by decide) ?_
        exact rk_iret ((nI 1, g, pl, by_)) hx hb hr hlocks (Or.inl ⟨hv, rfl, rfl⟩) rfl hP hK hD hS d_M_change_44
set_option maxHeartbeats 4000000 in
set_option maxRecDepth 100000 in
theorem c_M_forget (l : Launch) (dC : Nat → ClassId) (dI : Nat → Nat → Nat) (cI cZ cJ : ClassId) (sz : Nat) (h0 qt qn qp qb qf qh qd : Nat) (th : Int32) (g : Nat) : Met l y_M_forget (.code y_M_forget b_M_forget 2 (some .int) :: WT) { frames := 0, cells := 0, slots := 0, locals := 0 } (va_Pc [.ref h0] (rk_pre (dC, dI) [(cI, .int), (cZ, .boolean), (cJ, .long)] sz [(h0, .inr (2, [.int th, .int (nI g), .ref qt, .ref qn, .ref qp, .ref qb, .ref qf, .ref qh, .ref qd]))])) (va_Qi (fun (r : Int32) (u : Unit) => r = nI g) (fun _ s9 => rk_at (dC, dI) [(cI, .int), (cZ, .boolean), (cJ, .long)] (va_A [(h0, .inr (2, [.int th, .int (nI g), .ref qt, .ref qn, .ref qp, .ref qb, .ref qf, .ref qh, .ref qd]))] sz) [(h0, .inr (2, [.int (nI 0), .int (nI 0), .ref qt, .ref qn, .ref qp, .ref qb, .ref qf, .ref qh, .ref qd]))] s9) (va_A [(h0, .inr (2, [.int th, .int (nI g), .ref qt, .ref qn, .ref qp, .ref qb, .ref qf, .ref qh, .ref qd]))] sz)) 0 0 (va_A [(h0, .inr (2, [.int th, .int (nI g), .ref qt, .ref qn, .ref qp, .ref qb, .ref qf, .ref qh, .ref qd]))] sz) := by
  refine rk_body (by decide) (Nat.le_of_ble_eq_true rfl) ?_
  intro p e s m below meth c hx hb hml hr htw hown hlocks hin hsz hP hK hD hA hS ls hl
  have hown : s.vm.findClass R_M = some m.cls := hown
  have hl : lv_has ls 2 [(0, .ref h0)] := hl
  refine lv_aload_n hx hb d_M_forget_0 rfl (lv_at hl 0 rfl) ?_
  refine lv_iconst (v := nI 0) hx hb d_M_forget_1 (by decide) ?_
  refine va_put (D := (dC, dI)) (ci := 2) (v := .int (nI 0)) (ty := .int) (C := R_M) (T := F_M) (N := 9) hx hb htw u_M t_M t_M_ok n_M hown hK hP hD hS 0 rfl rfl 0 (by decide) (htw _ l_M_32) (fun _ h9 => h9) rfl (by decide +kernel) rfl rfl (Nat.le_of_ble_eq_true rfl) d_M_forget_2 (fun H locs hP hD hS => ?_)
  have hP : va_P (dC, dI) classes [(h0, .inr (2, [.int (nI 0), .int (nI g), .ref qt, .ref qn, .ref qp, .ref qb, .ref qf, .ref qh, .ref qd]))] H := hP
  have hD : va_D _ [(h0, .inr (2, [.int (nI 0), .int (nI g), .ref qt, .ref qn, .ref qp, .ref qb, .ref qf, .ref qh, .ref qd]))] := hD
  refine lv_aload_n hx hb d_M_forget_5 rfl (lv_at hl 0 rfl) ?_
  refine va_get (D := (dC, dI)) (ci := 2) (v := .int (nI g)) (C := R_M) (T := F_M) (N := 9) hx hb htw u_M hown hK hP 0 rfl rfl 1 (by decide) (htw _ l_M_40) (fun _ h9 => h9) rfl d_M_forget_6 ?_
  refine lv_istore_n (lv' := [(1, .int (nI g)), (0, .ref h0)]) hx hb d_M_forget_9 rfl hl (by decide) rfl (fun ls hl => ?_)
  refine lv_aload_n hx hb d_M_forget_10 rfl (lv_at hl 1 rfl) ?_
  refine lv_iconst (v := nI 0) hx hb d_M_forget_11 (by decide) ?_
  refine va_put (D := (dC, dI)) (ci := 2) (v := .int (nI 0)) (ty := .int) (C := R_M) (T := F_M) (N := 9) hx hb htw u_M t_M t_M_ok n_M hown hK hP hD hS 0 rfl rfl 1 (by decide) (htw _ l_M_40) (fun _ h9 => h9) rfl (by decide +kernel) rfl rfl (Nat.le_of_ble_eq_true rfl) d_M_forget_12 (fun H locs hP hD hS => ?_)
  have hP : va_P (dC, dI) classes [(h0, .inr (2, [.int (nI 0), .int (nI 0), .ref qt, .ref qn, .ref qp, .ref qb, .ref qf, .ref qh, .ref qd]))] H := hP
  have hD : va_D _ [(h0, .inr (2, [.int (nI 0), .int (nI 0), .ref qt, .ref qn, .ref qp, .ref qb, .ref qf, .ref qh, .ref qd]))] := hD
  refine lv_iload_n hx hb d_M_forget_15 rfl (lv_at hl 0 rfl) ?_
  exact rk_iret (()) hx hb hr hlocks (rfl) rfl hP hK hD hS d_M_forget_16
set_option maxHeartbeats 4000000 in
set_option maxRecDepth 100000 in
theorem c_M_many (l : Launch) (dC : Nat → ClassId) (dI : Nat → Nat → Nat) (cI cZ cJ : ClassId) (sz : Nat) (h0 qt qn qp qb qf qh qd : Nat) (th : Int32) (g : Nat) (h k : Nat → Bool) (z : Bool) : Met l y_M_many (.code y_M_many b_M_many 4 (some .int) :: WT) { frames := 0, cells := 0, slots := 0, locals := 0 } (va_Pc [.ref h0, .int (zI z)] (rk_pre (dC, dI) [(cI, .int), (cZ, .boolean), (cJ, .long)] sz [(h0, .inr (2, [.int th, .int (nI g), .ref qt, .ref qn, .ref qp, .ref qb, .ref qf, .ref qh, .ref qd])), (qh, .inl (cZ, 1024, .inl (fun p => zI (h p)))), (qd, .inl (cZ, 1024, .inl (fun p => zI (k p))))])) (va_Qi (fun (r : Int32) (u : Unit) => r = nI (rk_c (rk_came h k z) 1024)) (fun _ s9 => rk_at (dC, dI) [(cI, .int), (cZ, .boolean), (cJ, .long)] (va_A [(h0, .inr (2, [.int th, .int (nI g), .ref qt, .ref qn, .ref qp, .ref qb, .ref qf, .ref qh, .ref qd])), (qh, .inl (cZ, 1024, .inl (fun p => zI (h p)))), (qd, .inl (cZ, 1024, .inl (fun p => zI (k p))))] sz) [(h0, .inr (2, [.int th, .int (nI g), .ref qt, .ref qn, .ref qp, .ref qb, .ref qf, .ref qh, .ref qd])), (qh, .inl (cZ, 1024, .inl (fun p => zI (h p)))), (qd, .inl (cZ, 1024, .inl (fun p => zI (k p))))] s9) (va_A [(h0, .inr (2, [.int th, .int (nI g), .ref qt, .ref qn, .ref qp, .ref qb, .ref qf, .ref qh, .ref qd])), (qh, .inl (cZ, 1024, .inl (fun p => zI (h p)))), (qd, .inl (cZ, 1024, .inl (fun p => zI (k p))))] sz)) 0 0 (va_A [(h0, .inr (2, [.int th, .int (nI g), .ref qt, .ref qn, .ref qp, .ref qb, .ref qf, .ref qh, .ref qd])), (qh, .inl (cZ, 1024, .inl (fun p => zI (h p)))), (qd, .inl (cZ, 1024, .inl (fun p => zI (k p))))] sz) := by
  refine rk_body (by decide) (Nat.le_of_ble_eq_true rfl) ?_
  intro p e s m below meth c hx hb hml hr htw hown hlocks hin hsz hP hK hD hA hS ls hl
  have hown : s.vm.findClass R_M = some m.cls := hown
  have hl : lv_has ls 4 [(0, .ref h0), (1, .int (zI z))] := hl
  refine lv_iconst (v := nI 0) hx hb d_M_many_0 (by decide) ?_
  refine lv_istore_n (lv' := [(2, .int (nI 0)), (0, .ref h0), (1, .int (zI z))]) hx hb d_M_many_1 rfl hl (by decide) rfl (fun ls hl => ?_)
  refine lv_iconst (v := nI 0) hx hb d_M_many_2 (by decide) ?_
  refine lv_istore_n (lv' := [(3, .int (nI 0)), (2, .int (nI 0)), (0, .ref h0), (1, .int (zI z))]) hx hb d_M_many_3 rfl hl (by decide) rfl (fun ls hl => ?_)
  have lp : ∀ (kf : Nat) (i : Nat), 1024 - i < kf → i ≤ 1024 → ∀ (ls : Array Slot) (H : Heap) (locs : List Loc), lv_has ls 4 [(3, .int (nI i)), (2, .int (nI (rk_c (rk_came h k z) i))), (0, .ref h0), (1, .int (zI z))] → va_P (dC, dI) classes [(h0, .inr (2, [.int th, .int (nI g), .ref qt, .ref qn, .ref qp, .ref qb, .ref qf, .ref qh, .ref qd])), (qh, .inl (cZ, 1024, .inl (fun p => zI (h p)))), (qd, .inl (cZ, 1024, .inl (fun p => zI (k p))))] H → va_D (va_A [(h0, .inr (2, [.int th, .int (nI g), .ref qt, .ref qn, .ref qp, .ref qb, .ref qf, .ref qh, .ref qd])), (qh, .inl (cZ, 1024, .inl (fun p => zI (h p)))), (qd, .inl (cZ, 1024, .inl (fun p => zI (k p))))] sz) [(h0, .inr (2, [.int th, .int (nI g), .ref qt, .ref qn, .ref qp, .ref qb, .ref qf, .ref qh, .ref qd])), (qh, .inl (cZ, 1024, .inl (fun p => zI (h p)))), (qd, .inl (cZ, 1024, .inl (fun p => zI (k p))))] → va_S (va_A [(h0, .inr (2, [.int th, .int (nI g), .ref qt, .ref qn, .ref qp, .ref qb, .ref qf, .ref qh, .ref qd])), (qh, .inl (cZ, 1024, .inl (fun p => zI (h p)))), (qd, .inl (cZ, 1024, .inl (fun p => zI (k p))))] sz) s.heap H locs → W p l e { frames := 0, cells := 0, slots := 0, locals := 0 } s m ([.ref h0, .int (zI z)]).toArray below meth c H locs 0 0 (MQ below (va_Qi (fun (r : Int32) (u : Unit) => r = nI (rk_c (rk_came h k z) 1024)) (fun _ s9 => rk_at (dC, dI) [(cI, .int), (cZ, .boolean), (cJ, .long)] (va_A [(h0, .inr (2, [.int th, .int (nI g), .ref qt, .ref qn, .ref qp, .ref qb, .ref qf, .ref qh, .ref qd])), (qh, .inl (cZ, 1024, .inl (fun p => zI (h p)))), (qd, .inl (cZ, 1024, .inl (fun p => zI (k p))))] sz) [(h0, .inr (2, [.int th, .int (nI g), .ref qt, .ref qn, .ref qp, .ref qb, .ref qf, .ref qh, .ref qd])), (qh, .inl (cZ, 1024, .inl (fun p => zI (h p)))), (qd, .inl (cZ, 1024, .inl (fun p => zI (k p))))] s9) (va_A [(h0, .inr (2, [.int th, .int (nI g), .ref qt, .ref qn, .ref qp, .ref qb, .ref qf, .ref qh, .ref qd])), (qh, .inl (cZ, 1024, .inl (fun p => zI (h p)))), (qd, .inl (cZ, 1024, .inl (fun p => zI (k p))))] sz)) ([.ref h0, .int (zI z)]).toArray s 0 0 (va_A [(h0, .inr (2, [.int th, .int (nI g), .ref qt, .ref qn, .ref qp, .ref qb, .ref qf, .ref qh, .ref qd])), (qh, .inl (cZ, 1024, .inl (fun p => zI (h p)))), (qd, .inl (cZ, 1024, .inl (fun p => zI (k p))))] sz)) (F0 m 4 ls []) := by
    intro kf
    induction kf with
    | zero => intro i hk hi; exact absurd hk (by omega)
    | succ kf ih =>
      intro i hk hi ls H locs hl hP hD hS
      refine lv_iload_n hx hb d_M_many_4 rfl (lv_at hl 0 rfl) ?_
      refine lv_sipush (v := nI 1024) hx hb d_M_many_5 (by decide) ?_
      refine lv_icmp_ge (tgt := 45) hx hb d_M_many_8 (by decide) (fun hc => ?_) (fun hc => ?_)
      · have hc := (nI_leI (by omega) (by omega)).mp hc
        refine lv_iload_n hx hb d_M_many_45 rfl (lv_at hl 1 rfl) ?_
        exact rk_iret (()) hx hb hr hlocks (by rw [show i = 1024 by omega]) rfl hP hK hD hS d_M_many_46
      · have hc := rk_gt (by omega) (by omega) hc
        refine lv_aload_n hx hb d_M_many_11 rfl (lv_at hl 2 rfl) ?_
        refine va_get (D := (dC, dI)) (ci := 2) (v := .ref qh) (C := R_M) (T := F_M) (N := 9) hx hb htw u_M hown hK hP 0 rfl rfl 7 (by decide) (htw _ l_M_25) (fun _ h9 => h9) rfl d_M_many_12 ?_
        refine lv_iload_n hx hb d_M_many_15 rfl (lv_at hl 0 rfl) ?_
        refine va_zald hx hb hK hP 1 1 rfl rfl (vp_in_nI (n := i) (show i < 1024 by omega) (by decide)) d_M_many_16 ?_
        refine rk_top (y := zI (h i)) (congrArg (fun p => zI (h p)) (nI_clamp (show i < 2 ^ 31 by omega))) ?_
        refine lv_aload_n hx hb d_M_many_17 rfl (lv_at hl 2 rfl) ?_
        refine va_get (D := (dC, dI)) (ci := 2) (v := .ref qd) (C := R_M) (T := F_M) (N := 9) hx hb htw u_M hown hK hP 0 rfl rfl 8 (by decide) (htw _ l_M_29) (fun _ h9 => h9) rfl d_M_many_18 ?_
        refine lv_iload_n hx hb d_M_many_21 rfl (lv_at hl 0 rfl) ?_
        refine va_zald hx hb hK hP 2 1 rfl rfl (vp_in_nI (n := i) (show i < 1024 by omega) (by decide)) d_M_many_22 ?_
        refine rk_top (y := zI (k i)) (congrArg (fun p => zI (k p)) (nI_clamp (show i < 2 ^ 31 by omega))) ?_
        refine lv_icmp_eq (tgt := 39) hx hb d_M_many_23 (by decide) (fun hc2 => ?_) (fun hc2 => ?_)
        · rw [← rk_c_f (f := (rk_came h k z)) (n := i) (rk_came_s (zI_inj.mp hc2))] at hl
          refine lv_iinc (k := 0) (v := nI (i + 1)) (lv' := [(3, .int (nI (i + 1))), (2, .int (nI (rk_c (rk_came h k z) (i + 1)))), (0, .ref h0), (1, .int (zI z))]) hx hb d_M_many_39 hl rfl (nI_1 i) (by decide) rfl (fun ls hl => ?_)
          refine lv_goto (tgt := 4) hx hb d_M_many_42 (by decide) ?_
          exact ih (i + 1) (by omega) (by omega) ls H locs hl hP hD hS
        · refine lv_aload_n hx hb d_M_many_26 rfl (lv_at hl 2 rfl) ?_
          refine va_get (D := (dC, dI)) (ci := 2) (v := .ref qh) (C := R_M) (T := F_M) (N := 9) hx hb htw u_M hown hK hP 0 rfl rfl 7 (by decide) (htw _ l_M_25) (fun _ h9 => h9) rfl d_M_many_27 ?_
          refine lv_iload_n hx hb d_M_many_30 rfl (lv_at hl 0 rfl) ?_
          refine va_zald hx hb hK hP 1 1 rfl rfl (vp_in_nI (n := i) (show i < 1024 by omega) (by decide)) d_M_many_31 ?_
          refine rk_top (y := zI (h i)) (congrArg (fun p => zI (h p)) (nI_clamp (show i < 2 ^ 31 by omega))) ?_
          refine lv_iload_n hx hb d_M_many_32 rfl (lv_at hl 3 rfl) ?_
          refine lv_icmp_ne (tgt := 39) hx hb d_M_many_33 (by decide) (fun hc3 => ?_) (fun hc3 => ?_)
          · rw [← rk_c_f (f := (rk_came h k z)) (n := i) (rk_came_o (fun z9 => hc3 (zI_inj.mpr z9)))] at hl
            refine lv_iinc (k := 0) (v := nI (i + 1)) (lv' := [(3, .int (nI (i + 1))), (2, .int (nI (rk_c (rk_came h k z) (i + 1)))), (0, .ref h0), (1, .int (zI z))]) hx hb d_M_many_39 hl rfl (nI_1 i) (by decide) rfl (fun ls hl => ?_)
            refine lv_goto (tgt := 4) hx hb d_M_many_42 (by decide) ?_
            exact ih (i + 1) (by omega) (by omega) ls H locs hl hP hD hS
          · refine lv_iinc (k := 1) (v := nI (rk_c (rk_came h k z) i + 1)) (lv' := [(2, .int (nI (rk_c (rk_came h k z) i + 1))), (3, .int (nI i)), (0, .ref h0), (1, .int (zI z))]) hx hb d_M_many_36 hl rfl (nI_1 (rk_c (rk_came h k z) i)) (by decide) rfl (fun ls hl => ?_)
            rw [← rk_c_t (f := (rk_came h k z)) (n := i) (rk_came_t (fun z9 => hc2 (zI_inj.mpr z9)) (zI_inj.mp hc3))] at hl
            refine lv_iinc (k := 1) (v := nI (i + 1)) (lv' := [(3, .int (nI (i + 1))), (2, .int (nI (rk_c (rk_came h k z) (i + 1)))), (0, .ref h0), (1, .int (zI z))]) hx hb d_M_many_39 hl rfl (nI_1 i) (by decide) rfl (fun ls hl => ?_)
            refine lv_goto (tgt := 4) hx hb d_M_many_42 (by decide) ?_
            exact ih (i + 1) (by omega) (by omega) ls H locs hl hP hD hS
  exact lp 1025 0 (by omega) (by omega) ls _ _ hl hP hD hS
set_option maxHeartbeats 4000000 in
set_option maxRecDepth 100000 in
theorem c_M_holds (l : Launch) (dC : Nat → ClassId) (dI : Nat → Nat → Nat) (cI cZ cJ : ClassId) (sz : Nat) (h0 qt qn qp qb qf qh qd : Nat) (th : Int32) (g : Nat) (h : Nat → Bool) (x y : Int32) : Met l y_M_holds (.code y_M_holds b_M_holds 3 (some .boolean) :: WT) { frames := 1, cells := 0, slots := 0, locals := 20 } (va_Pc [.ref h0, .int x, .int y] (rk_pre (dC, dI) [(cI, .int), (cZ, .boolean), (cJ, .long)] sz [(h0, .inr (2, [.int th, .int (nI g), .ref qt, .ref qn, .ref qp, .ref qb, .ref qf, .ref qh, .ref qd])), (qh, .inl (cZ, 1024, .inl (fun p => zI (h p))))])) (va_Qi (fun (r : Int32) (u : Int32) => rk_hoM h x y r u) (fun u s9 => rk_at (dC, dI) [(cI, .int), (cZ, .boolean), (cJ, .long)] (va_A [(h0, .inr (2, [.int th, .int (nI g), .ref qt, .ref qn, .ref qp, .ref qb, .ref qf, .ref qh, .ref qd])), (qh, .inl (cZ, 1024, .inl (fun p => zI (h p))))] sz) [(h0, .inr (2, [.int u, .int (nI g), .ref qt, .ref qn, .ref qp, .ref qb, .ref qf, .ref qh, .ref qd])), (qh, .inl (cZ, 1024, .inl (fun p => zI (h p))))] s9) (va_A [(h0, .inr (2, [.int th, .int (nI g), .ref qt, .ref qn, .ref qp, .ref qb, .ref qf, .ref qh, .ref qd])), (qh, .inl (cZ, 1024, .inl (fun p => zI (h p))))] sz)) 0 0 (va_A [(h0, .inr (2, [.int th, .int (nI g), .ref qt, .ref qn, .ref qp, .ref qb, .ref qf, .ref qh, .ref qd])), (qh, .inl (cZ, 1024, .inl (fun p => zI (h p))))] sz) := by
  refine rk_body (by decide) (Nat.le_of_ble_eq_true rfl) ?_
  intro p e s m below meth c hx hb hml hr htw hown hlocks hin hsz hP hK hD hA hS ls hl
  have hown : s.vm.findClass R_M = some m.cls := hown
  have hl : lv_has ls 3 [(0, .ref h0), (1, .int x), (2, .int y)] := hl
  refine lv_aload_n hx hb d_M_holds_0 rfl (lv_at hl 0 rfl) ?_
  refine lv_iload_n hx hb d_M_holds_1 rfl (lv_at hl 1 rfl) ?_
  refine rk_backi (wc := []) (wr := [(h0, .inr (2, [.int th, .int (nI g), .ref qt, .ref qn, .ref qp, .ref qb, .ref qf, .ref qh, .ref qd])), (qh, .inl (cZ, 1024, .inl (fun p => zI (h p))))]) (va_runS (As := [.int x]) (rest := [.ref h0]) ⟨hx, hb, hml, hown, htw⟩ (c_M_isVertex l dC dI cI cZ cJ _ x) (rk_cwS 1 htw gc_M_holds_2 (by decide +kernel) ⟨(Nat.le_of_ble_eq_true rfl), (Nat.le_of_ble_eq_true rfl)⟩) (⟨rk_blind, rk_give (rk_psub (isC := []) hP rfl) hK (hD.sub [] rfl rfl)⟩) rfl rfl hl.1 rfl (lv_room (Nat.le_of_ble_eq_true rfl)) d_M_holds_2 ⟨(Nat.le_of_ble_eq_true rfl), (Nat.le_of_ble_eq_true rfl)⟩) hP hD hS hA [] [0, 1] rfl rfl rfl (by decide) (fun x5 u5 H locs hp hP hD hS => ?_)
  subst hp
  have hP : va_P (dC, dI) classes [(h0, .inr (2, [.int th, .int (nI g), .ref qt, .ref qn, .ref qp, .ref qb, .ref qf, .ref qh, .ref qd])), (qh, .inl (cZ, 1024, .inl (fun p => zI (h p))))] H := hP
  have hD : va_D _ [(h0, .inr (2, [.int th, .int (nI g), .ref qt, .ref qn, .ref qp, .ref qb, .ref qf, .ref qh, .ref qd])), (qh, .inl (cZ, 1024, .inl (fun p => zI (h p))))] := hD
  refine lv_if_eq (tgt := 19) hx hb d_M_holds_5 (by decide) (fun hc => ?_) (fun hc => ?_)
  · have hv : (rk_v x && rk_v y) = false := by rw [zI_0.mp hc]; rfl
    refine lv_iconst (v := nI 1) hx hb d_M_holds_19 (by decide) ?_
    refine va_put (D := (dC, dI)) (ci := 2) (v := .int (nI 1)) (ty := .int) (C := R_M) (T := F_M) (N := 9) hx hb htw u_M t_M t_M_ok n_M hown hK hP hD hS 0 rfl rfl 0 (by decide) (htw _ l_M_32) (fun _ h9 => h9) rfl (by decide +kernel) rfl rfl (Nat.le_of_ble_eq_true rfl) d_M_holds_20 (fun H locs hP hD hS => ?_)
    have hP : va_P (dC, dI) classes [(h0, .inr (2, [.int (nI 1), .int (nI g), .ref qt, .ref qn, .ref qp, .ref qb, .ref qf, .ref qh, .ref qd])), (qh, .inl (cZ, 1024, .inl (fun p => zI (h p))))] H := hP
    have hD : va_D _ [(h0, .inr (2, [.int (nI 1), .int (nI g), .ref qt, .ref qn, .ref qp, .ref qb, .ref qf, .ref qh, .ref qd])), (qh, .inl (cZ, 1024, .inl (fun p => zI (h p))))] := hD
    refine lv_aload_n hx hb d_M_holds_23 rfl (lv_at hl 0 rfl) ?_
    refine va_get (D := (dC, dI)) (ci := 2) (v := .int (nI 1)) (C := R_M) (T := F_M) (N := 9) hx hb htw u_M hown hK hP 0 rfl rfl 0 (by decide) (htw _ l_M_32) (fun _ h9 => h9) rfl d_M_holds_24 ?_
    refine lv_if_ne (tgt := 48) hx hb d_M_holds_27 (by decide) (fun hd1 => ?_) (fun hd1 => ?_)
    · refine lv_iconst (v := nI 0) hx hb d_M_holds_48 (by decide) ?_
      refine rk_top (y := zI false) rfl ?_
      exact rk_zret (nI 1) hx hb hr hlocks (Or.inl ⟨hv, rfl, rfl⟩) rfl hP hK hD hS d_M_holds_49
    · exact absurd hd1 (by decide)
  · refine lv_iload_n hx hb d_M_holds_8 rfl (lv_at hl 2 rfl) ?_
    refine rk_backi (wc := []) (wr := [(h0, .inr (2, [.int th, .int (nI g), .ref qt, .ref qn, .ref qp, .ref qb, .ref qf, .ref qh, .ref qd])), (qh, .inl (cZ, 1024, .inl (fun p => zI (h p))))]) (va_runS (As := [.int y]) (rest := [.ref h0]) ⟨hx, hb, hml, hown, htw⟩ (c_M_isVertex l dC dI cI cZ cJ _ y) (rk_cwS 1 htw gc_M_holds_9 (by decide +kernel) ⟨(Nat.le_of_ble_eq_true rfl), (Nat.le_of_ble_eq_true rfl)⟩) (⟨rk_blind, rk_give (rk_psub (isC := []) hP rfl) hK (hD.sub [] rfl rfl)⟩) rfl rfl hl.1 rfl (lv_room (Nat.le_of_ble_eq_true rfl)) d_M_holds_9 ⟨(Nat.le_of_ble_eq_true rfl), (Nat.le_of_ble_eq_true rfl)⟩) hP hD hS hA [] [0, 1] rfl rfl rfl (by decide) (fun x6 u6 H locs hp hP hD hS => ?_)
    subst hp
    have hP : va_P (dC, dI) classes [(h0, .inr (2, [.int th, .int (nI g), .ref qt, .ref qn, .ref qp, .ref qb, .ref qf, .ref qh, .ref qd])), (qh, .inl (cZ, 1024, .inl (fun p => zI (h p))))] H := hP
    have hD : va_D _ [(h0, .inr (2, [.int th, .int (nI g), .ref qt, .ref qn, .ref qp, .ref qb, .ref qf, .ref qh, .ref qd])), (qh, .inl (cZ, 1024, .inl (fun p => zI (h p))))] := hD
    refine lv_if_eq (tgt := 19) hx hb d_M_holds_12 (by decide) (fun hc2 => ?_) (fun hc2 => ?_)
    · have hv : (rk_v x && rk_v y) = false := by rw [zI_0.mp hc2]; exact Bool.and_false _
      refine lv_iconst (v := nI 1) hx hb d_M_holds_19 (by decide) ?_
      refine va_put (D := (dC, dI)) (ci := 2) (v := .int (nI 1)) (ty := .int) (C := R_M) (T := F_M) (N := 9) hx hb htw u_M t_M t_M_ok n_M hown hK hP hD hS 0 rfl rfl 0 (by decide) (htw _ l_M_32) (fun _ h9 => h9) rfl (by decide +kernel) rfl rfl (Nat.le_of_ble_eq_true rfl) d_M_holds_20 (fun H locs hP hD hS => ?_)
      have hP : va_P (dC, dI) classes [(h0, .inr (2, [.int (nI 1), .int (nI g), .ref qt, .ref qn, .ref qp, .ref qb, .ref qf, .ref qh, .ref qd])), (qh, .inl (cZ, 1024, .inl (fun p => zI (h p))))] H := hP
      have hD : va_D _ [(h0, .inr (2, [.int (nI 1), .int (nI g), .ref qt, .ref qn, .ref qp, .ref qb, .ref qf, .ref qh, .ref qd])), (qh, .inl (cZ, 1024, .inl (fun p => zI (h p))))] := hD
      refine lv_aload_n hx hb d_M_holds_23 rfl (lv_at hl 0 rfl) ?_
      refine va_get (D := (dC, dI)) (ci := 2) (v := .int (nI 1)) (C := R_M) (T := F_M) (N := 9) hx hb htw u_M hown hK hP 0 rfl rfl 0 (by decide) (htw _ l_M_32) (fun _ h9 => h9) rfl d_M_holds_24 ?_
      refine lv_if_ne (tgt := 48) hx hb d_M_holds_27 (by decide) (fun hd1 => ?_) (fun hd1 => ?_)
      · refine lv_iconst (v := nI 0) hx hb d_M_holds_48 (by decide) ?_
        refine rk_top (y := zI false) rfl ?_
        exact rk_zret (nI 1) hx hb hr hlocks (Or.inl ⟨hv, rfl, rfl⟩) rfl hP hK hD hS d_M_holds_49
      · exact absurd hd1 (by decide)
    · obtain ⟨a, ha, rfl⟩ := rk_v_t (zI_n.mp hc)
      obtain ⟨b, hb32, rfl⟩ := rk_v_t (zI_n.mp hc2)
      refine lv_iconst (v := nI 0) hx hb d_M_holds_15 (by decide) ?_
      refine lv_goto (tgt := 20) hx hb d_M_holds_16 (by decide) ?_
      refine va_put (D := (dC, dI)) (ci := 2) (v := .int (nI 0)) (ty := .int) (C := R_M) (T := F_M) (N := 9) hx hb htw u_M t_M t_M_ok n_M hown hK hP hD hS 0 rfl rfl 0 (by decide) (htw _ l_M_32) (fun _ h9 => h9) rfl (by decide +kernel) rfl rfl (Nat.le_of_ble_eq_true rfl) d_M_holds_20 (fun H locs hP hD hS => ?_)
      have hP : va_P (dC, dI) classes [(h0, .inr (2, [.int (nI 0), .int (nI g), .ref qt, .ref qn, .ref qp, .ref qb, .ref qf, .ref qh, .ref qd])), (qh, .inl (cZ, 1024, .inl (fun p => zI (h p))))] H := hP
      have hD : va_D _ [(h0, .inr (2, [.int (nI 0), .int (nI g), .ref qt, .ref qn, .ref qp, .ref qb, .ref qf, .ref qh, .ref qd])), (qh, .inl (cZ, 1024, .inl (fun p => zI (h p))))] := hD
      refine lv_aload_n hx hb d_M_holds_23 rfl (lv_at hl 0 rfl) ?_
      refine va_get (D := (dC, dI)) (ci := 2) (v := .int (nI 0)) (C := R_M) (T := F_M) (N := 9) hx hb htw u_M hown hK hP 0 rfl rfl 0 (by decide) (htw _ l_M_32) (fun _ h9 => h9) rfl d_M_holds_24 ?_
      refine lv_if_ne (tgt := 48) hx hb d_M_holds_27 (by decide) (fun hd1 => absurd rfl hd1) (fun hd1 => ?_)
      refine lv_aload_n hx hb d_M_holds_30 rfl (lv_at hl 0 rfl) ?_
      refine va_get (D := (dC, dI)) (ci := 2) (v := .ref qh) (C := R_M) (T := F_M) (N := 9) hx hb htw u_M hown hK hP 0 rfl rfl 7 (by decide) (htw _ l_M_25) (fun _ h9 => h9) rfl d_M_holds_31 ?_
      refine lv_bipush (v := nI 32) hx hb d_M_holds_34 (by decide) ?_
      refine lv_iload_n hx hb d_M_holds_36 rfl (lv_at hl 1 rfl) ?_
      refine lv_imul hx hb d_M_holds_37 ?_
      refine rk_top (y := nI (32 * a)) (pk_mul 32 a) ?_
      refine lv_iload_n hx hb d_M_holds_38 rfl (lv_at hl 2 rfl) ?_
      refine lv_iadd hx hb d_M_holds_39 ?_
      refine rk_top (y := nI (32 * a + b)) (nI_add (32 * a) b) ?_
      refine va_zald hx hb hK hP 1 1 rfl rfl (vp_in_nI (n := 32 * a + b) (show 32 * a + b < 1024 by omega) (by decide)) d_M_holds_40 ?_
      refine rk_top (y := zI (h (32 * a + b))) (congrArg (fun p => zI (h p)) (nI_clamp (show 32 * a + b < 2 ^ 31 by omega))) ?_
      refine lv_if_eq (tgt := 48) hx hb d_M_holds_41 (by decide) (fun hd2 => ?_) (fun hd2 => ?_)
      · refine lv_iconst (v := nI 0) hx hb d_M_holds_48 (by decide) ?_
        refine rk_top (y := zI (h (32 * a + b))) (by rw [zI_0.mp hd2]; rfl) ?_
        exact rk_zret (nI 0) hx hb hr hlocks (Or.inr ⟨a, b, ha, hb32, rfl, rfl, rfl, rfl⟩) rfl hP hK hD hS d_M_holds_49
      · refine lv_iconst (v := nI 1) hx hb d_M_holds_44 (by decide) ?_
        refine lv_goto (tgt := 49) hx hb d_M_holds_45 (by decide) ?_
        refine rk_top (y := zI (h (32 * a + b))) (by rw [zI_n.mp hd2]; rfl) ?_
        exact rk_zret (nI 0) hx hb hr hlocks (Or.inr ⟨a, b, ha, hb32, rfl, rfl, rfl, rfl⟩) rfl hP hK hD hS d_M_holds_49
set_option maxHeartbeats 4000000 in
set_option maxRecDepth 100000 in
theorem c_M_other (l : Launch) (dC : Nat → ClassId) (dI : Nat → Nat → Nat) (cI cZ cJ : ClassId) (sz : Nat) (h0 qt qn qp qb qf qh qd : Nat) (th : Int32) (g : Nat) (h k : Nat → Bool) (x : Int32) (z : Bool) : Met l y_M_other (.code y_M_other b_M_other 5 (some .int) :: WT) { frames := 0, cells := 0, slots := 0, locals := 0 } (va_Pc [.ref h0, .int x, .int (zI z)] (rk_pre (dC, dI) [(cI, .int), (cZ, .boolean), (cJ, .long)] sz [(h0, .inr (2, [.int th, .int (nI g), .ref qt, .ref qn, .ref qp, .ref qb, .ref qf, .ref qh, .ref qd])), (qh, .inl (cZ, 1024, .inl (fun p => zI (h p)))), (qd, .inl (cZ, 1024, .inl (fun p => zI (k p))))])) (va_Qi (fun (r : Int32) (u : Int32) => rk_otM (rk_came h k z) x r u) (fun u s9 => rk_at (dC, dI) [(cI, .int), (cZ, .boolean), (cJ, .long)] (va_A [(h0, .inr (2, [.int th, .int (nI g), .ref qt, .ref qn, .ref qp, .ref qb, .ref qf, .ref qh, .ref qd])), (qh, .inl (cZ, 1024, .inl (fun p => zI (h p)))), (qd, .inl (cZ, 1024, .inl (fun p => zI (k p))))] sz) [(h0, .inr (2, [.int u, .int (nI g), .ref qt, .ref qn, .ref qp, .ref qb, .ref qf, .ref qh, .ref qd])), (qh, .inl (cZ, 1024, .inl (fun p => zI (h p)))), (qd, .inl (cZ, 1024, .inl (fun p => zI (k p))))] s9) (va_A [(h0, .inr (2, [.int th, .int (nI g), .ref qt, .ref qn, .ref qp, .ref qb, .ref qf, .ref qh, .ref qd])), (qh, .inl (cZ, 1024, .inl (fun p => zI (h p)))), (qd, .inl (cZ, 1024, .inl (fun p => zI (k p))))] sz)) 0 0 (va_A [(h0, .inr (2, [.int th, .int (nI g), .ref qt, .ref qn, .ref qp, .ref qb, .ref qf, .ref qh, .ref qd])), (qh, .inl (cZ, 1024, .inl (fun p => zI (h p)))), (qd, .inl (cZ, 1024, .inl (fun p => zI (k p))))] sz) := by
  refine rk_body (by decide) (Nat.le_of_ble_eq_true rfl) ?_
  intro p e s m below meth c hx hb hml hr htw hown hlocks hin hsz hP hK hD hA hS ls hl
  have hown : s.vm.findClass R_M = some m.cls := hown
  have hl : lv_has ls 5 [(0, .ref h0), (1, .int x), (2, .int (zI z))] := hl
  refine lv_iconst (v := -1) hx hb d_M_other_0 (by decide) ?_
  refine lv_istore_n (lv' := [(3, .int (-1)), (0, .ref h0), (1, .int x), (2, .int (zI z))]) hx hb d_M_other_1 rfl hl (by decide) rfl (fun ls hl => ?_)
  refine lv_aload_n hx hb d_M_other_2 rfl (lv_at hl 1 rfl) ?_
  refine lv_iconst (v := nI 0) hx hb d_M_other_3 (by decide) ?_
  refine va_put (D := (dC, dI)) (ci := 2) (v := .int (nI 0)) (ty := .int) (C := R_M) (T := F_M) (N := 9) hx hb htw u_M t_M t_M_ok n_M hown hK hP hD hS 0 rfl rfl 0 (by decide) (htw _ l_M_32) (fun _ h9 => h9) rfl (by decide +kernel) rfl rfl (Nat.le_of_ble_eq_true rfl) d_M_other_4 (fun H locs hP hD hS => ?_)
  have hP : va_P (dC, dI) classes [(h0, .inr (2, [.int (nI 0), .int (nI g), .ref qt, .ref qn, .ref qp, .ref qb, .ref qf, .ref qh, .ref qd])), (qh, .inl (cZ, 1024, .inl (fun p => zI (h p)))), (qd, .inl (cZ, 1024, .inl (fun p => zI (k p))))] H := hP
  have hD : va_D _ [(h0, .inr (2, [.int (nI 0), .int (nI g), .ref qt, .ref qn, .ref qp, .ref qb, .ref qf, .ref qh, .ref qd])), (qh, .inl (cZ, 1024, .inl (fun p => zI (h p)))), (qd, .inl (cZ, 1024, .inl (fun p => zI (k p))))] := hD
  refine lv_iconst (v := nI 0) hx hb d_M_other_7 (by decide) ?_
  refine lv_istore (lv' := [(4, .int (nI 0)), (3, .int (-1)), (0, .ref h0), (1, .int x), (2, .int (zI z))]) hx hb d_M_other_8 hl (by decide) rfl (fun ls hl => ?_)
  have lp : ∀ (kf : Nat) (i : Nat), 1024 - i < kf → i ≤ 1024 → ∀ n : Int32, nI (rk_c (rk_came h k z) i) = n + Int32.ofInt 1 → (∀ p, p < i → (rk_came h k z) p = true → x ≠ nI (rk_c (rk_came h k z) p)) → ∀ (ls : Array Slot) (H : Heap) (locs : List Loc), lv_has ls 5 [(4, .int (nI i)), (3, .int n), (0, .ref h0), (1, .int x), (2, .int (zI z))] → va_P (dC, dI) classes [(h0, .inr (2, [.int (nI 0), .int (nI g), .ref qt, .ref qn, .ref qp, .ref qb, .ref qf, .ref qh, .ref qd])), (qh, .inl (cZ, 1024, .inl (fun p => zI (h p)))), (qd, .inl (cZ, 1024, .inl (fun p => zI (k p))))] H → va_D (va_A [(h0, .inr (2, [.int th, .int (nI g), .ref qt, .ref qn, .ref qp, .ref qb, .ref qf, .ref qh, .ref qd])), (qh, .inl (cZ, 1024, .inl (fun p => zI (h p)))), (qd, .inl (cZ, 1024, .inl (fun p => zI (k p))))] sz) [(h0, .inr (2, [.int (nI 0), .int (nI g), .ref qt, .ref qn, .ref qp, .ref qb, .ref qf, .ref qh, .ref qd])), (qh, .inl (cZ, 1024, .inl (fun p => zI (h p)))), (qd, .inl (cZ, 1024, .inl (fun p => zI (k p))))] → va_S (va_A [(h0, .inr (2, [.int th, .int (nI g), .ref qt, .ref qn, .ref qp, .ref qb, .ref qf, .ref qh, .ref qd])), (qh, .inl (cZ, 1024, .inl (fun p => zI (h p)))), (qd, .inl (cZ, 1024, .inl (fun p => zI (k p))))] sz) s.heap H locs → W p l e { frames := 0, cells := 0, slots := 0, locals := 0 } s m ([.ref h0, .int x, .int (zI z)]).toArray below meth c H locs 0 0 (MQ below (va_Qi (fun (r : Int32) (u : Int32) => rk_otM (rk_came h k z) x r u) (fun u s9 => rk_at (dC, dI) [(cI, .int), (cZ, .boolean), (cJ, .long)] (va_A [(h0, .inr (2, [.int th, .int (nI g), .ref qt, .ref qn, .ref qp, .ref qb, .ref qf, .ref qh, .ref qd])), (qh, .inl (cZ, 1024, .inl (fun p => zI (h p)))), (qd, .inl (cZ, 1024, .inl (fun p => zI (k p))))] sz) [(h0, .inr (2, [.int u, .int (nI g), .ref qt, .ref qn, .ref qp, .ref qb, .ref qf, .ref qh, .ref qd])), (qh, .inl (cZ, 1024, .inl (fun p => zI (h p)))), (qd, .inl (cZ, 1024, .inl (fun p => zI (k p))))] s9) (va_A [(h0, .inr (2, [.int th, .int (nI g), .ref qt, .ref qn, .ref qp, .ref qb, .ref qf, .ref qh, .ref qd])), (qh, .inl (cZ, 1024, .inl (fun p => zI (h p)))), (qd, .inl (cZ, 1024, .inl (fun p => zI (k p))))] sz)) ([.ref h0, .int x, .int (zI z)]).toArray s 0 0 (va_A [(h0, .inr (2, [.int th, .int (nI g), .ref qt, .ref qn, .ref qp, .ref qb, .ref qf, .ref qh, .ref qd])), (qh, .inl (cZ, 1024, .inl (fun p => zI (h p)))), (qd, .inl (cZ, 1024, .inl (fun p => zI (k p))))] sz)) (F0 m 10 ls []) := by
    intro kf
    induction kf with
    | zero => intro i hk hi n hn hno; exact absurd hk (by omega)
    | succ kf ih =>
      intro i hk hi n hn hno ls H locs hl hP hD hS
      refine lv_iload hx hb d_M_other_10 (lv_at hl 0 rfl) ?_
      refine lv_sipush (v := nI 1024) hx hb d_M_other_12 (by decide) ?_
      refine lv_icmp_ge (tgt := 66) hx hb d_M_other_15 (by decide) (fun hc => ?_) (fun hc => ?_)
      · have hc := (nI_leI (by omega) (by omega)).mp hc
        refine lv_aload_n hx hb d_M_other_66 rfl (lv_at hl 2 rfl) ?_
        refine lv_iconst (v := nI 1) hx hb d_M_other_67 (by decide) ?_
        refine va_put (D := (dC, dI)) (ci := 2) (v := .int (nI 1)) (ty := .int) (C := R_M) (T := F_M) (N := 9) hx hb htw u_M t_M t_M_ok n_M hown hK hP hD hS 0 rfl rfl 0 (by decide) (htw _ l_M_32) (fun _ h9 => h9) rfl (by decide +kernel) rfl rfl (Nat.le_of_ble_eq_true rfl) d_M_other_68 (fun H locs hP hD hS => ?_)
        have hP : va_P (dC, dI) classes [(h0, .inr (2, [.int (nI 1), .int (nI g), .ref qt, .ref qn, .ref qp, .ref qb, .ref qf, .ref qh, .ref qd])), (qh, .inl (cZ, 1024, .inl (fun p => zI (h p)))), (qd, .inl (cZ, 1024, .inl (fun p => zI (k p))))] H := hP
        have hD : va_D _ [(h0, .inr (2, [.int (nI 1), .int (nI g), .ref qt, .ref qn, .ref qp, .ref qb, .ref qf, .ref qh, .ref qd])), (qh, .inl (cZ, 1024, .inl (fun p => zI (h p)))), (qd, .inl (cZ, 1024, .inl (fun p => zI (k p))))] := hD
        refine lv_iconst (v := nI 0) hx hb d_M_other_71 (by decide) ?_
        exact rk_iret (nI 1) hx hb hr hlocks (Or.inr ⟨fun p hp9 => hno p (by omega), rfl⟩) rfl hP hK hD hS d_M_other_72
      · have hc := rk_gt (by omega) (by omega) hc
        refine lv_aload_n hx hb d_M_other_18 rfl (lv_at hl 2 rfl) ?_
        refine va_get (D := (dC, dI)) (ci := 2) (v := .ref qh) (C := R_M) (T := F_M) (N := 9) hx hb htw u_M hown hK hP 0 rfl rfl 7 (by decide) (htw _ l_M_25) (fun _ h9 => h9) rfl d_M_other_19 ?_
        refine lv_iload hx hb d_M_other_22 (lv_at hl 0 rfl) ?_
        refine va_zald hx hb hK hP 1 1 rfl rfl (vp_in_nI (n := i) (show i < 1024 by omega) (by decide)) d_M_other_24 ?_
        refine rk_top (y := zI (h i)) (congrArg (fun p => zI (h p)) (nI_clamp (show i < 2 ^ 31 by omega))) ?_
        refine lv_aload_n hx hb d_M_other_25 rfl (lv_at hl 2 rfl) ?_
        refine va_get (D := (dC, dI)) (ci := 2) (v := .ref qd) (C := R_M) (T := F_M) (N := 9) hx hb htw u_M hown hK hP 0 rfl rfl 8 (by decide) (htw _ l_M_29) (fun _ h9 => h9) rfl d_M_other_26 ?_
        refine lv_iload hx hb d_M_other_29 (lv_at hl 0 rfl) ?_
        refine va_zald hx hb hK hP 2 1 rfl rfl (vp_in_nI (n := i) (show i < 1024 by omega) (by decide)) d_M_other_31 ?_
        refine rk_top (y := zI (k i)) (congrArg (fun p => zI (k p)) (nI_clamp (show i < 2 ^ 31 by omega))) ?_
        refine lv_icmp_eq (tgt := 60) hx hb d_M_other_32 (by decide) (fun hc2 => ?_) (fun hc2 => ?_)
        · have hf : (rk_came h k z) i = false := rk_came_s (zI_inj.mp hc2)
          refine lv_iinc (k := 0) (v := nI (i + 1)) (lv' := [(4, .int (nI (i + 1))), (3, .int n), (0, .ref h0), (1, .int x), (2, .int (zI z))]) hx hb d_M_other_60 hl rfl (nI_1 i) (by decide) rfl (fun ls hl => ?_)
          refine lv_goto (tgt := 10) hx hb d_M_other_63 (by decide) ?_
          exact ih (i + 1) (by omega) (by omega) n (by rw [rk_c_f hf]; exact hn) (fun p hp9 hq9 => by rcases Nat.lt_or_ge p i with z9 | z9; exact hno p z9 hq9; rw [show p = i by omega, hf] at hq9; cases hq9) ls H locs hl hP hD hS
        · refine lv_aload_n hx hb d_M_other_35 rfl (lv_at hl 2 rfl) ?_
          refine va_get (D := (dC, dI)) (ci := 2) (v := .ref qh) (C := R_M) (T := F_M) (N := 9) hx hb htw u_M hown hK hP 0 rfl rfl 7 (by decide) (htw _ l_M_25) (fun _ h9 => h9) rfl d_M_other_36 ?_
          refine lv_iload hx hb d_M_other_39 (lv_at hl 0 rfl) ?_
          refine va_zald hx hb hK hP 1 1 rfl rfl (vp_in_nI (n := i) (show i < 1024 by omega) (by decide)) d_M_other_41 ?_
          refine rk_top (y := zI (h i)) (congrArg (fun p => zI (h p)) (nI_clamp (show i < 2 ^ 31 by omega))) ?_
          refine lv_iload_n hx hb d_M_other_42 rfl (lv_at hl 4 rfl) ?_
          refine lv_icmp_eq (tgt := 49) hx hb d_M_other_43 (by decide) (fun hc3 => ?_) (fun hc3 => ?_)
          · have hf : (rk_came h k z) i = true := rk_came_t (fun z9 => hc2 (zI_inj.mpr z9)) (zI_inj.mp hc3)
            refine lv_iinc (k := 1) (v := nI (rk_c (rk_came h k z) i)) (lv' := [(3, .int (nI (rk_c (rk_came h k z) i))), (4, .int (nI i)), (0, .ref h0), (1, .int x), (2, .int (zI z))]) hx hb d_M_other_49 hl rfl hn.symm (by decide) rfl (fun ls hl => ?_)
            refine lv_iload_n hx hb d_M_other_52 rfl (lv_at hl 0 rfl) ?_
            refine lv_iload_n hx hb d_M_other_53 rfl (lv_at hl 3 rfl) ?_
            refine lv_icmp_ne (tgt := 60) hx hb d_M_other_54 (by decide) (fun hc4 => ?_) (fun hc4 => ?_)
            · refine lv_iinc (k := 1) (v := nI (i + 1)) (lv' := [(4, .int (nI (i + 1))), (3, .int (nI (rk_c (rk_came h k z) i))), (0, .ref h0), (1, .int x), (2, .int (zI z))]) hx hb d_M_other_60 hl rfl (nI_1 i) (by decide) rfl (fun ls hl => ?_)
              refine lv_goto (tgt := 10) hx hb d_M_other_63 (by decide) ?_
              have hl := lv_sub (l' := [(4, .int (nI (i + 1))), (3, .int (nI (rk_c (rk_came h k z) i))), (0, .ref h0), (1, .int x), (2, .int (zI z))]) hl [0, 1, 2, 3, 4] rfl
              exact ih (i + 1) (by omega) (by omega) _ (by rw [rk_c_t hf]; exact (nI_1 _).symm) (fun p hp9 hq9 => by rcases Nat.lt_or_ge p i with z9 | z9; exact hno p z9 hq9; rw [show p = i by omega]; exact fun z8 => hc4 z8.symm) ls H locs hl hP hD hS
            · refine lv_iload hx hb d_M_other_57 (lv_at hl 1 rfl) ?_
              exact rk_iret (nI 0) hx hb hr hlocks (Or.inl ⟨i, by omega, hf, hc4.symm, rfl, rfl⟩) rfl hP hK hD hS d_M_other_59
          · refine lv_goto (tgt := 60) hx hb d_M_other_46 (by decide) ?_
            have hf : (rk_came h k z) i = false := rk_came_o (fun z9 => hc3 (zI_inj.mpr z9))
            refine lv_iinc (k := 0) (v := nI (i + 1)) (lv' := [(4, .int (nI (i + 1))), (3, .int n), (0, .ref h0), (1, .int x), (2, .int (zI z))]) hx hb d_M_other_60 hl rfl (nI_1 i) (by decide) rfl (fun ls hl => ?_)
            refine lv_goto (tgt := 10) hx hb d_M_other_63 (by decide) ?_
            exact ih (i + 1) (by omega) (by omega) n (by rw [rk_c_f hf]; exact hn) (fun p hp9 hq9 => by rcases Nat.lt_or_ge p i with z9 | z9; exact hno p z9 hq9; rw [show p = i by omega, hf] at hq9; cases hq9) ls H locs hl hP hD hS
  exact lp 1025 0 (by omega) (by omega) (-1) (show nI 0 = -1 + Int32.ofInt 1 by decide) (fun p hp9 => by omega) ls _ _ hl hP hD hS
set_option maxHeartbeats 4000000 in
set_option maxRecDepth 100000 in
theorem c_M_came (l : Launch) (dC : Nat → ClassId) (dI : Nat → Nat → Nat) (cI cZ cJ : ClassId) (sz : Nat) (h0 qt qn qp qb qf qh qd : Nat) (th : Int32) (g : Nat) (h k : Nat → Bool) (x : Int32) : Met l y_M_came (.code y_M_came b_M_came 2 (some .int) :: WT) { frames := 1, cells := 0, slots := 0, locals := 24 } (va_Pc [.ref h0, .int x] (rk_pre (dC, dI) [(cI, .int), (cZ, .boolean), (cJ, .long)] sz [(h0, .inr (2, [.int th, .int (nI g), .ref qt, .ref qn, .ref qp, .ref qb, .ref qf, .ref qh, .ref qd])), (qh, .inl (cZ, 1024, .inl (fun p => zI (h p)))), (qd, .inl (cZ, 1024, .inl (fun p => zI (k p))))])) (va_Qi (fun (r : Int32) (u : Int32) => rk_otM (rk_came h k true) x r u) (fun u s9 => rk_at (dC, dI) [(cI, .int), (cZ, .boolean), (cJ, .long)] (va_A [(h0, .inr (2, [.int th, .int (nI g), .ref qt, .ref qn, .ref qp, .ref qb, .ref qf, .ref qh, .ref qd])), (qh, .inl (cZ, 1024, .inl (fun p => zI (h p)))), (qd, .inl (cZ, 1024, .inl (fun p => zI (k p))))] sz) [(h0, .inr (2, [.int u, .int (nI g), .ref qt, .ref qn, .ref qp, .ref qb, .ref qf, .ref qh, .ref qd])), (qh, .inl (cZ, 1024, .inl (fun p => zI (h p)))), (qd, .inl (cZ, 1024, .inl (fun p => zI (k p))))] s9) (va_A [(h0, .inr (2, [.int th, .int (nI g), .ref qt, .ref qn, .ref qp, .ref qb, .ref qf, .ref qh, .ref qd])), (qh, .inl (cZ, 1024, .inl (fun p => zI (h p)))), (qd, .inl (cZ, 1024, .inl (fun p => zI (k p))))] sz)) 0 0 (va_A [(h0, .inr (2, [.int th, .int (nI g), .ref qt, .ref qn, .ref qp, .ref qb, .ref qf, .ref qh, .ref qd])), (qh, .inl (cZ, 1024, .inl (fun p => zI (h p)))), (qd, .inl (cZ, 1024, .inl (fun p => zI (k p))))] sz) := by
  refine rk_body (by decide) (Nat.le_of_ble_eq_true rfl) ?_
  intro p e s m below meth c hx hb hml hr htw hown hlocks hin hsz hP hK hD hA hS ls hl
  have hown : s.vm.findClass R_M = some m.cls := hown
  have hl : lv_has ls 2 [(0, .ref h0), (1, .int x)] := hl
  refine lv_aload_n hx hb d_M_came_0 rfl (lv_at hl 0 rfl) ?_
  refine lv_iload_n hx hb d_M_came_1 rfl (lv_at hl 1 rfl) ?_
  refine lv_iconst (v := zI true) hx hb d_M_came_2 (by decide) ?_
  refine rk_backi (wc := [(h0, .inr (2, [.int th, .int (nI g), .ref qt, .ref qn, .ref qp, .ref qb, .ref qf, .ref qh, .ref qd])), (qh, .inl (cZ, 1024, .inl (fun p => zI (h p)))), (qd, .inl (cZ, 1024, .inl (fun p => zI (k p))))]) (wr := []) (va_runV (As := [.int x, .int (zI true)]) (rest := []) ⟨hx, hb, hml, hown, htw⟩ (c_M_other l dC dI cI cZ cJ _ h0 qt qn qp qb qf qh qd th g h k x true) (rk_cwV 2 htw gc_M_came_3 (by decide +kernel) ⟨(Nat.le_of_ble_eq_true rfl), (Nat.le_of_ble_eq_true rfl)⟩) (⟨rk_blind, va_recv hK hP (ci := 2) rfl (q0 := 0) rfl, rk_give (rk_psub (isC := [0, 1, 2]) hP rfl) hK (hD.sub [0, 1, 2] rfl rfl)⟩) rfl rfl hl.1 rfl (lv_room (Nat.le_of_ble_eq_true rfl)) d_M_came_3 ⟨(Nat.le_of_ble_eq_true rfl), (Nat.le_of_ble_eq_true rfl)⟩) hP hD hS hA [0, 1, 2] [] rfl rfl rfl (by decide) (fun x5 u5 H locs hp hP hD hS => ?_)
  have hP : va_P (dC, dI) classes [(h0, .inr (2, [.int u5, .int (nI g), .ref qt, .ref qn, .ref qp, .ref qb, .ref qf, .ref qh, .ref qd])), (qh, .inl (cZ, 1024, .inl (fun p => zI (h p)))), (qd, .inl (cZ, 1024, .inl (fun p => zI (k p))))] H := hP
  have hD : va_D _ [(h0, .inr (2, [.int u5, .int (nI g), .ref qt, .ref qn, .ref qp, .ref qb, .ref qf, .ref qh, .ref qd])), (qh, .inl (cZ, 1024, .inl (fun p => zI (h p)))), (qd, .inl (cZ, 1024, .inl (fun p => zI (k p))))] := hD
  exact rk_iret (u5) hx hb hr hlocks (hp) rfl hP hK hD hS d_M_came_6
set_option maxHeartbeats 4000000 in
set_option maxRecDepth 100000 in
theorem c_M_went (l : Launch) (dC : Nat → ClassId) (dI : Nat → Nat → Nat) (cI cZ cJ : ClassId) (sz : Nat) (h0 qt qn qp qb qf qh qd : Nat) (th : Int32) (g : Nat) (h k : Nat → Bool) (x : Int32) : Met l y_M_went (.code y_M_went b_M_went 2 (some .int) :: WT) { frames := 1, cells := 0, slots := 0, locals := 24 } (va_Pc [.ref h0, .int x] (rk_pre (dC, dI) [(cI, .int), (cZ, .boolean), (cJ, .long)] sz [(h0, .inr (2, [.int th, .int (nI g), .ref qt, .ref qn, .ref qp, .ref qb, .ref qf, .ref qh, .ref qd])), (qh, .inl (cZ, 1024, .inl (fun p => zI (h p)))), (qd, .inl (cZ, 1024, .inl (fun p => zI (k p))))])) (va_Qi (fun (r : Int32) (u : Int32) => rk_otM (rk_came h k false) x r u) (fun u s9 => rk_at (dC, dI) [(cI, .int), (cZ, .boolean), (cJ, .long)] (va_A [(h0, .inr (2, [.int th, .int (nI g), .ref qt, .ref qn, .ref qp, .ref qb, .ref qf, .ref qh, .ref qd])), (qh, .inl (cZ, 1024, .inl (fun p => zI (h p)))), (qd, .inl (cZ, 1024, .inl (fun p => zI (k p))))] sz) [(h0, .inr (2, [.int u, .int (nI g), .ref qt, .ref qn, .ref qp, .ref qb, .ref qf, .ref qh, .ref qd])), (qh, .inl (cZ, 1024, .inl (fun p => zI (h p)))), (qd, .inl (cZ, 1024, .inl (fun p => zI (k p))))] s9) (va_A [(h0, .inr (2, [.int th, .int (nI g), .ref qt, .ref qn, .ref qp, .ref qb, .ref qf, .ref qh, .ref qd])), (qh, .inl (cZ, 1024, .inl (fun p => zI (h p)))), (qd, .inl (cZ, 1024, .inl (fun p => zI (k p))))] sz)) 0 0 (va_A [(h0, .inr (2, [.int th, .int (nI g), .ref qt, .ref qn, .ref qp, .ref qb, .ref qf, .ref qh, .ref qd])), (qh, .inl (cZ, 1024, .inl (fun p => zI (h p)))), (qd, .inl (cZ, 1024, .inl (fun p => zI (k p))))] sz) := by
  refine rk_body (by decide) (Nat.le_of_ble_eq_true rfl) ?_
  intro p e s m below meth c hx hb hml hr htw hown hlocks hin hsz hP hK hD hA hS ls hl
  have hown : s.vm.findClass R_M = some m.cls := hown
  have hl : lv_has ls 2 [(0, .ref h0), (1, .int x)] := hl
  refine lv_aload_n hx hb d_M_went_0 rfl (lv_at hl 0 rfl) ?_
  refine lv_iload_n hx hb d_M_went_1 rfl (lv_at hl 1 rfl) ?_
  refine lv_iconst (v := zI false) hx hb d_M_went_2 (by decide) ?_
  refine rk_backi (wc := [(h0, .inr (2, [.int th, .int (nI g), .ref qt, .ref qn, .ref qp, .ref qb, .ref qf, .ref qh, .ref qd])), (qh, .inl (cZ, 1024, .inl (fun p => zI (h p)))), (qd, .inl (cZ, 1024, .inl (fun p => zI (k p))))]) (wr := []) (va_runV (As := [.int x, .int (zI false)]) (rest := []) ⟨hx, hb, hml, hown, htw⟩ (c_M_other l dC dI cI cZ cJ _ h0 qt qn qp qb qf qh qd th g h k x false) (rk_cwV 2 htw gc_M_went_3 (by decide +kernel) ⟨(Nat.le_of_ble_eq_true rfl), (Nat.le_of_ble_eq_true rfl)⟩) (⟨rk_blind, va_recv hK hP (ci := 2) rfl (q0 := 0) rfl, rk_give (rk_psub (isC := [0, 1, 2]) hP rfl) hK (hD.sub [0, 1, 2] rfl rfl)⟩) rfl rfl hl.1 rfl (lv_room (Nat.le_of_ble_eq_true rfl)) d_M_went_3 ⟨(Nat.le_of_ble_eq_true rfl), (Nat.le_of_ble_eq_true rfl)⟩) hP hD hS hA [0, 1, 2] [] rfl rfl rfl (by decide) (fun x5 u5 H locs hp hP hD hS => ?_)
  have hP : va_P (dC, dI) classes [(h0, .inr (2, [.int u5, .int (nI g), .ref qt, .ref qn, .ref qp, .ref qb, .ref qf, .ref qh, .ref qd])), (qh, .inl (cZ, 1024, .inl (fun p => zI (h p)))), (qd, .inl (cZ, 1024, .inl (fun p => zI (k p))))] H := hP
  have hD : va_D _ [(h0, .inr (2, [.int u5, .int (nI g), .ref qt, .ref qn, .ref qp, .ref qb, .ref qf, .ref qh, .ref qd])), (qh, .inl (cZ, 1024, .inl (fun p => zI (h p)))), (qd, .inl (cZ, 1024, .inl (fun p => zI (k p))))] := hD
  exact rk_iret (u5) hx hb hr hlocks (hp) rfl hP hK hD hS d_M_went_6
set_option maxHeartbeats 4000000 in
set_option maxRecDepth 100000 in
theorem c_M_times (l : Launch) (dC : Nat → ClassId) (dI : Nat → Nat → Nat) (cI cZ cJ : ClassId) (sz : Nat) (h0 qt qn qp qb qf qh qd : Nat) (th : Int32) (g : Nat) (t : Nat → Int32) (x y : Int32) : Met l y_M_times (.code y_M_times b_M_times 3 (some .int) :: WT) { frames := 1, cells := 0, slots := 0, locals := 20 } (va_Pc [.ref h0, .int x, .int y] (rk_pre (dC, dI) [(cI, .int), (cZ, .boolean), (cJ, .long)] sz [(h0, .inr (2, [.int th, .int (nI g), .ref qt, .ref qn, .ref qp, .ref qb, .ref qf, .ref qh, .ref qd])), (qt, .inl (cI, 1024, .inl t))])) (va_Qi (fun (r : Int32) (u : Int32) => rk_tiM t x y r u) (fun u s9 => rk_at (dC, dI) [(cI, .int), (cZ, .boolean), (cJ, .long)] (va_A [(h0, .inr (2, [.int th, .int (nI g), .ref qt, .ref qn, .ref qp, .ref qb, .ref qf, .ref qh, .ref qd])), (qt, .inl (cI, 1024, .inl t))] sz) [(h0, .inr (2, [.int u, .int (nI g), .ref qt, .ref qn, .ref qp, .ref qb, .ref qf, .ref qh, .ref qd])), (qt, .inl (cI, 1024, .inl t))] s9) (va_A [(h0, .inr (2, [.int th, .int (nI g), .ref qt, .ref qn, .ref qp, .ref qb, .ref qf, .ref qh, .ref qd])), (qt, .inl (cI, 1024, .inl t))] sz)) 0 0 (va_A [(h0, .inr (2, [.int th, .int (nI g), .ref qt, .ref qn, .ref qp, .ref qb, .ref qf, .ref qh, .ref qd])), (qt, .inl (cI, 1024, .inl t))] sz) := by
  refine rk_body (by decide) (Nat.le_of_ble_eq_true rfl) ?_
  intro p e s m below meth c hx hb hml hr htw hown hlocks hin hsz hP hK hD hA hS ls hl
  have hown : s.vm.findClass R_M = some m.cls := hown
  have hl : lv_has ls 3 [(0, .ref h0), (1, .int x), (2, .int y)] := hl
  refine lv_aload_n hx hb d_M_times_0 rfl (lv_at hl 0 rfl) ?_
  refine lv_iload_n hx hb d_M_times_1 rfl (lv_at hl 1 rfl) ?_
  refine rk_backi (wc := []) (wr := [(h0, .inr (2, [.int th, .int (nI g), .ref qt, .ref qn, .ref qp, .ref qb, .ref qf, .ref qh, .ref qd])), (qt, .inl (cI, 1024, .inl t))]) (va_runS (As := [.int x]) (rest := [.ref h0]) ⟨hx, hb, hml, hown, htw⟩ (c_M_isVertex l dC dI cI cZ cJ _ x) (rk_cwS 1 htw gc_M_times_2 (by decide +kernel) ⟨(Nat.le_of_ble_eq_true rfl), (Nat.le_of_ble_eq_true rfl)⟩) (⟨rk_blind, rk_give (rk_psub (isC := []) hP rfl) hK (hD.sub [] rfl rfl)⟩) rfl rfl hl.1 rfl (lv_room (Nat.le_of_ble_eq_true rfl)) d_M_times_2 ⟨(Nat.le_of_ble_eq_true rfl), (Nat.le_of_ble_eq_true rfl)⟩) hP hD hS hA [] [0, 1] rfl rfl rfl (by decide) (fun x5 u5 H locs hp hP hD hS => ?_)
  subst hp
  have hP : va_P (dC, dI) classes [(h0, .inr (2, [.int th, .int (nI g), .ref qt, .ref qn, .ref qp, .ref qb, .ref qf, .ref qh, .ref qd])), (qt, .inl (cI, 1024, .inl t))] H := hP
  have hD : va_D _ [(h0, .inr (2, [.int th, .int (nI g), .ref qt, .ref qn, .ref qp, .ref qb, .ref qf, .ref qh, .ref qd])), (qt, .inl (cI, 1024, .inl t))] := hD
  refine lv_if_eq (tgt := 19) hx hb d_M_times_5 (by decide) (fun hc => ?_) (fun hc => ?_)
  · have hv : (rk_v x && rk_v y) = false := by rw [zI_0.mp hc]; rfl
    refine lv_iconst (v := nI 1) hx hb d_M_times_19 (by decide) ?_
    refine va_put (D := (dC, dI)) (ci := 2) (v := .int (nI 1)) (ty := .int) (C := R_M) (T := F_M) (N := 9) hx hb htw u_M t_M t_M_ok n_M hown hK hP hD hS 0 rfl rfl 0 (by decide) (htw _ l_M_32) (fun _ h9 => h9) rfl (by decide +kernel) rfl rfl (Nat.le_of_ble_eq_true rfl) d_M_times_20 (fun H locs hP hD hS => ?_)
    have hP : va_P (dC, dI) classes [(h0, .inr (2, [.int (nI 1), .int (nI g), .ref qt, .ref qn, .ref qp, .ref qb, .ref qf, .ref qh, .ref qd])), (qt, .inl (cI, 1024, .inl t))] H := hP
    have hD : va_D _ [(h0, .inr (2, [.int (nI 1), .int (nI g), .ref qt, .ref qn, .ref qp, .ref qb, .ref qf, .ref qh, .ref qd])), (qt, .inl (cI, 1024, .inl t))] := hD
    refine lv_aload_n hx hb d_M_times_23 rfl (lv_at hl 0 rfl) ?_
    refine va_get (D := (dC, dI)) (ci := 2) (v := .int (nI 1)) (C := R_M) (T := F_M) (N := 9) hx hb htw u_M hown hK hP 0 rfl rfl 0 (by decide) (htw _ l_M_32) (fun _ h9 => h9) rfl d_M_times_24 ?_
    refine lv_if_le (tgt := 34) hx hb d_M_times_27 (by decide) (fun hd1 => ?_) (fun hd1 => ?_)
    · exact absurd hd1 (by decide)
    · refine lv_iconst (v := nI 0) hx hb d_M_times_30 (by decide) ?_
      refine lv_goto (tgt := 45) hx hb d_M_times_31 (by decide) ?_
      exact rk_iret (nI 1) hx hb hr hlocks (Or.inl ⟨hv, rfl⟩) rfl hP hK hD hS d_M_times_45
  · refine lv_iload_n hx hb d_M_times_8 rfl (lv_at hl 2 rfl) ?_
    refine rk_backi (wc := []) (wr := [(h0, .inr (2, [.int th, .int (nI g), .ref qt, .ref qn, .ref qp, .ref qb, .ref qf, .ref qh, .ref qd])), (qt, .inl (cI, 1024, .inl t))]) (va_runS (As := [.int y]) (rest := [.ref h0]) ⟨hx, hb, hml, hown, htw⟩ (c_M_isVertex l dC dI cI cZ cJ _ y) (rk_cwS 1 htw gc_M_times_9 (by decide +kernel) ⟨(Nat.le_of_ble_eq_true rfl), (Nat.le_of_ble_eq_true rfl)⟩) (⟨rk_blind, rk_give (rk_psub (isC := []) hP rfl) hK (hD.sub [] rfl rfl)⟩) rfl rfl hl.1 rfl (lv_room (Nat.le_of_ble_eq_true rfl)) d_M_times_9 ⟨(Nat.le_of_ble_eq_true rfl), (Nat.le_of_ble_eq_true rfl)⟩) hP hD hS hA [] [0, 1] rfl rfl rfl (by decide) (fun x6 u6 H locs hp hP hD hS => ?_)
    subst hp
    have hP : va_P (dC, dI) classes [(h0, .inr (2, [.int th, .int (nI g), .ref qt, .ref qn, .ref qp, .ref qb, .ref qf, .ref qh, .ref qd])), (qt, .inl (cI, 1024, .inl t))] H := hP
    have hD : va_D _ [(h0, .inr (2, [.int th, .int (nI g), .ref qt, .ref qn, .ref qp, .ref qb, .ref qf, .ref qh, .ref qd])), (qt, .inl (cI, 1024, .inl t))] := hD
    refine lv_if_eq (tgt := 19) hx hb d_M_times_12 (by decide) (fun hc2 => ?_) (fun hc2 => ?_)
    · have hv : (rk_v x && rk_v y) = false := by rw [zI_0.mp hc2]; exact Bool.and_false _
      refine lv_iconst (v := nI 1) hx hb d_M_times_19 (by decide) ?_
      refine va_put (D := (dC, dI)) (ci := 2) (v := .int (nI 1)) (ty := .int) (C := R_M) (T := F_M) (N := 9) hx hb htw u_M t_M t_M_ok n_M hown hK hP hD hS 0 rfl rfl 0 (by decide) (htw _ l_M_32) (fun _ h9 => h9) rfl (by decide +kernel) rfl rfl (Nat.le_of_ble_eq_true rfl) d_M_times_20 (fun H locs hP hD hS => ?_)
      have hP : va_P (dC, dI) classes [(h0, .inr (2, [.int (nI 1), .int (nI g), .ref qt, .ref qn, .ref qp, .ref qb, .ref qf, .ref qh, .ref qd])), (qt, .inl (cI, 1024, .inl t))] H := hP
      have hD : va_D _ [(h0, .inr (2, [.int (nI 1), .int (nI g), .ref qt, .ref qn, .ref qp, .ref qb, .ref qf, .ref qh, .ref qd])), (qt, .inl (cI, 1024, .inl t))] := hD
      refine lv_aload_n hx hb d_M_times_23 rfl (lv_at hl 0 rfl) ?_
      refine va_get (D := (dC, dI)) (ci := 2) (v := .int (nI 1)) (C := R_M) (T := F_M) (N := 9) hx hb htw u_M hown hK hP 0 rfl rfl 0 (by decide) (htw _ l_M_32) (fun _ h9 => h9) rfl d_M_times_24 ?_
      refine lv_if_le (tgt := 34) hx hb d_M_times_27 (by decide) (fun hd1 => ?_) (fun hd1 => ?_)
      · exact absurd hd1 (by decide)
      · refine lv_iconst (v := nI 0) hx hb d_M_times_30 (by decide) ?_
        refine lv_goto (tgt := 45) hx hb d_M_times_31 (by decide) ?_
        exact rk_iret (nI 1) hx hb hr hlocks (Or.inl ⟨hv, rfl⟩) rfl hP hK hD hS d_M_times_45
    · obtain ⟨a, ha, rfl⟩ := rk_v_t (zI_n.mp hc)
      obtain ⟨b, hb32, rfl⟩ := rk_v_t (zI_n.mp hc2)
      refine lv_iconst (v := nI 0) hx hb d_M_times_15 (by decide) ?_
      refine lv_goto (tgt := 20) hx hb d_M_times_16 (by decide) ?_
      refine va_put (D := (dC, dI)) (ci := 2) (v := .int (nI 0)) (ty := .int) (C := R_M) (T := F_M) (N := 9) hx hb htw u_M t_M t_M_ok n_M hown hK hP hD hS 0 rfl rfl 0 (by decide) (htw _ l_M_32) (fun _ h9 => h9) rfl (by decide +kernel) rfl rfl (Nat.le_of_ble_eq_true rfl) d_M_times_20 (fun H locs hP hD hS => ?_)
      have hP : va_P (dC, dI) classes [(h0, .inr (2, [.int (nI 0), .int (nI g), .ref qt, .ref qn, .ref qp, .ref qb, .ref qf, .ref qh, .ref qd])), (qt, .inl (cI, 1024, .inl t))] H := hP
      have hD : va_D _ [(h0, .inr (2, [.int (nI 0), .int (nI g), .ref qt, .ref qn, .ref qp, .ref qb, .ref qf, .ref qh, .ref qd])), (qt, .inl (cI, 1024, .inl t))] := hD
      refine lv_aload_n hx hb d_M_times_23 rfl (lv_at hl 0 rfl) ?_
      refine va_get (D := (dC, dI)) (ci := 2) (v := .int (nI 0)) (C := R_M) (T := F_M) (N := 9) hx hb htw u_M hown hK hP 0 rfl rfl 0 (by decide) (htw _ l_M_32) (fun _ h9 => h9) rfl d_M_times_24 ?_
      refine lv_if_le (tgt := 34) hx hb d_M_times_27 (by decide) (fun hd1 => ?_) (fun hd1 => ?_)
      · refine lv_aload_n hx hb d_M_times_34 rfl (lv_at hl 0 rfl) ?_
        refine va_get (D := (dC, dI)) (ci := 2) (v := .ref qt) (C := R_M) (T := F_M) (N := 9) hx hb htw u_M hown hK hP 0 rfl rfl 2 (by decide) (htw _ l_M_9) (fun _ h9 => h9) rfl d_M_times_35 ?_
        refine lv_bipush (v := nI 32) hx hb d_M_times_38 (by decide) ?_
        refine lv_iload_n hx hb d_M_times_40 rfl (lv_at hl 1 rfl) ?_
        refine lv_imul hx hb d_M_times_41 ?_
        refine rk_top (y := nI (32 * a)) (pk_mul 32 a) ?_
        refine lv_iload_n hx hb d_M_times_42 rfl (lv_at hl 2 rfl) ?_
        refine lv_iadd hx hb d_M_times_43 ?_
        refine rk_top (y := nI (32 * a + b)) (nI_add (32 * a) b) ?_
        refine va_iald hx hb hK hP 1 0 rfl rfl (vp_in_nI (n := 32 * a + b) (show 32 * a + b < 1024 by omega) (by decide)) d_M_times_44 ?_
        refine rk_top (y := t (32 * a + b)) (congrArg t (nI_clamp (show 32 * a + b < 2 ^ 31 by omega))) ?_
        exact rk_iret (nI 0) hx hb hr hlocks (Or.inr ⟨a, b, ha, hb32, rfl, rfl, rfl, rfl⟩) rfl hP hK hD hS d_M_times_45
      · exact absurd (by decide : (nI 0 : Int32) ≤ 0) hd1
