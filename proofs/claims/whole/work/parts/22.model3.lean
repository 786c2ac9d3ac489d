set_option maxHeartbeats 4000000 in
set_option maxRecDepth 100000 in
theorem c_M_distance (l : Launch) (dC : Nat → ClassId) (dI : Nat → Nat → Nat) (cI cZ cJ : ClassId) (sz : Nat) (h0 qt qn qp qb qf qh qd : Nat) (th : Int32) (g : Nat) (t fr : Nat → Int32) (h : Nat → Bool) (hcl : ∀ p, p < 1024 → h p = rk_jv 32 (fun p => decide (0 < t p)) p) (x y : Int32) : Met l y_M_distance (.code y_M_distance b_M_distance 6 (some .int) :: WT) { frames := 1, cells := 0, slots := 0, locals := 20 } (va_Pc [.ref h0, .int x, .int y] (rk_pre (dC, dI) [(cI, .int), (cZ, .boolean), (cJ, .long)] sz [(h0, .inr (2, [.int th, .int (nI g), .ref qt, .ref qn, .ref qp, .ref qb, .ref qf, .ref qh, .ref qd])), (qt, .inl (cI, 1024, .inl t)), (qf, .inl (cI, 32, .inl fr)), (qh, .inl (cZ, 1024, .inl (fun p => zI (h p))))])) (va_Qi (fun (r : Int32) (u : Int32 × (Nat → Int32)) => rk_diM t h x y r u) (fun u s9 => rk_at (dC, dI) [(cI, .int), (cZ, .boolean), (cJ, .long)] (va_A [(h0, .inr (2, [.int th, .int (nI g), .ref qt, .ref qn, .ref qp, .ref qb, .ref qf, .ref qh, .ref qd])), (qt, .inl (cI, 1024, .inl t)), (qf, .inl (cI, 32, .inl fr)), (qh, .inl (cZ, 1024, .inl (fun p => zI (h p))))] sz) [(h0, .inr (2, [.int (u.1), .int (nI g), .ref qt, .ref qn, .ref qp, .ref qb, .ref qf, .ref qh, .ref qd])), (qt, .inl (cI, 1024, .inl t)), (qf, .inl (cI, 32, .inl u.2)), (qh, .inl (cZ, 1024, .inl (fun p => zI (h p))))] s9) (va_A [(h0, .inr (2, [.int th, .int (nI g), .ref qt, .ref qn, .ref qp, .ref qb, .ref qf, .ref qh, .ref qd])), (qt, .inl (cI, 1024, .inl t)), (qf, .inl (cI, 32, .inl fr)), (qh, .inl (cZ, 1024, .inl (fun p => zI (h p))))] sz)) 0 0 (va_A [(h0, .inr (2, [.int th, .int (nI g), .ref qt, .ref qn, .ref qp, .ref qb, .ref qf, .ref qh, .ref qd])), (qt, .inl (cI, 1024, .inl t)), (qf, .inl (cI, 32, .inl fr)), (qh, .inl (cZ, 1024, .inl (fun p => zI (h p))))] sz) := by
  refine rk_body (by decide) (Nat.le_of_ble_eq_true rfl) ?_
  intro p e s m below meth c hx hb hml hr htw hown hlocks hin hsz hP hK hD hA hS ls hl
  have hown : s.vm.findClass R_M = some m.cls := hown
  have hl : lv_has ls 6 [(0, .ref h0), (1, .int x), (2, .int y)] := hl
  refine lv_aload_n hx hb d_M_distance_0 rfl (lv_at hl 0 rfl) ?_
  refine lv_iload_n hx hb d_M_distance_1 rfl (lv_at hl 1 rfl) ?_
  refine rk_backi (wc := []) (wr := [(h0, .inr (2, [.int th, .int (nI g), .ref qt, .ref qn, .ref qp, .ref qb, .ref qf, .ref qh, .ref qd])), (qt, .inl (cI, 1024, .inl t)), (qf, .inl (cI, 32, .inl fr)), (qh, .inl (cZ, 1024, .inl (fun p => zI (h p))))]) (va_runS (As := [.int x]) (rest := [.ref h0]) ⟨hx, hb, hml, hown, htw⟩ (c_M_isVertex l dC dI cI cZ cJ _ x) (rk_cwS 1 htw gc_M_distance_2 (by decide +kernel) ⟨(Nat.le_of_ble_eq_true rfl), (Nat.le_of_ble_eq_true rfl)⟩) (⟨rk_blind, rk_give (rk_psub (isC := []) hP rfl) hK (hD.sub [] rfl rfl)⟩) rfl rfl hl.1 rfl (lv_room (Nat.le_of_ble_eq_true rfl)) d_M_distance_2 ⟨(Nat.le_of_ble_eq_true rfl), (Nat.le_of_ble_eq_true rfl)⟩) hP hD hS hA [] [0, 1, 2, 3] rfl rfl rfl (by decide) (fun x5 u5 H locs hp hP hD hS => ?_)
  subst hp
  have hP : va_P (dC, dI) classes [(h0, .inr (2, [.int th, .int (nI g), .ref qt, .ref qn, .ref qp, .ref qb, .ref qf, .ref qh, .ref qd])), (qt, .inl (cI, 1024, .inl t)), (qf, .inl (cI, 32, .inl fr)), (qh, .inl (cZ, 1024, .inl (fun p => zI (h p))))] H := hP
  have hD : va_D _ [(h0, .inr (2, [.int th, .int (nI g), .ref qt, .ref qn, .ref qp, .ref qb, .ref qf, .ref qh, .ref qd])), (qt, .inl (cI, 1024, .inl t)), (qf, .inl (cI, 32, .inl fr)), (qh, .inl (cZ, 1024, .inl (fun p => zI (h p))))] := hD
  refine lv_if_eq (tgt := 15) hx hb d_M_distance_5 (by decide) (fun hc => ?_) (fun hc => ?_)
  · have hv : (rk_v x && rk_v y) = false := by rw [zI_0.mp hc]; rfl
    refine lv_iconst (v := nI 1) hx hb d_M_distance_15 (by decide) ?_
    refine lv_goto (tgt := 38) hx hb d_M_distance_16 (by decide) ?_
    refine va_put (D := (dC, dI)) (ci := 2) (v := .int (nI 1)) (ty := .int) (C := R_M) (T := F_M) (N := 9) hx hb htw u_M t_M t_M_ok n_M hown hK hP hD hS 0 rfl rfl 0 (by decide) (htw _ l_M_32) (fun _ h9 => h9) rfl (by decide +kernel) rfl rfl (Nat.le_of_ble_eq_true rfl) d_M_distance_38 (fun H locs hP hD hS => ?_)
    have hP : va_P (dC, dI) classes [(h0, .inr (2, [.int (nI 1), .int (nI g), .ref qt, .ref qn, .ref qp, .ref qb, .ref qf, .ref qh, .ref qd])), (qt, .inl (cI, 1024, .inl t)), (qf, .inl (cI, 32, .inl fr)), (qh, .inl (cZ, 1024, .inl (fun p => zI (h p))))] H := hP
    have hD : va_D _ [(h0, .inr (2, [.int (nI 1), .int (nI g), .ref qt, .ref qn, .ref qp, .ref qb, .ref qf, .ref qh, .ref qd])), (qt, .inl (cI, 1024, .inl t)), (qf, .inl (cI, 32, .inl fr)), (qh, .inl (cZ, 1024, .inl (fun p => zI (h p))))] := hD
    refine lv_aload_n hx hb d_M_distance_41 rfl (lv_at hl 0 rfl) ?_
    refine va_get (D := (dC, dI)) (ci := 2) (v := .int (nI 1)) (C := R_M) (T := F_M) (N := 9) hx hb htw u_M hown hK hP 0 rfl rfl 0 (by decide) (htw _ l_M_32) (fun _ h9 => h9) rfl d_M_distance_42 ?_
    refine lv_if_le (tgt := 50) hx hb d_M_distance_45 (by decide) (fun hd1 => ?_) (fun hd1 => ?_)
    · exact absurd hd1 (by decide)
    · refine lv_iconst (v := nI 0) hx hb d_M_distance_48 (by decide) ?_
      exact rk_iret ((nI 1, fr)) hx hb hr hlocks (Or.inl ⟨hv, rfl⟩) rfl hP hK hD hS d_M_distance_49
  · refine lv_iload_n hx hb d_M_distance_8 rfl (lv_at hl 2 rfl) ?_
    refine rk_backi (wc := []) (wr := [(h0, .inr (2, [.int th, .int (nI g), .ref qt, .ref qn, .ref qp, .ref qb, .ref qf, .ref qh, .ref qd])), (qt, .inl (cI, 1024, .inl t)), (qf, .inl (cI, 32, .inl fr)), (qh, .inl (cZ, 1024, .inl (fun p => zI (h p))))]) (va_runS (As := [.int y]) (rest := [.ref h0]) ⟨hx, hb, hml, hown, htw⟩ (c_M_isVertex l dC dI cI cZ cJ _ y) (rk_cwS 1 htw gc_M_distance_9 (by decide +kernel) ⟨(Nat.le_of_ble_eq_true rfl), (Nat.le_of_ble_eq_true rfl)⟩) (⟨rk_blind, rk_give (rk_psub (isC := []) hP rfl) hK (hD.sub [] rfl rfl)⟩) rfl rfl hl.1 rfl (lv_room (Nat.le_of_ble_eq_true rfl)) d_M_distance_9 ⟨(Nat.le_of_ble_eq_true rfl), (Nat.le_of_ble_eq_true rfl)⟩) hP hD hS hA [] [0, 1, 2, 3] rfl rfl rfl (by decide) (fun x6 u6 H locs hp hP hD hS => ?_)
    subst hp
    have hP : va_P (dC, dI) classes [(h0, .inr (2, [.int th, .int (nI g), .ref qt, .ref qn, .ref qp, .ref qb, .ref qf, .ref qh, .ref qd])), (qt, .inl (cI, 1024, .inl t)), (qf, .inl (cI, 32, .inl fr)), (qh, .inl (cZ, 1024, .inl (fun p => zI (h p))))] H := hP
    have hD : va_D _ [(h0, .inr (2, [.int th, .int (nI g), .ref qt, .ref qn, .ref qp, .ref qb, .ref qf, .ref qh, .ref qd])), (qt, .inl (cI, 1024, .inl t)), (qf, .inl (cI, 32, .inl fr)), (qh, .inl (cZ, 1024, .inl (fun p => zI (h p))))] := hD
    refine lv_if_ne (tgt := 19) hx hb d_M_distance_12 (by decide) (fun hc2 => ?_) (fun hc2 => ?_)
    · obtain ⟨a, ha, hxa⟩ := rk_v_t (zI_n.mp hc)
      obtain ⟨b, hb32, hyb⟩ := rk_v_t (zI_n.mp hc2)
      have hl : lv_has ls 6 [(0, .ref h0), (1, .int (nI a)), (2, .int (nI b))] := by rw [← hxa, ← hyb]; exact hl
      refine lv_aload_n hx hb d_M_distance_19 rfl (lv_at hl 0 rfl) ?_
      refine va_get (D := (dC, dI)) (ci := 2) (v := .ref qh) (C := R_M) (T := F_M) (N := 9) hx hb htw u_M hown hK hP 0 rfl rfl 7 (by decide) (htw _ l_M_25) (fun _ h9 => h9) rfl d_M_distance_20 ?_
      refine lv_bipush (v := nI 32) hx hb d_M_distance_23 (by decide) ?_
      refine lv_iload_n hx hb d_M_distance_25 rfl (lv_at hl 1 rfl) ?_
      refine lv_imul hx hb d_M_distance_26 ?_
      refine rk_top (y := nI (32 * a)) (pk_mul 32 a) ?_
      refine lv_iload_n hx hb d_M_distance_27 rfl (lv_at hl 2 rfl) ?_
      refine lv_iadd hx hb d_M_distance_28 ?_
      refine rk_top (y := nI (32 * a + b)) (nI_add (32 * a) b) ?_
      refine va_zald hx hb hK hP 3 1 rfl rfl (vp_in_nI (n := 32 * a + b) (show 32 * a + b < 1024 by omega) (by decide)) d_M_distance_29 ?_
      refine rk_top (y := zI (h (32 * a + b))) (congrArg (fun p => zI (h p)) (nI_clamp (show 32 * a + b < 2 ^ 31 by omega))) ?_
      refine lv_if_ne (tgt := 37) hx hb d_M_distance_30 (by decide) (fun hc3 => ?_) (fun hc3 => ?_)
      · have hc3 := zI_n.mp hc3
        refine lv_iconst (v := nI 0) hx hb d_M_distance_37 (by decide) ?_
        refine va_put (D := (dC, dI)) (ci := 2) (v := .int (nI 0)) (ty := .int) (C := R_M) (T := F_M) (N := 9) hx hb htw u_M t_M t_M_ok n_M hown hK hP hD hS 0 rfl rfl 0 (by decide) (htw _ l_M_32) (fun _ h9 => h9) rfl (by decide +kernel) rfl rfl (Nat.le_of_ble_eq_true rfl) d_M_distance_38 (fun H locs hP hD hS => ?_)
        have hP : va_P (dC, dI) classes [(h0, .inr (2, [.int (nI 0), .int (nI g), .ref qt, .ref qn, .ref qp, .ref qb, .ref qf, .ref qh, .ref qd])), (qt, .inl (cI, 1024, .inl t)), (qf, .inl (cI, 32, .inl fr)), (qh, .inl (cZ, 1024, .inl (fun p => zI (h p))))] H := hP
        have hD : va_D _ [(h0, .inr (2, [.int (nI 0), .int (nI g), .ref qt, .ref qn, .ref qp, .ref qb, .ref qf, .ref qh, .ref qd])), (qt, .inl (cI, 1024, .inl t)), (qf, .inl (cI, 32, .inl fr)), (qh, .inl (cZ, 1024, .inl (fun p => zI (h p))))] := hD
        refine lv_aload_n hx hb d_M_distance_41 rfl (lv_at hl 0 rfl) ?_
        refine va_get (D := (dC, dI)) (ci := 2) (v := .int (nI 0)) (C := R_M) (T := F_M) (N := 9) hx hb htw u_M hown hK hP 0 rfl rfl 0 (by decide) (htw _ l_M_32) (fun _ h9 => h9) rfl d_M_distance_42 ?_
        refine lv_if_le (tgt := 50) hx hb d_M_distance_45 (by decide) (fun hd1 => ?_) (fun hd1 => ?_)
        · obtain ⟨K, hKb⟩ := (rk_reach (e := (fun p => decide (0 < t p))) ha hb32).mp (by rw [← hcl _ (by omega)]; exact hc3)
          obtain ⟨K, hK32, hKb, hKn⟩ := rk_w_32 hb32 hKb
          refine lv_iconst (v := nI 0) hx hb d_M_distance_50 (by decide) ?_
          refine lv_istore_n (lv' := [(3, .int (nI 0)), (0, .ref h0), (1, .int (nI a)), (2, .int (nI b))]) hx hb d_M_distance_51 rfl hl (by decide) rfl (fun ls hl => ?_)
          have lp1 : ∀ (kf1 : Nat) (i : Nat), 32 - i < kf1 → i ≤ 32 → ∀ z : Nat → Int32, (∀ j, j < i → z j = nI (rk_d (fun p => decide (0 < t p)) a 0 j)) → ∀ (ls : Array Slot) (H : Heap) (locs : List Loc), lv_has ls 6 [(3, .int (nI i)), (0, .ref h0), (1, .int (nI a)), (2, .int (nI b))] → va_P (dC, dI) classes [(h0, .inr (2, [.int (nI 0), .int (nI g), .ref qt, .ref qn, .ref qp, .ref qb, .ref qf, .ref qh, .ref qd])), (qt, .inl (cI, 1024, .inl t)), (qf, .inl (cI, 32, .inl z)), (qh, .inl (cZ, 1024, .inl (fun p => zI (h p))))] H → va_D (va_A [(h0, .inr (2, [.int th, .int (nI g), .ref qt, .ref qn, .ref qp, .ref qb, .ref qf, .ref qh, .ref qd])), (qt, .inl (cI, 1024, .inl t)), (qf, .inl (cI, 32, .inl fr)), (qh, .inl (cZ, 1024, .inl (fun p => zI (h p))))] sz) [(h0, .inr (2, [.int (nI 0), .int (nI g), .ref qt, .ref qn, .ref qp, .ref qb, .ref qf, .ref qh, .ref qd])), (qt, .inl (cI, 1024, .inl t)), (qf, .inl (cI, 32, .inl z)), (qh, .inl (cZ, 1024, .inl (fun p => zI (h p))))] → va_S (va_A [(h0, .inr (2, [.int th, .int (nI g), .ref qt, .ref qn, .ref qp, .ref qb, .ref qf, .ref qh, .ref qd])), (qt, .inl (cI, 1024, .inl t)), (qf, .inl (cI, 32, .inl fr)), (qh, .inl (cZ, 1024, .inl (fun p => zI (h p))))] sz) s.heap H locs → W p l e { frames := 1, cells := 0, slots := 0, locals := 20 } s m ([.ref h0, .int x, .int y]).toArray below meth c H locs 0 0 (MQ below (va_Qi (fun (r : Int32) (u : Int32 × (Nat → Int32)) => rk_diM t h x y r u) (fun u s9 => rk_at (dC, dI) [(cI, .int), (cZ, .boolean), (cJ, .long)] (va_A [(h0, .inr (2, [.int th, .int (nI g), .ref qt, .ref qn, .ref qp, .ref qb, .ref qf, .ref qh, .ref qd])), (qt, .inl (cI, 1024, .inl t)), (qf, .inl (cI, 32, .inl fr)), (qh, .inl (cZ, 1024, .inl (fun p => zI (h p))))] sz) [(h0, .inr (2, [.int (u.1), .int (nI g), .ref qt, .ref qn, .ref qp, .ref qb, .ref qf, .ref qh, .ref qd])), (qt, .inl (cI, 1024, .inl t)), (qf, .inl (cI, 32, .inl u.2)), (qh, .inl (cZ, 1024, .inl (fun p => zI (h p))))] s9) (va_A [(h0, .inr (2, [.int th, .int (nI g), .ref qt, .ref qn, .ref qp, .ref qb, .ref qf, .ref qh, .ref qd])), (qt, .inl (cI, 1024, .inl t)), (qf, .inl (cI, 32, .inl fr)), (qh, .inl (cZ, 1024, .inl (fun p => zI (h p))))] sz)) ([.ref h0, .int x, .int y]).toArray s 0 0 (va_A [(h0, .inr (2, [.int th, .int (nI g), .ref qt, .ref qn, .ref qp, .ref qb, .ref qf, .ref qh, .ref qd])), (qt, .inl (cI, 1024, .inl t)), (qf, .inl (cI, 32, .inl fr)), (qh, .inl (cZ, 1024, .inl (fun p => zI (h p))))] sz)) (F0 m 52 ls []) := by
            intro kf1
            induction kf1 with
            | zero => intro i hk1 hi z hz0; exact absurd hk1 (by omega)
            | succ kf1 ih1 =>
              intro i hk1 hi z hz0 ls H locs hl hP hD hS
              refine lv_iload_n hx hb d_M_distance_52 rfl (lv_at hl 0 rfl) ?_
              refine lv_bipush (v := nI 32) hx hb d_M_distance_53 (by decide) ?_
              refine lv_icmp_ge (tgt := 89) hx hb d_M_distance_55 (by decide) (fun hc4 => ?_) (fun hc4 => ?_)
              · have hc4 := (nI_leI (by omega) (by omega)).mp hc4
                have hz0 : ∀ j, j < 32 → z j = nI (rk_d (fun p => decide (0 < t p)) a 0 j) := fun j hj => hz0 j (by omega)
                refine lv_iconst (v := nI 1) hx hb d_M_distance_89 (by decide) ?_
                refine lv_istore_n (lv' := [(3, .int (nI 1)), (0, .ref h0), (1, .int (nI a)), (2, .int (nI b))]) hx hb d_M_distance_90 rfl hl (by decide) rfl (fun ls hl => ?_)
                have lpo : ∀ (kfo : Nat) (n : Nat), K - n < kfo → n ≤ K → ∀ z : Nat → Int32, (∀ j, j < 32 → z j = nI (rk_d (fun p => decide (0 < t p)) a n j)) → ∀ (ls : Array Slot) (H : Heap) (locs : List Loc), lv_has ls 6 [(3, .int (nI (n + 1))), (0, .ref h0), (1, .int (nI a)), (2, .int (nI b))] → va_P (dC, dI) classes [(h0, .inr (2, [.int (nI 0), .int (nI g), .ref qt, .ref qn, .ref qp, .ref qb, .ref qf, .ref qh, .ref qd])), (qt, .inl (cI, 1024, .inl t)), (qf, .inl (cI, 32, .inl z)), (qh, .inl (cZ, 1024, .inl (fun p => zI (h p))))] H → va_D (va_A [(h0, .inr (2, [.int th, .int (nI g), .ref qt, .ref qn, .ref qp, .ref qb, .ref qf, .ref qh, .ref qd])), (qt, .inl (cI, 1024, .inl t)), (qf, .inl (cI, 32, .inl fr)), (qh, .inl (cZ, 1024, .inl (fun p => zI (h p))))] sz) [(h0, .inr (2, [.int (nI 0), .int (nI g), .ref qt, .ref qn, .ref qp, .ref qb, .ref qf, .ref qh, .ref qd])), (qt, .inl (cI, 1024, .inl t)), (qf, .inl (cI, 32, .inl z)), (qh, .inl (cZ, 1024, .inl (fun p => zI (h p))))] → va_S (va_A [(h0, .inr (2, [.int th, .int (nI g), .ref qt, .ref qn, .ref qp, .ref qb, .ref qf, .ref qh, .ref qd])), (qt, .inl (cI, 1024, .inl t)), (qf, .inl (cI, 32, .inl fr)), (qh, .inl (cZ, 1024, .inl (fun p => zI (h p))))] sz) s.heap H locs → W p l e { frames := 1, cells := 0, slots := 0, locals := 20 } s m ([.ref h0, .int x, .int y]).toArray below meth c H locs 0 0 (MQ below (va_Qi (fun (r : Int32) (u : Int32 × (Nat → Int32)) => rk_diM t h x y r u) (fun u s9 => rk_at (dC, dI) [(cI, .int), (cZ, .boolean), (cJ, .long)] (va_A [(h0, .inr (2, [.int th, .int (nI g), .ref qt, .ref qn, .ref qp, .ref qb, .ref qf, .ref qh, .ref qd])), (qt, .inl (cI, 1024, .inl t)), (qf, .inl (cI, 32, .inl fr)), (qh, .inl (cZ, 1024, .inl (fun p => zI (h p))))] sz) [(h0, .inr (2, [.int (u.1), .int (nI g), .ref qt, .ref qn, .ref qp, .ref qb, .ref qf, .ref qh, .ref qd])), (qt, .inl (cI, 1024, .inl t)), (qf, .inl (cI, 32, .inl u.2)), (qh, .inl (cZ, 1024, .inl (fun p => zI (h p))))] s9) (va_A [(h0, .inr (2, [.int th, .int (nI g), .ref qt, .ref qn, .ref qp, .ref qb, .ref qf, .ref qh, .ref qd])), (qt, .inl (cI, 1024, .inl t)), (qf, .inl (cI, 32, .inl fr)), (qh, .inl (cZ, 1024, .inl (fun p => zI (h p))))] sz)) ([.ref h0, .int x, .int y]).toArray s 0 0 (va_A [(h0, .inr (2, [.int th, .int (nI g), .ref qt, .ref qn, .ref qp, .ref qb, .ref qf, .ref qh, .ref qd])), (qt, .inl (cI, 1024, .inl t)), (qf, .inl (cI, 32, .inl fr)), (qh, .inl (cZ, 1024, .inl (fun p => zI (h p))))] sz)) (F0 m 91 ls []) := by
                  intro kfo
                  induction kfo with
                  | zero => intro n hko hnn z hz0; exact absurd hko (by omega)
                  | succ kfo iho =>
                    intro n hko hnn z hz0 ls H locs hl hP hD hS
                    have hdl := rk_d_le (fun p => decide (0 < t p)) a n
                    refine lv_aload_n hx hb d_M_distance_91 rfl (lv_at hl 1 rfl) ?_
                    refine va_get (D := (dC, dI)) (ci := 2) (v := .ref qf) (C := R_M) (T := F_M) (N := 9) hx hb htw u_M hown hK hP 0 rfl rfl 6 (by decide) (htw _ l_M_22) (fun _ h9 => h9) rfl d_M_distance_92 ?_
                    refine lv_iload_n hx hb d_M_distance_95 rfl (lv_at hl 3 rfl) ?_
                    refine va_iald hx hb hK hP 2 0 rfl rfl (vp_in_nI (n := b) (show b < 32 by omega) (by decide)) d_M_distance_96 ?_
                    refine rk_top (y := z b) (congrArg z (nI_clamp (show b < 2 ^ 31 by omega))) ?_
                    refine rk_top (y := nI (rk_d (fun p => decide (0 < t p)) a n b)) (hz0 b hb32) ?_
                    refine lv_if_ne (tgt := 188) hx hb d_M_distance_97 (by decide) (fun hc6 => ?_) (fun hc6 => ?_)
                    · have hnz : rk_d (fun p => decide (0 < t p)) a n b ≠ 0 := fun z9 => hc6 (by rw [z9]; rfl)
                      have hnw : rk_w (fun p => decide (0 < t p)) a n b = true := by cases h9 : rk_w (fun p => decide (0 < t p)) a n b; exact absurd (rk_d_0.mpr h9) hnz; rfl
                      have hnK : n = K := by rcases Nat.lt_or_ge n K with z9 | z9; rw [hKn n z9] at hnw; cases hnw; omega
                      refine lv_aload_n hx hb d_M_distance_188 rfl (lv_at hl 1 rfl) ?_
                      refine va_get (D := (dC, dI)) (ci := 2) (v := .ref qf) (C := R_M) (T := F_M) (N := 9) hx hb htw u_M hown hK hP 0 rfl rfl 6 (by decide) (htw _ l_M_22) (fun _ h9 => h9) rfl d_M_distance_189 ?_
                      refine lv_iload_n hx hb d_M_distance_192 rfl (lv_at hl 3 rfl) ?_
                      refine va_iald hx hb hK hP 2 0 rfl rfl (vp_in_nI (n := b) (show b < 32 by omega) (by decide)) d_M_distance_193 ?_
                      refine rk_top (y := z b) (congrArg z (nI_clamp (show b < 2 ^ 31 by omega))) ?_
                      refine rk_top (y := nI (n + 1)) (by rw [hz0 b hb32, rk_d_new hnw (fun j hj => hKn j (by omega))]) ?_
                      exact rk_iret ((nI 0, z)) hx hb hr hlocks (Or.inr (Or.inr ⟨a, b, n, ha, hb32, hxa, hyb, by omega, hnw, fun j hj => hKn j (by omega), rfl, rfl⟩)) rfl hP hK hD hS d_M_distance_194
                    · have hnb : rk_d (fun p => decide (0 < t p)) a n b = 0 := rk_n0 (by have := hdl b; omega) hc6
                      have hnK : n < K := by rcases Nat.lt_or_ge n K with z9 | z9; exact z9; have h9 := rk_w_mono z9 hKb; rw [rk_d_0.mp hnb] at h9; cases h9
                      refine lv_iconst (v := nI 0) hx hb d_M_distance_100 (by decide) ?_
                      refine lv_istore (lv' := [(4, .int (nI 0)), (3, .int (nI (n + 1))), (0, .ref h0), (1, .int (nI a)), (2, .int (nI b))]) hx hb d_M_distance_101 hl (by decide) rfl (fun ls hl => ?_)
                      have lpc : ∀ (kfc : Nat) (i : Nat), 32 - i < kfc → i ≤ 32 → ∀ fy : Nat → Int32, (∀ j, j < 32 → fy j = nI (rk_q (fun p => decide (0 < t p)) a n i j)) → ∀ (ls : Array Slot) (H : Heap) (locs : List Loc), lv_has ls 6 [(4, .int (nI i)), (3, .int (nI (n + 1))), (0, .ref h0), (1, .int (nI a)), (2, .int (nI b))] → va_P (dC, dI) classes [(h0, .inr (2, [.int (nI 0), .int (nI g), .ref qt, .ref qn, .ref qp, .ref qb, .ref qf, .ref qh, .ref qd])), (qt, .inl (cI, 1024, .inl t)), (qf, .inl (cI, 32, .inl fy)), (qh, .inl (cZ, 1024, .inl (fun p => zI (h p))))] H → va_D (va_A [(h0, .inr (2, [.int th, .int (nI g), .ref qt, .ref qn, .ref qp, .ref qb, .ref qf, .ref qh, .ref qd])), (qt, .inl (cI, 1024, .inl t)), (qf, .inl (cI, 32, .inl fr)), (qh, .inl (cZ, 1024, .inl (fun p => zI (h p))))] sz) [(h0, .inr (2, [.int (nI 0), .int (nI g), .ref qt, .ref qn, .ref qp, .ref qb, .ref qf, .ref qh, .ref qd])), (qt, .inl (cI, 1024, .inl t)), (qf, .inl (cI, 32, .inl fy)), (qh, .inl (cZ, 1024, .inl (fun p => zI (h p))))] → va_S (va_A [(h0, .inr (2, [.int th, .int (nI g), .ref qt, .ref qn, .ref qp, .ref qb, .ref qf, .ref qh, .ref qd])), (qt, .inl (cI, 1024, .inl t)), (qf, .inl (cI, 32, .inl fr)), (qh, .inl (cZ, 1024, .inl (fun p => zI (h p))))] sz) s.heap H locs → W p l e { frames := 1, cells := 0, slots := 0, locals := 20 } s m ([.ref h0, .int x, .int y]).toArray below meth c H locs 0 0 (MQ below (va_Qi (fun (r : Int32) (u : Int32 × (Nat → Int32)) => rk_diM t h x y r u) (fun u s9 => rk_at (dC, dI) [(cI, .int), (cZ, .boolean), (cJ, .long)] (va_A [(h0, .inr (2, [.int th, .int (nI g), .ref qt, .ref qn, .ref qp, .ref qb, .ref qf, .ref qh, .ref qd])), (qt, .inl (cI, 1024, .inl t)), (qf, .inl (cI, 32, .inl fr)), (qh, .inl (cZ, 1024, .inl (fun p => zI (h p))))] sz) [(h0, .inr (2, [.int (u.1), .int (nI g), .ref qt, .ref qn, .ref qp, .ref qb, .ref qf, .ref qh, .ref qd])), (qt, .inl (cI, 1024, .inl t)), (qf, .inl (cI, 32, .inl u.2)), (qh, .inl (cZ, 1024, .inl (fun p => zI (h p))))] s9) (va_A [(h0, .inr (2, [.int th, .int (nI g), .ref qt, .ref qn, .ref qp, .ref qb, .ref qf, .ref qh, .ref qd])), (qt, .inl (cI, 1024, .inl t)), (qf, .inl (cI, 32, .inl fr)), (qh, .inl (cZ, 1024, .inl (fun p => zI (h p))))] sz)) ([.ref h0, .int x, .int y]).toArray s 0 0 (va_A [(h0, .inr (2, [.int th, .int (nI g), .ref qt, .ref qn, .ref qp, .ref qb, .ref qf, .ref qh, .ref qd])), (qt, .inl (cI, 1024, .inl t)), (qf, .inl (cI, 32, .inl fr)), (qh, .inl (cZ, 1024, .inl (fun p => zI (h p))))] sz)) (F0 m 103 ls []) := by
                        intro kfc
                        induction kfc with
                        | zero => intro i hkc hii fy hy0; exact absurd hkc (by omega)
                        | succ kfc ihc =>
                          intro i hkc hii fy hy0 ls H locs hl hP hD hS
                          refine lv_iload hx hb d_M_distance_103 (lv_at hl 0 rfl) ?_
                          refine lv_bipush (v := nI 32) hx hb d_M_distance_105 (by decide) ?_
                          refine lv_icmp_ge (tgt := 182) hx hb d_M_distance_107 (by decide) (fun hc7 => ?_) (fun hc7 => ?_)
                          · have hc7 := (nI_leI (by omega) (by omega)).mp hc7
                            have hl := lv_sub (l' := [(3, .int (nI (n + 1))), (0, .ref h0), (1, .int (nI a)), (2, .int (nI b))]) hl [1, 2, 3, 4] rfl
                            refine lv_iinc (k := 0) (v := nI (n + 1 + 1)) (lv' := [(3, .int (nI (n + 1 + 1))), (0, .ref h0), (1, .int (nI a)), (2, .int (nI b))]) hx hb d_M_distance_182 hl rfl (nI_1 (n + 1)) (by decide) rfl (fun ls hl => ?_)
                            refine lv_goto (tgt := 91) hx hb d_M_distance_185 (by decide) ?_
                            exact iho (n + 1) (by omega) (by omega) fy (fun j hj => by rw [hy0 j hj, show i = 32 by omega, rk_q_32 hj]) ls H locs hl hP hD hS
                          · have hc7 := rk_gt (by omega) (by omega) hc7
                            have hqi := rk_q_le (fun p => decide (0 < t p)) a n i i
                            refine lv_aload_n hx hb d_M_distance_110 rfl (lv_at hl 2 rfl) ?_
                            refine va_get (D := (dC, dI)) (ci := 2) (v := .ref qf) (C := R_M) (T := F_M) (N := 9) hx hb htw u_M hown hK hP 0 rfl rfl 6 (by decide) (htw _ l_M_22) (fun _ h9 => h9) rfl d_M_distance_111 ?_
                            refine lv_iload hx hb d_M_distance_114 (lv_at hl 0 rfl) ?_
                            refine va_iald hx hb hK hP 2 0 rfl rfl (vp_in_nI (n := i) (show i < 32 by omega) (by decide)) d_M_distance_116 ?_
                            refine rk_top (y := fy i) (congrArg fy (nI_clamp (show i < 2 ^ 31 by omega))) ?_
                            refine rk_top (y := nI (rk_q (fun p => decide (0 < t p)) a n i i)) (hy0 i (by omega)) ?_
                            refine lv_iload_n hx hb d_M_distance_117 rfl (lv_at hl 1 rfl) ?_
                            refine lv_icmp_eq (tgt := 124) hx hb d_M_distance_118 (by decide) (fun hc8 => ?_) (fun hc8 => ?_)
                            · have hc8 := rk_q_eq.mp ((nI_eq (by omega) (by omega)).mp hc8)
                              refine lv_iconst (v := nI 0) hx hb d_M_distance_124 (by decide) ?_
                              refine lv_istore (lv' := [(5, .int (nI 0)), (4, .int (nI i)), (3, .int (nI (n + 1))), (0, .ref h0), (1, .int (nI a)), (2, .int (nI b))]) hx hb d_M_distance_125 hl (by decide) rfl (fun ls hl => ?_)
                              have lpd : ∀ (kfd : Nat) (j : Nat), 32 - j < kfd → j ≤ 32 → ∀ v : Nat → Int32, (∀ j9, j9 < 32 → v j9 = nI (if j9 < j then rk_q (fun p => decide (0 < t p)) a n (i + 1) j9 else rk_q (fun p => decide (0 < t p)) a n i j9)) → ∀ (ls : Array Slot) (H : Heap) (locs : List Loc), lv_has ls 6 [(5, .int (nI j)), (4, .int (nI i)), (3, .int (nI (n + 1))), (0, .ref h0), (1, .int (nI a)), (2, .int (nI b))] → va_P (dC, dI) classes [(h0, .inr (2, [.int (nI 0), .int (nI g), .ref qt, .ref qn, .ref qp, .ref qb, .ref qf, .ref qh, .ref qd])), (qt, .inl (cI, 1024, .inl t)), (qf, .inl (cI, 32, .inl v)), (qh, .inl (cZ, 1024, .inl (fun p => zI (h p))))] H → va_D (va_A [(h0, .inr (2, [.int th, .int (nI g), .ref qt, .ref qn, .ref qp, .ref qb, .ref qf, .ref qh, .ref qd])), (qt, .inl (cI, 1024, .inl t)), (qf, .inl (cI, 32, .inl fr)), (qh, .inl (cZ, 1024, .inl (fun p => zI (h p))))] sz) [(h0, .inr (2, [.int (nI 0), .int (nI g), .ref qt, .ref qn, .ref qp, .ref qb, .ref qf, .ref qh, .ref qd])), (qt, .inl (cI, 1024, .inl t)), (qf, .inl (cI, 32, .inl v)), (qh, .inl (cZ, 1024, .inl (fun p => zI (h p))))] → va_S (va_A [(h0, .inr (2, [.int th, .int (nI g), .ref qt, .ref qn, .ref qp, .ref qb, .ref qf, .ref qh, .ref qd])), (qt, .inl (cI, 1024, .inl t)), (qf, .inl (cI, 32, .inl fr)), (qh, .inl (cZ, 1024, .inl (fun p => zI (h p))))] sz) s.heap H locs → W p l e { frames := 1, cells := 0, slots := 0, locals := 20 } s m ([.ref h0, .int x, .int y]).toArray below meth c H locs 0 0 (MQ below (va_Qi (fun (r : Int32) (u : Int32 × (Nat → Int32)) => rk_diM t h x y r u) (fun u s9 => rk_at (dC, dI) [(cI, .int), (cZ, .boolean), (cJ, .long)] (va_A [(h0, .inr (2, [.int th, .int (nI g), .ref qt, .ref qn, .ref qp, .ref qb, .ref qf, .ref qh, .ref qd])), (qt, .inl (cI, 1024, .inl t)), (qf, .inl (cI, 32, .inl fr)), (qh, .inl (cZ, 1024, .inl (fun p => zI (h p))))] sz) [(h0, .inr (2, [.int (u.1), .int (nI g), .ref qt, .ref qn, .ref qp, .ref qb, .ref qf, .ref qh, .ref qd])), (qt, .inl (cI, 1024, .inl t)), (qf, .inl (cI, 32, .inl u.2)), (qh, .inl (cZ, 1024, .inl (fun p => zI (h p))))] s9) (va_A [(h0, .inr (2, [.int th, .int (nI g), .ref qt, .ref qn, .ref qp, .ref qb, .ref qf, .ref qh, .ref qd])), (qt, .inl (cI, 1024, .inl t)), (qf, .inl (cI, 32, .inl fr)), (qh, .inl (cZ, 1024, .inl (fun p => zI (h p))))] sz)) ([.ref h0, .int x, .int y]).toArray s 0 0 (va_A [(h0, .inr (2, [.int th, .int (nI g), .ref qt, .ref qn, .ref qp, .ref qb, .ref qf, .ref qh, .ref qd])), (qt, .inl (cI, 1024, .inl t)), (qf, .inl (cI, 32, .inl fr)), (qh, .inl (cZ, 1024, .inl (fun p => zI (h p))))] sz)) (F0 m 127 ls []) := by
                                intro kfd
                                induction kfd with
                                | zero => intro j hkd hjj v hv0; exact absurd hkd (by omega)
                                | succ kfd ihd =>
                                  intro j hkd hjj v hv0 ls H locs hl hP hD hS
                                  refine lv_iload hx hb d_M_distance_127 (lv_at hl 0 rfl) ?_
                                  refine lv_bipush (v := nI 32) hx hb d_M_distance_129 (by decide) ?_
                                  refine lv_icmp_ge (tgt := 176) hx hb d_M_distance_131 (by decide) (fun hc9 => ?_) (fun hc9 => ?_)
                                  · have hc9 := (nI_leI (by omega) (by omega)).mp hc9
                                    have hl := lv_sub (l' := [(4, .int (nI i)), (3, .int (nI (n + 1))), (0, .ref h0), (1, .int (nI a)), (2, .int (nI b))]) hl [1, 2, 3, 4, 5] rfl
                                    refine lv_iinc (k := 0) (v := nI (i + 1)) (lv' := [(4, .int (nI (i + 1))), (3, .int (nI (n + 1))), (0, .ref h0), (1, .int (nI a)), (2, .int (nI b))]) hx hb d_M_distance_176 hl rfl (nI_1 i) (by decide) rfl (fun ls hl => ?_)
                                    refine lv_goto (tgt := 103) hx hb d_M_distance_179 (by decide) ?_
                                    exact ihc (i + 1) (by omega) (by omega) v (fun j9 hj9 => by rw [hv0 j9 hj9, if_pos (by omega)]) ls H locs hl hP hD hS
                                  · have hc9 := rk_gt (by omega) (by omega) hc9
                                    have hqj := rk_q_le (fun p => decide (0 < t p)) a n i j
                                    refine lv_aload_n hx hb d_M_distance_134 rfl (lv_at hl 3 rfl) ?_
                                    refine va_get (D := (dC, dI)) (ci := 2) (v := .ref qf) (C := R_M) (T := F_M) (N := 9) hx hb htw u_M hown hK hP 0 rfl rfl 6 (by decide) (htw _ l_M_22) (fun _ h9 => h9) rfl d_M_distance_135 ?_
                                    refine lv_iload hx hb d_M_distance_138 (lv_at hl 0 rfl) ?_
                                    refine va_iald hx hb hK hP 2 0 rfl rfl (vp_in_nI (n := j) (show j < 32 by omega) (by decide)) d_M_distance_140 ?_
                                    refine rk_top (y := v j) (congrArg v (nI_clamp (show j < 2 ^ 31 by omega))) ?_
                                    refine rk_top (y := nI (rk_q (fun p => decide (0 < t p)) a n i j)) (by rw [hv0 j (by omega), if_neg (by omega)]) ?_
                                    refine lv_if_ne (tgt := 170) hx hb d_M_distance_141 (by decide) (fun hd4 => ?_) (fun hd4 => ?_)
                                    · refine lv_iinc (k := 0) (v := nI (j + 1)) (lv' := [(5, .int (nI (j + 1))), (4, .int (nI i)), (3, .int (nI (n + 1))), (0, .ref h0), (1, .int (nI a)), (2, .int (nI b))]) hx hb d_M_distance_170 hl rfl (nI_1 j) (by decide) rfl (fun ls hl => ?_)
                                      refine lv_goto (tgt := 127) hx hb d_M_distance_173 (by decide) ?_
                                      exact ihd (j + 1) (by omega) (by omega) v (rk_q_keep hv0 (rk_q_old (fun z9 => hd4 (by rw [z9]; rfl)))) ls H locs hl hP hD hS
                                    · have hd4 : rk_q (fun p => decide (0 < t p)) a n i j = 0 := rk_n0 (by omega) hd4
                                      refine lv_aload_n hx hb d_M_distance_144 rfl (lv_at hl 3 rfl) ?_
                                      refine va_get (D := (dC, dI)) (ci := 2) (v := .ref qt) (C := R_M) (T := F_M) (N := 9) hx hb htw u_M hown hK hP 0 rfl rfl 2 (by decide) (htw _ l_M_9) (fun _ h9 => h9) rfl d_M_distance_145 ?_
                                      refine lv_bipush (v := nI 32) hx hb d_M_distance_148 (by decide) ?_
                                      refine lv_iload hx hb d_M_distance_150 (lv_at hl 1 rfl) ?_
                                      refine lv_imul hx hb d_M_distance_152 ?_
                                      refine rk_top (y := nI (32 * i)) (pk_mul 32 i) ?_
                                      refine lv_iload hx hb d_M_distance_153 (lv_at hl 0 rfl) ?_
                                      refine lv_iadd hx hb d_M_distance_155 ?_
                                      refine rk_top (y := nI (32 * i + j)) (nI_add (32 * i) j) ?_
                                      refine va_iald hx hb hK hP 1 0 rfl rfl (vp_in_nI (n := 32 * i + j) (show 32 * i + j < 1024 by omega) (by decide)) d_M_distance_156 ?_
                                      refine rk_top (y := t (32 * i + j)) (congrArg t (nI_clamp (show 32 * i + j < 2 ^ 31 by omega))) ?_
                                      refine lv_if_le (tgt := 170) hx hb d_M_distance_157 (by decide) (fun hd5 => ?_) (fun hd5 => ?_)
                                      · refine lv_iinc (k := 0) (v := nI (j + 1)) (lv' := [(5, .int (nI (j + 1))), (4, .int (nI i)), (3, .int (nI (n + 1))), (0, .ref h0), (1, .int (nI a)), (2, .int (nI b))]) hx hb d_M_distance_170 hl rfl (nI_1 j) (by decide) rfl (fun ls hl => ?_)
                                        refine lv_goto (tgt := 127) hx hb d_M_distance_173 (by decide) ?_
                                        exact ihd (j + 1) (by omega) (by omega) v (rk_q_keep hv0 (rk_q_no (decide_eq_false (Int32.not_lt.mpr hd5)))) ls H locs hl hP hD hS
                                      · refine lv_aload_n hx hb d_M_distance_160 rfl (lv_at hl 3 rfl) ?_
                                        refine va_get (D := (dC, dI)) (ci := 2) (v := .ref qf) (C := R_M) (T := F_M) (N := 9) hx hb htw u_M hown hK hP 0 rfl rfl 6 (by decide) (htw _ l_M_22) (fun _ h9 => h9) rfl d_M_distance_161 ?_
                                        refine lv_iload hx hb d_M_distance_164 (lv_at hl 0 rfl) ?_
                                        refine lv_iload_n hx hb d_M_distance_166 rfl (lv_at hl 2 rfl) ?_
                                        refine lv_iconst (v := nI 1) hx hb d_M_distance_167 (by decide) ?_
                                        refine lv_iadd hx hb d_M_distance_168 ?_
                                        refine rk_top (y := nI (n + 1 + 1)) (nI_add (n + 1) 1) ?_
                                        refine va_iast hx hb hK hP hD hS 2 0 rfl rfl (vp_in_nI (n := j) (show j < 32 by omega) (by decide)) d_M_distance_169 (fun H locs hP hD hS => ?_)
                                        rw [nI_clamp (show j < 2 ^ 31 by omega)] at hP hD
                                        have hP : va_P (dC, dI) classes [(h0, .inr (2, [.int (nI 0), .int (nI g), .ref qt, .ref qn, .ref qp, .ref qb, .ref qf, .ref qh, .ref qd])), (qt, .inl (cI, 1024, .inl t)), (qf, .inl (cI, 32, .inl (upd v j (nI (n + 1 + 1))))), (qh, .inl (cZ, 1024, .inl (fun p => zI (h p))))] H := hP
                                        have hD : va_D _ [(h0, .inr (2, [.int (nI 0), .int (nI g), .ref qt, .ref qn, .ref qp, .ref qb, .ref qf, .ref qh, .ref qd])), (qt, .inl (cI, 1024, .inl t)), (qf, .inl (cI, 32, .inl (upd v j (nI (n + 1 + 1))))), (qh, .inl (cZ, 1024, .inl (fun p => zI (h p))))] := hD
                                        refine lv_iinc (k := 0) (v := nI (j + 1)) (lv' := [(5, .int (nI (j + 1))), (4, .int (nI i)), (3, .int (nI (n + 1))), (0, .ref h0), (1, .int (nI a)), (2, .int (nI b))]) hx hb d_M_distance_170 hl rfl (nI_1 j) (by decide) rfl (fun ls hl => ?_)
                                        refine lv_goto (tgt := 127) hx hb d_M_distance_173 (by decide) ?_
                                        exact ihd (j + 1) (by omega) (by omega) _ (rk_q_put hv0 (by rw [rk_q_new hd4 hc8 (decide_eq_true (Int32.not_le.mp hd5))])) ls H locs hl hP hD hS
                              exact lpd 33 0 (by omega) (by omega) fy (fun j9 hj9 => by rw [if_neg (by omega)]; exact hy0 j9 hj9) ls _ _ hl hP hD hS
                            · have hc8 : ¬ rk_d (fun p => decide (0 < t p)) a n i = n + 1 := fun z9 => hc8 ((nI_eq (by omega) (by omega)).mpr (rk_q_eq.mpr z9))
                              refine lv_goto (tgt := 176) hx hb d_M_distance_121 (by decide) ?_
                              refine lv_iinc (k := 0) (v := nI (i + 1)) (lv' := [(4, .int (nI (i + 1))), (3, .int (nI (n + 1))), (0, .ref h0), (1, .int (nI a)), (2, .int (nI b))]) hx hb d_M_distance_176 hl rfl (nI_1 i) (by decide) rfl (fun ls hl => ?_)
                              refine lv_goto (tgt := 103) hx hb d_M_distance_179 (by decide) ?_
                              exact ihc (i + 1) (by omega) (by omega) fy (fun j9 hj9 => by rw [hy0 j9 hj9, rk_q_skip hc8]) ls H locs hl hP hD hS
                      exact lpc 33 0 (by omega) (by omega) z (fun j hj => by rw [rk_q_0c]; exact hz0 j hj) ls _ _ hl hP hD hS
                exact lpo (K + 1) 0 (by omega) (by omega) z hz0 ls _ _ hl hP hD hS
              · have hc4 := rk_gt (by omega) (by omega) hc4
                refine lv_aload_n hx hb d_M_distance_58 rfl (lv_at hl 1 rfl) ?_
                refine va_get (D := (dC, dI)) (ci := 2) (v := .ref qf) (C := R_M) (T := F_M) (N := 9) hx hb htw u_M hown hK hP 0 rfl rfl 6 (by decide) (htw _ l_M_22) (fun _ h9 => h9) rfl d_M_distance_59 ?_
                refine lv_iload_n hx hb d_M_distance_62 rfl (lv_at hl 0 rfl) ?_
                refine lv_aload_n hx hb d_M_distance_63 rfl (lv_at hl 1 rfl) ?_
                refine va_get (D := (dC, dI)) (ci := 2) (v := .ref qt) (C := R_M) (T := F_M) (N := 9) hx hb htw u_M hown hK hP 0 rfl rfl 2 (by decide) (htw _ l_M_9) (fun _ h9 => h9) rfl d_M_distance_64 ?_
                refine lv_bipush (v := nI 32) hx hb d_M_distance_67 (by decide) ?_
                refine lv_iload_n hx hb d_M_distance_69 rfl (lv_at hl 2 rfl) ?_
                refine lv_imul hx hb d_M_distance_70 ?_
                refine rk_top (y := nI (32 * a)) (pk_mul 32 a) ?_
                refine lv_iload_n hx hb d_M_distance_71 rfl (lv_at hl 0 rfl) ?_
                refine lv_iadd hx hb d_M_distance_72 ?_
                refine rk_top (y := nI (32 * a + i)) (nI_add (32 * a) i) ?_
                refine va_iald hx hb hK hP 1 0 rfl rfl (vp_in_nI (n := 32 * a + i) (show 32 * a + i < 1024 by omega) (by decide)) d_M_distance_73 ?_
                refine rk_top (y := t (32 * a + i)) (congrArg t (nI_clamp (show 32 * a + i < 2 ^ 31 by omega))) ?_
                refine lv_if_le (tgt := 81) hx hb d_M_distance_74 (by decide) (fun hc5 => ?_) (fun hc5 => ?_)
                · refine lv_iconst (v := nI 0) hx hb d_M_distance_81 (by decide) ?_
                  refine rk_top (y := nI (rk_d (fun p => decide (0 < t p)) a 0 i)) (by show _ = nI (if decide (0 < t (32 * a + i)) = true then 1 else 0); rw [decide_eq_false (Int32.not_lt.mpr hc5)]; rfl) ?_
                  refine va_iast hx hb hK hP hD hS 2 0 rfl rfl (vp_in_nI (n := i) (show i < 32 by omega) (by decide)) d_M_distance_82 (fun H locs hP hD hS => ?_)
                  rw [nI_clamp (show i < 2 ^ 31 by omega)] at hP hD
                  have hP : va_P (dC, dI) classes [(h0, .inr (2, [.int (nI 0), .int (nI g), .ref qt, .ref qn, .ref qp, .ref qb, .ref qf, .ref qh, .ref qd])), (qt, .inl (cI, 1024, .inl t)), (qf, .inl (cI, 32, .inl (upd z i (nI (rk_d (fun p => decide (0 < t p)) a 0 i))))), (qh, .inl (cZ, 1024, .inl (fun p => zI (h p))))] H := hP
                  have hD : va_D _ [(h0, .inr (2, [.int (nI 0), .int (nI g), .ref qt, .ref qn, .ref qp, .ref qb, .ref qf, .ref qh, .ref qd])), (qt, .inl (cI, 1024, .inl t)), (qf, .inl (cI, 32, .inl (upd z i (nI (rk_d (fun p => decide (0 < t p)) a 0 i))))), (qh, .inl (cZ, 1024, .inl (fun p => zI (h p))))] := hD
                  refine lv_iinc (k := 0) (v := nI (i + 1)) (lv' := [(3, .int (nI (i + 1))), (0, .ref h0), (1, .int (nI a)), (2, .int (nI b))]) hx hb d_M_distance_83 hl rfl (nI_1 i) (by decide) rfl (fun ls hl => ?_)
                  refine lv_goto (tgt := 52) hx hb d_M_distance_86 (by decide) ?_
                  exact ih1 (i + 1) (by omega) (by omega) _ (rk_upd_lt (g := fun j => nI (rk_d (fun p => decide (0 < t p)) a 0 j)) hz0 rfl) ls H locs hl hP hD hS
                · refine lv_iconst (v := nI 1) hx hb d_M_distance_77 (by decide) ?_
                  refine lv_goto (tgt := 82) hx hb d_M_distance_78 (by decide) ?_
                  refine rk_top (y := nI (rk_d (fun p => decide (0 < t p)) a 0 i)) (by show _ = nI (if decide (0 < t (32 * a + i)) = true then 1 else 0); rw [decide_eq_true (Int32.not_le.mp hc5)]; rfl) ?_
                  refine va_iast hx hb hK hP hD hS 2 0 rfl rfl (vp_in_nI (n := i) (show i < 32 by omega) (by decide)) d_M_distance_82 (fun H locs hP hD hS => ?_)
                  rw [nI_clamp (show i < 2 ^ 31 by omega)] at hP hD
                  have hP : va_P (dC, dI) classes [(h0, .inr (2, [.int (nI 0), .int (nI g), .ref qt, .ref qn, .ref qp, .ref qb, .ref qf, .ref qh, .ref qd])), (qt, .inl (cI, 1024, .inl t)), (qf, .inl (cI, 32, .inl (upd z i (nI (rk_d (fun p => decide (0 < t p)) a 0 i))))), (qh, .inl (cZ, 1024, .inl (fun p => zI (h p))))] H := hP
                  have hD : va_D _ [(h0, .inr (2, [.int (nI 0), .int (nI g), .ref qt, .ref qn, .ref qp, .ref qb, .ref qf, .ref qh, .ref qd])), (qt, .inl (cI, 1024, .inl t)), (qf, .inl (cI, 32, .inl (upd z i (nI (rk_d (fun p => decide (0 < t p)) a 0 i))))), (qh, .inl (cZ, 1024, .inl (fun p => zI (h p))))] := hD
                  refine lv_iinc (k := 0) (v := nI (i + 1)) (lv' := [(3, .int (nI (i + 1))), (0, .ref h0), (1, .int (nI a)), (2, .int (nI b))]) hx hb d_M_distance_83 hl rfl (nI_1 i) (by decide) rfl (fun ls hl => ?_)
                  refine lv_goto (tgt := 52) hx hb d_M_distance_86 (by decide) ?_
                  exact ih1 (i + 1) (by omega) (by omega) _ (rk_upd_lt (g := fun j => nI (rk_d (fun p => decide (0 < t p)) a 0 j)) hz0 rfl) ls H locs hl hP hD hS
          exact lp1 33 0 (by omega) (by omega) fr (fun j hj => by omega) ls _ _ hl hP hD hS
        · exact absurd (by decide : (nI 0 : Int32) ≤ 0) hd1
      · have hc3 := zI_0.mp hc3
        refine lv_iconst (v := nI 2) hx hb d_M_distance_33 (by decide) ?_
        refine lv_goto (tgt := 38) hx hb d_M_distance_34 (by decide) ?_
        refine va_put (D := (dC, dI)) (ci := 2) (v := .int (nI 2)) (ty := .int) (C := R_M) (T := F_M) (N := 9) hx hb htw u_M t_M t_M_ok n_M hown hK hP hD hS 0 rfl rfl 0 (by decide) (htw _ l_M_32) (fun _ h9 => h9) rfl (by decide +kernel) rfl rfl (Nat.le_of_ble_eq_true rfl) d_M_distance_38 (fun H locs hP hD hS => ?_)
        have hP : va_P (dC, dI) classes [(h0, .inr (2, [.int (nI 2), .int (nI g), .ref qt, .ref qn, .ref qp, .ref qb, .ref qf, .ref qh, .ref qd])), (qt, .inl (cI, 1024, .inl t)), (qf, .inl (cI, 32, .inl fr)), (qh, .inl (cZ, 1024, .inl (fun p => zI (h p))))] H := hP
        have hD : va_D _ [(h0, .inr (2, [.int (nI 2), .int (nI g), .ref qt, .ref qn, .ref qp, .ref qb, .ref qf, .ref qh, .ref qd])), (qt, .inl (cI, 1024, .inl t)), (qf, .inl (cI, 32, .inl fr)), (qh, .inl (cZ, 1024, .inl (fun p => zI (h p))))] := hD
        refine lv_aload_n hx hb d_M_distance_41 rfl (lv_at hl 0 rfl) ?_
        refine va_get (D := (dC, dI)) (ci := 2) (v := .int (nI 2)) (C := R_M) (T := F_M) (N := 9) hx hb htw u_M hown hK hP 0 rfl rfl 0 (by decide) (htw _ l_M_32) (fun _ h9 => h9) rfl d_M_distance_42 ?_
        refine lv_if_le (tgt := 50) hx hb d_M_distance_45 (by decide) (fun hd1 => ?_) (fun hd1 => ?_)
        · exact absurd hd1 (by decide)
        · refine lv_iconst (v := nI 0) hx hb d_M_distance_48 (by decide) ?_
          exact rk_iret ((nI 2, fr)) hx hb hr hlocks (Or.inr (Or.inl ⟨a, b, ha, hb32, hxa, hyb, hc3, rfl⟩)) rfl hP hK hD hS d_M_distance_49
    · have hv : (rk_v x && rk_v y) = false := by rw [zI_0.mp hc2]; exact Bool.and_false _
      refine lv_iconst (v := nI 1) hx hb d_M_distance_15 (by decide) ?_
      refine lv_goto (tgt := 38) hx hb d_M_distance_16 (by decide) ?_
      refine va_put (D := (dC, dI)) (ci := 2) (v := .int (nI 1)) (ty := .int) (C := R_M) (T := F_M) (N := 9) hx hb htw u_M t_M t_M_ok n_M hown hK hP hD hS 0 rfl rfl 0 (by decide) (htw _ l_M_32) (fun _ h9 => h9) rfl (by decide +kernel) rfl rfl (Nat.le_of_ble_eq_true rfl) d_M_distance_38 (fun H locs hP hD hS => ?_)
      have hP : va_P (dC, dI) classes [(h0, .inr (2, [.int (nI 1), .int (nI g), .ref qt, .ref qn, .ref qp, .ref qb, .ref qf, .ref qh, .ref qd])), (qt, .inl (cI, 1024, .inl t)), (qf, .inl (cI, 32, .inl fr)), (qh, .inl (cZ, 1024, .inl (fun p => zI (h p))))] H := hP
      have hD : va_D _ [(h0, .inr (2, [.int (nI 1), .int (nI g), .ref qt, .ref qn, .ref qp, .ref qb, .ref qf, .ref qh, .ref qd])), (qt, .inl (cI, 1024, .inl t)), (qf, .inl (cI, 32, .inl fr)), (qh, .inl (cZ, 1024, .inl (fun p => zI (h p))))] := hD
      refine lv_aload_n hx hb d_M_distance_41 rfl (lv_at hl 0 rfl) ?_
      refine va_get (D := (dC, dI)) (ci := 2) (v := .int (nI 1)) (C := R_M) (T := F_M) (N := 9) hx hb htw u_M hown hK hP 0 rfl rfl 0 (by decide) (htw _ l_M_32) (fun _ h9 => h9) rfl d_M_distance_42 ?_
      refine lv_if_le (tgt := 50) hx hb d_M_distance_45 (by decide) (fun hd1 => ?_) (fun hd1 => ?_)
      · exact absurd hd1 (by decide)
      · refine lv_iconst (v := nI 0) hx hb d_M_distance_48 (by decide) ?_
        exact rk_iret ((nI 1, fr)) hx hb hr hlocks (Or.inl ⟨hv, rfl⟩) rfl hP hK hD hS d_M_distance_49
