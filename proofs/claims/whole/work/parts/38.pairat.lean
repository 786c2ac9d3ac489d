set_option maxHeartbeats 4000000 in
set_option maxRecDepth 100000 in
theorem c_P_pairAt (l : Launch) (hl9 : l.stackTraces = false) (dC : Nat → ClassId) (dI : Nat → Nat → Nat) (cI cZ cJ : ClassId) (sz : Nat) (h0 q0 : Nat) (r0 : Nat → Int32) (f0 : Nat → Bool) (hR : rk_R r0 f0) (x : Int32) : Met l y_P_pairAt (.code y_P_pairAt b_P_pairAt 5 (some .int) :: WT) { frames := 2, cells := 0, slots := 0, locals := 44 } (va_Pc [.ref h0, .int x] (rk_preX (dC, dI) [(cI, .int), (cZ, .boolean), (cJ, .long)] sz [(h0, .inr (0, [.ref q0])), (q0, .inl (cI, 32, .inl r0))])) (va_Qi (fun (r : Int32) (u : Unit) => rk_nth f0 x r) (fun _ s9 => rk_at (dC, dI) [(cI, .int), (cZ, .boolean), (cJ, .long)] (va_A [(h0, .inr (0, [.ref q0])), (q0, .inl (cI, 32, .inl r0))] sz) [(h0, .inr (0, [.ref q0])), (q0, .inl (cI, 32, .inl r0))] s9) (va_A [(h0, .inr (0, [.ref q0])), (q0, .inl (cI, 32, .inl r0))] sz)) 0 0 (va_A [(h0, .inr (0, [.ref q0])), (q0, .inl (cI, 32, .inl r0))] sz) := by
  refine rk_bodyY (by decide) (Nat.le_of_ble_eq_true rfl) ?_
  intro p e s m below meth c hx hb hml hr htw hown hlocks hin hsz hP hK hD hA hS hY hZ ls hl
  have hown : s.vm.findClass R_P = some m.cls := hown
  have hl : lv_has ls 5 [(0, .ref h0), (1, .int x)] := hl
  refine lv_iload_n hx hb d_P_pairAt_0 rfl (lv_at hl 1 rfl) ?_
  refine lv_if_ge (tgt := 6) hx hb d_P_pairAt_1 (by decide) (fun hc => ?_) (fun hc => ?_)
  · have hx0 : ¬ x < 0 := Int32.not_lt.mpr hc
    obtain ⟨k, hk0, hxk⟩ := nI_of hx0
    have hl : lv_has ls 5 [(0, .ref h0), (1, .int (nI k))] := by rw [← hxk]; exact hl
    refine lv_iload_n hx hb d_P_pairAt_6 rfl (lv_at hl 1 rfl) ?_
    refine lv_istore_n (lv' := [(2, .int (nI k)), (0, .ref h0), (1, .int (nI k))]) hx hb d_P_pairAt_7 rfl hl (by decide) rfl (fun ls hl => ?_)
    refine lv_iconst (v := nI 0) hx hb d_P_pairAt_8 (by decide) ?_
    refine lv_istore_n (lv' := [(3, .int (nI 0)), (2, .int (nI k)), (0, .ref h0), (1, .int (nI k))]) hx hb d_P_pairAt_9 rfl hl (by decide) rfl (fun ls hl => ?_)
    have lp : ∀ (kf : Nat) (i : Nat), 32 - i < kf → i ≤ 32 → rk_sz r0 i ≤ k → ∀ (ls : Array Slot) (H : Heap) (locs : List Loc), lv_has ls 5 [(3, .int (nI i)), (2, .int (nI (k - rk_sz r0 i))), (0, .ref h0), (1, .int (nI k))] → va_P (dC, dI) classes [(h0, .inr (0, [.ref q0])), (q0, .inl (cI, 32, .inl r0))] H → va_D (va_A [(h0, .inr (0, [.ref q0])), (q0, .inl (cI, 32, .inl r0))] sz) [(h0, .inr (0, [.ref q0])), (q0, .inl (cI, 32, .inl r0))] → va_S (va_A [(h0, .inr (0, [.ref q0])), (q0, .inl (cI, 32, .inl r0))] sz) s.heap H locs → W p l e { frames := 2, cells := 0, slots := 0, locals := 44 } s m ([.ref h0, .int x]).toArray below meth c H locs 0 0 (MQ below (va_Qi (fun (r : Int32) (u : Unit) => rk_nth f0 x r) (fun _ s9 => rk_at (dC, dI) [(cI, .int), (cZ, .boolean), (cJ, .long)] (va_A [(h0, .inr (0, [.ref q0])), (q0, .inl (cI, 32, .inl r0))] sz) [(h0, .inr (0, [.ref q0])), (q0, .inl (cI, 32, .inl r0))] s9) (va_A [(h0, .inr (0, [.ref q0])), (q0, .inl (cI, 32, .inl r0))] sz)) ([.ref h0, .int x]).toArray s 0 0 (va_A [(h0, .inr (0, [.ref q0])), (q0, .inl (cI, 32, .inl r0))] sz)) (F0 m 10 ls []) := by
      intro kf
      induction kf with
      | zero => intro i hk hi hj; exact absurd hk (by omega)
      | succ kf ih =>
        intro i hk hi hj ls H locs hl hP hD hS
        have hsl := rk_sz_le r0 i
        have hcl := rk_c_le (bt (r0 i)) 32
        have hse := rk_sz_eq hR hi
        refine lv_iload_n hx hb d_P_pairAt_10 rfl (lv_at hl 0 rfl) ?_
        refine lv_bipush (v := nI 32) hx hb d_P_pairAt_11 (by decide) ?_
        refine lv_icmp_ge (tgt := 59) hx hb d_P_pairAt_13 (by decide) (fun hc2 => ?_) (fun hc2 => ?_)
        · have hc2 := (nI_leI (by omega) (by omega)).mp hc2
          refine lv_iconst (v := -1) hx hb d_P_pairAt_59 (by decide) ?_
          exact rk_iret (()) hx hb hr hlocks (Or.inr ⟨fun p hp9 hq9 => by rw [hxk]; intro z9; have h9 := rk_c_lt hq9 hp9; rw [nI_eq hk0 (by have := rk_c_le f0 p; omega)] at z9; rw [show 32 * i = 1024 by omega] at hse; omega, rfl⟩) rfl hP hK hD hS d_P_pairAt_60
        · have hc2 := rk_gt (by omega) (by omega) hc2
          refine lv_aload_n hx hb d_P_pairAt_16 rfl (lv_at hl 2 rfl) ?_
          refine va_get (D := (dC, dI)) (ci := 0) (v := .ref q0) (C := R_P) (T := F_P) (N := 1) hx hb htw u_P hown hK hP 0 rfl rfl 0 (by decide) (htw _ l_P_9) (fun _ h9 => h9) rfl d_P_pairAt_17 ?_
          refine lv_iload_n hx hb d_P_pairAt_20 rfl (lv_at hl 0 rfl) ?_
          refine va_iald hx hb hK hP 1 0 rfl rfl (vp_in_nI (n := i) (show i < 32 by omega) (by decide)) d_P_pairAt_21 ?_
          refine rk_top (y := r0 i) (congrArg r0 (nI_clamp (show i < 2 ^ 31 by omega))) ?_
          refine rk_backi (wc := []) (wr := [(h0, .inr (0, [.ref q0])), (q0, .inl (cI, 32, .inl r0))]) (va_runS (As := [.int (r0 i)]) (rest := []) ⟨hx, hb, hml, hown, htw⟩ (c_JI_bitCount l dC dI cI cZ cJ _ (r0 i)) (rk_cwS 1 htw gc_P_pairAt_22 (by decide +kernel) ⟨(Nat.le_of_ble_eq_true rfl), (Nat.le_of_ble_eq_true rfl)⟩) (⟨rk_blind, rk_give (rk_psub (isC := []) hP rfl) hK (hD.sub [] rfl rfl)⟩) rfl rfl hl.1 rfl (lv_room (Nat.le_of_ble_eq_true rfl)) d_P_pairAt_22 ⟨(Nat.le_of_ble_eq_true rfl), (Nat.le_of_ble_eq_true rfl)⟩) hP hD hS hA [] [0, 1] rfl rfl rfl (by decide) (fun x5 u5 H locs hp hP hD hS => ?_)
          subst hp
          have hP : va_P (dC, dI) classes [(h0, .inr (0, [.ref q0])), (q0, .inl (cI, 32, .inl r0))] H := hP
          have hD : va_D _ [(h0, .inr (0, [.ref q0])), (q0, .inl (cI, 32, .inl r0))] := hD
          refine lv_istore (lv' := [(4, .int (nI (rk_c (bt (r0 i)) 32))), (3, .int (nI i)), (2, .int (nI (k - rk_sz r0 i))), (0, .ref h0), (1, .int (nI k))]) hx hb d_P_pairAt_25 hl (by decide) rfl (fun ls hl => ?_)
          refine lv_iload_n hx hb d_P_pairAt_27 rfl (lv_at hl 2 rfl) ?_
          refine lv_iload hx hb d_P_pairAt_28 (lv_at hl 0 rfl) ?_
          refine lv_icmp_ge (tgt := 48) hx hb d_P_pairAt_30 (by decide) (fun hc3 => ?_) (fun hc3 => ?_)
          · have hc3 := (nI_leI (by omega) (by omega)).mp hc3
            refine lv_iload_n hx hb d_P_pairAt_48 rfl (lv_at hl 2 rfl) ?_
            refine lv_iload hx hb d_P_pairAt_49 (lv_at hl 0 rfl) ?_
            refine lv_isub hx hb d_P_pairAt_51 ?_
            refine rk_top (y := nI (k - rk_sz r0 (i + 1))) (by rw [pk_sub hc3, rk_sz_s, Nat.sub_sub]) ?_
            refine lv_istore_n (lv' := [(2, .int (nI (k - rk_sz r0 (i + 1)))), (4, .int (nI (rk_c (bt (r0 i)) 32))), (3, .int (nI i)), (0, .ref h0), (1, .int (nI k))]) hx hb d_P_pairAt_52 rfl hl (by decide) rfl (fun ls hl => ?_)
            refine lv_iinc (k := 2) (v := nI (i + 1)) (lv' := [(3, .int (nI (i + 1))), (2, .int (nI (k - rk_sz r0 (i + 1)))), (4, .int (nI (rk_c (bt (r0 i)) 32))), (0, .ref h0), (1, .int (nI k))]) hx hb d_P_pairAt_53 hl rfl (nI_1 i) (by decide) rfl (fun ls hl => ?_)
            refine lv_goto (tgt := 10) hx hb d_P_pairAt_56 (by decide) ?_
            have hl := lv_sub (l' := [(3, .int (nI (i + 1))), (2, .int (nI (k - rk_sz r0 (i + 1)))), (0, .ref h0), (1, .int (nI k))]) hl [0, 1, 3, 4] rfl
            exact ih (i + 1) (by omega) (by omega) (by rw [rk_sz_s]; omega) ls H locs hl hP hD hS
          · have hc3 := rk_gt (by omega) (by omega) hc3
            refine lv_iload_n hx hb d_P_pairAt_33 rfl (lv_at hl 1 rfl) ?_
            refine lv_aload_n hx hb d_P_pairAt_34 rfl (lv_at hl 3 rfl) ?_
            refine va_get (D := (dC, dI)) (ci := 0) (v := .ref q0) (C := R_P) (T := F_P) (N := 1) hx hb htw u_P hown hK hP 0 rfl rfl 0 (by decide) (htw _ l_P_9) (fun _ h9 => h9) rfl d_P_pairAt_35 ?_
            refine lv_iload_n hx hb d_P_pairAt_38 rfl (lv_at hl 1 rfl) ?_
            refine va_iald hx hb hK hP 1 0 rfl rfl (vp_in_nI (n := i) (show i < 32 by omega) (by decide)) d_P_pairAt_39 ?_
            refine rk_top (y := r0 i) (congrArg r0 (nI_clamp (show i < 2 ^ 31 by omega))) ?_
            refine lv_iload_n hx hb d_P_pairAt_40 rfl (lv_at hl 2 rfl) ?_
            refine rk_backi (wc := []) (wr := [(h0, .inr (0, [.ref q0])), (q0, .inl (cI, 32, .inl r0))]) (va_runS (As := [.int (r0 i), .int (nI (k - rk_sz r0 i))]) (rest := [.int (nI i)]) ⟨hx, hb, hml, hown, htw⟩ (c_P_bitAt l dC dI cI cZ cJ _ (r0 i) (k - rk_sz r0 i) hc3) (rk_cwS 2 htw gc_P_pairAt_41 (by decide +kernel) ⟨(Nat.le_of_ble_eq_true rfl), (Nat.le_of_ble_eq_true rfl)⟩) (⟨rk_blind, rk_give (rk_psub (isC := []) hP rfl) hK (hD.sub [] rfl rfl)⟩) rfl rfl hl.1 rfl (lv_room (Nat.le_of_ble_eq_true rfl)) d_P_pairAt_41 ⟨(Nat.le_of_ble_eq_true rfl), (Nat.le_of_ble_eq_true rfl)⟩) hP hD hS hA [] [0, 1] rfl rfl rfl (by decide) (fun x6 u6 H locs hp6 hP hD hS => ?_)
            obtain ⟨b, hb32, hbt, hbc, rfl⟩ := hp6
            have hP : va_P (dC, dI) classes [(h0, .inr (0, [.ref q0])), (q0, .inl (cI, 32, .inl r0))] H := hP
            have hD : va_D _ [(h0, .inr (0, [.ref q0])), (q0, .inl (cI, 32, .inl r0))] := hD
            refine rk_backi (wc := []) (wr := [(h0, .inr (0, [.ref q0])), (q0, .inl (cI, 32, .inl r0))]) (va_runSN (As := [.int (nI i), .int (nI b)]) (rest := []) ⟨hx, hb, hml, hown, htw⟩ (c_K_numberOf l dC dI cI cZ cJ _ i b) (rk_cwN 2 htw hY.2.2.2.2.2.2.2.2.2.1 in_K co_K_numberOf st_K_numberOf (by decide +kernel) ⟨(Nat.le_of_ble_eq_true rfl), (Nat.le_of_ble_eq_true rfl)⟩) (⟨rk_blind, rk_give (rk_psub (isC := []) hP rfl) hK (hD.sub [] rfl rfl)⟩) rfl rfl hl.1 rfl (lv_room (Nat.le_of_ble_eq_true rfl)) d_P_pairAt_44 ⟨(Nat.le_of_ble_eq_true rfl), (Nat.le_of_ble_eq_true rfl)⟩) hP hD hS hA [] [0, 1] rfl rfl rfl (by decide) (fun x7 u7 H locs hp7 hP hD hS => ?_)
            subst hp7
            have hP : va_P (dC, dI) classes [(h0, .inr (0, [.ref q0])), (q0, .inl (cI, 32, .inl r0))] H := hP
            have hD : va_D _ [(h0, .inr (0, [.ref q0])), (q0, .inl (cI, 32, .inl r0))] := hD
            exact rk_iret (()) hx hb hr hlocks (Or.inl ⟨32 * i + b, by omega, by rw [← hR i (by omega) b hb32]; exact hbt, by rw [hxk, rk_c_add, ← hse, rk_c_congr (g := bt (r0 i)) (fun j hj => (hR i (by omega) j (by omega)).symm), hbc, Nat.add_sub_cancel' hj], rfl⟩) rfl hP hK hD hS d_P_pairAt_47
    exact lp 33 0 (by omega) (by omega) (Nat.zero_le _) ls _ _ hl hP hD hS
  · refine lv_iconst (v := -1) hx hb d_P_pairAt_4 (by decide) ?_
    exact rk_iret (()) hx hb hr hlocks (Or.inr ⟨fun p hp9 hq9 z9 => hc (by rw [z9]; exact nI_pos' (by have := rk_c_le f0 p; omega)), rfl⟩) rfl hP hK hD hS d_P_pairAt_5
set_option maxHeartbeats 4000000 in
set_option maxRecDepth 100000 in
theorem c_K_came (l : Launch) (hl9 : l.stackTraces = false) (dC : Nat → ClassId) (dI : Nat → Nat → Nat) (cI cZ cJ : ClassId) (sz : Nat) (h0 qt qe qs o1 o2 o3 o4 o5 : Nat) (g : Nat) (q4 : Nat) (r4 : Nat → Int32) (f0 : Nat → Bool) (hR : rk_R r4 f0) (x : Int32) : vx_Met l y_K_came (.code y_K_came b_K_came 2 (some .int) :: WT) { frames := 7, cells := 1, slots := 6, locals := 102 } (va_Pc [.ref h0, .int x] (rk_preX (dC, dI) [(cI, .int), (cZ, .boolean), (cJ, .long)] sz [(h0, .inr (1, [.ref qt, .ref qe, .ref qs, .int (nI g), .ref o1, .ref o2, .ref o3, .ref o4, .ref o5])), (o4, .inr (0, [.ref q4])), (q4, .inl (cI, 32, .inl r4))])) (va_Qi (fun (r : Int32) (u : Unit) => ∃ p, p < 1024 ∧ f0 p = true ∧ x = nI (rk_c f0 p) ∧ r = nI p) (fun _ s9 => rk_at (dC, dI) [(cI, .int), (cZ, .boolean), (cJ, .long)] (va_A [(h0, .inr (1, [.ref qt, .ref qe, .ref qs, .int (nI g), .ref o1, .ref o2, .ref o3, .ref o4, .ref o5])), (o4, .inr (0, [.ref q4])), (q4, .inl (cI, 32, .inl r4))] sz) [(h0, .inr (1, [.ref qt, .ref qe, .ref qs, .int (nI g), .ref o1, .ref o2, .ref o3, .ref o4, .ref o5])), (o4, .inr (0, [.ref q4])), (q4, .inl (cI, 32, .inl r4))] s9) (va_A [(h0, .inr (1, [.ref qt, .ref qe, .ref qs, .int (nI g), .ref o1, .ref o2, .ref o3, .ref o4, .ref o5])), (o4, .inr (0, [.ref q4])), (q4, .inl (cI, 32, .inl r4))] sz)) (rk_XC (dC, dI) [(cI, .int), (cZ, .boolean), (cJ, .long)] (va_A [(h0, .inr (1, [.ref qt, .ref qe, .ref qs, .int (nI g), .ref o1, .ref o2, .ref o3, .ref o4, .ref o5])), (o4, .inr (0, [.ref q4])), (q4, .inl (cI, 32, .inl r4))] sz) [(h0, .inr (1, [.ref qt, .ref qe, .ref qs, .int (nI g), .ref o1, .ref o2, .ref o3, .ref o4, .ref o5])), (o4, .inr (0, [.ref q4])), (q4, .inl (cI, 32, .inl r4))] (fun E => E = rk_NSE ∧ ∀ p, p < 1024 → f0 p = true → x ≠ nI (rk_c f0 p))) 1 6 (va_A [(h0, .inr (1, [.ref qt, .ref qe, .ref qs, .int (nI g), .ref o1, .ref o2, .ref o3, .ref o4, .ref o5])), (o4, .inr (0, [.ref q4])), (q4, .inl (cI, 32, .inl r4))] sz) := by
  refine rk_bodyX (by decide) (Nat.le_of_ble_eq_true rfl) ?_
  intro p e s m below meth c hx hb hml hr htw hown hlocks hin hsz hP hK hD hA hS hY hZ hout ls hl
  have hown : s.vm.findClass R_K = some m.cls := hown
  have hl : lv_has ls 2 [(0, .ref h0), (1, .int x)] := hl
  refine lv_aload_n hx hb d_K_came_0 rfl (lv_at hl 0 rfl) ?_
  refine va_get (D := (dC, dI)) (ci := 1) (v := .ref o4) (C := R_K) (T := F_K) (N := 9) hx hb htw u_K hown hK hP 0 rfl rfl 7 (by decide) (htw _ l_K_36) (fun _ h9 => h9) rfl d_K_came_1 ?_
  refine lv_iload_n hx hb d_K_came_4 rfl (lv_at hl 1 rfl) ?_
  refine rk_backi (wc := [(o4, .inr (0, [.ref q4])), (q4, .inl (cI, 32, .inl r4))]) (wr := [(h0, .inr (1, [.ref qt, .ref qe, .ref qs, .int (nI g), .ref o1, .ref o2, .ref o3, .ref o4, .ref o5]))]) (va_runV (As := [.int x]) (rest := []) ⟨hx, hb, hml, hown, htw⟩ (c_P_pairAt l hl9 dC dI cI cZ cJ _ o4 q4 r4 f0 hR x) (rk_cwV 1 htw gc_K_came_5 (by decide +kernel) ⟨(Nat.le_of_ble_eq_true rfl), (Nat.le_of_ble_eq_true rfl)⟩) (⟨rk_blindX, va_recv hK hP (ci := 0) rfl (q0 := 1) rfl, rk_giveX [1, 2] hP hK hD hY hZ hS hA rfl rfl⟩) rfl rfl hl.1 rfl (lv_room (Nat.le_of_ble_eq_true rfl)) d_K_came_5 ⟨(Nat.le_of_ble_eq_true rfl), (Nat.le_of_ble_eq_true rfl)⟩) hP hD hS hA [1, 2] [0] rfl rfl rfl (by decide) (fun z5 u5 H locs hp5 hP hD hS => ?_)
  have hP : va_P (dC, dI) classes [(h0, .inr (1, [.ref qt, .ref qe, .ref qs, .int (nI g), .ref o1, .ref o2, .ref o3, .ref o4, .ref o5])), (o4, .inr (0, [.ref q4])), (q4, .inl (cI, 32, .inl r4))] H := hP
  have hD : va_D _ [(h0, .inr (1, [.ref qt, .ref qe, .ref qs, .int (nI g), .ref o1, .ref o2, .ref o3, .ref o4, .ref o5])), (o4, .inr (0, [.ref q4])), (q4, .inl (cI, 32, .inl r4))] := hD
  refine rk_xbacki (wc := []) (wr := [(h0, .inr (1, [.ref qt, .ref qe, .ref qs, .int (nI g), .ref o1, .ref o2, .ref o3, .ref o4, .ref o5])), (o4, .inr (0, [.ref q4])), (q4, .inl (cI, 32, .inl r4))]) (wx := []) (vx_runS (As := [.int z5]) (rest := []) ⟨hx, hb, hml, hown, htw⟩ (c_K_requirePair l hl9 dC dI cI cZ cJ _ z5) (rk_cwS 1 htw gc_K_came_8 (by decide +kernel) ⟨(Nat.le_of_ble_eq_true rfl), (Nat.le_of_ble_eq_true rfl)⟩) (⟨rk_blindX, rk_giveX [] hP hK hD hY hZ hS hA rfl rfl⟩) rfl rfl hl.1 rfl (lv_room (Nat.le_of_ble_eq_true rfl)) d_K_came_8 ⟨(Nat.le_of_ble_eq_true rfl), (Nat.le_of_ble_eq_true rfl)⟩) hP hD hS hA [] [0, 1, 2] rfl rfl rfl (by decide) (fun E ce q9 H locs hpx hP hD hS hce hcv hcl => ?_) (fun z6 u6 H locs hp6 hP hD hS => ?_)
  · have hP : va_P (dC, dI) classes [(h0, .inr (1, [.ref qt, .ref qe, .ref qs, .int (nI g), .ref o1, .ref o2, .ref o3, .ref o4, .ref o5])), (o4, .inr (0, [.ref q4])), (q4, .inl (cI, 32, .inl r4))] H := hP
    have hD : va_D _ [(h0, .inr (1, [.ref qt, .ref qe, .ref qs, .int (nI g), .ref o1, .ref o2, .ref o3, .ref o4, .ref o5])), (o4, .inr (0, [.ref q4])), (q4, .inl (cI, 32, .inl r4))] := hD
    exact rk_xout hout hlocks hce hcv hcl (⟨hpx.1, by rcases hp5 with ⟨p, h1, h2, h3, h4⟩ | z9; exact absurd (h4.symm.trans hpx.2) (rk_nI_ne p (by omega)); exact z9.1⟩) hP hK hD hS (by omega) (by omega)
  obtain ⟨rfl, hne⟩ := hp6
  have hP : va_P (dC, dI) classes [(h0, .inr (1, [.ref qt, .ref qe, .ref qs, .int (nI g), .ref o1, .ref o2, .ref o3, .ref o4, .ref o5])), (o4, .inr (0, [.ref q4])), (q4, .inl (cI, 32, .inl r4))] H := hP
  have hD : va_D _ [(h0, .inr (1, [.ref qt, .ref qe, .ref qs, .int (nI g), .ref o1, .ref o2, .ref o3, .ref o4, .ref o5])), (o4, .inr (0, [.ref q4])), (q4, .inl (cI, 32, .inl r4))] := hD
  refine vx_ret (W.widen (k := 1) (n := 6) (by omega) (by omega) ?_)
  exact rk_iret (()) hx hb hr hlocks (by rcases hp5 with z9 | z9; exact z9; exact absurd z9.2 hne) rfl hP hK hD hS d_K_came_11
set_option maxHeartbeats 4000000 in
set_option maxRecDepth 100000 in
theorem c_K_went (l : Launch) (hl9 : l.stackTraces = false) (dC : Nat → ClassId) (dI : Nat → Nat → Nat) (cI cZ cJ : ClassId) (sz : Nat) (h0 qt qe qs o1 o2 o3 o4 o5 : Nat) (g : Nat) (q5 : Nat) (r5 : Nat → Int32) (f0 : Nat → Bool) (hR : rk_R r5 f0) (x : Int32) : vx_Met l y_K_went (.code y_K_went b_K_went 2 (some .int) :: WT) { frames := 7, cells := 1, slots := 6, locals := 102 } (va_Pc [.ref h0, .int x] (rk_preX (dC, dI) [(cI, .int), (cZ, .boolean), (cJ, .long)] sz [(h0, .inr (1, [.ref qt, .ref qe, .ref qs, .int (nI g), .ref o1, .ref o2, .ref o3, .ref o4, .ref o5])), (o5, .inr (0, [.ref q5])), (q5, .inl (cI, 32, .inl r5))])) (va_Qi (fun (r : Int32) (u : Unit) => ∃ p, p < 1024 ∧ f0 p = true ∧ x = nI (rk_c f0 p) ∧ r = nI p) (fun _ s9 => rk_at (dC, dI) [(cI, .int), (cZ, .boolean), (cJ, .long)] (va_A [(h0, .inr (1, [.ref qt, .ref qe, .ref qs, .int (nI g), .ref o1, .ref o2, .ref o3, .ref o4, .ref o5])), (o5, .inr (0, [.ref q5])), (q5, .inl (cI, 32, .inl r5))] sz) [(h0, .inr (1, [.ref qt, .ref qe, .ref qs, .int (nI g), .ref o1, .ref o2, .ref o3, .ref o4, .ref o5])), (o5, .inr (0, [.ref q5])), (q5, .inl (cI, 32, .inl r5))] s9) (va_A [(h0, .inr (1, [.ref qt, .ref qe, .ref qs, .int (nI g), .ref o1, .ref o2, .ref o3, .ref o4, .ref o5])), (o5, .inr (0, [.ref q5])), (q5, .inl (cI, 32, .inl r5))] sz)) (rk_XC (dC, dI) [(cI, .int), (cZ, .boolean), (cJ, .long)] (va_A [(h0, .inr (1, [.ref qt, .ref qe, .ref qs, .int (nI g), .ref o1, .ref o2, .ref o3, .ref o4, .ref o5])), (o5, .inr (0, [.ref q5])), (q5, .inl (cI, 32, .inl r5))] sz) [(h0, .inr (1, [.ref qt, .ref qe, .ref qs, .int (nI g), .ref o1, .ref o2, .ref o3, .ref o4, .ref o5])), (o5, .inr (0, [.ref q5])), (q5, .inl (cI, 32, .inl r5))] (fun E => E = rk_NSE ∧ ∀ p, p < 1024 → f0 p = true → x ≠ nI (rk_c f0 p))) 1 6 (va_A [(h0, .inr (1, [.ref qt, .ref qe, .ref qs, .int (nI g), .ref o1, .ref o2, .ref o3, .ref o4, .ref o5])), (o5, .inr (0, [.ref q5])), (q5, .inl (cI, 32, .inl r5))] sz) := by
  refine rk_bodyX (by decide) (Nat.le_of_ble_eq_true rfl) ?_
  intro p e s m below meth c hx hb hml hr htw hown hlocks hin hsz hP hK hD hA hS hY hZ hout ls hl
  have hown : s.vm.findClass R_K = some m.cls := hown
  have hl : lv_has ls 2 [(0, .ref h0), (1, .int x)] := hl
  refine lv_aload_n hx hb d_K_went_0 rfl (lv_at hl 0 rfl) ?_
  refine va_get (D := (dC, dI)) (ci := 1) (v := .ref o5) (C := R_K) (T := F_K) (N := 9) hx hb htw u_K hown hK hP 0 rfl rfl 8 (by decide) (htw _ l_K_39) (fun _ h9 => h9) rfl d_K_went_1 ?_
  refine lv_iload_n hx hb d_K_went_4 rfl (lv_at hl 1 rfl) ?_
  refine rk_backi (wc := [(o5, .inr (0, [.ref q5])), (q5, .inl (cI, 32, .inl r5))]) (wr := [(h0, .inr (1, [.ref qt, .ref qe, .ref qs, .int (nI g), .ref o1, .ref o2, .ref o3, .ref o4, .ref o5]))]) (va_runV (As := [.int x]) (rest := []) ⟨hx, hb, hml, hown, htw⟩ (c_P_pairAt l hl9 dC dI cI cZ cJ _ o5 q5 r5 f0 hR x) (rk_cwV 1 htw gc_K_went_5 (by decide +kernel) ⟨(Nat.le_of_ble_eq_true rfl), (Nat.le_of_ble_eq_true rfl)⟩) (⟨rk_blindX, va_recv hK hP (ci := 0) rfl (q0 := 1) rfl, rk_giveX [1, 2] hP hK hD hY hZ hS hA rfl rfl⟩) rfl rfl hl.1 rfl (lv_room (Nat.le_of_ble_eq_true rfl)) d_K_went_5 ⟨(Nat.le_of_ble_eq_true rfl), (Nat.le_of_ble_eq_true rfl)⟩) hP hD hS hA [1, 2] [0] rfl rfl rfl (by decide) (fun z5 u5 H locs hp5 hP hD hS => ?_)
  have hP : va_P (dC, dI) classes [(h0, .inr (1, [.ref qt, .ref qe, .ref qs, .int (nI g), .ref o1, .ref o2, .ref o3, .ref o4, .ref o5])), (o5, .inr (0, [.ref q5])), (q5, .inl (cI, 32, .inl r5))] H := hP
  have hD : va_D _ [(h0, .inr (1, [.ref qt, .ref qe, .ref qs, .int (nI g), .ref o1, .ref o2, .ref o3, .ref o4, .ref o5])), (o5, .inr (0, [.ref q5])), (q5, .inl (cI, 32, .inl r5))] := hD
  refine rk_xbacki (wc := []) (wr := [(h0, .inr (1, [.ref qt, .ref qe, .ref qs, .int (nI g), .ref o1, .ref o2, .ref o3, .ref o4, .ref o5])), (o5, .inr (0, [.ref q5])), (q5, .inl (cI, 32, .inl r5))]) (wx := []) (vx_runS (As := [.int z5]) (rest := []) ⟨hx, hb, hml, hown, htw⟩ (c_K_requirePair l hl9 dC dI cI cZ cJ _ z5) (rk_cwS 1 htw gc_K_went_8 (by decide +kernel) ⟨(Nat.le_of_ble_eq_true rfl), (Nat.le_of_ble_eq_true rfl)⟩) (⟨rk_blindX, rk_giveX [] hP hK hD hY hZ hS hA rfl rfl⟩) rfl rfl hl.1 rfl (lv_room (Nat.le_of_ble_eq_true rfl)) d_K_went_8 ⟨(Nat.le_of_ble_eq_true rfl), (Nat.le_of_ble_eq_true rfl)⟩) hP hD hS hA [] [0, 1, 2] rfl rfl rfl (by decide) (fun E ce q9 H locs hpx hP hD hS hce hcv hcl => ?_) (fun z6 u6 H locs hp6 hP hD hS => ?_)
  · have hP : va_P (dC, dI) classes [(h0, .inr (1, [.ref qt, .ref qe, .ref qs, .int (nI g), .ref o1, .ref o2, .ref o3, .ref o4, .ref o5])), (o5, .inr (0, [.ref q5])), (q5, .inl (cI, 32, .inl r5))] H := hP
    have hD : va_D _ [(h0, .inr (1, [.ref qt, .ref qe, .ref qs, .int (nI g), .ref o1, .ref o2, .ref o3, .ref o4, .ref o5])), (o5, .inr (0, [.ref q5])), (q5, .inl (cI, 32, .inl r5))] := hD
    exact rk_xout hout hlocks hce hcv hcl (⟨hpx.1, by rcases hp5 with ⟨p, h1, h2, h3, h4⟩ | z9; exact absurd (h4.symm.trans hpx.2) (rk_nI_ne p (by omega)); exact z9.1⟩) hP hK hD hS (by omega) (by omega)
  obtain ⟨rfl, hne⟩ := hp6
  have hP : va_P (dC, dI) classes [(h0, .inr (1, [.ref qt, .ref qe, .ref qs, .int (nI g), .ref o1, .ref o2, .ref o3, .ref o4, .ref o5])), (o5, .inr (0, [.ref q5])), (q5, .inl (cI, 32, .inl r5))] H := hP
  have hD : va_D _ [(h0, .inr (1, [.ref qt, .ref qe, .ref qs, .int (nI g), .ref o1, .ref o2, .ref o3, .ref o4, .ref o5])), (o5, .inr (0, [.ref q5])), (q5, .inl (cI, 32, .inl r5))] := hD
  refine vx_ret (W.widen (k := 1) (n := 6) (by omega) (by omega) ?_)
  exact rk_iret (()) hx hb hr hlocks (by rcases hp5 with z9 | z9; exact z9; exact absurd z9.2 hne) rfl hP hK hD hS d_K_went_11
