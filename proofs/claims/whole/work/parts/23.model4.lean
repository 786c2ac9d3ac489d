set_option maxHeartbeats 4000000 in
set_option maxRecDepth 100000 in
theorem c_M_count (l : Launch) (dC : Nat → ClassId) (dI : Nat → Nat → Nat) (cI cZ cJ : ClassId) (sz : Nat) (h0 qt qn qp qb qf qh qd : Nat) (th : Int32) (g : Nat) (hg : g ≤ 60) (t : Nat → Int32) (h k : Nat → Bool) (x : Int32) : Met l y_M_count (.code y_M_count b_M_count 10 (some .int) :: WT) { frames := 1, cells := 0, slots := 0, locals := 23 } (va_Pc [.ref h0, .int x] (rk_pre (dC, dI) [(cI, .int), (cZ, .boolean), (cJ, .long)] sz [(h0, .inr (2, [.int th, .int (nI g), .ref qt, .ref qn, .ref qp, .ref qb, .ref qf, .ref qh, .ref qd])), (qt, .inl (cI, 1024, .inl t)), (qh, .inl (cZ, 1024, .inl (fun p => zI (h p)))), (qd, .inl (cZ, 1024, .inl (fun p => zI (k p))))])) (va_Qi (fun (r : Int32) (u : Unit) => r = rk_coF t h k g x) (fun _ s9 => rk_at (dC, dI) [(cI, .int), (cZ, .boolean), (cJ, .long)] (va_A [(h0, .inr (2, [.int th, .int (nI g), .ref qt, .ref qn, .ref qp, .ref qb, .ref qf, .ref qh, .ref qd])), (qt, .inl (cI, 1024, .inl t)), (qh, .inl (cZ, 1024, .inl (fun p => zI (h p)))), (qd, .inl (cZ, 1024, .inl (fun p => zI (k p))))] sz) [(h0, .inr (2, [.int (nI 0), .int (nI g), .ref qt, .ref qn, .ref qp, .ref qb, .ref qf, .ref qh, .ref qd])), (qt, .inl (cI, 1024, .inl t)), (qh, .inl (cZ, 1024, .inl (fun p => zI (h p)))), (qd, .inl (cZ, 1024, .inl (fun p => zI (k p))))] s9) (va_A [(h0, .inr (2, [.int th, .int (nI g), .ref qt, .ref qn, .ref qp, .ref qb, .ref qf, .ref qh, .ref qd])), (qt, .inl (cI, 1024, .inl t)), (qh, .inl (cZ, 1024, .inl (fun p => zI (h p)))), (qd, .inl (cZ, 1024, .inl (fun p => zI (k p))))] sz)) 0 0 (va_A [(h0, .inr (2, [.int th, .int (nI g), .ref qt, .ref qn, .ref qp, .ref qb, .ref qf, .ref qh, .ref qd])), (qt, .inl (cI, 1024, .inl t)), (qh, .inl (cZ, 1024, .inl (fun p => zI (h p)))), (qd, .inl (cZ, 1024, .inl (fun p => zI (k p))))] sz) := by
  refine rk_body (by decide) (Nat.le_of_ble_eq_true rfl) ?_
  intro p e s m below meth c hx hb hml hr htw hown hlocks hin hsz hP hK hD hA hS ls hl
  have hown : s.vm.findClass R_M = some m.cls := hown
  have hl : lv_has ls 10 [(0, .ref h0), (1, .int x)] := hl
  refine lv_aload_n hx hb d_M_count_0 rfl (lv_at hl 0 rfl) ?_
  refine lv_iconst (v := nI 0) hx hb d_M_count_1 (by decide) ?_
  refine va_put (D := (dC, dI)) (ci := 2) (v := .int (nI 0)) (ty := .int) (C := R_M) (T := F_M) (N := 9) hx hb htw u_M t_M t_M_ok n_M hown hK hP hD hS 0 rfl rfl 0 (by decide) (htw _ l_M_32) (fun _ h9 => h9) rfl (by decide +kernel) rfl rfl (Nat.le_of_ble_eq_true rfl) d_M_count_2 (fun H locs hP hD hS => ?_)
  have hP : va_P (dC, dI) classes [(h0, .inr (2, [.int (nI 0), .int (nI g), .ref qt, .ref qn, .ref qp, .ref qb, .ref qf, .ref qh, .ref qd])), (qt, .inl (cI, 1024, .inl t)), (qh, .inl (cZ, 1024, .inl (fun p => zI (h p)))), (qd, .inl (cZ, 1024, .inl (fun p => zI (k p))))] H := hP
  have hD : va_D _ [(h0, .inr (2, [.int (nI 0), .int (nI g), .ref qt, .ref qn, .ref qp, .ref qb, .ref qf, .ref qh, .ref qd])), (qt, .inl (cI, 1024, .inl t)), (qh, .inl (cZ, 1024, .inl (fun p => zI (h p)))), (qd, .inl (cZ, 1024, .inl (fun p => zI (k p))))] := hD
  refine lv_iconst (v := nI 0) hx hb d_M_count_5 (by decide) ?_
  refine lv_istore_n (lv' := [(2, .int (nI 0)), (0, .ref h0), (1, .int x)]) hx hb d_M_count_6 rfl hl (by decide) rfl (fun ls hl => ?_)
  refine lv_iconst (v := nI 0) hx hb d_M_count_7 (by decide) ?_
  refine lv_istore_n (lv' := [(3, .int (nI 0)), (2, .int (nI 0)), (0, .ref h0), (1, .int x)]) hx hb d_M_count_8 rfl hl (by decide) rfl (fun ls hl => ?_)
  refine lv_iconst (v := nI 0) hx hb d_M_count_9 (by decide) ?_
  refine lv_istore (lv' := [(4, .int (nI 0)), (3, .int (nI 0)), (2, .int (nI 0)), (0, .ref h0), (1, .int x)]) hx hb d_M_count_10 hl (by decide) rfl (fun ls hl => ?_)
  refine lv_iconst (v := nI 0) hx hb d_M_count_12 (by decide) ?_
  refine lv_istore (lv' := [(5, .int (nI 0)), (4, .int (nI 0)), (3, .int (nI 0)), (2, .int (nI 0)), (0, .ref h0), (1, .int x)]) hx hb d_M_count_13 hl (by decide) rfl (fun ls hl => ?_)
  refine lv_iconst (v := nI 0) hx hb d_M_count_15 (by decide) ?_
  refine lv_istore (lv' := [(6, .int (nI 0)), (5, .int (nI 0)), (4, .int (nI 0)), (3, .int (nI 0)), (2, .int (nI 0)), (0, .ref h0), (1, .int x)]) hx hb d_M_count_16 hl (by decide) rfl (fun ls hl => ?_)
  refine lv_iconst (v := nI 0) hx hb d_M_count_18 (by decide) ?_
  refine lv_istore (lv' := [(7, .int (nI 0)), (6, .int (nI 0)), (5, .int (nI 0)), (4, .int (nI 0)), (3, .int (nI 0)), (2, .int (nI 0)), (0, .ref h0), (1, .int x)]) hx hb d_M_count_19 hl (by decide) rfl (fun ls hl => ?_)
  have lp : ∀ (kf : Nat) (i : Nat), 1024 - i < kf → i ≤ 1024 → ∀ (ls : Array Slot) (H : Heap) (locs : List Loc), lv_has ls 10 [(7, .int (nI i)), (6, .int (nI 0)), (5, .int (nI 0)), (4, .int (nI (rk_c h i))), (3, .int (rk_t t i)), (2, .int (nI (rk_c (fun p => decide (0 < t p)) i))), (0, .ref h0), (1, .int x)] → va_P (dC, dI) classes [(h0, .inr (2, [.int (nI 0), .int (nI g), .ref qt, .ref qn, .ref qp, .ref qb, .ref qf, .ref qh, .ref qd])), (qt, .inl (cI, 1024, .inl t)), (qh, .inl (cZ, 1024, .inl (fun p => zI (h p)))), (qd, .inl (cZ, 1024, .inl (fun p => zI (k p))))] H → va_D (va_A [(h0, .inr (2, [.int th, .int (nI g), .ref qt, .ref qn, .ref qp, .ref qb, .ref qf, .ref qh, .ref qd])), (qt, .inl (cI, 1024, .inl t)), (qh, .inl (cZ, 1024, .inl (fun p => zI (h p)))), (qd, .inl (cZ, 1024, .inl (fun p => zI (k p))))] sz) [(h0, .inr (2, [.int (nI 0), .int (nI g), .ref qt, .ref qn, .ref qp, .ref qb, .ref qf, .ref qh, .ref qd])), (qt, .inl (cI, 1024, .inl t)), (qh, .inl (cZ, 1024, .inl (fun p => zI (h p)))), (qd, .inl (cZ, 1024, .inl (fun p => zI (k p))))] → va_S (va_A [(h0, .inr (2, [.int th, .int (nI g), .ref qt, .ref qn, .ref qp, .ref qb, .ref qf, .ref qh, .ref qd])), (qt, .inl (cI, 1024, .inl t)), (qh, .inl (cZ, 1024, .inl (fun p => zI (h p)))), (qd, .inl (cZ, 1024, .inl (fun p => zI (k p))))] sz) s.heap H locs → W p l e { frames := 1, cells := 0, slots := 0, locals := 23 } s m ([.ref h0, .int x]).toArray below meth c H locs 0 0 (MQ below (va_Qi (fun (r : Int32) (u : Unit) => r = rk_coF t h k g x) (fun _ s9 => rk_at (dC, dI) [(cI, .int), (cZ, .boolean), (cJ, .long)] (va_A [(h0, .inr (2, [.int th, .int (nI g), .ref qt, .ref qn, .ref qp, .ref qb, .ref qf, .ref qh, .ref qd])), (qt, .inl (cI, 1024, .inl t)), (qh, .inl (cZ, 1024, .inl (fun p => zI (h p)))), (qd, .inl (cZ, 1024, .inl (fun p => zI (k p))))] sz) [(h0, .inr (2, [.int (nI 0), .int (nI g), .ref qt, .ref qn, .ref qp, .ref qb, .ref qf, .ref qh, .ref qd])), (qt, .inl (cI, 1024, .inl t)), (qh, .inl (cZ, 1024, .inl (fun p => zI (h p)))), (qd, .inl (cZ, 1024, .inl (fun p => zI (k p))))] s9) (va_A [(h0, .inr (2, [.int th, .int (nI g), .ref qt, .ref qn, .ref qp, .ref qb, .ref qf, .ref qh, .ref qd])), (qt, .inl (cI, 1024, .inl t)), (qh, .inl (cZ, 1024, .inl (fun p => zI (h p)))), (qd, .inl (cZ, 1024, .inl (fun p => zI (k p))))] sz)) ([.ref h0, .int x]).toArray s 0 0 (va_A [(h0, .inr (2, [.int th, .int (nI g), .ref qt, .ref qn, .ref qp, .ref qb, .ref qf, .ref qh, .ref qd])), (qt, .inl (cI, 1024, .inl t)), (qh, .inl (cZ, 1024, .inl (fun p => zI (h p)))), (qd, .inl (cZ, 1024, .inl (fun p => zI (k p))))] sz)) (F0 m 21 ls []) := by
    intro kf
    induction kf with
    | zero => intro i hk hi; exact absurd hk (by omega)
    | succ kf ih =>
      intro i hk hi ls H locs hl hP hD hS
      refine lv_iload hx hb d_M_count_21 (lv_at hl 0 rfl) ?_
      refine lv_sipush (v := nI 1024) hx hb d_M_count_23 (by decide) ?_
      refine lv_icmp_ge (tgt := 71) hx hb d_M_count_26 (by decide) (fun hc => ?_) (fun hc => ?_)
      · have hc := (nI_leI (by omega) (by omega)).mp hc
        rw [show i = 1024 by omega] at hl
        have hl : lv_has ls 10 [(7, .int (nI 1024)), (6, .int (nI 0)), (5, .int (nI 0)), (4, .int (nI (rk_c h 1024))), (3, .int (rk_t t 1024)), (2, .int (nI (rk_c (fun p => decide (0 < t p)) 1024))), (0, .ref h0), (1, .int x)] := hl
        refine lv_iconst (v := nI 0) hx hb d_M_count_71 (by decide) ?_
        refine lv_istore (lv' := [(7, .int (nI 0)), (6, .int (nI 0)), (5, .int (nI 0)), (4, .int (nI (rk_c h 1024))), (3, .int (rk_t t 1024)), (2, .int (nI (rk_c (fun p => decide (0 < t p)) 1024))), (0, .ref h0), (1, .int x)]) hx hb d_M_count_72 hl (by decide) rfl (fun ls hl => ?_)
        have lp2 : ∀ (kf2 : Nat) (i : Nat), 32 - i < kf2 → i ≤ 32 → ∀ (ls : Array Slot) (H : Heap) (locs : List Loc), lv_has ls 10 [(7, .int (nI i)), (6, .int (nI (rk_c (fun a => h (32 * a + a) && !rk_any (fun b => h (32 * a + b) && h (32 * b + a)) a) i))), (5, .int (nI (rk_c (fun a => h (32 * a + a)) i))), (4, .int (nI (rk_c h 1024))), (3, .int (rk_t t 1024)), (2, .int (nI (rk_c (fun p => decide (0 < t p)) 1024))), (0, .ref h0), (1, .int x)] → va_P (dC, dI) classes [(h0, .inr (2, [.int (nI 0), .int (nI g), .ref qt, .ref qn, .ref qp, .ref qb, .ref qf, .ref qh, .ref qd])), (qt, .inl (cI, 1024, .inl t)), (qh, .inl (cZ, 1024, .inl (fun p => zI (h p)))), (qd, .inl (cZ, 1024, .inl (fun p => zI (k p))))] H → va_D (va_A [(h0, .inr (2, [.int th, .int (nI g), .ref qt, .ref qn, .ref qp, .ref qb, .ref qf, .ref qh, .ref qd])), (qt, .inl (cI, 1024, .inl t)), (qh, .inl (cZ, 1024, .inl (fun p => zI (h p)))), (qd, .inl (cZ, 1024, .inl (fun p => zI (k p))))] sz) [(h0, .inr (2, [.int (nI 0), .int (nI g), .ref qt, .ref qn, .ref qp, .ref qb, .ref qf, .ref qh, .ref qd])), (qt, .inl (cI, 1024, .inl t)), (qh, .inl (cZ, 1024, .inl (fun p => zI (h p)))), (qd, .inl (cZ, 1024, .inl (fun p => zI (k p))))] → va_S (va_A [(h0, .inr (2, [.int th, .int (nI g), .ref qt, .ref qn, .ref qp, .ref qb, .ref qf, .ref qh, .ref qd])), (qt, .inl (cI, 1024, .inl t)), (qh, .inl (cZ, 1024, .inl (fun p => zI (h p)))), (qd, .inl (cZ, 1024, .inl (fun p => zI (k p))))] sz) s.heap H locs → W p l e { frames := 1, cells := 0, slots := 0, locals := 23 } s m ([.ref h0, .int x]).toArray below meth c H locs 0 0 (MQ below (va_Qi (fun (r : Int32) (u : Unit) => r = rk_coF t h k g x) (fun _ s9 => rk_at (dC, dI) [(cI, .int), (cZ, .boolean), (cJ, .long)] (va_A [(h0, .inr (2, [.int th, .int (nI g), .ref qt, .ref qn, .ref qp, .ref qb, .ref qf, .ref qh, .ref qd])), (qt, .inl (cI, 1024, .inl t)), (qh, .inl (cZ, 1024, .inl (fun p => zI (h p)))), (qd, .inl (cZ, 1024, .inl (fun p => zI (k p))))] sz) [(h0, .inr (2, [.int (nI 0), .int (nI g), .ref qt, .ref qn, .ref qp, .ref qb, .ref qf, .ref qh, .ref qd])), (qt, .inl (cI, 1024, .inl t)), (qh, .inl (cZ, 1024, .inl (fun p => zI (h p)))), (qd, .inl (cZ, 1024, .inl (fun p => zI (k p))))] s9) (va_A [(h0, .inr (2, [.int th, .int (nI g), .ref qt, .ref qn, .ref qp, .ref qb, .ref qf, .ref qh, .ref qd])), (qt, .inl (cI, 1024, .inl t)), (qh, .inl (cZ, 1024, .inl (fun p => zI (h p)))), (qd, .inl (cZ, 1024, .inl (fun p => zI (k p))))] sz)) ([.ref h0, .int x]).toArray s 0 0 (va_A [(h0, .inr (2, [.int th, .int (nI g), .ref qt, .ref qn, .ref qp, .ref qb, .ref qf, .ref qh, .ref qd])), (qt, .inl (cI, 1024, .inl t)), (qh, .inl (cZ, 1024, .inl (fun p => zI (h p)))), (qd, .inl (cZ, 1024, .inl (fun p => zI (k p))))] sz)) (F0 m 74 ls []) := by
          intro kf2
          induction kf2 with
          | zero => intro i hk2 hi; exact absurd hk2 (by omega)
          | succ kf2 ih2 =>
            intro i hk2 hi ls H locs hl hP hD hS
            refine lv_iload hx hb d_M_count_74 (lv_at hl 0 rfl) ?_
            refine lv_bipush (v := nI 32) hx hb d_M_count_76 (by decide) ?_
            refine lv_icmp_ge (tgt := 171) hx hb d_M_count_78 (by decide) (fun hd => ?_) (fun hd => ?_)
            · have hd := (nI_leI (by omega) (by omega)).mp hd
              rw [show i = 32 by omega] at hl
              have hl : lv_has ls 10 [(7, .int (nI 32)), (6, .int (nI (rk_c (fun a => h (32 * a + a) && !rk_any (fun b => h (32 * a + b) && h (32 * b + a)) a) 32))), (5, .int (nI (rk_c (fun a => h (32 * a + a)) 32))), (4, .int (nI (rk_c h 1024))), (3, .int (rk_t t 1024)), (2, .int (nI (rk_c (fun p => decide (0 < t p)) 1024))), (0, .ref h0), (1, .int x)] := hl
              refine lv_iload_n hx hb d_M_count_171 rfl (lv_at hl 7 rfl) ?_
              rcases pk_ix x (n := 8) (by decide) with hneg | hbig | ⟨j, hj, rfl⟩
              · refine lv_tableOut (tgt := 250) hx hb d_M_count_172 (Or.inl (by have := Int32.lt_iff_toInt_lt.mp hneg; rw [Int32.toInt_zero] at this; exact this)) (by decide) ?_
                refine lv_iconst (v := -1) hx hb d_M_count_250 (by decide) ?_
                exact rk_iret (()) hx hb hr hlocks ((rk_coF_out (Or.inl hneg)).symm) rfl hP hK hD hS d_M_count_251
              · refine lv_tableOut (tgt := 250) hx hb d_M_count_172 (Or.inr (by have := Int32.le_iff_toInt_le.mp hbig; rw [nI_toInt (by decide)] at this; omega)) (by decide) ?_
                refine lv_iconst (v := -1) hx hb d_M_count_250 (by decide) ?_
                exact rk_iret (()) hx hb hr hlocks ((rk_coF_out (Or.inr hbig)).symm) rfl hP hK hD hS d_M_count_251
              · have hj8 : j = 0 ∨ j = 1 ∨ j = 2 ∨ j = 3 ∨ j = 4 ∨ j = 5 ∨ j = 6 ∨ j = 7 := by omega
                rcases hj8 with rfl | rfl | rfl | rfl | rfl | rfl | rfl | rfl
                · refine lv_tableIn (off := 48) (tgt := 220) hx hb d_M_count_172 (by decide) (by decide) rfl (by decide) ?_
                  refine lv_iload_n hx hb d_M_count_220 rfl (lv_at hl 5 rfl) ?_
                  exact rk_iret (()) hx hb hr hlocks ((rk_coF_in (t := t) (h := h) (k := k) (g := g) (j := 0) (by decide)).symm) rfl hP hK hD hS d_M_count_221
                · refine lv_tableIn (off := 50) (tgt := 222) hx hb d_M_count_172 (by decide) (by decide) rfl (by decide) ?_
                  refine lv_iload_n hx hb d_M_count_222 rfl (lv_at hl 4 rfl) ?_
                  exact rk_iret (()) hx hb hr hlocks ((rk_coF_in (t := t) (h := h) (k := k) (g := g) (j := 1) (by decide)).symm) rfl hP hK hD hS d_M_count_223
                · refine lv_tableIn (off := 52) (tgt := 224) hx hb d_M_count_172 (by decide) (by decide) rfl (by decide) ?_
                  refine lv_iload hx hb d_M_count_224 (lv_at hl 3 rfl) ?_
                  exact rk_iret (()) hx hb hr hlocks ((rk_coF_in (t := t) (h := h) (k := k) (g := g) (j := 2) (by decide)).symm) rfl hP hK hD hS d_M_count_226
                · refine lv_tableIn (off := 55) (tgt := 227) hx hb d_M_count_172 (by decide) (by decide) rfl (by decide) ?_
                  refine lv_aload_n hx hb d_M_count_227 rfl (lv_at hl 6 rfl) ?_
                  refine va_get (D := (dC, dI)) (ci := 2) (v := .int (nI g)) (C := R_M) (T := F_M) (N := 9) hx hb htw u_M hown hK hP 0 rfl rfl 1 (by decide) (htw _ l_M_40) (fun _ h9 => h9) rfl d_M_count_228 ?_
                  exact rk_iret (()) hx hb hr hlocks ((rk_coF_in (t := t) (h := h) (k := k) (g := g) (j := 3) (by decide)).symm) rfl hP hK hD hS d_M_count_231
                · refine lv_tableIn (off := 60) (tgt := 232) hx hb d_M_count_172 (by decide) (by decide) rfl (by decide) ?_
                  refine lv_aload_n hx hb d_M_count_232 rfl (lv_at hl 6 rfl) ?_
                  refine lv_iconst (v := zI true) hx hb d_M_count_233 (by decide) ?_
                  refine rk_backi (wc := [(h0, .inr (2, [.int (nI 0), .int (nI g), .ref qt, .ref qn, .ref qp, .ref qb, .ref qf, .ref qh, .ref qd])), (qh, .inl (cZ, 1024, .inl (fun p => zI (h p)))), (qd, .inl (cZ, 1024, .inl (fun p => zI (k p))))]) (wr := [(qt, .inl (cI, 1024, .inl t))]) (va_runV (As := [.int (zI true)]) (rest := []) ⟨hx, hb, hml, hown, htw⟩ (c_M_many l dC dI cI cZ cJ _ h0 qt qn qp qb qf qh qd (nI 0) g h k true) (rk_cwV 1 htw gc_M_count_234 (by decide +kernel) ⟨(Nat.le_of_ble_eq_true rfl), (Nat.le_of_ble_eq_true rfl)⟩) (⟨rk_blind, va_recv hK hP (ci := 2) rfl (q0 := 0) rfl, rk_give (rk_psub (isC := [0, 2, 3]) hP rfl) hK (hD.sub [0, 2, 3] rfl rfl)⟩) rfl rfl hl.1 rfl (lv_room (Nat.le_of_ble_eq_true rfl)) d_M_count_234 ⟨(Nat.le_of_ble_eq_true rfl), (Nat.le_of_ble_eq_true rfl)⟩) hP hD hS hA [0, 2, 3] [1] rfl rfl rfl (by decide) (fun x5 u5 H locs hp5 hP hD hS => ?_)
                  subst hp5
                  have hP : va_P (dC, dI) classes [(qt, .inl (cI, 1024, .inl t)), (h0, .inr (2, [.int (nI 0), .int (nI g), .ref qt, .ref qn, .ref qp, .ref qb, .ref qf, .ref qh, .ref qd])), (qh, .inl (cZ, 1024, .inl (fun p => zI (h p)))), (qd, .inl (cZ, 1024, .inl (fun p => zI (k p))))] H := hP
                  have hD : va_D _ [(qt, .inl (cI, 1024, .inl t)), (h0, .inr (2, [.int (nI 0), .int (nI g), .ref qt, .ref qn, .ref qp, .ref qb, .ref qf, .ref qh, .ref qd])), (qh, .inl (cZ, 1024, .inl (fun p => zI (h p)))), (qd, .inl (cZ, 1024, .inl (fun p => zI (k p))))] := hD
                  have hP := hP.sub (ws' := [(h0, .inr (2, [.int (nI 0), .int (nI g), .ref qt, .ref qn, .ref qp, .ref qb, .ref qf, .ref qh, .ref qd])), (qt, .inl (cI, 1024, .inl t)), (qh, .inl (cZ, 1024, .inl (fun p => zI (h p)))), (qd, .inl (cZ, 1024, .inl (fun p => zI (k p))))]) [1, 0, 2, 3] rfl
                  have hD := hD.sub (ws' := [(h0, .inr (2, [.int (nI 0), .int (nI g), .ref qt, .ref qn, .ref qp, .ref qb, .ref qf, .ref qh, .ref qd])), (qt, .inl (cI, 1024, .inl t)), (qh, .inl (cZ, 1024, .inl (fun p => zI (h p)))), (qd, .inl (cZ, 1024, .inl (fun p => zI (k p))))]) [1, 0, 2, 3] rfl rfl
                  exact rk_iret (()) hx hb hr hlocks ((rk_coF_in (t := t) (h := h) (k := k) (g := g) (j := 4) (by decide)).symm) rfl hP hK hD hS d_M_count_237
                · refine lv_tableIn (off := 66) (tgt := 238) hx hb d_M_count_172 (by decide) (by decide) rfl (by decide) ?_
                  refine lv_aload_n hx hb d_M_count_238 rfl (lv_at hl 6 rfl) ?_
                  refine lv_iconst (v := zI false) hx hb d_M_count_239 (by decide) ?_
                  refine rk_backi (wc := [(h0, .inr (2, [.int (nI 0), .int (nI g), .ref qt, .ref qn, .ref qp, .ref qb, .ref qf, .ref qh, .ref qd])), (qh, .inl (cZ, 1024, .inl (fun p => zI (h p)))), (qd, .inl (cZ, 1024, .inl (fun p => zI (k p))))]) (wr := [(qt, .inl (cI, 1024, .inl t))]) (va_runV (As := [.int (zI false)]) (rest := []) ⟨hx, hb, hml, hown, htw⟩ (c_M_many l dC dI cI cZ cJ _ h0 qt qn qp qb qf qh qd (nI 0) g h k false) (rk_cwV 1 htw gc_M_count_240 (by decide +kernel) ⟨(Nat.le_of_ble_eq_true rfl), (Nat.le_of_ble_eq_true rfl)⟩) (⟨rk_blind, va_recv hK hP (ci := 2) rfl (q0 := 0) rfl, rk_give (rk_psub (isC := [0, 2, 3]) hP rfl) hK (hD.sub [0, 2, 3] rfl rfl)⟩) rfl rfl hl.1 rfl (lv_room (Nat.le_of_ble_eq_true rfl)) d_M_count_240 ⟨(Nat.le_of_ble_eq_true rfl), (Nat.le_of_ble_eq_true rfl)⟩) hP hD hS hA [0, 2, 3] [1] rfl rfl rfl (by decide) (fun x5 u5 H locs hp5 hP hD hS => ?_)
                  subst hp5
                  have hP : va_P (dC, dI) classes [(qt, .inl (cI, 1024, .inl t)), (h0, .inr (2, [.int (nI 0), .int (nI g), .ref qt, .ref qn, .ref qp, .ref qb, .ref qf, .ref qh, .ref qd])), (qh, .inl (cZ, 1024, .inl (fun p => zI (h p)))), (qd, .inl (cZ, 1024, .inl (fun p => zI (k p))))] H := hP
                  have hD : va_D _ [(qt, .inl (cI, 1024, .inl t)), (h0, .inr (2, [.int (nI 0), .int (nI g), .ref qt, .ref qn, .ref qp, .ref qb, .ref qf, .ref qh, .ref qd])), (qh, .inl (cZ, 1024, .inl (fun p => zI (h p)))), (qd, .inl (cZ, 1024, .inl (fun p => zI (k p))))] := hD
                  have hP := hP.sub (ws' := [(h0, .inr (2, [.int (nI 0), .int (nI g), .ref qt, .ref qn, .ref qp, .ref qb, .ref qf, .ref qh, .ref qd])), (qt, .inl (cI, 1024, .inl t)), (qh, .inl (cZ, 1024, .inl (fun p => zI (h p)))), (qd, .inl (cZ, 1024, .inl (fun p => zI (k p))))]) [1, 0, 2, 3] rfl
                  have hD := hD.sub (ws' := [(h0, .inr (2, [.int (nI 0), .int (nI g), .ref qt, .ref qn, .ref qp, .ref qb, .ref qf, .ref qh, .ref qd])), (qt, .inl (cI, 1024, .inl t)), (qh, .inl (cZ, 1024, .inl (fun p => zI (h p)))), (qd, .inl (cZ, 1024, .inl (fun p => zI (k p))))]) [1, 0, 2, 3] rfl rfl
                  exact rk_iret (()) hx hb hr hlocks ((rk_coF_in (t := t) (h := h) (k := k) (g := g) (j := 5) (by decide)).symm) rfl hP hK hD hS d_M_count_243
                · refine lv_tableIn (off := 72) (tgt := 244) hx hb d_M_count_172 (by decide) (by decide) rfl (by decide) ?_
                  refine lv_iload hx hb d_M_count_244 (lv_at hl 2 rfl) ?_
                  exact rk_iret (()) hx hb hr hlocks ((rk_coF_in (t := t) (h := h) (k := k) (g := g) (j := 6) (by decide)).symm) rfl hP hK hD hS d_M_count_246
                · refine lv_tableIn (off := 75) (tgt := 247) hx hb d_M_count_172 (by decide) (by decide) rfl (by decide) ?_
                  refine lv_iload hx hb d_M_count_247 (lv_at hl 1 rfl) ?_
                  exact rk_iret (()) hx hb hr hlocks ((rk_coF_in (t := t) (h := h) (k := k) (g := g) (j := 7) (by decide)).symm) rfl hP hK hD hS d_M_count_249
            · have hd := rk_gt (by omega) (by omega) hd
              refine lv_aload_n hx hb d_M_count_81 rfl (lv_at hl 6 rfl) ?_
              refine va_get (D := (dC, dI)) (ci := 2) (v := .ref qh) (C := R_M) (T := F_M) (N := 9) hx hb htw u_M hown hK hP 0 rfl rfl 7 (by decide) (htw _ l_M_25) (fun _ h9 => h9) rfl d_M_count_82 ?_
              refine lv_bipush (v := nI 32) hx hb d_M_count_85 (by decide) ?_
              refine lv_iload hx hb d_M_count_87 (lv_at hl 0 rfl) ?_
              refine lv_imul hx hb d_M_count_89 ?_
              refine rk_top (y := nI (32 * i)) (pk_mul 32 i) ?_
              refine lv_iload hx hb d_M_count_90 (lv_at hl 0 rfl) ?_
              refine lv_iadd hx hb d_M_count_92 ?_
              refine rk_top (y := nI (32 * i + i)) (nI_add (32 * i) i) ?_
              refine va_zald hx hb hK hP 2 1 rfl rfl (vp_in_nI (n := 32 * i + i) (show 32 * i + i < 1024 by omega) (by decide)) d_M_count_93 ?_
              refine rk_top (y := zI (h (32 * i + i))) (congrArg (fun p => zI (h p)) (nI_clamp (show 32 * i + i < 2 ^ 31 by omega))) ?_
              refine lv_if_ne (tgt := 100) hx hb d_M_count_94 (by decide) (fun hd2 => ?_) (fun hd2 => ?_)
              · have hself := zI_n.mp hd2
                refine lv_iinc (k := 2) (v := nI (rk_c (fun a => h (32 * a + a)) i + 1)) (lv' := [(5, .int (nI (rk_c (fun a => h (32 * a + a)) i + 1))), (7, .int (nI i)), (6, .int (nI (rk_c (fun a => h (32 * a + a) && !rk_any (fun b => h (32 * a + b) && h (32 * b + a)) a) i))), (4, .int (nI (rk_c h 1024))), (3, .int (rk_t t 1024)), (2, .int (nI (rk_c (fun p => decide (0 < t p)) 1024))), (0, .ref h0), (1, .int x)]) hx hb d_M_count_100 hl rfl (nI_1 (rk_c (fun a => h (32 * a + a)) i)) (by decide) rfl (fun ls hl => ?_)
                rw [← rk_c_t (f := (fun a => h (32 * a + a))) (n := i) hself] at hl
                refine lv_iconst (v := nI 1) hx hb d_M_count_103 (by decide) ?_
                refine rk_top (y := zI (!rk_any (fun b => h (32 * i + b) && h (32 * b + i)) 0)) rfl ?_
                refine lv_istore (lv' := [(8, .int (zI (!rk_any (fun b => h (32 * i + b) && h (32 * b + i)) 0))), (5, .int (nI (rk_c (fun a => h (32 * a + a)) (i + 1)))), (7, .int (nI i)), (6, .int (nI (rk_c (fun a => h (32 * a + a) && !rk_any (fun b => h (32 * a + b) && h (32 * b + a)) a) i))), (4, .int (nI (rk_c h 1024))), (3, .int (rk_t t 1024)), (2, .int (nI (rk_c (fun p => decide (0 < t p)) 1024))), (0, .ref h0), (1, .int x)]) hx hb d_M_count_104 hl (by decide) rfl (fun ls hl => ?_)
                refine lv_iconst (v := nI 0) hx hb d_M_count_106 (by decide) ?_
                refine lv_istore (lv' := [(9, .int (nI 0)), (8, .int (zI (!rk_any (fun b => h (32 * i + b) && h (32 * b + i)) 0))), (5, .int (nI (rk_c (fun a => h (32 * a + a)) (i + 1)))), (7, .int (nI i)), (6, .int (nI (rk_c (fun a => h (32 * a + a) && !rk_any (fun b => h (32 * a + b) && h (32 * b + a)) a) i))), (4, .int (nI (rk_c h 1024))), (3, .int (rk_t t 1024)), (2, .int (nI (rk_c (fun p => decide (0 < t p)) 1024))), (0, .ref h0), (1, .int x)]) hx hb d_M_count_107 hl (by decide) rfl (fun ls hl => ?_)
                have lp3 : ∀ (kf3 : Nat) (b : Nat), i - b < kf3 → b ≤ i → ∀ (ls : Array Slot) (H : Heap) (locs : List Loc), lv_has ls 10 [(9, .int (nI b)), (8, .int (zI (!rk_any (fun b => h (32 * i + b) && h (32 * b + i)) b))), (5, .int (nI (rk_c (fun a => h (32 * a + a)) (i + 1)))), (7, .int (nI i)), (6, .int (nI (rk_c (fun a => h (32 * a + a) && !rk_any (fun b => h (32 * a + b) && h (32 * b + a)) a) i))), (4, .int (nI (rk_c h 1024))), (3, .int (rk_t t 1024)), (2, .int (nI (rk_c (fun p => decide (0 < t p)) 1024))), (0, .ref h0), (1, .int x)] → va_P (dC, dI) classes [(h0, .inr (2, [.int (nI 0), .int (nI g), .ref qt, .ref qn, .ref qp, .ref qb, .ref qf, .ref qh, .ref qd])), (qt, .inl (cI, 1024, .inl t)), (qh, .inl (cZ, 1024, .inl (fun p => zI (h p)))), (qd, .inl (cZ, 1024, .inl (fun p => zI (k p))))] H → va_D (va_A [(h0, .inr (2, [.int th, .int (nI g), .ref qt, .ref qn, .ref qp, .ref qb, .ref qf, .ref qh, .ref qd])), (qt, .inl (cI, 1024, .inl t)), (qh, .inl (cZ, 1024, .inl (fun p => zI (h p)))), (qd, .inl (cZ, 1024, .inl (fun p => zI (k p))))] sz) [(h0, .inr (2, [.int (nI 0), .int (nI g), .ref qt, .ref qn, .ref qp, .ref qb, .ref qf, .ref qh, .ref qd])), (qt, .inl (cI, 1024, .inl t)), (qh, .inl (cZ, 1024, .inl (fun p => zI (h p)))), (qd, .inl (cZ, 1024, .inl (fun p => zI (k p))))] → va_S (va_A [(h0, .inr (2, [.int th, .int (nI g), .ref qt, .ref qn, .ref qp, .ref qb, .ref qf, .ref qh, .ref qd])), (qt, .inl (cI, 1024, .inl t)), (qh, .inl (cZ, 1024, .inl (fun p => zI (h p)))), (qd, .inl (cZ, 1024, .inl (fun p => zI (k p))))] sz) s.heap H locs → W p l e { frames := 1, cells := 0, slots := 0, locals := 23 } s m ([.ref h0, .int x]).toArray below meth c H locs 0 0 (MQ below (va_Qi (fun (r : Int32) (u : Unit) => r = rk_coF t h k g x) (fun _ s9 => rk_at (dC, dI) [(cI, .int), (cZ, .boolean), (cJ, .long)] (va_A [(h0, .inr (2, [.int th, .int (nI g), .ref qt, .ref qn, .ref qp, .ref qb, .ref qf, .ref qh, .ref qd])), (qt, .inl (cI, 1024, .inl t)), (qh, .inl (cZ, 1024, .inl (fun p => zI (h p)))), (qd, .inl (cZ, 1024, .inl (fun p => zI (k p))))] sz) [(h0, .inr (2, [.int (nI 0), .int (nI g), .ref qt, .ref qn, .ref qp, .ref qb, .ref qf, .ref qh, .ref qd])), (qt, .inl (cI, 1024, .inl t)), (qh, .inl (cZ, 1024, .inl (fun p => zI (h p)))), (qd, .inl (cZ, 1024, .inl (fun p => zI (k p))))] s9) (va_A [(h0, .inr (2, [.int th, .int (nI g), .ref qt, .ref qn, .ref qp, .ref qb, .ref qf, .ref qh, .ref qd])), (qt, .inl (cI, 1024, .inl t)), (qh, .inl (cZ, 1024, .inl (fun p => zI (h p)))), (qd, .inl (cZ, 1024, .inl (fun p => zI (k p))))] sz)) ([.ref h0, .int x]).toArray s 0 0 (va_A [(h0, .inr (2, [.int th, .int (nI g), .ref qt, .ref qn, .ref qp, .ref qb, .ref qf, .ref qh, .ref qd])), (qt, .inl (cI, 1024, .inl t)), (qh, .inl (cZ, 1024, .inl (fun p => zI (h p)))), (qd, .inl (cZ, 1024, .inl (fun p => zI (k p))))] sz)) (F0 m 109 ls []) := by
                  intro kf3
                  induction kf3 with
                  | zero => intro b hk3 hbi; exact absurd hk3 (by omega)
                  | succ kf3 ih3 =>
                    intro b hk3 hbi ls H locs hl hP hD hS
                    refine lv_iload hx hb d_M_count_109 (lv_at hl 0 rfl) ?_
                    refine lv_iload hx hb d_M_count_111 (lv_at hl 3 rfl) ?_
                    refine lv_icmp_ge (tgt := 157) hx hb d_M_count_113 (by decide) (fun he => ?_) (fun he => ?_)
                    · have he := (nI_leI (by omega) (by omega)).mp he
                      rw [show b = i by omega] at hl
                      have hl : lv_has ls 10 [(9, .int (nI i)), (8, .int (zI (!rk_any (fun b => h (32 * i + b) && h (32 * b + i)) i))), (5, .int (nI (rk_c (fun a => h (32 * a + a)) (i + 1)))), (7, .int (nI i)), (6, .int (nI (rk_c (fun a => h (32 * a + a) && !rk_any (fun b => h (32 * a + b) && h (32 * b + a)) a) i))), (4, .int (nI (rk_c h 1024))), (3, .int (rk_t t 1024)), (2, .int (nI (rk_c (fun p => decide (0 < t p)) 1024))), (0, .ref h0), (1, .int x)] := hl
                      refine lv_iload hx hb d_M_count_157 (lv_at hl 1 rfl) ?_
                      refine lv_if_eq (tgt := 165) hx hb d_M_count_159 (by decide) (fun hf => ?_) (fun hf => ?_)
                      · rw [← rk_c_f (f := (fun a => h (32 * a + a) && !rk_any (fun b => h (32 * a + b) && h (32 * b + a)) a)) (n := i) (by show (h (32 * i + i) && !(rk_any (fun b => h (32 * i + b) && h (32 * b + i)) i)) = false; rw [zI_0.mp hf, Bool.and_false])] at hl
                        refine lv_iinc (k := 3) (v := nI (i + 1)) (lv' := [(7, .int (nI (i + 1))), (9, .int (nI i)), (8, .int (zI (!rk_any (fun b => h (32 * i + b) && h (32 * b + i)) i))), (5, .int (nI (rk_c (fun a => h (32 * a + a)) (i + 1)))), (6, .int (nI (rk_c (fun a => h (32 * a + a) && !rk_any (fun b => h (32 * a + b) && h (32 * b + a)) a) (i + 1)))), (4, .int (nI (rk_c h 1024))), (3, .int (rk_t t 1024)), (2, .int (nI (rk_c (fun p => decide (0 < t p)) 1024))), (0, .ref h0), (1, .int x)]) hx hb d_M_count_165 hl rfl (nI_1 i) (by decide) rfl (fun ls hl => ?_)
                        refine lv_goto (tgt := 74) hx hb d_M_count_168 (by decide) ?_
                        have hl := lv_sub (l' := [(7, .int (nI (i + 1))), (6, .int (nI (rk_c (fun a => h (32 * a + a) && !rk_any (fun b => h (32 * a + b) && h (32 * b + a)) a) (i + 1)))), (5, .int (nI (rk_c (fun a => h (32 * a + a)) (i + 1)))), (4, .int (nI (rk_c h 1024))), (3, .int (rk_t t 1024)), (2, .int (nI (rk_c (fun p => decide (0 < t p)) 1024))), (0, .ref h0), (1, .int x)]) hl [0, 4, 3, 5, 6, 7, 8, 9] rfl
                        exact ih2 (i + 1) (by omega) (by omega) ls H locs hl hP hD hS
                      · refine lv_iinc (k := 4) (v := nI (rk_c (fun a => h (32 * a + a) && !rk_any (fun b => h (32 * a + b) && h (32 * b + a)) a) i + 1)) (lv' := [(6, .int (nI (rk_c (fun a => h (32 * a + a) && !rk_any (fun b => h (32 * a + b) && h (32 * b + a)) a) i + 1))), (9, .int (nI i)), (8, .int (zI (!rk_any (fun b => h (32 * i + b) && h (32 * b + i)) i))), (5, .int (nI (rk_c (fun a => h (32 * a + a)) (i + 1)))), (7, .int (nI i)), (4, .int (nI (rk_c h 1024))), (3, .int (rk_t t 1024)), (2, .int (nI (rk_c (fun p => decide (0 < t p)) 1024))), (0, .ref h0), (1, .int x)]) hx hb d_M_count_162 hl rfl (nI_1 (rk_c (fun a => h (32 * a + a) && !rk_any (fun b => h (32 * a + b) && h (32 * b + a)) a) i)) (by decide) rfl (fun ls hl => ?_)
                        rw [← rk_c_t (f := (fun a => h (32 * a + a) && !rk_any (fun b => h (32 * a + b) && h (32 * b + a)) a)) (n := i) (by show (h (32 * i + i) && !(rk_any (fun b => h (32 * i + b) && h (32 * b + i)) i)) = true; rw [zI_n.mp hf, hself]; rfl)] at hl
                        refine lv_iinc (k := 4) (v := nI (i + 1)) (lv' := [(7, .int (nI (i + 1))), (6, .int (nI (rk_c (fun a => h (32 * a + a) && !rk_any (fun b => h (32 * a + b) && h (32 * b + a)) a) (i + 1)))), (9, .int (nI i)), (8, .int (zI (!rk_any (fun b => h (32 * i + b) && h (32 * b + i)) i))), (5, .int (nI (rk_c (fun a => h (32 * a + a)) (i + 1)))), (4, .int (nI (rk_c h 1024))), (3, .int (rk_t t 1024)), (2, .int (nI (rk_c (fun p => decide (0 < t p)) 1024))), (0, .ref h0), (1, .int x)]) hx hb d_M_count_165 hl rfl (nI_1 i) (by decide) rfl (fun ls hl => ?_)
                        refine lv_goto (tgt := 74) hx hb d_M_count_168 (by decide) ?_
                        have hl := lv_sub (l' := [(7, .int (nI (i + 1))), (6, .int (nI (rk_c (fun a => h (32 * a + a) && !rk_any (fun b => h (32 * a + b) && h (32 * b + a)) a) (i + 1)))), (5, .int (nI (rk_c (fun a => h (32 * a + a)) (i + 1)))), (4, .int (nI (rk_c h 1024))), (3, .int (rk_t t 1024)), (2, .int (nI (rk_c (fun p => decide (0 < t p)) 1024))), (0, .ref h0), (1, .int x)]) hl [0, 1, 4, 5, 6, 7, 8, 9] rfl
                        exact ih2 (i + 1) (by omega) (by omega) ls H locs hl hP hD hS
                    · have he := rk_gt (by omega) (by omega) he
                      refine lv_aload_n hx hb d_M_count_116 rfl (lv_at hl 8 rfl) ?_
                      refine va_get (D := (dC, dI)) (ci := 2) (v := .ref qh) (C := R_M) (T := F_M) (N := 9) hx hb htw u_M hown hK hP 0 rfl rfl 7 (by decide) (htw _ l_M_25) (fun _ h9 => h9) rfl d_M_count_117 ?_
                      refine lv_bipush (v := nI 32) hx hb d_M_count_120 (by decide) ?_
                      refine lv_iload hx hb d_M_count_122 (lv_at hl 3 rfl) ?_
                      refine lv_imul hx hb d_M_count_124 ?_
                      refine rk_top (y := nI (32 * i)) (pk_mul 32 i) ?_
                      refine lv_iload hx hb d_M_count_125 (lv_at hl 0 rfl) ?_
                      refine lv_iadd hx hb d_M_count_127 ?_
                      refine rk_top (y := nI (32 * i + b)) (nI_add (32 * i) b) ?_
                      refine va_zald hx hb hK hP 2 1 rfl rfl (vp_in_nI (n := 32 * i + b) (show 32 * i + b < 1024 by omega) (by decide)) d_M_count_128 ?_
                      refine rk_top (y := zI (h (32 * i + b))) (congrArg (fun p => zI (h p)) (nI_clamp (show 32 * i + b < 2 ^ 31 by omega))) ?_
                      refine lv_if_eq (tgt := 151) hx hb d_M_count_129 (by decide) (fun hg1 => ?_) (fun hg1 => ?_)
                      · rw [show (!rk_any (fun b => h (32 * i + b) && h (32 * b + i)) b) = (!rk_any (fun b => h (32 * i + b) && h (32 * b + i)) (b + 1)) by rw [rk_any_s, zI_0.mp hg1, Bool.false_and, Bool.or_false]] at hl
                        refine lv_iinc (k := 0) (v := nI (b + 1)) (lv' := [(9, .int (nI (b + 1))), (8, .int (zI (!rk_any (fun b => h (32 * i + b) && h (32 * b + i)) (b + 1)))), (5, .int (nI (rk_c (fun a => h (32 * a + a)) (i + 1)))), (7, .int (nI i)), (6, .int (nI (rk_c (fun a => h (32 * a + a) && !rk_any (fun b => h (32 * a + b) && h (32 * b + a)) a) i))), (4, .int (nI (rk_c h 1024))), (3, .int (rk_t t 1024)), (2, .int (nI (rk_c (fun p => decide (0 < t p)) 1024))), (0, .ref h0), (1, .int x)]) hx hb d_M_count_151 hl rfl (nI_1 b) (by decide) rfl (fun ls hl => ?_)
                        refine lv_goto (tgt := 109) hx hb d_M_count_154 (by decide) ?_
                        have hl := lv_sub (l' := [(9, .int (nI (b + 1))), (8, .int (zI (!rk_any (fun b => h (32 * i + b) && h (32 * b + i)) (b + 1)))), (5, .int (nI (rk_c (fun a => h (32 * a + a)) (i + 1)))), (7, .int (nI i)), (6, .int (nI (rk_c (fun a => h (32 * a + a) && !rk_any (fun b => h (32 * a + b) && h (32 * b + a)) a) i))), (4, .int (nI (rk_c h 1024))), (3, .int (rk_t t 1024)), (2, .int (nI (rk_c (fun p => decide (0 < t p)) 1024))), (0, .ref h0), (1, .int x)]) hl [0, 1, 2, 3, 4, 5, 6, 7, 8, 9] rfl
                        exact ih3 (b + 1) (by omega) (by omega) ls H locs hl hP hD hS
                      · refine lv_aload_n hx hb d_M_count_132 rfl (lv_at hl 8 rfl) ?_
                        refine va_get (D := (dC, dI)) (ci := 2) (v := .ref qh) (C := R_M) (T := F_M) (N := 9) hx hb htw u_M hown hK hP 0 rfl rfl 7 (by decide) (htw _ l_M_25) (fun _ h9 => h9) rfl d_M_count_133 ?_
                        refine lv_bipush (v := nI 32) hx hb d_M_count_136 (by decide) ?_
                        refine lv_iload hx hb d_M_count_138 (lv_at hl 0 rfl) ?_
                        refine lv_imul hx hb d_M_count_140 ?_
                        refine rk_top (y := nI (32 * b)) (pk_mul 32 b) ?_
                        refine lv_iload hx hb d_M_count_141 (lv_at hl 3 rfl) ?_
                        refine lv_iadd hx hb d_M_count_143 ?_
                        refine rk_top (y := nI (32 * b + i)) (nI_add (32 * b) i) ?_
                        refine va_zald hx hb hK hP 2 1 rfl rfl (vp_in_nI (n := 32 * b + i) (show 32 * b + i < 1024 by omega) (by decide)) d_M_count_144 ?_
                        refine rk_top (y := zI (h (32 * b + i))) (congrArg (fun p => zI (h p)) (nI_clamp (show 32 * b + i < 2 ^ 31 by omega))) ?_
                        refine lv_if_eq (tgt := 151) hx hb d_M_count_145 (by decide) (fun hg2 => ?_) (fun hg2 => ?_)
                        · rw [show (!rk_any (fun b => h (32 * i + b) && h (32 * b + i)) b) = (!rk_any (fun b => h (32 * i + b) && h (32 * b + i)) (b + 1)) by rw [rk_any_s, zI_0.mp hg2, Bool.and_false, Bool.or_false]] at hl
                          refine lv_iinc (k := 0) (v := nI (b + 1)) (lv' := [(9, .int (nI (b + 1))), (8, .int (zI (!rk_any (fun b => h (32 * i + b) && h (32 * b + i)) (b + 1)))), (5, .int (nI (rk_c (fun a => h (32 * a + a)) (i + 1)))), (7, .int (nI i)), (6, .int (nI (rk_c (fun a => h (32 * a + a) && !rk_any (fun b => h (32 * a + b) && h (32 * b + a)) a) i))), (4, .int (nI (rk_c h 1024))), (3, .int (rk_t t 1024)), (2, .int (nI (rk_c (fun p => decide (0 < t p)) 1024))), (0, .ref h0), (1, .int x)]) hx hb d_M_count_151 hl rfl (nI_1 b) (by decide) rfl (fun ls hl => ?_)
                          refine lv_goto (tgt := 109) hx hb d_M_count_154 (by decide) ?_
                          have hl := lv_sub (l' := [(9, .int (nI (b + 1))), (8, .int (zI (!rk_any (fun b => h (32 * i + b) && h (32 * b + i)) (b + 1)))), (5, .int (nI (rk_c (fun a => h (32 * a + a)) (i + 1)))), (7, .int (nI i)), (6, .int (nI (rk_c (fun a => h (32 * a + a) && !rk_any (fun b => h (32 * a + b) && h (32 * b + a)) a) i))), (4, .int (nI (rk_c h 1024))), (3, .int (rk_t t 1024)), (2, .int (nI (rk_c (fun p => decide (0 < t p)) 1024))), (0, .ref h0), (1, .int x)]) hl [0, 1, 2, 3, 4, 5, 6, 7, 8, 9] rfl
                          exact ih3 (b + 1) (by omega) (by omega) ls H locs hl hP hD hS
                        · refine lv_iconst (v := nI 0) hx hb d_M_count_148 (by decide) ?_
                          refine rk_top (y := zI (!rk_any (fun b => h (32 * i + b) && h (32 * b + i)) (b + 1))) (by rw [rk_any_s, zI_n.mp hg1, zI_n.mp hg2, Bool.and_true, Bool.or_true]; rfl) ?_
                          refine lv_istore (lv' := [(8, .int (zI (!rk_any (fun b => h (32 * i + b) && h (32 * b + i)) (b + 1)))), (9, .int (nI b)), (5, .int (nI (rk_c (fun a => h (32 * a + a)) (i + 1)))), (7, .int (nI i)), (6, .int (nI (rk_c (fun a => h (32 * a + a) && !rk_any (fun b => h (32 * a + b) && h (32 * b + a)) a) i))), (4, .int (nI (rk_c h 1024))), (3, .int (rk_t t 1024)), (2, .int (nI (rk_c (fun p => decide (0 < t p)) 1024))), (0, .ref h0), (1, .int x)]) hx hb d_M_count_149 hl (by decide) rfl (fun ls hl => ?_)
                          refine lv_iinc (k := 1) (v := nI (b + 1)) (lv' := [(9, .int (nI (b + 1))), (8, .int (zI (!rk_any (fun b => h (32 * i + b) && h (32 * b + i)) (b + 1)))), (5, .int (nI (rk_c (fun a => h (32 * a + a)) (i + 1)))), (7, .int (nI i)), (6, .int (nI (rk_c (fun a => h (32 * a + a) && !rk_any (fun b => h (32 * a + b) && h (32 * b + a)) a) i))), (4, .int (nI (rk_c h 1024))), (3, .int (rk_t t 1024)), (2, .int (nI (rk_c (fun p => decide (0 < t p)) 1024))), (0, .ref h0), (1, .int x)]) hx hb d_M_count_151 hl rfl (nI_1 b) (by decide) rfl (fun ls hl => ?_)
                          refine lv_goto (tgt := 109) hx hb d_M_count_154 (by decide) ?_
                          have hl := lv_sub (l' := [(9, .int (nI (b + 1))), (8, .int (zI (!rk_any (fun b => h (32 * i + b) && h (32 * b + i)) (b + 1)))), (5, .int (nI (rk_c (fun a => h (32 * a + a)) (i + 1)))), (7, .int (nI i)), (6, .int (nI (rk_c (fun a => h (32 * a + a) && !rk_any (fun b => h (32 * a + b) && h (32 * b + a)) a) i))), (4, .int (nI (rk_c h 1024))), (3, .int (rk_t t 1024)), (2, .int (nI (rk_c (fun p => decide (0 < t p)) 1024))), (0, .ref h0), (1, .int x)]) hl [0, 1, 2, 3, 4, 5, 6, 7, 8, 9] rfl
                          exact ih3 (b + 1) (by omega) (by omega) ls H locs hl hP hD hS
                have hl := lv_sub (l' := [(9, .int (nI 0)), (8, .int (zI (!rk_any (fun b => h (32 * i + b) && h (32 * b + i)) 0))), (5, .int (nI (rk_c (fun a => h (32 * a + a)) (i + 1)))), (7, .int (nI i)), (6, .int (nI (rk_c (fun a => h (32 * a + a) && !rk_any (fun b => h (32 * a + b) && h (32 * b + a)) a) i))), (4, .int (nI (rk_c h 1024))), (3, .int (rk_t t 1024)), (2, .int (nI (rk_c (fun p => decide (0 < t p)) 1024))), (0, .ref h0), (1, .int x)]) hl [0, 1, 2, 3, 4, 5, 6, 7, 8, 9] rfl
                exact lp3 33 0 (by omega) (by omega) ls _ _ hl hP hD hS
              · have hself := zI_0.mp hd2
                rw [← rk_c_f (f := (fun a => h (32 * a + a))) (n := i) hself, ← rk_c_f (f := (fun a => h (32 * a + a) && !rk_any (fun b => h (32 * a + b) && h (32 * b + a)) a)) (n := i) (by show (h (32 * i + i) && _) = false; rw [hself]; rfl)] at hl
                refine lv_goto (tgt := 165) hx hb d_M_count_97 (by decide) ?_
                refine lv_iinc (k := 0) (v := nI (i + 1)) (lv' := [(7, .int (nI (i + 1))), (6, .int (nI (rk_c (fun a => h (32 * a + a) && !rk_any (fun b => h (32 * a + b) && h (32 * b + a)) a) (i + 1)))), (5, .int (nI (rk_c (fun a => h (32 * a + a)) (i + 1)))), (4, .int (nI (rk_c h 1024))), (3, .int (rk_t t 1024)), (2, .int (nI (rk_c (fun p => decide (0 < t p)) 1024))), (0, .ref h0), (1, .int x)]) hx hb d_M_count_165 hl rfl (nI_1 i) (by decide) rfl (fun ls hl => ?_)
                refine lv_goto (tgt := 74) hx hb d_M_count_168 (by decide) ?_
                have hl := lv_sub (l' := [(7, .int (nI (i + 1))), (6, .int (nI (rk_c (fun a => h (32 * a + a) && !rk_any (fun b => h (32 * a + b) && h (32 * b + a)) a) (i + 1)))), (5, .int (nI (rk_c (fun a => h (32 * a + a)) (i + 1)))), (4, .int (nI (rk_c h 1024))), (3, .int (rk_t t 1024)), (2, .int (nI (rk_c (fun p => decide (0 < t p)) 1024))), (0, .ref h0), (1, .int x)]) hl [0, 1, 2, 3, 4, 5, 6, 7] rfl
                exact ih2 (i + 1) (by omega) (by omega) ls H locs hl hP hD hS
        have hl := lv_sub (l' := [(7, .int (nI 0)), (6, .int (nI (rk_c (fun a => h (32 * a + a) && !rk_any (fun b => h (32 * a + b) && h (32 * b + a)) a) 0))), (5, .int (nI (rk_c (fun a => h (32 * a + a)) 0))), (4, .int (nI (rk_c h 1024))), (3, .int (rk_t t 1024)), (2, .int (nI (rk_c (fun p => decide (0 < t p)) 1024))), (0, .ref h0), (1, .int x)]) hl [0, 1, 2, 3, 4, 5, 6, 7] rfl
        exact lp2 33 0 (by omega) (by omega) ls _ _ hl hP hD hS
      · have hc := rk_gt (by omega) (by omega) hc
        refine lv_aload_n hx hb d_M_count_29 rfl (lv_at hl 6 rfl) ?_
        refine va_get (D := (dC, dI)) (ci := 2) (v := .ref qt) (C := R_M) (T := F_M) (N := 9) hx hb htw u_M hown hK hP 0 rfl rfl 2 (by decide) (htw _ l_M_9) (fun _ h9 => h9) rfl d_M_count_30 ?_
        refine lv_iload hx hb d_M_count_33 (lv_at hl 0 rfl) ?_
        refine va_iald hx hb hK hP 1 0 rfl rfl (vp_in_nI (n := i) (show i < 1024 by omega) (by decide)) d_M_count_35 ?_
        refine rk_top (y := t i) (congrArg t (nI_clamp (show i < 2 ^ 31 by omega))) ?_
        refine lv_if_le (tgt := 42) hx hb d_M_count_36 (by decide) (fun hc2 => ?_) (fun hc2 => ?_)
        · rw [← rk_c_f (f := (fun p => decide (0 < t p))) (n := i) (decide_eq_false (Int32.not_lt.mpr hc2))] at hl
          refine lv_iload_n hx hb d_M_count_42 rfl (lv_at hl 4 rfl) ?_
          refine lv_aload_n hx hb d_M_count_43 rfl (lv_at hl 6 rfl) ?_
          refine va_get (D := (dC, dI)) (ci := 2) (v := .ref qt) (C := R_M) (T := F_M) (N := 9) hx hb htw u_M hown hK hP 0 rfl rfl 2 (by decide) (htw _ l_M_9) (fun _ h9 => h9) rfl d_M_count_44 ?_
          refine lv_iload hx hb d_M_count_47 (lv_at hl 0 rfl) ?_
          refine va_iald hx hb hK hP 1 0 rfl rfl (vp_in_nI (n := i) (show i < 1024 by omega) (by decide)) d_M_count_49 ?_
          refine rk_top (y := t i) (congrArg t (nI_clamp (show i < 2 ^ 31 by omega))) ?_
          refine lv_iadd hx hb d_M_count_50 ?_
          refine lv_istore_n (lv' := [(3, .int ((rk_t t i) + (t i))), (7, .int (nI i)), (6, .int (nI 0)), (5, .int (nI 0)), (4, .int (nI (rk_c h i))), (2, .int (nI (rk_c (fun p => decide (0 < t p)) (i + 1)))), (0, .ref h0), (1, .int x)]) hx hb d_M_count_51 rfl hl (by decide) rfl (fun ls hl => ?_)
          refine lv_aload_n hx hb d_M_count_52 rfl (lv_at hl 6 rfl) ?_
          refine va_get (D := (dC, dI)) (ci := 2) (v := .ref qh) (C := R_M) (T := F_M) (N := 9) hx hb htw u_M hown hK hP 0 rfl rfl 7 (by decide) (htw _ l_M_25) (fun _ h9 => h9) rfl d_M_count_53 ?_
          refine lv_iload hx hb d_M_count_56 (lv_at hl 1 rfl) ?_
          refine va_zald hx hb hK hP 2 1 rfl rfl (vp_in_nI (n := i) (show i < 1024 by omega) (by decide)) d_M_count_58 ?_
          refine rk_top (y := zI (h i)) (congrArg (fun p => zI (h p)) (nI_clamp (show i < 2 ^ 31 by omega))) ?_
          refine lv_if_eq (tgt := 65) hx hb d_M_count_59 (by decide) (fun hc3 => ?_) (fun hc3 => ?_)
          · refine lv_iinc (k := 1) (v := nI (i + 1)) (lv' := [(7, .int (nI (i + 1))), (3, .int ((rk_t t i) + (t i))), (6, .int (nI 0)), (5, .int (nI 0)), (4, .int (nI (rk_c h i))), (2, .int (nI (rk_c (fun p => decide (0 < t p)) (i + 1)))), (0, .ref h0), (1, .int x)]) hx hb d_M_count_65 hl rfl (nI_1 i) (by decide) rfl (fun ls hl => ?_)
            refine lv_goto (tgt := 21) hx hb d_M_count_68 (by decide) ?_
            rw [← rk_c_f (f := h) (n := i) (zI_0.mp hc3)] at hl
            have hl := lv_sub (l' := [(7, .int (nI (i + 1))), (6, .int (nI 0)), (5, .int (nI 0)), (4, .int (nI (rk_c h (i + 1)))), (3, .int (rk_t t (i + 1))), (2, .int (nI (rk_c (fun p => decide (0 < t p)) (i + 1)))), (0, .ref h0), (1, .int x)]) hl [0, 2, 3, 4, 1, 5, 6, 7] rfl
            exact ih (i + 1) (by omega) (by omega) ls H locs hl hP hD hS
          · refine lv_iinc (k := 4) (v := nI (rk_c h i + 1)) (lv' := [(4, .int (nI (rk_c h i + 1))), (3, .int ((rk_t t i) + (t i))), (7, .int (nI i)), (6, .int (nI 0)), (5, .int (nI 0)), (2, .int (nI (rk_c (fun p => decide (0 < t p)) (i + 1)))), (0, .ref h0), (1, .int x)]) hx hb d_M_count_62 hl rfl (nI_1 (rk_c h i)) (by decide) rfl (fun ls hl => ?_)
            refine lv_iinc (k := 2) (v := nI (i + 1)) (lv' := [(7, .int (nI (i + 1))), (4, .int (nI (rk_c h i + 1))), (3, .int ((rk_t t i) + (t i))), (6, .int (nI 0)), (5, .int (nI 0)), (2, .int (nI (rk_c (fun p => decide (0 < t p)) (i + 1)))), (0, .ref h0), (1, .int x)]) hx hb d_M_count_65 hl rfl (nI_1 i) (by decide) rfl (fun ls hl => ?_)
            refine lv_goto (tgt := 21) hx hb d_M_count_68 (by decide) ?_
            rw [← rk_c_t (f := h) (n := i) (zI_n.mp hc3)] at hl
            have hl := lv_sub (l' := [(7, .int (nI (i + 1))), (6, .int (nI 0)), (5, .int (nI 0)), (4, .int (nI (rk_c h (i + 1)))), (3, .int (rk_t t (i + 1))), (2, .int (nI (rk_c (fun p => decide (0 < t p)) (i + 1)))), (0, .ref h0), (1, .int x)]) hl [0, 3, 4, 1, 2, 5, 6, 7] rfl
            exact ih (i + 1) (by omega) (by omega) ls H locs hl hP hD hS
        · refine lv_iinc (k := 5) (v := nI (rk_c (fun p => decide (0 < t p)) i + 1)) (lv' := [(2, .int (nI (rk_c (fun p => decide (0 < t p)) i + 1))), (7, .int (nI i)), (6, .int (nI 0)), (5, .int (nI 0)), (4, .int (nI (rk_c h i))), (3, .int (rk_t t i)), (0, .ref h0), (1, .int x)]) hx hb d_M_count_39 hl rfl (nI_1 (rk_c (fun p => decide (0 < t p)) i)) (by decide) rfl (fun ls hl => ?_)
          rw [← rk_c_t (f := (fun p => decide (0 < t p))) (n := i) (decide_eq_true (Int32.not_le.mp hc2))] at hl
          refine lv_iload_n hx hb d_M_count_42 rfl (lv_at hl 5 rfl) ?_
          refine lv_aload_n hx hb d_M_count_43 rfl (lv_at hl 6 rfl) ?_
          refine va_get (D := (dC, dI)) (ci := 2) (v := .ref qt) (C := R_M) (T := F_M) (N := 9) hx hb htw u_M hown hK hP 0 rfl rfl 2 (by decide) (htw _ l_M_9) (fun _ h9 => h9) rfl d_M_count_44 ?_
          refine lv_iload hx hb d_M_count_47 (lv_at hl 1 rfl) ?_
          refine va_iald hx hb hK hP 1 0 rfl rfl (vp_in_nI (n := i) (show i < 1024 by omega) (by decide)) d_M_count_49 ?_
          refine rk_top (y := t i) (congrArg t (nI_clamp (show i < 2 ^ 31 by omega))) ?_
          refine lv_iadd hx hb d_M_count_50 ?_
          refine lv_istore_n (lv' := [(3, .int ((rk_t t i) + (t i))), (2, .int (nI (rk_c (fun p => decide (0 < t p)) (i + 1)))), (7, .int (nI i)), (6, .int (nI 0)), (5, .int (nI 0)), (4, .int (nI (rk_c h i))), (0, .ref h0), (1, .int x)]) hx hb d_M_count_51 rfl hl (by decide) rfl (fun ls hl => ?_)
          refine lv_aload_n hx hb d_M_count_52 rfl (lv_at hl 6 rfl) ?_
          refine va_get (D := (dC, dI)) (ci := 2) (v := .ref qh) (C := R_M) (T := F_M) (N := 9) hx hb htw u_M hown hK hP 0 rfl rfl 7 (by decide) (htw _ l_M_25) (fun _ h9 => h9) rfl d_M_count_53 ?_
          refine lv_iload hx hb d_M_count_56 (lv_at hl 2 rfl) ?_
          refine va_zald hx hb hK hP 2 1 rfl rfl (vp_in_nI (n := i) (show i < 1024 by omega) (by decide)) d_M_count_58 ?_
          refine rk_top (y := zI (h i)) (congrArg (fun p => zI (h p)) (nI_clamp (show i < 2 ^ 31 by omega))) ?_
          refine lv_if_eq (tgt := 65) hx hb d_M_count_59 (by decide) (fun hc3 => ?_) (fun hc3 => ?_)
          · refine lv_iinc (k := 2) (v := nI (i + 1)) (lv' := [(7, .int (nI (i + 1))), (3, .int ((rk_t t i) + (t i))), (2, .int (nI (rk_c (fun p => decide (0 < t p)) (i + 1)))), (6, .int (nI 0)), (5, .int (nI 0)), (4, .int (nI (rk_c h i))), (0, .ref h0), (1, .int x)]) hx hb d_M_count_65 hl rfl (nI_1 i) (by decide) rfl (fun ls hl => ?_)
            refine lv_goto (tgt := 21) hx hb d_M_count_68 (by decide) ?_
            rw [← rk_c_f (f := h) (n := i) (zI_0.mp hc3)] at hl
            have hl := lv_sub (l' := [(7, .int (nI (i + 1))), (6, .int (nI 0)), (5, .int (nI 0)), (4, .int (nI (rk_c h (i + 1)))), (3, .int (rk_t t (i + 1))), (2, .int (nI (rk_c (fun p => decide (0 < t p)) (i + 1)))), (0, .ref h0), (1, .int x)]) hl [0, 3, 4, 5, 1, 2, 6, 7] rfl
            exact ih (i + 1) (by omega) (by omega) ls H locs hl hP hD hS
          · refine lv_iinc (k := 5) (v := nI (rk_c h i + 1)) (lv' := [(4, .int (nI (rk_c h i + 1))), (3, .int ((rk_t t i) + (t i))), (2, .int (nI (rk_c (fun p => decide (0 < t p)) (i + 1)))), (7, .int (nI i)), (6, .int (nI 0)), (5, .int (nI 0)), (0, .ref h0), (1, .int x)]) hx hb d_M_count_62 hl rfl (nI_1 (rk_c h i)) (by decide) rfl (fun ls hl => ?_)
            refine lv_iinc (k := 3) (v := nI (i + 1)) (lv' := [(7, .int (nI (i + 1))), (4, .int (nI (rk_c h i + 1))), (3, .int ((rk_t t i) + (t i))), (2, .int (nI (rk_c (fun p => decide (0 < t p)) (i + 1)))), (6, .int (nI 0)), (5, .int (nI 0)), (0, .ref h0), (1, .int x)]) hx hb d_M_count_65 hl rfl (nI_1 i) (by decide) rfl (fun ls hl => ?_)
            refine lv_goto (tgt := 21) hx hb d_M_count_68 (by decide) ?_
            rw [← rk_c_t (f := h) (n := i) (zI_n.mp hc3)] at hl
            have hl := lv_sub (l' := [(7, .int (nI (i + 1))), (6, .int (nI 0)), (5, .int (nI 0)), (4, .int (nI (rk_c h (i + 1)))), (3, .int (rk_t t (i + 1))), (2, .int (nI (rk_c (fun p => decide (0 < t p)) (i + 1)))), (0, .ref h0), (1, .int x)]) hl [0, 4, 5, 1, 2, 3, 6, 7] rfl
            exact ih (i + 1) (by omega) (by omega) ls H locs hl hP hD hS
  have hl := lv_sub (l' := [(7, .int (nI 0)), (6, .int (nI 0)), (5, .int (nI 0)), (4, .int (nI (rk_c h 0))), (3, .int (rk_t t 0)), (2, .int (nI (rk_c (fun p => decide (0 < t p)) 0))), (0, .ref h0), (1, .int x)]) hl [0, 1, 2, 3, 4, 5, 6, 7] rfl
  exact lp 1025 0 (by omega) (by omega) ls _ _ hl hP hD hS
