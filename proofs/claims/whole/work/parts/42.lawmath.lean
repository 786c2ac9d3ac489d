/-! what ties the class and the reference between two calls of the law -/
def rk_I (g gm : Nat) (pp : Nat → Nat) (t gs ge tm pl by_ r1 r2 r4 r5 : Nat → Int32) (h k : Nat → Bool) : Prop :=
  g = gm ∧ g ≤ 60 ∧ (∀ i, i < g → ge i = nI (pp i) ∧ pp i < 1024) ∧ (∀ i, i < g → pl i = nI (pp i) ∧ pp i < 1024) ∧ (∀ p, p < 1024 → gs p = rk_s pp by_ g p) ∧ (∀ p, p < 1024 → ¬ t p < 0) ∧ (∀ p, p < 1024 → tm p = t p) ∧
  rk_R r1 (fun p => decide (0 < t p)) ∧ rk_R r2 h ∧ rk_R r4 (rk_came h k true) ∧ rk_R r5 (rk_came h k false) ∧ ∀ p, p < 1024 → h p = rk_jv 32 (fun p => decide (0 < tm p)) p
theorem rk_R0 {f : Nat → Bool} (h : ∀ p, p < 1024 → f p = false) : rk_R (fun _ => 0) f := fun a ha b hb => by rw [b_0, h _ (by omega)]
theorem rk_I0 : rk_I 0 0 (fun _ => 0) (fun _ => 0) (fun _ => 0) (fun _ => 0) (fun _ => 0) (fun _ => 0) (fun _ => 0) (fun _ => 0) (fun _ => 0) (fun _ => 0) (fun _ => 0) (fun _ => false) (fun _ => false) :=
  ⟨rfl, by omega, fun i hi => by omega, fun i hi => by omega, fun p _ => rfl, fun p _ => (by decide : ¬ (0 : Int32) < 0), fun p _ => rfl, rk_R0 (fun p _ => (by decide : decide ((0 : Int32) < 0) = false)), rk_R0 (fun p _ => rfl), rk_R0 (fun p _ => rfl), rk_R0 (fun p _ => rfl), fun p hp => (rk_jv_none (fun q _ => (by decide : decide ((0 : Int32) < 0) = false)) p hp).symm⟩
def rk_up (pp : Nat → Nat) (g q j : Nat) : Nat := if j = g then q else pp j
theorem rk_up_s (pp : Nat → Nat) (g q : Nat) : rk_up pp g q g = q := if_pos rfl
theorem rk_up_n {pp : Nat → Nat} {g q j : Nat} (h : ¬ j = g) : rk_up pp g q j = pp j := if_neg h
section LM
variable {g : Nat} {pp : Nat → Nat} {t gs ge tm pl by_ r1 r2 r4 r5 : Nat → Int32} {h k : Nat → Bool}
theorem rk_I_push (hI : rk_I g g pp t gs ge tm pl by_ r1 r2 r4 r5 h k) {q : Nat} (hq : q < 1024) (hg : g < 60) (x : Int32) : rk_I (g + 1) (g + 1) (rk_up pp g q) t (upd gs q (gs q + x)) (upd ge g (nI q)) tm (upd pl g (nI q)) (upd by_ g x) r1 r2 r4 r5 h k := by
  obtain ⟨-, hg0, h1, h2, h3, h4⟩ := hI
  refine ⟨rfl, by omega, fun i hi => ?_, fun i hi => ?_, fun p hp => ?_, h4⟩
  · by_cases e : i = g
    · subst e
      rw [pk_us, rk_up_s]
      exact ⟨rfl, hq⟩
    · rw [pk_un e, rk_up_n e]
      exact h1 i (by omega)
  · by_cases e : i = g
    · subst e
      rw [pk_us, rk_up_s]
      exact ⟨rfl, hq⟩
    · rw [pk_un e, rk_up_n e]
      exact h2 i (by omega)
  · rw [rk_s_s, pk_us, rk_up_s, rk_s_congr (Q := pp) (g := by_) (fun j hj => rk_up_n (by omega)) (fun j hj => pk_un (by omega)), ← h3 p hp]
    by_cases e : p = q
    · subst e
      rw [pk_us, if_pos rfl]
    · rw [pk_un e, if_neg (fun z => e z.symm), Int32.add_zero]
theorem rk_gs0 (hI : rk_I g g pp t gs ge tm pl by_ r1 r2 r4 r5 h k) {u : Nat → Int32} (hu : ∀ p, p < 1024 → u p = if rk_in pp g p = true then 0 else gs p) : ∀ p, p < 1024 → u p = 0 := by
  intro p hp
  rw [hu p hp]
  by_cases c : rk_in pp g p = true
  · rw [if_pos c]
  · rw [if_neg c, hI.2.2.2.2.1 p hp, rk_s_0 (by cases z : rk_in pp g p; rfl; exact absurd z c)]
theorem rk_I_forget (hI : rk_I g g pp t gs ge tm pl by_ r1 r2 r4 r5 h k) {u : Nat → Int32} (hu : ∀ p, p < 1024 → u p = if rk_in pp g p = true then 0 else gs p) : rk_I 0 0 pp t u ge tm pl by_ r1 r2 r4 r5 h k :=
  ⟨rfl, by omega, fun i hi => by omega, fun i hi => by omega, fun p hp => rk_gs0 hI hu p hp, hI.2.2.2.2.2⟩
theorem rk_vt {a b : Nat} (ha : a < 32) (hb : b < 32) : (rk_v (nI a) && rk_v (nI b)) = true := by rw [rk_v_nI ha, rk_v_nI hb]; rfl
theorem rk_nIi {a b : Nat} (ha : a < 32) (hb : b < 32) (e : nI a = nI b) : a = b := (nI_eq (by omega) (by omega)).mp e
theorem rk_ch_eq (hI : rk_I g g pp t gs ge tm pl by_ r1 r2 r4 r5 h k) {fo : Nat → Int64} {x y : Int32} {z : Bool} {r r' : Int32} {u : Nat × (Nat → Int32) × (Nat → Int32) × (Nat → Int64)} {u' : Int32 × Nat × (Nat → Int32) × (Nat → Int32)}
    (hL : (r = nI 0 ∧ ∃ a b, a < 32 ∧ b < 32 ∧ x = nI a ∧ y = nI b ∧ g < 60 ∧ u = (g + 1, upd ge g (nI (32 * a + b)), upd gs (32 * a + b) (gs (32 * a + b) + rk_sg z), vp_updL fo 0 (nI (g + 1)).toInt64)) ∨ (r = nI 1 ∧ (rk_v x && rk_v y) = false ∧ u = (g, ge, gs, fo)) ∨ (r = nI 2 ∧ (rk_v x && rk_v y) = true ∧ g = 60 ∧ u = (g, ge, gs, fo)))
    (hM : rk_chM g pl by_ x y z r' u') : u'.1 = r ∧ (r = 0 → u.2.2.2 0 = r'.toInt64) ∧ ∃ pp', rk_I u.1 u'.2.1 pp' t u.2.2.1 u.2.1 tm u'.2.2.1 u'.2.2.2 r1 r2 r4 r5 h k := by
  rcases hL with ⟨rfl, a, b, ha, hb, rfl, rfl, hg, rfl⟩ | ⟨rfl, hv, rfl⟩ | ⟨rfl, hv, h60, rfl⟩
  · rcases hM with ⟨hv', -⟩ | ⟨-, h60, -⟩ | ⟨a', b', ha', hb', hx', hy', hg', rfl, rfl⟩
    · rw [rk_vt ha hb] at hv'
      cases hv'
    · omega
    · have e1 := rk_nIi ha ha' hx'
      have e2 := rk_nIi hb hb' hy'
      subst e1
      subst e2
      exact ⟨rfl, fun _ => (show vp_updL fo 0 (nI (g + 1)).toInt64 0 = (nI (g + 1)).toInt64 from pk_uLs), _, rk_I_push hI (by omega) hg _⟩
  · rcases hM with ⟨hv', rfl, rfl⟩ | ⟨hv', -⟩ | ⟨a', b', ha', hb', rfl, rfl, -⟩
    · exact ⟨rfl, fun z => absurd z (by decide), pp, hI⟩
    · rw [hv] at hv'
      cases hv'
    · rw [rk_vt ha' hb'] at hv
      cases hv
  · rcases hM with ⟨hv', -⟩ | ⟨-, -, rfl, rfl⟩ | ⟨a', b', ha', hb', -, -, hg', -⟩
    · rw [hv] at hv'
      cases hv'
    · exact ⟨rfl, fun z => absurd z (by decide), pp, hI⟩
    · omega
theorem rk_conf (hI : rk_I g g pp t gs ge tm pl by_ r1 r2 r4 r5 h k) : rk_any (fun i => decide (t (pp i) + gs (pp i) < 0)) g = true ↔ ∃ p, p < 1024 ∧ tm p + rk_s pp by_ g p < 0 := by
  obtain ⟨-, -, h1, -, h3, h4, h5, -⟩ := hI
  rw [rk_any_iff]
  constructor
  · rintro ⟨i, hi, hd⟩
    have hp := (h1 i hi).2
    refine ⟨pp i, hp, ?_⟩
    rw [h5 _ hp, ← h3 _ hp]
    exact of_decide_eq_true hd
  · rintro ⟨p, hp, hlt⟩
    rw [h5 p hp, ← h3 p hp] at hlt
    cases c : rk_in pp g p
    · rw [h3 p hp, rk_s_0 c, Int32.add_zero] at hlt
      exact absurd hlt (h4 p hp)
    · obtain ⟨j, hj, rfl⟩ := rk_in_iff.mp c
      exact ⟨j, hj, decide_eq_true hlt⟩
theorem rk_came_and (a b : Bool) : (a && !b) = ((a != b) && (a == true)) := by cases a <;> cases b <;> rfl
theorem rk_went_and (a b : Bool) : (b && !a) = ((a != b) && (a == false)) := by cases a <;> cases b <;> rfl
theorem rk_ap_eq (hI : rk_I g g pp t gs ge tm pl by_ r1 r2 r4 r5 h k) {r3 : Nat → Int32} {fo : Nat → Int64} {r r' : Int32} {u : ((Nat → Int32) × (Nat → Int32) × (Nat → Int32) × (Nat → Int32) × (Nat → Int32) × (Nat → Int32) × (Nat → Int32)) × (Nat → Int64) × Nat} {u' : Int32 × Nat × (Nat → Int32) × (Nat → Int32) × (Nat → Bool) × (Nat → Bool)}
    (hL : (r = nI 0 ∧ ∃ res, rk_apK pp t gs g h res u.1 ∧ u.2.1 = vp_updL fo 0 res.toInt64 ∧ u.2.2 = 0) ∨ (r = nI 1 ∧ rk_any (fun i => decide (t (pp i) + gs (pp i) < 0)) g = true ∧ u = ((t, gs, r1, r2, r3, r4, r5), fo, g)))
    (hM : rk_apM g tm pp by_ h k r' u') : u'.1 = r ∧ (r = 0 → u.2.1 0 = r'.toInt64) ∧ rk_I u.2.2 u'.2.1 pp u.1.1 u.1.2.1 ge u'.2.2.1 pl by_ u.1.2.2.1 u.1.2.2.2.1 u.1.2.2.2.2.2.1 u.1.2.2.2.2.2.2 u'.2.2.2.2.1 u'.2.2.2.2.2 := by
  have hcf := rk_conf hI
  have hI' := hI
  obtain ⟨-, hg, h1, h2, h3, h4, h5, R1, R2, R4, R5, hcl⟩ := hI
  rcases hL with ⟨rfl, res, ⟨k0, k1, k2, k3, k4, k5, k6, k7⟩, e1, e2⟩ | ⟨rfl, hc, rfl⟩
  · rcases hM with ⟨hx, -⟩ | ⟨m0, m1, m2, m3, m4, m5, m6⟩
    · rw [hcf.mpr hx] at k0
      cases k0
    · have ht : ∀ p, p < 1024 → u.1.1 p = t p + rk_s pp by_ g p := fun p hp => by
        rw [k1 p hp]
        cases c : rk_in pp g p
        · rw [if_neg (by decide), rk_s_0 c, Int32.add_zero]
        · rw [if_pos rfl, h3 p hp]
      have hmt : ∀ p, p < 1024 → u'.2.2.1 p = u.1.1 p := fun p hp => by rw [m3 p hp, ht p hp, h5 p hp]
      have hjv : ∀ p, p < 1024 → rk_jv 32 (fun p => decide (0 < u.1.1 p)) p = u'.2.2.2.2.1 p := fun p hp => by
        rw [m4 p hp]
        exact rk_jv_congr (fun q hq => by show decide (0 < u.1.1 q) = decide (0 < u'.2.2.1 q); rw [hmt q hq]) p hp
      have R4' : rk_R u.1.2.2.2.2.2.1 (rk_came u'.2.2.2.2.1 u'.2.2.2.2.2 true) := k5.to (fun p hp => by
        show (rk_jv 32 (fun p => decide (0 < u.1.1 p)) p && !h p) = _
        rw [hjv p hp, ← m5 p hp]
        exact rk_came_and _ _)
      have R5' : rk_R u.1.2.2.2.2.2.2 (rk_came u'.2.2.2.2.1 u'.2.2.2.2.2 false) := k6.to (fun p hp => by
        show (h p && !rk_jv 32 (fun p => decide (0 < u.1.1 p)) p) = _
        rw [hjv p hp, ← m5 p hp]
        exact rk_went_and _ _)
      refine ⟨m1, fun _ => ?_, by rw [e2, m2], by rw [e2]; omega, fun i hi => by rw [e2] at hi; omega, fun i hi => by rw [e2] at hi; omega, fun p hp => ?_, fun p hp => ?_, hmt, k3, k4.to hjv, R4', R5', m4⟩
      · rw [e1, pk_uLs, k7, m6, rk_sz_eq R4' (Nat.le_refl _), rk_sz_eq R5' (Nat.le_refl _), nI_add]
      · rw [e2]
        show _ = 0
        exact rk_gs0 hI' (u := u.1.2.1) (fun q hq => by rw [k2 q hq]; cases rk_in pp g q <;> rfl) p hp
      · rw [ht p hp, ← h5 p hp]
        exact m0 p hp
  · rcases hM with ⟨-, m1, m2, m3, m4, m5⟩ | ⟨m0, -⟩
    · refine ⟨m1, fun z => absurd z (by decide), ?_⟩
      rw [m2, m3, m4, m5]
      exact hI'
    · obtain ⟨p, hp, hlt⟩ := hcf.mp hc
      exact absurd hlt (m0 p hp)
theorem rk_ho_eq {fo u : Nat → Int64} {x y r r' u' : Int32} (hL : (r = nI 0 ∧ ∃ a b, a < 32 ∧ b < 32 ∧ x = nI a ∧ y = nI b ∧ u = vp_updL fo 0 (zL (h (32 * a + b)))) ∨ (r = nI 1 ∧ (rk_v x && rk_v y) = false ∧ u = fo)) (hM : rk_hoM h x y r' u') :
    u' = r ∧ ∃ z : Bool, r' = zI z ∧ (r = 0 → u 0 = zL z) := by
  rcases hL with ⟨rfl, a, b, ha, hb, rfl, rfl, rfl⟩ | ⟨rfl, hv, rfl⟩
  · rcases hM with ⟨hv', -⟩ | ⟨a', b', ha', hb', hx', hy', rfl, rfl⟩
    · rw [rk_vt ha hb] at hv'
      cases hv'
    · have e1 := rk_nIi ha ha' hx'
      have e2 := rk_nIi hb hb' hy'
      subst e1
      subst e2
      exact ⟨rfl, _, rfl, fun _ => pk_uLs⟩
  · rcases hM with ⟨-, rfl, rfl⟩ | ⟨a', b', ha', hb', rfl, rfl, -⟩
    · exact ⟨rfl, false, rfl, fun z => absurd z (by decide)⟩
    · rw [rk_vt ha' hb'] at hv
      cases hv
theorem rk_ot_eq {f : Nat → Bool} {fo u : Nat → Int64} {x r r' u' : Int32} (hL : (r = nI 0 ∧ ∃ p, p < 1024 ∧ f p = true ∧ x = nI (rk_c f p) ∧ u = vp_updL fo 0 (nI p).toInt64) ∨ (r = nI 1 ∧ (∀ p, p < 1024 → f p = true → x ≠ nI (rk_c f p)) ∧ u = fo)) (hM : rk_otM f x r' u') :
    u' = r ∧ (r = 0 → u 0 = r'.toInt64) := by
  rcases hL with ⟨rfl, p, hp, hf, hx, rfl⟩ | ⟨rfl, hv, rfl⟩
  · rcases hM with ⟨p', hp', hf', hx', rfl, rfl⟩ | ⟨hv', -⟩
    · have l1 := rk_c_le f p
      have l2 := rk_c_le f p'
      have e := rk_c_inj hf hf' ((nI_eq (by omega) (by omega)).mp (hx.symm.trans hx'))
      subst e
      exact ⟨rfl, fun _ => pk_uLs⟩
    · exact absurd hx (hv' p hp hf)
  · rcases hM with ⟨p', hp', hf', hx', -⟩ | ⟨-, rfl⟩
    · exact absurd hx' (hv p' hp' hf')
    · exact ⟨rfl, fun z => absurd z (by decide)⟩
theorem rk_di_eq (hI : rk_I g g pp t gs ge tm pl by_ r1 r2 r4 r5 h k) {fo u : Nat → Int64} {x y r r' : Int32} {u' : Int32 × (Nat → Int32)}
    (hL : (r = nI 0 ∧ ∃ a b k, a < 32 ∧ b < 32 ∧ x = nI a ∧ y = nI b ∧ k < 32 ∧ rk_w (fun p => decide (0 < t p)) a k b = true ∧ (∀ j, j < k → rk_w (fun p => decide (0 < t p)) a j b = false) ∧ u = vp_updL fo 0 (nI (k + 1)).toInt64) ∨ (r = nI 1 ∧ (rk_v x && rk_v y) = false ∧ u = fo) ∨ (r = nI 2 ∧ (∃ a b, a < 32 ∧ b < 32 ∧ x = nI a ∧ y = nI b ∧ ∀ k, k < 32 → rk_w (fun p => decide (0 < t p)) a k b = false) ∧ u = fo))
    (hM : rk_diM tm h x y r' u') : u'.1 = r ∧ (r = 0 → u 0 = r'.toInt64) := by
  obtain ⟨-, -, -, -, -, -, h5, -, -, -, -, hcl⟩ := hI
  have hw : ∀ a, a < 32 → ∀ j b, b < 32 → rk_w (fun p => decide (0 < tm p)) a j b = rk_w (fun p => decide (0 < t p)) a j b := fun a ha j b hb => rk_w_congr (fun p hp => by show decide (0 < tm p) = decide (0 < t p); rw [h5 p hp]) ha j b hb
  rcases hL with ⟨rfl, a, b, n, ha, hb, rfl, rfl, hn, w1, w2, rfl⟩ | ⟨rfl, hv, rfl⟩ | ⟨rfl, ⟨a, b, ha, hb, rfl, rfl, hno⟩, rfl⟩
  · rcases hM with ⟨hv', -⟩ | ⟨a', b', ha', hb', hx', hy', hh, -⟩ | ⟨a', b', n', ha', hb', hx', hy', hn', w1', w2', rfl, e⟩
    · rw [rk_vt ha hb] at hv'
      cases hv'
    · have e1 := rk_nIi ha ha' hx'
      have e2 := rk_nIi hb hb' hy'
      subst e1
      subst e2
      rw [hcl _ (by omega), (rk_reach ha hb).mpr ⟨n, by rw [hw a ha n b hb]; exact w1⟩] at hh
      cases hh
    · have e1 := rk_nIi ha ha' hx'
      have e2 := rk_nIi hb hb' hy'
      subst e1
      subst e2
      have en : n = n' := by
        rcases Nat.lt_trichotomy n n' with c | c | c
        · have := w2' n c
          rw [hw a ha n b hb, w1] at this
          cases this
        · exact c
        · have := w2 n' c
          rw [← hw a ha n' b hb, w1'] at this
          cases this
      subst en
      exact ⟨e, fun _ => pk_uLs⟩
  · rcases hM with ⟨-, e⟩ | ⟨a', b', ha', hb', rfl, rfl, -⟩ | ⟨a', b', n', ha', hb', rfl, rfl, -⟩
    · exact ⟨e, fun z => absurd z (by decide)⟩
    · rw [rk_vt ha' hb'] at hv
      cases hv
    · rw [rk_vt ha' hb'] at hv
      cases hv
  · rcases hM with ⟨hv', -⟩ | ⟨a', b', ha', hb', hx', hy', hh, e⟩ | ⟨a', b', n', ha', hb', hx', hy', hn', w1', w2', rfl, e⟩
    · rw [rk_vt ha hb] at hv'
      cases hv'
    · exact ⟨e, fun z => absurd z (by decide)⟩
    · have e1 := rk_nIi ha ha' hx'
      have e2 := rk_nIi hb hb' hy'
      subst e1
      subst e2
      have := hno n' hn'
      rw [← hw a ha n' b hb, w1'] at this
      cases this
theorem rk_ti_eq (htm : ∀ p, p < 1024 → tm p = t p) {fo u : Nat → Int64} {x y r r' u' : Int32} (hL : (r = nI 0 ∧ ∃ a b, a < 32 ∧ b < 32 ∧ x = nI a ∧ y = nI b ∧ u = vp_updL fo 0 (t (32 * a + b)).toInt64) ∨ (r = nI 1 ∧ (rk_v x && rk_v y) = false ∧ u = fo)) (hM : rk_tiM tm x y r' u') :
    u' = r ∧ (r = 0 → u 0 = r'.toInt64) := by
  rcases hL with ⟨rfl, a, b, ha, hb, rfl, rfl, rfl⟩ | ⟨rfl, hv, rfl⟩
  · rcases hM with ⟨hv', -⟩ | ⟨a', b', ha', hb', hx', hy', rfl, rfl⟩
    · rw [rk_vt ha hb] at hv'
      cases hv'
    · have e1 := rk_nIi ha ha' hx'
      have e2 := rk_nIi hb hb' hy'
      subst e1
      subst e2
      exact ⟨rfl, fun _ => by rw [pk_uLs, htm _ (by omega)]⟩
  · rcases hM with ⟨-, rfl⟩ | ⟨a', b', ha', hb', rfl, rfl, -⟩
    · exact ⟨rfl, fun z => absurd z (by decide)⟩
    · rw [rk_vt ha' hb'] at hv
      cases hv
theorem coN_0 (t : Nat → Int32) (h k : Nat → Bool) (g : Nat) : rk_coN t h k g 0 = nI (rk_c (fun p => decide (0 < t p)) 1024) := rfl
theorem coN_1 (t : Nat → Int32) (h k : Nat → Bool) (g : Nat) : rk_coN t h k g 1 = rk_t t 1024 := rfl
theorem coN_2 (t : Nat → Int32) (h k : Nat → Bool) (g : Nat) : rk_coN t h k g 2 = nI (rk_c h 1024) := rfl
theorem coN_3 (t : Nat → Int32) (h k : Nat → Bool) (g : Nat) : rk_coN t h k g 3 = nI g := rfl
theorem coN_4 (t : Nat → Int32) (h k : Nat → Bool) (g : Nat) : rk_coN t h k g 4 = nI (rk_c (rk_came h k true) 1024) := rfl
theorem coN_5 (t : Nat → Int32) (h k : Nat → Bool) (g : Nat) : rk_coN t h k g 5 = nI (rk_c (rk_came h k false) 1024) := rfl
theorem coN_6 (t : Nat → Int32) (h k : Nat → Bool) (g : Nat) : rk_coN t h k g 6 = nI (rk_c (fun a => h (32 * a + a)) 32) := rfl
theorem coN_7 (t : Nat → Int32) (h k : Nat → Bool) (g : Nat) : rk_coN t h k g 7 = nI (rk_c (fun a => h (32 * a + a) && !rk_any (fun b => h (32 * a + b) && h (32 * b + a)) a) 32) := rfl
theorem coN_8 (t : Nat → Int32) (h k : Nat → Bool) (g : Nat) (n : Nat) : rk_coN t h k g (n + 8) = -1 := rfl
theorem rk_coN_eq (htm : ∀ p, p < 1024 → tm p = t p) : ∀ n, rk_coN t h k g n = rk_coN tm h k g n
  | 0 => (coN_0 t h k g).trans ((congrArg nI (rk_c_congr (f := fun p => decide (0 < t p)) (g := fun p => decide (0 < tm p)) (fun j hj => by show decide (0 < t j) = decide (0 < tm j); rw [htm j hj]))).trans (coN_0 tm h k g).symm)
  | 1 => (coN_1 t h k g).trans ((rk_t_congr (fun j hj => (htm j hj).symm)).trans (coN_1 tm h k g).symm)
  | 2 => (coN_2 t h k g).trans (coN_2 tm h k g).symm
  | 3 => (coN_3 t h k g).trans (coN_3 tm h k g).symm
  | 4 => (coN_4 t h k g).trans (coN_4 tm h k g).symm
  | 5 => (coN_5 t h k g).trans (coN_5 tm h k g).symm
  | 6 => (coN_6 t h k g).trans (coN_6 tm h k g).symm
  | 7 => (coN_7 t h k g).trans (coN_7 tm h k g).symm
  | n + 8 => (coN_8 t h k g n).trans (coN_8 tm h k g n).symm
theorem rk_co_eq (htm : ∀ p, p < 1024 → tm p = t p) (x : Int32) : rk_coF t h k g x = rk_coF tm h k g x := by
  unfold rk_coF
  rw [rk_coN_eq htm]
end LM
theorem rk_lgt {L i : Nat} (hL : L < 2 ^ 30) (hi : i < 2 ^ 30) : nI L - nI 4 < nI i ↔ L < i + 4 := by
  rw [Int32.lt_iff_toInt_lt, pk_sub_toInt hL (by decide), nI_toInt (by omega)]
  omega
theorem rk_lcmp (x : Int64) : lg_cmp x x = 0 := by simp [lg_cmp]
