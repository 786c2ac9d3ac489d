def rk_apK (pp : Nat → Nat) (t gs : Nat → Int32) (g : Nat) (f0 : Nat → Bool) (r : Int32) (u : (Nat → Int32) × (Nat → Int32) × (Nat → Int32) × (Nat → Int32) × (Nat → Int32) × (Nat → Int32) × (Nat → Int32)) : Prop :=
  rk_any (fun i => decide (t (pp i) + gs (pp i) < 0)) g = false ∧ (∀ p, p < 1024 → u.1 p = if rk_in pp g p = true then t p + gs p else t p) ∧ (∀ p, p < 1024 → u.2.1 p = if rk_in pp g p = true then 0 else if rk_in pp g p = true then 0 else gs p) ∧
  rk_R u.2.2.1 (fun p => decide (0 < u.1 p)) ∧ rk_R u.2.2.2.1 (rk_jv 32 (fun p => decide (0 < u.1 p))) ∧ rk_R u.2.2.2.2.2.1 (fun p => rk_jv 32 (fun p => decide (0 < u.1 p)) p && !f0 p) ∧ rk_R u.2.2.2.2.2.2 (fun p => f0 p && !rk_jv 32 (fun p => decide (0 < u.1 p)) p) ∧
  r = nI (rk_sz u.2.2.2.2.2.1 32 + rk_sz u.2.2.2.2.2.2 32)
