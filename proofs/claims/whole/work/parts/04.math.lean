/-! ===== Int32 by its bits: bt x i ===== -/
def bt (x : Int32) (i : Nat) : Bool := x.toBitVec.getLsbD i
theorem b_ext {x y : Int32} (h : ∀ i, i < 32 → bt x i = bt y i) : x = y := Int32.toBitVec_inj.mp (BitVec.eq_of_getLsbD_eq (fun i hi => h i hi))
theorem b_or (x y : Int32) (i : Nat) : bt (x ||| y) i = (bt x i || bt y i) := by unfold bt; rw [Int32.toBitVec_or, BitVec.getLsbD_or]
theorem b_and (x y : Int32) (i : Nat) : bt (x &&& y) i = (bt x i && bt y i) := by unfold bt; rw [Int32.toBitVec_and, BitVec.getLsbD_and]
theorem b_xor (x y : Int32) (i : Nat) : bt (x ^^^ y) i = (bt x i ^^ bt y i) := by unfold bt; rw [Int32.toBitVec_xor, BitVec.getLsbD_xor]
theorem b_big {x : Int32} {i : Nat} (h : 32 ≤ i) : bt x i = false := BitVec.getLsbD_of_ge _ _ h
theorem b_255 (i : Nat) : bt 255 i = decide (i < 8) := by
  rcases Nat.lt_or_ge i 32 with h | h
  · exact (by decide +kernel : ∀ i, i < 32 → bt 255 i = decide (i < 8)) i h
  · rw [b_big h, decide_eq_false (by omega)]
theorem b_65535 (i : Nat) : bt 65535 i = decide (i < 16) := by
  rcases Nat.lt_or_ge i 32 with h | h
  · exact (by decide +kernel : ∀ i, i < 32 → bt 65535 i = decide (i < 16)) i h
  · rw [b_big h, decide_eq_false (by omega)]
theorem b_m1 : ∀ i, i < 32 → bt (-1) i = true := by decide +kernel
theorem b_0 (i : Nat) : bt 0 i = false := BitVec.getLsbD_zero
theorem s_l : ∀ n, n < 32 → ((nI n &&& 31).toBitVec.smod 32).toNat = n := by decide +kernel
theorem s_u : ∀ n, n < 32 → (((nI n).toUInt32 &&& Int32.toUInt32 31).toBitVec % 32).toNat = n := by decide +kernel
theorem b_shl (n : Nat) (hn : n < 32) (x : Int32) {i : Nat} (hi : i < 32) : bt (x <<< (nI n &&& 31)) i = (decide (n ≤ i) && bt x (i - n)) := by
  unfold bt
  rw [Int32.toBitVec_shiftLeft]
  show (x.toBitVec <<< ((nI n &&& 31).toBitVec.smod 32).toNat).getLsbD i = _
  rw [s_l n hn, BitVec.getLsbD_shiftLeft]
  rcases Nat.lt_or_ge i n with h | h
  · simp [h, Nat.not_le.mpr h]
  · simp [hi, h, Nat.not_lt.mpr h]
theorem b_ushr (n : Nat) (hn : n < 32) (x : Int32) (i : Nat) : bt ((x.toUInt32 >>> ((nI n).toUInt32 &&& Int32.toUInt32 31)).toInt32) i = bt x (n + i) := by
  show (x.toUInt32 >>> ((nI n).toUInt32 &&& Int32.toUInt32 31)).toBitVec.getLsbD i = x.toUInt32.toBitVec.getLsbD (n + i)
  rw [UInt32.toBitVec_shiftRight]
  show (x.toUInt32.toBitVec >>> (((nI n).toUInt32 &&& Int32.toUInt32 31).toBitVec % 32).toNat).getLsbD i = _
  rw [s_u n hn, BitVec.getLsbD_ushiftRight]
theorem b_sshr (n : Nat) (hn : n < 32) (x : Int32) {i : Nat} (hi : i < 32) : bt (x >>> (nI n &&& 31)) i = if n + i < 32 then bt x (n + i) else bt x 31 := by
  unfold bt
  rw [Int32.toBitVec_shiftRight]
  show (x.toBitVec.sshiftRight ((nI n &&& 31).toBitVec.smod 32).toNat).getLsbD i = _
  rw [s_l n hn, BitVec.getLsbD_sshiftRight, BitVec.msb_eq_getLsbD_last]
  simp [hi]
theorem b_shl8 (x : Int32) {i : Nat} (hi : i < 32) : bt (x <<< ((8 : Int32) &&& 31)) i = (decide (8 ≤ i) && bt x (i - 8)) := b_shl 8 (by omega) x hi
theorem b_shl16 (x : Int32) {i : Nat} (hi : i < 32) : bt (x <<< ((16 : Int32) &&& 31)) i = (decide (16 ≤ i) && bt x (i - 16)) := b_shl 16 (by omega) x hi
theorem b_shl24 (x : Int32) {i : Nat} (hi : i < 32) : bt (x <<< ((24 : Int32) &&& 31)) i = (decide (24 ≤ i) && bt x (i - 24)) := b_shl 24 (by omega) x hi
theorem b_sshr8 (x : Int32) {i : Nat} (hi : i < 32) : bt (x >>> ((8 : Int32) &&& 31)) i = if 8 + i < 32 then bt x (8 + i) else bt x 31 := b_sshr 8 (by omega) x hi
/-! ===== nI under and, xor, >>>, one bit, 65535 ===== -/
theorem nx_and (a b : Nat) : nI a &&& nI b = nI (a &&& b) := by
  apply Int32.toBitVec_inj.1
  show BitVec.ofNat 32 a &&& BitVec.ofNat 32 b = BitVec.ofNat 32 (a &&& b)
  apply BitVec.eq_of_getLsbD_eq
  intro i hi
  simp [hi]
/-! pure rows: counts, bit rows, Warshall's way, ways by steps, sums of changes -/
def zI (b : Bool) : Int32 := if b then 1 else 0
theorem zI_0 {b : Bool} : zI b = 0 ↔ b = false := by cases b <;> decide
theorem zI_n {b : Bool} : ¬ zI b = 0 ↔ b = true := by cases b <;> decide
theorem zI_t : zI true = 1 := rfl
theorem zI_f : zI false = 0 := rfl
theorem zI_inj {a b : Bool} : zI a = zI b ↔ a = b := by cases a <;> cases b <;> decide
/-- how many below n -/
def rk_c (f : Nat → Bool) : Nat → Nat
  | 0 => 0
  | n + 1 => rk_c f n + (f n).toNat
theorem rk_c_s (f : Nat → Bool) (n : Nat) : rk_c f (n + 1) = rk_c f n + (f n).toNat := rfl
theorem rk_c_t {f : Nat → Bool} {n : Nat} (h : f n = true) : rk_c f (n + 1) = rk_c f n + 1 := by rw [rk_c_s, h]; rfl
theorem rk_c_f {f : Nat → Bool} {n : Nat} (h : f n = false) : rk_c f (n + 1) = rk_c f n := by rw [rk_c_s, h]; rfl
theorem rk_c_le (f : Nat → Bool) (n : Nat) : rk_c f n ≤ n := by
  induction n with
  | zero => exact Nat.le_refl _
  | succ n ih =>
    have h : (f n).toNat ≤ 1 := Bool.toNat_le _
    rw [rk_c_s]
    omega
theorem rk_c_congr {f g : Nat → Bool} {n : Nat} (h : ∀ j, j < n → f j = g j) : rk_c f n = rk_c g n := by
  induction n with
  | zero => rfl
  | succ n ih => rw [rk_c_s, rk_c_s, ih (fun j hj => h j (by omega)), h n (by omega)]
theorem rk_c_add (f : Nat → Bool) (a b : Nat) : rk_c f (a + b) = rk_c f a + rk_c (fun j => f (a + j)) b := by
  induction b with
  | zero => rfl
  | succ b ih =>
    rw [← Nat.add_assoc, rk_c_s, rk_c_s, ih]
    omega
theorem rk_c_mono (f : Nat → Bool) {m n : Nat} (h : m ≤ n) : rk_c f m ≤ rk_c f n := by
  obtain ⟨k, rfl⟩ := Nat.exists_eq_add_of_le h
  rw [rk_c_add]
  omega
theorem rk_c_lt {f : Nat → Bool} {p n : Nat} (hf : f p = true) (h : p < n) : rk_c f p < rk_c f n := by
  have h1 := rk_c_t hf
  have h2 := rk_c_mono f (show p + 1 ≤ n from h)
  omega
theorem rk_c_inj {f : Nat → Bool} {p q : Nat} (hp : f p = true) (hq : f q = true) (h : rk_c f p = rk_c f q) : p = q := by
  rcases Nat.lt_trichotomy p q with c | c | c
  · have := rk_c_lt hp c
    omega
  · exact c
  · have := rk_c_lt hq c
    omega
theorem rk_c_sub {f g : Nat → Bool} {n : Nat} (h : ∀ j, j < n → f j = true → g j = true) : rk_c f n ≤ rk_c g n := by
  induction n with
  | zero => exact Nat.le_refl _
  | succ n ih =>
    have h1 := ih (fun j hj => h j (by omega))
    have h2 := h n (by omega)
    rw [rk_c_s, rk_c_s]
    cases hf : f n
    · have : (false).toNat = 0 := rfl
      omega
    · rw [h2 hf]
      omega
theorem rk_c_same {f g : Nat → Bool} {n : Nat} (h : ∀ j, j < n → f j = true → g j = true) (hc : rk_c f n = rk_c g n) : ∀ j, j < n → g j = f j := by
  induction n with
  | zero => intro j hj; omega
  | succ n ih =>
    have h1 : rk_c f n ≤ rk_c g n := rk_c_sub (fun j hj => h j (by omega))
    have h2 := h n (by omega)
    rw [rk_c_s, rk_c_s] at hc
    have e0 : (false).toNat = 0 := rfl
    have e1 : (true).toNat = 1 := rfl
    have h3 : g n = f n := by
      cases hf : f n
      · cases hg : g n
        · rfl
        · rw [hf, hg] at hc
          omega
      · exact h2 hf
    rw [h3] at hc
    intro j hj
    rcases Nat.lt_or_ge j n with c | c
    · exact ih (fun j hj => h j (by omega)) (by omega) j c
    · rw [show j = n by omega]
      exact h3
theorem rk_c_0 {f : Nat → Bool} {n : Nat} (h : rk_c f n = 0) : ∀ j, j < n → f j = false := by
  intro j hj
  cases hf : f j
  · rfl
  · have := rk_c_lt hf hj
    omega
/-- is there one below n -/
def rk_any (f : Nat → Bool) : Nat → Bool
  | 0 => false
  | n + 1 => rk_any f n || f n
theorem rk_any_s (f : Nat → Bool) (n : Nat) : rk_any f (n + 1) = (rk_any f n || f n) := rfl
theorem rk_any_iff {f : Nat → Bool} {n : Nat} : rk_any f n = true ↔ ∃ j, j < n ∧ f j = true := by
  induction n with
  | zero => exact ⟨fun h => (by cases h), fun ⟨j, hj, _⟩ => (by omega)⟩
  | succ n ih =>
    rw [rk_any_s, Bool.or_eq_true, ih]
    constructor
    · rintro (⟨j, hj, hf⟩ | h)
      · exact ⟨j, by omega, hf⟩
      · exact ⟨n, by omega, h⟩
    · rintro ⟨j, hj, hf⟩
      rcases Nat.lt_or_ge j n with c | c
      · exact Or.inl ⟨j, c, hf⟩
      · rw [show j = n by omega] at hf
        exact Or.inr hf
theorem rk_any_no {f : Nat → Bool} {n : Nat} : rk_any f n = false ↔ ∀ j, j < n → f j = false := by
  constructor
  · intro h j hj
    cases hf : f j
    · rfl
    · rw [rk_any_iff.mpr ⟨j, hj, hf⟩] at h
      cases h
  · intro h
    cases hf : rk_any f n
    · rfl
    · obtain ⟨j, hj, h1⟩ := rk_any_iff.mp hf
      rw [h j hj] at h1
      cases h1
theorem rk_any_congr {f g : Nat → Bool} {n : Nat} (h : ∀ j, j < n → f j = g j) : rk_any f n = rk_any g n := by
  induction n with
  | zero => rfl
  | succ n ih => rw [rk_any_s, rk_any_s, ih (fun j hj => h j (by omega)), h n (by omega)]
/-- the rows r hold the pairs h -/
def rk_R (r : Nat → Int32) (h : Nat → Bool) : Prop := ∀ a, a < 32 → ∀ b, b < 32 → bt (r a) b = h (32 * a + b)
theorem rk_R.to {r : Nat → Int32} {h g : Nat → Bool} (H : rk_R r h) (e : ∀ p, p < 1024 → h p = g p) : rk_R r g := fun a ha b hb => by rw [H a ha b hb, e _ (by omega)]
def rk_sz (r : Nat → Int32) : Nat → Nat
  | 0 => 0
  | a + 1 => rk_sz r a + rk_c (bt (r a)) 32
theorem rk_sz_s (r : Nat → Int32) (a : Nat) : rk_sz r (a + 1) = rk_sz r a + rk_c (bt (r a)) 32 := rfl
theorem rk_sz_le (r : Nat → Int32) (n : Nat) : rk_sz r n ≤ 32 * n := by
  induction n with
  | zero => exact Nat.le_refl _
  | succ n ih =>
    have := rk_c_le (bt (r n)) 32
    rw [rk_sz_s]
    omega
theorem rk_sz_eq {r : Nat → Int32} {h : Nat → Bool} (H : rk_R r h) {n : Nat} (hn : n ≤ 32) : rk_sz r n = rk_c h (32 * n) := by
  induction n with
  | zero => rfl
  | succ n ih => rw [rk_sz_s, ih (by omega), show 32 * (n + 1) = 32 * n + 32 by omega, rk_c_add, rk_c_congr (fun j hj => H n (by omega) j hj)]
/-- the pair at place i, or none -/
def rk_nth (h : Nat → Bool) (i res : Int32) : Prop := (∃ p, p < 1024 ∧ h p = true ∧ i = nI (rk_c h p) ∧ res = nI p) ∨ ((∀ p, p < 1024 → h p = true → i ≠ nI (rk_c h p)) ∧ res = -1)
theorem rk_nI_ne (p : Nat) (hp : p < 2 ^ 31) : nI p ≠ -1 := by
  intro h
  have h1 := nI_toInt hp
  rw [h] at h1
  have h2 : (-1 : Int32).toInt = -1 := by decide
  omega
/-! Warshall's way -/
def rk_j (v a : Nat) (h : Nat → Bool) : Nat → Bool := fun p => if p / 32 = a ∧ h (32 * a + v) = true then h p || h (32 * v + p % 32) else h p
def rk_ja (v : Nat) : Nat → (Nat → Bool) → Nat → Bool
  | 0, h => h
  | n + 1, h => rk_j v n (rk_ja v n h)
def rk_jv : Nat → (Nat → Bool) → Nat → Bool
  | 0, h => h
  | v + 1, h => rk_ja v 32 (rk_jv v h)
theorem rk_j_at {v a : Nat} {h : Nat → Bool} {x y : Nat} (hy : y < 32) : rk_j v a h (32 * x + y) = if x = a ∧ h (32 * a + v) = true then h (32 * x + y) || h (32 * v + y) else h (32 * x + y) := by
  unfold rk_j
  rw [show (32 * x + y) / 32 = x by omega, show (32 * x + y) % 32 = y by omega]
theorem rk_ja_at {v : Nat} (hv : v < 32) (h : Nat → Bool) (n : Nat) {x y : Nat} (hy : y < 32) : rk_ja v n h (32 * x + y) = if x < n then h (32 * x + y) || (h (32 * x + v) && h (32 * v + y)) else h (32 * x + y) := by
  induction n generalizing x y with
  | zero => rfl
  | succ n ih =>
    show rk_j v n (rk_ja v n h) (32 * x + y) = _
    rw [rk_j_at hy, ih hy, ih hv, ih hy]
    have e1 : (if n < n then h (32 * n + v) || (h (32 * n + v) && h (32 * v + v)) else h (32 * n + v)) = h (32 * n + v) := if_neg (by omega)
    have e2 : (if v < n then h (32 * v + y) || (h (32 * v + v) && h (32 * v + y)) else h (32 * v + y)) = h (32 * v + y) := by
      split
      · cases h (32 * v + y) <;> simp
      · rfl
    rw [e1, e2]
    by_cases hx : x = n
    · subst hx
      rw [if_neg (show ¬ x < x by omega), if_pos (show x < x + 1 by omega)]
      cases h (32 * x + v) <;> simp
    · rw [if_neg (fun z => hx z.1)]
      by_cases hl : x < n
      · rw [if_pos hl, if_pos (by omega)]
      · rw [if_neg hl, if_neg (by omega)]
theorem rk_jv_at {h : Nat → Bool} {v x y : Nat} (hv : v < 32) (hx : x < 32) (hy : y < 32) : rk_jv (v + 1) h (32 * x + y) = (rk_jv v h (32 * x + y) || (rk_jv v h (32 * x + v) && rk_jv v h (32 * v + y))) := by
  show rk_ja v 32 (rk_jv v h) (32 * x + y) = _
  rw [rk_ja_at hv _ _ hy, if_pos hx]
theorem rk_j_R {r : Nat → Int32} {h : Nat → Bool} {v a : Nat} (H : rk_R r h) (hv : v < 32) (ha : a < 32) (hb : bt (r a) v = true) : rk_R (upd r a (r a ||| r v)) (rk_j v a h) := by
  intro x hx y hy
  rw [rk_j_at hy]
  rw [H a ha v hv] at hb
  by_cases e : x = a
  · subst e
    rw [pk_us, b_or, if_pos ⟨rfl, hb⟩, H x hx y hy, H v hv y hy]
  · rw [pk_un e, if_neg (fun z => e z.1), H x hx y hy]
theorem rk_j_N {r : Nat → Int32} {h : Nat → Bool} {v a : Nat} (H : rk_R r h) (hv : v < 32) (ha : a < 32) (hb : bt (r a) v = false) : rk_R r (rk_j v a h) := by
  intro x hx y hy
  rw [rk_j_at hy]
  rw [H a ha v hv] at hb
  rw [if_neg (fun z => by rw [hb] at z; cases z.2), H x hx y hy]
/-! ways by steps: from a to b by at most k + 1 edges -/
def rk_w (e : Nat → Bool) (a : Nat) : Nat → Nat → Bool
  | 0, b => e (32 * a + b)
  | k + 1, b => rk_w e a k b || rk_any (fun v => rk_w e a k v && e (32 * v + b)) 32
theorem rk_w_0 (e : Nat → Bool) (a b : Nat) : rk_w e a 0 b = e (32 * a + b) := rfl
theorem rk_w_s (e : Nat → Bool) (a k b : Nat) : rk_w e a (k + 1) b = (rk_w e a k b || rk_any (fun v => rk_w e a k v && e (32 * v + b)) 32) := rfl
theorem rk_w_up {e : Nat → Bool} {a k b : Nat} (h : rk_w e a k b = true) : rk_w e a (k + 1) b = true := by rw [rk_w_s, h]; rfl
theorem rk_w_mono {e : Nat → Bool} {a k j b : Nat} (hj : k ≤ j) (h : rk_w e a k b = true) : rk_w e a j b = true := by
  obtain ⟨i, rfl⟩ := Nat.exists_eq_add_of_le hj
  clear hj
  induction i with
  | zero => exact h
  | succ i ih => exact rk_w_up ih
theorem rk_w_step {e : Nat → Bool} {a k v b : Nat} (hv : v < 32) (h : rk_w e a k v = true) (he : e (32 * v + b) = true) : rk_w e a (k + 1) b = true := by
  rw [rk_w_s, rk_any_iff.mpr ⟨v, hv, by rw [h, he]; rfl⟩, Bool.or_true]
theorem rk_w_cut {e : Nat → Bool} {a k b : Nat} (h : rk_w e a (k + 1) b = true) : rk_w e a k b = true ∨ ∃ v, v < 32 ∧ rk_w e a k v = true ∧ e (32 * v + b) = true := by
  rw [rk_w_s, Bool.or_eq_true] at h
  rcases h with h | h
  · exact Or.inl h
  · obtain ⟨v, hv, h1⟩ := rk_any_iff.mp h
    rw [Bool.and_eq_true] at h1
    exact Or.inr ⟨v, hv, h1.1, h1.2⟩
theorem rk_w_trans {e : Nat → Bool} {a v : Nat} (hv : v < 32) (h : ∃ k, rk_w e a k v = true) (k : Nat) : ∀ b, rk_w e v k b = true → ∃ j, rk_w e a j b = true := by
  induction k with
  | zero =>
    intro b hb
    obtain ⟨k, hk⟩ := h
    exact ⟨k + 1, rk_w_step hv hk hb⟩
  | succ k ih =>
    intro b hb
    rcases rk_w_cut hb with h1 | ⟨u, hu, h1, h2⟩
    · exact ih b h1
    · obtain ⟨j, hj⟩ := ih u h1
      exact ⟨j + 1, rk_w_step hu hj h2⟩
/-- no way is lost that needs more than 32 edges -/
theorem rk_w_32 {e : Nat → Bool} {a b : Nat} (hb : b < 32) {K : Nat} (h : rk_w e a K b = true) : ∃ k, k < 32 ∧ rk_w e a k b = true ∧ ∀ j, j < k → rk_w e a j b = false := by
  obtain ⟨k, hk, hl⟩ := pk_least (fun k => rk_w e a k b = true) ⟨K, h⟩
  refine ⟨k, ?_, hk, fun j hj => by cases hf : rk_w e a j b; rfl; exact absurd hf (hl j hj)⟩
  rcases Nat.lt_or_ge k 32 with c | c
  · exact c
  · exfalso
    have stuck : ∀ i, i < k → ¬ ∀ x, x < 32 → rk_w e a (i + 1) x = rk_w e a i x := by
      intro i hi hs
      have hall : ∀ d x, x < 32 → rk_w e a (i + d) x = rk_w e a i x := by
        intro d
        induction d with
        | zero => intro x _; rfl
        | succ d ih =>
          intro x hx
          rw [← hs x hx, ← Nat.add_assoc, rk_w_s, rk_w_s, ih x hx]
          congr 1
          exact rk_any_congr (fun v hv => by rw [ih v hv])
      have h1 := hall (k - i) b hb
      rw [show i + (k - i) = k by omega, hk] at h1
      exact hl i hi h1.symm
    have grow : ∀ i, i ≤ k → i + 1 ≤ rk_c (rk_w e a i) 32 := by
      intro i
      induction i with
      | zero =>
        intro _
        rcases Nat.eq_zero_or_pos (rk_c (rk_w e a 0) 32) with z | z
        · exfalso
          have h0 := rk_c_0 z
          refine stuck 0 (by omega) (fun x hx => ?_)
          rw [rk_w_s, rk_any_no.mpr (fun v hv => by rw [h0 v hv]; rfl), Bool.or_false]
        · omega
      | succ i ih =>
        intro hi
        have h1 := ih (by omega)
        have h2 : rk_c (rk_w e a i) 32 ≤ rk_c (rk_w e a (i + 1)) 32 := rk_c_sub (fun j _ hj => rk_w_up hj)
        rcases Nat.eq_or_lt_of_le h2 with z | z
        · exact absurd (rk_c_same (fun j _ hj => rk_w_up hj) z) (stuck i (by omega))
        · omega
    have h1 := grow k (Nat.le_refl _)
    have h2 := rk_c_le (rk_w e a k) 32
    omega
theorem rk_sound {e : Nat → Bool} {v : Nat} : v ≤ 32 → ∀ x y, x < 32 → y < 32 → rk_jv v e (32 * x + y) = true → ∃ k, rk_w e x k y = true := by
  induction v with
  | zero => intro _ x y _ _ h; exact ⟨0, h⟩
  | succ v ih =>
    intro hv x y hx hy h
    rw [rk_jv_at (by omega) hx hy, Bool.or_eq_true, Bool.and_eq_true] at h
    rcases h with h | ⟨h1, h2⟩
    · exact ih (by omega) x y hx hy h
    · obtain ⟨k, hk⟩ := ih (by omega) v y (by omega) hy h2
      exact rk_w_trans (by omega) (ih (by omega) x v hx (by omega) h1) k y hk
theorem rk_jv_up {e : Nat → Bool} {v x y : Nat} (hv : v ≤ 32) (hx : x < 32) (hy : y < 32) (h : e (32 * x + y) = true) : rk_jv v e (32 * x + y) = true := by
  induction v with
  | zero => exact h
  | succ v ih => rw [rk_jv_at (by omega) hx hy, ih (by omega)]; rfl
theorem rk_closed {e : Nat → Bool} {v : Nat} : v ≤ 32 → ∀ u x y, u < v → x < 32 → y < 32 → rk_jv v e (32 * x + u) = true → rk_jv v e (32 * u + y) = true → rk_jv v e (32 * x + y) = true := by
  induction v with
  | zero => intro _ u x y hu; omega
  | succ v ih =>
    intro hv u x y hu hx hy h1 h2
    have hv' : v < 32 := by omega
    rw [rk_jv_at hv' hx (by omega), Bool.or_eq_true, Bool.and_eq_true] at h1
    rw [rk_jv_at hv' (by omega) hy, Bool.or_eq_true, Bool.and_eq_true] at h2
    rw [rk_jv_at hv' hx hy, Bool.or_eq_true, Bool.and_eq_true]
    by_cases e1 : u = v
    · subst e1
      have g1 : rk_jv u e (32 * x + u) = true := by rcases h1 with h | h; exact h; exact h.1
      have g2 : rk_jv u e (32 * u + y) = true := by rcases h2 with h | h; exact h; exact h.2
      exact Or.inr ⟨g1, g2⟩
    · have hu' : u < v := by omega
      have tr := ih (by omega) u
      rcases h1 with h1 | ⟨h1, h3⟩
      · rcases h2 with h2 | ⟨h2, h4⟩
        · exact Or.inl (tr x y hu' hx hy h1 h2)
        · exact Or.inr ⟨tr x v hu' hx hv' h1 h2, h4⟩
      · rcases h2 with h2 | ⟨h2, h4⟩
        · exact Or.inr ⟨h1, tr v y hu' hv' hy h3 h2⟩
        · exact Or.inr ⟨h1, h4⟩
theorem rk_reach {e : Nat → Bool} {a b : Nat} (ha : a < 32) (hb : b < 32) : rk_jv 32 e (32 * a + b) = true ↔ ∃ k, rk_w e a k b = true := by
  constructor
  · exact rk_sound (Nat.le_refl _) a b ha hb
  rintro ⟨k, hk⟩
  induction k generalizing b with
  | zero => exact rk_jv_up (Nat.le_refl _) ha hb hk
  | succ k ih =>
    rcases rk_w_cut hk with h | ⟨v, hv, h1, h2⟩
    · exact ih hb h
    · exact rk_closed (Nat.le_refl _) v a b hv ha hb (ih hv h1) (rk_jv_up (Nat.le_refl _) hv hb h2)
theorem rk_jv_none {e : Nat → Bool} (h : ∀ p, p < 1024 → e p = false) : ∀ p, p < 1024 → rk_jv 32 e p = false := by
  intro p hp
  cases hf : rk_jv 32 e p
  · rfl
  · exfalso
    have hp2 : p = 32 * (p / 32) + p % 32 := by omega
    rw [hp2] at hf
    obtain ⟨k, hk⟩ := (rk_reach (show p / 32 < 32 by omega) (show p % 32 < 32 by omega)).mp hf
    have : ∀ k b, b < 32 → rk_w e (p / 32) k b = false := by
      intro k
      induction k with
      | zero => intro b hb; exact h _ (by omega)
      | succ k ih => intro b hb; rw [rk_w_s, ih b hb, rk_any_no.mpr (fun v hv => by rw [ih v hv]; rfl)]; rfl
    rw [this k _ (by omega)] at hk
    cases hk
theorem rk_w_congr {e g : Nat → Bool} (h : ∀ p, p < 1024 → e p = g p) {a : Nat} (ha : a < 32) (k : Nat) : ∀ b, b < 32 → rk_w e a k b = rk_w g a k b := by
  induction k with
  | zero => intro b hb; exact h _ (by omega)
  | succ k ih => intro b hb; rw [rk_w_s, rk_w_s, ih b hb, rk_any_congr (fun v hv => by rw [ih v hv, h (32 * v + b) (by omega)])]
theorem rk_jv_congr {e g : Nat → Bool} (h : ∀ p, p < 1024 → e p = g p) : ∀ p, p < 1024 → rk_jv 32 e p = rk_jv 32 g p := by
  intro p hp
  have hp2 : p = 32 * (p / 32) + p % 32 := by omega
  have key : ∀ e' g' : Nat → Bool, (∀ p, p < 1024 → e' p = g' p) → rk_jv 32 e' p = true → rk_jv 32 g' p = true := by
    intro e' g' h' hf
    rw [hp2] at hf ⊢
    obtain ⟨k, hk⟩ := (rk_reach (show p / 32 < 32 by omega) (show p % 32 < 32 by omega)).mp hf
    exact (rk_reach (show p / 32 < 32 by omega) (show p % 32 < 32 by omega)).mpr ⟨k, by rw [← rk_w_congr h' (by omega) k _ (by omega)]; exact hk⟩
  cases h1 : rk_jv 32 e p
  · cases h2 : rk_jv 32 g p
    · rfl
    · rw [key g e (fun q hq => (h q hq).symm) h2] at h1
      cases h1
  · rw [key e g h h1]
/-- what distance answers: the least k, plus one; or none -/
def rk_dist (e : Nat → Bool) (a b : Nat) (res : Int32) : Prop := (∃ k, k < 32 ∧ rk_w e a k b = true ∧ (∀ j, j < k → rk_w e a j b = false) ∧ res = nI (k + 1)) ∨ ((∀ k, k < 32 → rk_w e a k b = false) ∧ res = -1)
/-! the reference's rounds: how far, by rounds up to k -/
def rk_d (e : Nat → Bool) (a : Nat) : Nat → Nat → Nat
  | 0, b => if e (32 * a + b) = true then 1 else 0
  | k + 1, b => if rk_d e a k b = 0 ∧ rk_w e a (k + 1) b = true then k + 2 else rk_d e a k b
theorem rk_d_s (e : Nat → Bool) (a k b : Nat) : rk_d e a (k + 1) b = if rk_d e a k b = 0 ∧ rk_w e a (k + 1) b = true then k + 2 else rk_d e a k b := rfl
theorem rk_d_0 {e : Nat → Bool} {a k b : Nat} : rk_d e a k b = 0 ↔ rk_w e a k b = false := by
  induction k with
  | zero =>
    show (if e (32 * a + b) = true then 1 else 0) = 0 ↔ e (32 * a + b) = false
    cases e (32 * a + b) <;> simp
  | succ k ih =>
    rw [rk_d_s]
    cases h : rk_w e a (k + 1) b
    · have h1 : rk_w e a k b = false := by
        cases h2 : rk_w e a k b
        · rfl
        · rw [rk_w_up h2] at h
          cases h
      simp [ih.mpr h1]
    · by_cases h1 : rk_d e a k b = 0
      · simp [h1]
      · simp [h1]
theorem rk_d_le (e : Nat → Bool) (a k b : Nat) : rk_d e a k b ≤ k + 1 := by
  induction k with
  | zero =>
    show (if e (32 * a + b) = true then 1 else 0) ≤ 1
    split <;> omega
  | succ k ih =>
    rw [rk_d_s]
    split <;> omega
theorem rk_d_new {e : Nat → Bool} {a k b : Nat} (h : rk_w e a k b = true) (hn : ∀ j, j < k → rk_w e a j b = false) : rk_d e a k b = k + 1 := by
  cases k with
  | zero =>
    show (if e (32 * a + b) = true then 1 else 0) = 1
    rw [if_pos (show e (32 * a + b) = true from h)]
  | succ k => rw [rk_d_s, if_pos ⟨rk_d_0.mpr (hn k (by omega)), h⟩]
theorem rk_d_front {e : Nat → Bool} {a k b : Nat} (h : rk_d e a k b = k + 1) : rk_w e a k b = true := by
  cases h1 : rk_w e a k b
  · rw [rk_d_0.mpr h1] at h
    omega
  · rfl
/-- one round: who is told that is new -/
theorem rk_d_round {e : Nat → Bool} {a k x : Nat} (hx : x < 32) (h0 : rk_d e a k x = 0) : rk_w e a (k + 1) x = rk_any (fun c => decide (rk_d e a k c = k + 1) && e (32 * c + x)) 32 := by
  have hw := rk_d_0.mp h0
  cases h : rk_any (fun c => decide (rk_d e a k c = k + 1) && e (32 * c + x)) 32
  · cases h2 : rk_w e a (k + 1) x
    · rfl
    · exfalso
      rcases rk_w_cut h2 with h3 | ⟨v, hv, h3, h4⟩
      · rw [hw] at h3
        cases h3
      · have h5 := rk_any_no.mp h v hv
        rw [h4, Bool.and_true, decide_eq_false_iff_not] at h5
        cases k with
        | zero =>
          apply h5
          show (if e (32 * a + v) = true then 1 else 0) = 1
          rw [if_pos (show e (32 * a + v) = true from h3)]
        | succ k =>
          cases h6 : rk_w e a k v
          · exact h5 (by rw [rk_d_s, if_pos ⟨rk_d_0.mpr h6, h3⟩])
          · rw [rk_w_step hv h6 h4] at hw
            cases hw
  · obtain ⟨c, hc, h1⟩ := rk_any_iff.mp h
    rw [Bool.and_eq_true, decide_eq_true_eq] at h1
    exact rk_w_step hc (rk_d_front h1.1) h1.2
/-! sums of the gathered changes -/
def rk_s (P : Nat → Nat) (d : Nat → Int32) : Nat → Nat → Int32
  | 0, _ => 0
  | k + 1, p => rk_s P d k p + (if P k = p then d k else 0)
theorem rk_s_s (P : Nat → Nat) (d : Nat → Int32) (k p : Nat) : rk_s P d (k + 1) p = rk_s P d k p + (if P k = p then d k else 0) := rfl
theorem rk_s_congr {P Q : Nat → Nat} {d g : Nat → Int32} {k : Nat} (hP : ∀ j, j < k → P j = Q j) (hd : ∀ j, j < k → d j = g j) (p : Nat) : rk_s P d k p = rk_s Q g k p := by
  induction k with
  | zero => rfl
  | succ k ih => rw [rk_s_s, rk_s_s, ih (fun j hj => hP j (by omega)) (fun j hj => hd j (by omega)), hP k (by omega), hd k (by omega)]
def rk_in (P : Nat → Nat) (k p : Nat) : Bool := rk_any (fun j => P j == p) k
theorem rk_in_iff {P : Nat → Nat} {k p : Nat} : rk_in P k p = true ↔ ∃ j, j < k ∧ P j = p := by
  unfold rk_in
  rw [rk_any_iff]
  simp only [beq_iff_eq]
theorem rk_s_0 {P : Nat → Nat} {d : Nat → Int32} {k p : Nat} (h : rk_in P k p = false) : rk_s P d k p = 0 := by
  induction k with
  | zero => rfl
  | succ k ih =>
    have h1 := rk_any_no.mp h
    have h2 : ¬ P k = p := by
      have := h1 k (by omega)
      intro e
      rw [e, beq_self_eq_true] at this
      cases this
    rw [rk_s_s, if_neg h2, ih (rk_any_no.mpr (fun j hj => h1 j (by omega)))]
    decide
def rk_t (t : Nat → Int32) : Nat → Int32
  | 0 => 0
  | n + 1 => rk_t t n + t n
theorem rk_t_congr {t g : Nat → Int32} {n : Nat} (h : ∀ j, j < n → t j = g j) : rk_t t n = rk_t g n := by
  induction n with
  | zero => rfl
  | succ n ih =>
    show rk_t t n + t n = rk_t g n + g n
    rw [ih (fun j hj => h j (by omega)), h n (by omega)]
/-! Integer.bitCount in numbers -/
theorem pc_and {a b c d : Nat} (hb : b < 256) (hd : d < 256) : (256 * a + b) &&& (256 * c + d) = 256 * (a &&& c) + (b &&& d) := by
  have h1 : b &&& d < 2 ^ 8 := Nat.and_lt_two_pow _ hd
  have e1 : ∀ i, (256 * a + b).testBit i = if i < 8 then b.testBit i else a.testBit (i - 8) := fun i => Nat.testBit_two_pow_mul_add a (i := 8) hb i
  have e2 : ∀ i, (256 * c + d).testBit i = if i < 8 then d.testBit i else c.testBit (i - 8) := fun i => Nat.testBit_two_pow_mul_add c (i := 8) hd i
  have e3 : ∀ i, (256 * (a &&& c) + (b &&& d)).testBit i = if i < 8 then (b &&& d).testBit i else (a &&& c).testBit (i - 8) := fun i => Nat.testBit_two_pow_mul_add (a &&& c) (i := 8) h1 i
  apply Nat.eq_of_testBit_eq
  intro i
  rw [Nat.testBit_and, e1, e2, e3]
  by_cases h : i < 8
  · rw [if_pos h, if_pos h, if_pos h, Nat.testBit_and]
  · rw [if_neg h, if_neg h, if_neg h, Nat.testBit_and]
def pc_n (a b c d : Nat) : Nat := 256 * (256 * (256 * a + b) + c) + d
theorem pc_mask {m a b c d : Nat} (hm : m < 256) (hb : b < 256) (hc : c < 256) (hd : d < 256) : pc_n a b c d &&& pc_n m m m m = pc_n (a &&& m) (b &&& m) (c &&& m) (d &&& m) := by
  unfold pc_n
  rw [pc_and hd hm, pc_and hc hm, pc_and hb hm]
def pc_p (d : Nat) : Nat := rk_c (fun i => d.testBit i) 8
def pc_1 (d : Nat) : Nat := d - (d / 2 &&& 85)
def pc_2 (y : Nat) : Nat := (y &&& 51) + (y / 4 &&& 51)
theorem pc_d1 : ∀ d, d < 256 → ∀ c, c < 2 → ((d / 2 + 128 * c) &&& 85) = (d / 2 &&& 85) ∧ (d / 2 &&& 85) ≤ d ∧ d / 2 + 128 * c < 256 := by decide +kernel
theorem pc_d2 : ∀ y, y < 256 → ∀ c, c < 4 → ((y / 4 + 64 * c) &&& 51) = (y / 4 &&& 51) ∧ pc_2 y < 256 ∧ y / 4 + 64 * c < 256 := by decide +kernel
theorem pc_d3 : ∀ d, d < 256 → ∀ c, c < 5 → ((pc_2 (pc_1 d) + pc_2 (pc_1 d) / 16 + 16 * c) &&& 15) = pc_p d ∧ pc_2 (pc_1 d) + pc_2 (pc_1 d) / 16 + 16 * c < 256 ∧ pc_2 (pc_1 d) % 16 < 5 ∧ pc_1 d < 256 ∧ pc_p d ≤ 8 ∧ pc_2 (pc_1 d) ≤ 68 := by decide +kernel
theorem pc_s1 {a b c d : Nat} (ha : a < 256) (hb : b < 256) (hc : c < 256) (hd : d < 256) : pc_n a b c d - (pc_n a b c d / 2 &&& 1431655765) = pc_n (pc_1 a) (pc_1 b) (pc_1 c) (pc_1 d) := by
  have e : pc_n a b c d / 2 = pc_n (a / 2) (b / 2 + 128 * (a % 2)) (c / 2 + 128 * (b % 2)) (d / 2 + 128 * (c % 2)) := by unfold pc_n; omega
  obtain ⟨a1, a2, a3⟩ := pc_d1 a ha 0 (by omega)
  obtain ⟨b1, b2, b3⟩ := pc_d1 b hb (a % 2) (by omega)
  obtain ⟨c1, c2, c3⟩ := pc_d1 c hc (b % 2) (by omega)
  obtain ⟨d1, d2, d3⟩ := pc_d1 d hd (c % 2) (by omega)
  rw [e, show (1431655765 : Nat) = pc_n 85 85 85 85 from rfl, pc_mask (by omega) b3 c3 d3, b1, c1, d1]
  unfold pc_n pc_1
  omega
theorem pc_s2 {a b c d : Nat} (ha : a < 256) (hb : b < 256) (hc : c < 256) (hd : d < 256) : (pc_n a b c d &&& 858993459) + (pc_n a b c d / 4 &&& 858993459) = pc_n (pc_2 a) (pc_2 b) (pc_2 c) (pc_2 d) := by
  have e : pc_n a b c d / 4 = pc_n (a / 4) (b / 4 + 64 * (a % 4)) (c / 4 + 64 * (b % 4)) (d / 4 + 64 * (c % 4)) := by unfold pc_n; omega
  obtain ⟨b1, b2, b3⟩ := pc_d2 b hb (a % 4) (by omega)
  obtain ⟨c1, c2, c3⟩ := pc_d2 c hc (b % 4) (by omega)
  obtain ⟨d1, d2, d3⟩ := pc_d2 d hd (c % 4) (by omega)
  rw [e, show (858993459 : Nat) = pc_n 51 51 51 51 from rfl, pc_mask (by omega) b3 c3 d3, pc_mask (by omega) hb hc hd, b1, c1, d1]
  unfold pc_n pc_2
  omega
theorem pc_s3 {a b c d : Nat} (ha : a < 256) (hb : b < 256) (hc : c < 256) (hd : d < 256) : (pc_n (pc_2 (pc_1 a)) (pc_2 (pc_1 b)) (pc_2 (pc_1 c)) (pc_2 (pc_1 d)) + pc_n (pc_2 (pc_1 a)) (pc_2 (pc_1 b)) (pc_2 (pc_1 c)) (pc_2 (pc_1 d)) / 16) &&& 252645135 = pc_n (pc_p a) (pc_p b) (pc_p c) (pc_p d) := by
  have ga := (pc_d3 a ha 0 (by omega)).2.2.1
  have gb := (pc_d3 b hb 0 (by omega)).2.2.1
  have gc := (pc_d3 c hc 0 (by omega)).2.2.1
  obtain ⟨a1, a2, -⟩ := pc_d3 a ha 0 (by omega)
  obtain ⟨b1, b2, -⟩ := pc_d3 b hb (pc_2 (pc_1 a) % 16) ga
  obtain ⟨c1, c2, -⟩ := pc_d3 c hc (pc_2 (pc_1 b) % 16) gb
  obtain ⟨d1, d2, -⟩ := pc_d3 d hd (pc_2 (pc_1 c) % 16) gc
  have e : pc_n (pc_2 (pc_1 a)) (pc_2 (pc_1 b)) (pc_2 (pc_1 c)) (pc_2 (pc_1 d)) + pc_n (pc_2 (pc_1 a)) (pc_2 (pc_1 b)) (pc_2 (pc_1 c)) (pc_2 (pc_1 d)) / 16 =
      pc_n (pc_2 (pc_1 a) + pc_2 (pc_1 a) / 16 + 16 * 0) (pc_2 (pc_1 b) + pc_2 (pc_1 b) / 16 + 16 * (pc_2 (pc_1 a) % 16)) (pc_2 (pc_1 c) + pc_2 (pc_1 c) / 16 + 16 * (pc_2 (pc_1 b) % 16)) (pc_2 (pc_1 d) + pc_2 (pc_1 d) / 16 + 16 * (pc_2 (pc_1 c) % 16)) := by
    unfold pc_n
    generalize pc_2 (pc_1 a) = A at *
    generalize pc_2 (pc_1 b) = B at *
    generalize pc_2 (pc_1 c) = C at *
    generalize pc_2 (pc_1 d) = D at *
    omega
  rw [e, show (252645135 : Nat) = pc_n 15 15 15 15 from rfl, pc_mask (by omega) b2 c2 d2, a1, b1, c1, d1]
/-- the steps of Integer.bitCount on a number -/
def pc_y1 (X : Nat) : Nat := X - (X / 2 &&& 1431655765)
def pc_y2 (X : Nat) : Nat := (pc_y1 X &&& 858993459) + (pc_y1 X / 4 &&& 858993459)
def pc_y3 (X : Nat) : Nat := (pc_y2 X + pc_y2 X / 16) &&& 252645135
def pc_y4 (X : Nat) : Nat := pc_y3 X + pc_y3 X / 256
def pc_y5 (X : Nat) : Nat := pc_y4 X + pc_y4 X / 65536
theorem pc_all {X : Nat} (hX : X < 4294967296) : (X / 2 &&& 1431655765) ≤ X ∧ pc_y1 X < 4294967296 ∧ pc_y2 X < 4294967296 ∧ pc_y2 X + pc_y2 X / 16 < 4294967296 ∧ pc_y3 X < 4294967296 ∧ pc_y4 X < 4294967296 ∧ pc_y5 X < 4294967296 ∧ pc_y5 X % 64 = rk_c (fun i => X.testBit i) 32 := by
  obtain ⟨a, b, c, d, ha, hb, hc, hd, e⟩ : ∃ a b c d, a < 256 ∧ b < 256 ∧ c < 256 ∧ d < 256 ∧ X = pc_n a b c d := ⟨X / 16777216, X / 65536 % 256, X / 256 % 256, X % 256, by omega, by omega, by omega, by omega, by unfold pc_n; omega⟩
  have h1 : pc_y1 X = pc_n (pc_1 a) (pc_1 b) (pc_1 c) (pc_1 d) := by unfold pc_y1; rw [e]; exact pc_s1 ha hb hc hd
  obtain ⟨-, -, a3, a4, a5, a9⟩ := pc_d3 a ha 0 (by omega)
  obtain ⟨-, -, b3, b4, b5, b9⟩ := pc_d3 b hb 0 (by omega)
  obtain ⟨-, -, c3, c4, c5, c9⟩ := pc_d3 c hc 0 (by omega)
  obtain ⟨-, d2, d3, d4, d5, d9⟩ := pc_d3 d hd 0 (by omega)
  have h2 : pc_y2 X = pc_n (pc_2 (pc_1 a)) (pc_2 (pc_1 b)) (pc_2 (pc_1 c)) (pc_2 (pc_1 d)) := by unfold pc_y2; rw [h1]; exact pc_s2 a4 b4 c4 d4
  have h3 : pc_y3 X = pc_n (pc_p a) (pc_p b) (pc_p c) (pc_p d) := by unfold pc_y3; rw [h2]; exact pc_s3 ha hb hc hd
  have a2 := (pc_d2 (pc_1 a) a4 0 (by omega)).2.1
  have b2 := (pc_d2 (pc_1 b) b4 0 (by omega)).2.1
  have c2 := (pc_d2 (pc_1 c) c4 0 (by omega)).2.1
  have d6 := (pc_d2 (pc_1 d) d4 0 (by omega)).2.1
  have a7 := (pc_d3 a ha 0 (by omega)).2.1
  have hle : (X / 2 &&& 1431655765) ≤ X := by
    have : (X / 2 &&& 1431655765) ≤ X / 2 := Nat.and_le_left
    omega
  have hcnt : rk_c (fun i => X.testBit i) 32 = pc_p d + pc_p c + pc_p b + pc_p a := by
    have t1 : ∀ (u v i : Nat), v < 256 → (256 * u + v).testBit i = if i < 8 then v.testBit i else u.testBit (i - 8) := fun u v i hv => Nat.testBit_two_pow_mul_add u (i := 8) hv i
    have step : ∀ (u v n : Nat), v < 256 → rk_c (fun i => (256 * u + v).testBit i) (8 + n) = pc_p v + rk_c (fun i => u.testBit i) n := by
      intro u v n hv
      rw [rk_c_add]
      congr 1
      · exact rk_c_congr (fun j hj => by rw [t1 u v j hv, if_pos hj])
      · exact rk_c_congr (fun j hj => by rw [t1 u v (8 + j) hv, if_neg (by omega), Nat.add_sub_cancel_left])
    rw [e]
    unfold pc_n
    rw [show (32 : Nat) = 8 + 24 from rfl, step _ _ _ hd, show (24 : Nat) = 8 + 16 from rfl, step _ _ _ hc, show (16 : Nat) = 8 + 8 from rfl, step _ _ _ hb]
    show pc_p d + (pc_p c + (pc_p b + pc_p a)) = _
    omega
  refine ⟨hle, ?_, ?_, ?_, ?_, ?_, ?_, ?_⟩
  · rw [h1]; unfold pc_n; omega
  · rw [h2]; unfold pc_n; omega
  · rw [h2]; unfold pc_n; omega
  · rw [h3]; unfold pc_n; omega
  · unfold pc_y4; rw [h3]; unfold pc_n; omega
  · unfold pc_y5 pc_y4; rw [h3]; unfold pc_n; omega
  · rw [hcnt]
    unfold pc_y5 pc_y4
    rw [h3]
    unfold pc_n
    generalize pc_p a = A at *
    generalize pc_p b = B at *
    generalize pc_p c = C at *
    generalize pc_p d = D at *
    have e1 : (256 * (256 * (256 * A + B) + C) + D) / 256 = 65536 * A + 256 * B + C := by omega
    rw [e1]
    have e2 : (256 * (256 * (256 * A + B) + C) + D + (65536 * A + 256 * B + C)) / 65536 = 256 * A + A + B := by omega
    rw [e2]
    omega
theorem pc_bt (x : Int32) : rk_c (bt x) 32 = rk_c (fun i => x.toBitVec.toNat.testBit i) 32 := rfl
theorem pc_nI (x : Int32) : x = nI x.toBitVec.toNat := by
  apply Int32.toBitVec_inj.1
  show x.toBitVec = BitVec.ofNat 32 x.toBitVec.toNat
  simp
/-! bits of rows, as the class handles them -/
theorem rk_one1 : ∀ i, i < 31 → bt (nI 1) (i + 1) = false := by decide +kernel
theorem rk_bit (x : Int32) {b : Nat} (hb : b < 32) : ((x.toUInt32 >>> ((nI b).toUInt32 &&& Int32.toUInt32 31)).toInt32 &&& nI 1) = 0 ↔ bt x b = false := by
  have e := b_ushr b hb x 0
  rw [Nat.add_zero] at e
  rw [← e]
  generalize (x.toUInt32 >>> ((nI b).toUInt32 &&& Int32.toUInt32 31)).toInt32 = v
  have h2 : bt (nI 1) 0 = true := by decide
  constructor
  · intro h
    have h1 : bt (v &&& nI 1) 0 = false := by rw [h]; exact b_0 0
    rw [b_and, h2, Bool.and_true] at h1
    exact h1
  · intro h
    apply b_ext
    intro i hi
    rw [b_and, b_0]
    cases i with
    | zero => rw [h]; rfl
    | succ i => rw [rk_one1 i (by omega), Bool.and_false]
theorem rk_one : ∀ b, b < 32 → ∀ i, i < 32 → bt (nI 1 <<< (nI b &&& 31)) i = decide (i = b) := by decide +kernel
theorem rk_not (x : Int32) {i : Nat} (hi : i < 32) : bt (x ^^^ (-1)) i = !bt x i := by rw [b_xor, b_m1 i hi, Bool.xor_true]
theorem rk_put1 {r : Nat → Int32} {h : Nat → Bool} (H : rk_R r h) {a b : Nat} (ha : a < 32) (hb : b < 32) : rk_R (upd r a (r a ||| (nI 1 <<< (nI b &&& 31)))) (fun p => if p = 32 * a + b then true else h p) := by
  intro x hx y hy
  show _ = if 32 * x + y = 32 * a + b then true else h (32 * x + y)
  by_cases e : x = a
  · subst e
    rw [pk_us, b_or, rk_one b hb y hy, H x hx y hy]
    by_cases e2 : y = b
    · subst e2
      simp
    · rw [if_neg (by omega), decide_eq_false e2, Bool.or_false]
  · rw [pk_un e, if_neg (by omega), H x hx y hy]
theorem rk_put0 {r : Nat → Int32} {h : Nat → Bool} (H : rk_R r h) {a b : Nat} (ha : a < 32) (hb : b < 32) : rk_R (upd r a (r a &&& ((nI 1 <<< (nI b &&& 31)) ^^^ (-1)))) (fun p => if p = 32 * a + b then false else h p) := by
  intro x hx y hy
  show _ = if 32 * x + y = 32 * a + b then false else h (32 * x + y)
  by_cases e : x = a
  · subst e
    rw [pk_us, b_and, rk_not _ hy, rk_one b hb y hy, H x hx y hy]
    by_cases e2 : y = b
    · subst e2
      simp
    · rw [if_neg (by omega), decide_eq_false e2, Bool.not_false, Bool.and_true]
  · rw [pk_un e, if_neg (by omega), H x hx y hy]
theorem rk_diff {r w x : Nat → Int32} {f g : Nat → Bool} (Hf : rk_R w f) (Hg : rk_R x g) (h : ∀ a, a < 32 → r a = w a &&& (x a ^^^ (-1))) : rk_R r (fun p => f p && !g p) := by
  intro a ha b hb
  show _ = (f (32 * a + b) && !g (32 * a + b))
  rw [h a ha, b_and, rk_not _ hb, Hf a ha b hb, Hg a ha b hb]
theorem rk_copy {r w : Nat → Int32} {f : Nat → Bool} (Hf : rk_R w f) (h : ∀ a, a < 32 → r a = w a) : rk_R r f := by
  intro a ha b hb
  rw [h a ha, Hf a ha b hb]
theorem rk_upd_lt {f g : Nat → Int32} {i : Nat} (h : ∀ j, j < i → f j = g j) {x : Int32} (hx : x = g i) : ∀ j, j < i + 1 → upd f i x j = g j := by
  intro j hj
  by_cases e : j = i
  · subst e
    rw [pk_us, hx]
  · rw [pk_un e]
    exact h j (by omega)
/-! what the methods answer, in numbers -/
def rk_v (x : Int32) : Bool := decide (¬ x < 0) && decide (¬ nI 32 ≤ x)
theorem rk_v_neg {x : Int32} (h : x < 0) : rk_v x = false := by unfold rk_v; rw [decide_eq_false (fun z => z h)]; rfl
theorem rk_v_big {x : Int32} (h : nI 32 ≤ x) : rk_v x = false := by unfold rk_v; rw [decide_eq_false (p := ¬ nI 32 ≤ x) (fun z => z h), Bool.and_false]
theorem rk_v_ok {x : Int32} (h : ¬ x < 0) (h2 : ¬ nI 32 ≤ x) : rk_v x = true := by unfold rk_v; rw [decide_eq_true h, decide_eq_true h2]; rfl
theorem rk_v_t {x : Int32} (h : rk_v x = true) : ∃ a, a < 32 ∧ x = nI a := by
  rcases pk_ix x (n := 32) (by decide) with h1 | h1 | h1
  · rw [rk_v_neg h1] at h; cases h
  · rw [rk_v_big h1] at h; cases h
  · exact h1
theorem rk_v_nI {a : Nat} (h : a < 32) : rk_v (nI a) = true := rk_v_ok (nI_pos (by omega)) (nI_ge h (by decide))
def rk_came (h k : Nat → Bool) (z : Bool) (p : Nat) : Bool := (h p != k p) && (h p == z)
theorem rk_came_s {h k : Nat → Bool} {z : Bool} {p : Nat} (e : h p = k p) : rk_came h k z p = false := by unfold rk_came; rw [e]; cases k p <;> rfl
theorem rk_came_o {h k : Nat → Bool} {z : Bool} {p : Nat} (e : ¬ h p = z) : rk_came h k z p = false := by
  unfold rk_came
  cases h1 : h p <;> cases h2 : z <;> cases k p <;> first | rfl | (rw [h1, h2] at e; exact absurd rfl e)
theorem rk_came_t {h k : Nat → Bool} {z : Bool} {p : Nat} (n : ¬ h p = k p) (e : h p = z) : rk_came h k z p = true := by
  unfold rk_came
  rw [← e]
  cases h1 : h p <;> cases h2 : k p <;> first | rfl | (rw [h1, h2] at n; exact absurd rfl n)
def rk_sg : Bool → Int32
  | true => nI 1
  | false => -1
def rk_chM (g : Nat) (pl by_ : Nat → Int32) (x y : Int32) (z : Bool) (r : Int32) (u : Int32 × Nat × (Nat → Int32) × (Nat → Int32)) : Prop :=
  ((rk_v x && rk_v y) = false ∧ u = (nI 1, g, pl, by_) ∧ r = nI 0) ∨ ((rk_v x && rk_v y) = true ∧ g = 60 ∧ u = (nI 2, g, pl, by_) ∧ r = nI 0) ∨
  ∃ a b, a < 32 ∧ b < 32 ∧ x = nI a ∧ y = nI b ∧ g < 60 ∧ u = (nI 0, g + 1, upd pl g (nI (32 * a + b)), upd by_ g (rk_sg z)) ∧ r = nI (g + 1)
def rk_hoM (h : Nat → Bool) (x y r u : Int32) : Prop := ((rk_v x && rk_v y) = false ∧ r = zI false ∧ u = nI 1) ∨ ∃ a b, a < 32 ∧ b < 32 ∧ x = nI a ∧ y = nI b ∧ r = zI (h (32 * a + b)) ∧ u = nI 0
def rk_otM (f : Nat → Bool) (x r u : Int32) : Prop := (∃ p, p < 1024 ∧ f p = true ∧ x = nI (rk_c f p) ∧ r = nI p ∧ u = nI 0) ∨ ((∀ p, p < 1024 → f p = true → x ≠ nI (rk_c f p)) ∧ u = nI 1)
def rk_tiM (t : Nat → Int32) (x y r u : Int32) : Prop := ((rk_v x && rk_v y) = false ∧ u = nI 1) ∨ ∃ a b, a < 32 ∧ b < 32 ∧ x = nI a ∧ y = nI b ∧ r = t (32 * a + b) ∧ u = nI 0
def rk_apM (g : Nat) (t : Nat → Int32) (pp : Nat → Nat) (by_ : Nat → Int32) (h k : Nat → Bool) (r : Int32) (u : Int32 × Nat × (Nat → Int32) × (Nat → Int32) × (Nat → Bool) × (Nat → Bool)) : Prop :=
  ((∃ p, p < 1024 ∧ t p + rk_s pp by_ g p < 0) ∧ u.1 = nI 1 ∧ u.2.1 = g ∧ u.2.2.1 = t ∧ u.2.2.2.2.1 = h ∧ u.2.2.2.2.2 = k) ∨
  ((∀ p, p < 1024 → ¬ t p + rk_s pp by_ g p < 0) ∧ u.1 = nI 0 ∧ u.2.1 = 0 ∧ (∀ p, p < 1024 → u.2.2.1 p = t p + rk_s pp by_ g p) ∧ (∀ p, p < 1024 → u.2.2.2.2.1 p = rk_jv 32 (fun p => decide (0 < u.2.2.1 p)) p) ∧ (∀ p, p < 1024 → u.2.2.2.2.2 p = h p) ∧
    r = nI (rk_c (rk_came u.2.2.2.2.1 u.2.2.2.2.2 true) 1024) + nI (rk_c (rk_came u.2.2.2.2.1 u.2.2.2.2.2 false) 1024))
def rk_diM (t : Nat → Int32) (h : Nat → Bool) (x y r : Int32) (u : Int32 × (Nat → Int32)) : Prop :=
  ((rk_v x && rk_v y) = false ∧ u.1 = nI 1) ∨ (∃ a b, a < 32 ∧ b < 32 ∧ x = nI a ∧ y = nI b ∧ h (32 * a + b) = false ∧ u.1 = nI 2) ∨
  ∃ a b k, a < 32 ∧ b < 32 ∧ x = nI a ∧ y = nI b ∧ k < 32 ∧ rk_w (fun p => decide (0 < t p)) a k b = true ∧ (∀ j, j < k → rk_w (fun p => decide (0 < t p)) a j b = false) ∧ r = nI (k + 1) ∧ u.1 = nI 0
def rk_coN (t : Nat → Int32) (h k : Nat → Bool) (g : Nat) : Nat → Int32
  | 0 => nI (rk_c (fun p => decide (0 < t p)) 1024)
  | 1 => rk_t t 1024
  | 2 => nI (rk_c h 1024)
  | 3 => nI g
  | 4 => nI (rk_c (rk_came h k true) 1024)
  | 5 => nI (rk_c (rk_came h k false) 1024)
  | 6 => nI (rk_c (fun a => h (32 * a + a)) 32)
  | 7 => nI (rk_c (fun a => h (32 * a + a) && !rk_any (fun b => h (32 * a + b) && h (32 * b + a)) a) 32)
  | _ => -1
def rk_coF (t : Nat → Int32) (h k : Nat → Bool) (g : Nat) (x : Int32) : Int32 := if x < 0 then -1 else rk_coN t h k g x.toNatClampNeg
theorem rk_coF_in {t : Nat → Int32} {h k : Nat → Bool} {g j : Nat} (hj : j < 2 ^ 31) : rk_coF t h k g (nI j) = rk_coN t h k g j := by
  unfold rk_coF
  rw [if_neg (nI_pos hj), nI_clamp hj]
theorem rk_coF_out {t : Nat → Int32} {h k : Nat → Bool} {g : Nat} {x : Int32} (hx : x < 0 ∨ nI 8 ≤ x) : rk_coF t h k g x = -1 := by
  by_cases h0 : x < 0
  · unfold rk_coF
    rw [if_pos h0]
  · obtain ⟨j, hj, rfl⟩ := nI_of h0
    rw [rk_coF_in hj]
    have h8 : 8 ≤ j := by
      rcases hx with z | z
      · exact absurd z h0
      · exact (nI_leI (by decide) hj).mp z
    obtain ⟨i, rfl⟩ := Nat.exists_eq_add_of_le h8
    rw [Nat.add_comm]
    rfl
theorem rk_nz (b : Bool) : vp_nar .boolean (zI b) = zI b := by cases b <;> rfl
def rk_ub (f : Nat → Bool) (i : Nat) (b : Bool) (p : Nat) : Bool := if p = i then b else f p
theorem rk_updz (f : Nat → Bool) (i : Nat) (b : Bool) : upd (fun p => zI (f p)) i (zI b) = fun p => zI (rk_ub f i b p) := by
  funext p
  unfold rk_ub
  by_cases e : p = i
  · subst e
    rw [pk_us, if_pos rfl]
  · rw [pk_un e, if_neg e]
def rk_jb (v a b : Nat) (f : Nat → Bool) (p : Nat) : Bool := if p / 32 = a ∧ p % 32 < b then f p || f (32 * v + p % 32) else f p
theorem rk_jb_0 (v a : Nat) (f : Nat → Bool) (p : Nat) : rk_jb v a 0 f p = f p := if_neg (by omega)
theorem rk_jb_at {v a b : Nat} {f : Nat → Bool} (hb : b < 32) : rk_jb v a b f (32 * v + b) = f (32 * v + b) := if_neg (by omega)
theorem rk_jb_t {v a b : Nat} {f : Nat → Bool} (hb : b < 32) (h : f (32 * v + b) = true) (p : Nat) : (if p = 32 * a + b then true else rk_jb v a b f p) = rk_jb v a (b + 1) f p := by
  unfold rk_jb
  by_cases e : p = 32 * a + b
  · subst e
    rw [if_pos rfl, if_pos ⟨by omega, by omega⟩, show (32 * a + b) % 32 = b by omega, h, Bool.or_true]
  · rw [if_neg e]
    by_cases c : p / 32 = a ∧ p % 32 < b
    · rw [if_pos c, if_pos ⟨c.1, by omega⟩]
    · rw [if_neg c, if_neg (by omega)]
theorem rk_jb_f {v a b : Nat} {f : Nat → Bool} (hb : b < 32) (h : f (32 * v + b) = false) (p : Nat) : rk_jb v a b f p = rk_jb v a (b + 1) f p := by
  unfold rk_jb
  by_cases e : p = 32 * a + b
  · subst e
    rw [if_neg (by omega), if_pos ⟨by omega, by omega⟩, show (32 * a + b) % 32 = b by omega, h, Bool.or_false]
  · by_cases c : p / 32 = a ∧ p % 32 < b
    · rw [if_pos c, if_pos ⟨c.1, by omega⟩]
    · rw [if_neg c, if_neg (by omega)]
theorem rk_jb_32 {v a : Nat} {f : Nat → Bool} (h : f (32 * a + v) = true) (p : Nat) : rk_jb v a 32 f p = rk_j v a f p := by
  unfold rk_jb rk_j
  by_cases c : p / 32 = a
  · rw [if_pos ⟨c, by omega⟩, if_pos ⟨c, h⟩]
  · rw [if_neg (fun z => c z.1), if_neg (fun z => c z.1)]
theorem rk_j_no {v a : Nat} {f : Nat → Bool} (h : f (32 * a + v) = false) (p : Nat) : rk_j v a f p = f p := by
  unfold rk_j
  rw [if_neg (fun z => by rw [h] at z; cases z.2)]
theorem zI_le {b : Bool} : zI b ≤ 0 ↔ b = false := by cases b <;> decide
theorem rk_ups {f F G : Nat → Int32} {i : Nat} (h : ∀ p, p < 1024 → f p = if p < i then F p else G p) : ∀ p, p < 1024 → upd f i (F i) p = if p < i + 1 then F p else G p := by
  intro p hp
  by_cases e : p = i
  · subst e
    rw [pk_us, if_pos (by omega)]
  · rw [pk_un e, h p hp]
    by_cases c : p < i
    · rw [if_pos c, if_pos (by omega)]
    · rw [if_neg c, if_neg (by omega)]
theorem rk_ubs2 {f F G : Nat → Bool} {i : Nat} {x : Bool} (h : ∀ p, p < 1024 → f p = if p < i then F p else G p) (hx : x = F i) : ∀ p, p < 1024 → rk_ub f i x p = if p < i + 1 then F p else G p := by
  intro p hp
  unfold rk_ub
  by_cases e : p = i
  · subst e
    rw [if_pos rfl, if_pos (by omega), hx]
  · rw [if_neg e, h p hp]
    by_cases c : p < i
    · rw [if_pos c, if_pos (by omega)]
    · rw [if_neg c, if_neg (by omega)]
theorem rk_ubs {f F G : Nat → Bool} {i : Nat} (h : ∀ p, p < 1024 → f p = if p < i then F p else G p) : ∀ p, p < 1024 → rk_ub f i (F i) p = if p < i + 1 then F p else G p := rk_ubs2 h rfl
theorem rk_s_add {t nn by_ : Nat → Int32} {pp : Nat → Nat} {i : Nat} (h : ∀ p, p < 1024 → nn p = t p + rk_s pp by_ i p) (hp : pp i < 1024) : ∀ p, p < 1024 → upd nn (pp i) (nn (pp i) + by_ i) p = t p + (rk_s pp by_ i p + (if pp i = p then by_ i else 0)) := by
  intro p hp9
  by_cases e : p = pp i
  · subst e
    rw [pk_us, if_pos rfl, h _ hp, Int32.add_assoc]
  · rw [pk_un e, if_neg (fun z => e z.symm), h p hp9, Int32.add_zero]
/-! one round of the reference's distance, vertex by vertex -/
def rk_q (e : Nat → Bool) (a k c j : Nat) : Nat := if rk_d e a k j = 0 ∧ rk_any (fun v => decide (rk_d e a k v = k + 1) && e (32 * v + j)) c = true then k + 2 else rk_d e a k j
theorem rk_q_le (e : Nat → Bool) (a k c j : Nat) : rk_q e a k c j ≤ k + 2 := by
  have := rk_d_le e a k j
  unfold rk_q
  split <;> omega
theorem rk_q_0c {e : Nat → Bool} {a k j : Nat} : rk_q e a k 0 j = rk_d e a k j := if_neg (fun z => by cases z.2)
theorem rk_q_eq {e : Nat → Bool} {a k c j : Nat} : rk_q e a k c j = k + 1 ↔ rk_d e a k j = k + 1 := by
  unfold rk_q
  split
  · rename_i h
    exact ⟨fun z => by omega, fun z => by omega⟩
  · exact Iff.rfl
theorem rk_q_s {e : Nat → Bool} {a k c j : Nat} (h : (decide (rk_d e a k c = k + 1) && e (32 * c + j)) = false) : rk_q e a k (c + 1) j = rk_q e a k c j := by
  unfold rk_q
  rw [rk_any_s, h, Bool.or_false]
theorem rk_q_skip {e : Nat → Bool} {a k c j : Nat} (h : ¬ rk_d e a k c = k + 1) : rk_q e a k (c + 1) j = rk_q e a k c j := rk_q_s (by rw [decide_eq_false h]; rfl)
theorem rk_q_no {e : Nat → Bool} {a k c j : Nat} (h : e (32 * c + j) = false) : rk_q e a k (c + 1) j = rk_q e a k c j := rk_q_s (by rw [h, Bool.and_false])
theorem rk_q_old {e : Nat → Bool} {a k c j : Nat} (h : ¬ rk_q e a k c j = 0) : rk_q e a k (c + 1) j = rk_q e a k c j := by
  unfold rk_q at h ⊢
  by_cases h0 : rk_d e a k j = 0
  · by_cases h1 : rk_any (fun v => decide (rk_d e a k v = k + 1) && e (32 * v + j)) c = true
    · rw [if_pos (show rk_d e a k j = 0 ∧ rk_any (fun v => decide (rk_d e a k v = k + 1) && e (32 * v + j)) (c + 1) = true from ⟨h0, by rw [rk_any_s, h1]; rfl⟩), if_pos ⟨h0, h1⟩]
    · rw [if_neg (fun z => h1 z.2)] at h
      exact absurd h0 h
  · rw [if_neg (fun z => h0 z.1), if_neg (fun z => h0 z.1)]
theorem rk_q_new {e : Nat → Bool} {a k c j : Nat} (h : rk_q e a k c j = 0) (hc : rk_d e a k c = k + 1) (he : e (32 * c + j) = true) : rk_q e a k (c + 1) j = k + 2 := by
  have h0 : rk_d e a k j = 0 := by
    unfold rk_q at h
    split at h
    · omega
    · exact h
  unfold rk_q
  rw [if_pos ⟨h0, by rw [rk_any_s, decide_eq_true hc, he, Bool.and_true, Bool.or_true]⟩]
theorem rk_q_32 {e : Nat → Bool} {a k j : Nat} (hj : j < 32) : rk_q e a k 32 j = rk_d e a (k + 1) j := by
  unfold rk_q
  rw [rk_d_s]
  by_cases h0 : rk_d e a k j = 0
  · rw [rk_d_round hj h0]
  · rw [if_neg (fun z => h0 z.1), if_neg (fun z => h0 z.1)]
theorem rk_q_keep {v : Nat → Int32} {F G : Nat → Nat} {j : Nat} (h : ∀ i, i < 32 → v i = nI (if i < j then F i else G i)) (e : F j = G j) : ∀ i, i < 32 → v i = nI (if i < j + 1 then F i else G i) := by
  intro i hi
  rw [h i hi]
  by_cases c : i < j
  · rw [if_pos c, if_pos (by omega)]
  · by_cases d : i = j
    · subst d
      rw [if_neg c, if_pos (by omega), e]
    · rw [if_neg c, if_neg (by omega)]
theorem rk_q_put {v : Nat → Int32} {F G : Nat → Nat} {j : Nat} {x : Int32} (h : ∀ i, i < 32 → v i = nI (if i < j then F i else G i)) (e : x = nI (F j)) : ∀ i, i < 32 → upd v j x i = nI (if i < j + 1 then F i else G i) := by
  intro i hi
  by_cases d : i = j
  · subst d
    rw [pk_us, if_pos (by omega), e]
  · rw [pk_un d, h i hi]
    by_cases c : i < j
    · rw [if_pos c, if_pos (by omega)]
    · rw [if_neg c, if_neg (by omega)]
theorem rk_n0 {n : Nat} (hn : n < 2 ^ 31) (h : nI n = 0) : n = 0 := (nI_eq hn (by decide)).mp (h.trans nI_0.symm)
theorem ts_nf {x : Bool} (h : ¬ x = false) : x = true := by cases x; exact absurd rfl h; rfl
theorem rk_gt {a b : Nat} (ha : a < 2 ^ 31) (hb : b < 2 ^ 31) (h : ¬ nI a ≤ nI b) : b < a := Nat.not_le.mp (fun z => h ((nI_leI ha hb).mpr z))
theorem rk_ge {a b : Nat} (ha : a < 2 ^ 31) (hb : b < 2 ^ 31) (h : ¬ nI a < nI b) : b ≤ a := Nat.not_lt.mp (fun z => h ((nI_ltI ha hb).mpr z))
theorem rk_in_s (pp : Nat → Nat) (i p : Nat) : rk_in pp (i + 1) p = (rk_in pp i p || pp i == p) := rfl
theorem rk_in_self (pp : Nat → Nat) (i : Nat) : rk_in pp (i + 1) (pp i) = true := by rw [rk_in_s, beq_self_eq_true, Bool.or_true]
theorem rk_in_ne {pp : Nat → Nat} {i p : Nat} (h : ¬ p = pp i) : rk_in pp (i + 1) p = rk_in pp i p := by
  rw [rk_in_s, show (pp i == p) = false from beq_eq_false_iff_ne.mpr (fun z => h z.symm), Bool.or_false]
theorem rk_clr {x gs : Nat → Int32} {pp : Nat → Nat} {i : Nat} (h : ∀ p, p < 1024 → x p = if rk_in pp i p = true then 0 else gs p) : ∀ p, p < 1024 → upd x (pp i) (nI 0) p = if rk_in pp (i + 1) p = true then 0 else gs p := by
  intro p hp
  by_cases e : p = pp i
  · subst e
    rw [pk_us, if_pos (rk_in_self pp i)]
    rfl
  · rw [pk_un e, rk_in_ne e]
    exact h p hp
def rk_ag (pp : Nat → Nat) (t gs : Nat → Int32) (i : Nat) (u : (Nat → Int32) × (Nat → Int32) × (Nat → Int32)) : Prop :=
  (∀ p, p < 1024 → u.1 p = if rk_in pp i p = true then t p + gs p else t p) ∧ (∀ p, p < 1024 → u.2.1 p = if rk_in pp i p = true then 0 else gs p) ∧ rk_R u.2.2 (fun p => decide (0 < u.1 p))
theorem rk_ag_s {pp : Nat → Nat} {t gs x y z z9 : Nat → Int32} {i : Nat} (h : rk_ag pp t gs i (x, y, z)) (hp : pp i < 1024) (hz : rk_R z9 (fun p => if p = 32 * (pp i / 32) + pp i % 32 then decide (0 < upd x (pp i) (x (pp i) + y (pp i)) (pp i)) else decide (0 < x p))) : rk_ag pp t gs (i + 1) (upd x (pp i) (x (pp i) + y (pp i)), upd y (pp i) (nI 0), z9) := by
  obtain ⟨h1, h2, h3⟩ := h
  refine ⟨fun p hp9 => ?_, rk_clr h2, hz.to (fun p hp9 => ?_)⟩
  · show upd x (pp i) (x (pp i) + y (pp i)) p = _
    by_cases e : p = pp i
    · subst e
      rw [pk_us, if_pos (rk_in_self pp i), show x (pp i) = _ from h1 _ hp, show y (pp i) = _ from h2 _ hp]
      by_cases c : rk_in pp i (pp i) = true
      · rw [if_pos c, if_pos c, Int32.add_zero]
      · rw [if_neg c, if_neg c]
    · rw [pk_un e, rk_in_ne e]
      exact h1 p hp9
  · show (if p = 32 * (pp i / 32) + pp i % 32 then decide (0 < upd x (pp i) (x (pp i) + y (pp i)) (pp i)) else decide (0 < x p)) = decide (0 < upd x (pp i) (x (pp i) + y (pp i)) p)
    by_cases e : p = pp i
    · subst e
      rw [if_pos (by omega)]
    · rw [if_neg (by omega), pk_un e]
theorem rk_lo_eq {r : Nat → Int32} {t : Nat → Int32} {h k : Nat → Bool} {g : Nat} (hR : rk_R r h) : nI (rk_c (fun a => bt (r a) a) 32) = rk_coF t h k g (nI 6) := by
  rw [rk_coF_in (by decide)]
  show _ = nI (rk_c (fun a => h (32 * a + a)) 32)
  rw [rk_c_congr (fun j hj => hR j hj j hj)]
theorem rk_ci_eq {r : Nat → Int32} {t : Nat → Int32} {h k : Nat → Bool} {g : Nat} (hR : rk_R r h) : nI (rk_c (fun a => bt (r a) a && !rk_any (fun b => bt (r a) b && bt (r b) a) a) 32) = rk_coF t h k g (nI 7) := by
  rw [rk_coF_in (by decide)]
  show _ = nI (rk_c (fun a => h (32 * a + a) && !rk_any (fun b => h (32 * a + b) && h (32 * b + a)) a) 32)
  rw [rk_c_congr (fun j hj => ?_)]
  show (bt (r j) j && !rk_any (fun b => bt (r j) b && bt (r b) j) j) = _
  rw [hR j hj j hj, rk_any_congr (fun b hb => by rw [hR j hj b (by omega), hR b (by omega) j hj])]
