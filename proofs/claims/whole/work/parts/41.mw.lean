/-! THE REFERENCE'S WORLD: eight bytes a cell -/
theorem fx_congr {B C : Nat → Nat} (a : Nat) {k : Nat} (h : ∀ i, i < k → B (a + i) = C (a + i)) : fx B a k = fx C a k := by
  induction k with
  | zero => rfl
  | succ k ih =>
    show fx B a k + B (a + k) * 2 ^ (8 * k) = fx C a k + C (a + k) * 2 ^ (8 * k)
    rw [ih (fun i hi => h i (by omega)), h k (by omega)]
theorem fx_bit {B : Nat → Nat} (hB : ∀ j, B j < 256) (a k i : Nat) (hi : i < 8 * k) : (fx B a k).testBit i = (B (a + i / 8)).testBit (i % 8) := by
  induction k with
  | zero => exact absurd hi (by omega)
  | succ k ih =>
    show (fx B a k + B (a + k) * 2 ^ (8 * k)).testBit i = _
    rw [Nat.add_comm, Nat.mul_comm, Nat.testBit_two_pow_mul_add _ (fx_lt hB a k)]
    by_cases h : i < 8 * k
    · rw [if_pos h, ih h]
    · rw [if_neg h, show i / 8 = k by omega, show i - 8 * k = i % 8 by omega]
theorem fx_div {B : Nat → Nat} (hB : ∀ j, B j < 256) (a : Nat) {k t : Nat} (ht : t < k) : fx B a k / 2 ^ (8 * t) % 256 = B (a + t) := by
  induction k with
  | zero => exact absurd ht (by omega)
  | succ k ih =>
    show (fx B a k + B (a + k) * 2 ^ (8 * k)) / 2 ^ (8 * t) % 256 = _
    have hp : 0 < 2 ^ (8 * t) := Nat.two_pow_pos _
    rcases Nat.lt_or_ge t k with h | h
    · have e : B (a + k) * 2 ^ (8 * k) = B (a + k) * 2 ^ (8 * (k - t) - 8) * 256 * 2 ^ (8 * t) := by
        rw [Nat.mul_assoc, Nat.mul_assoc]
        congr 1
        rw [show (256 : Nat) = 2 ^ 8 from rfl, ← Nat.pow_add, ← Nat.pow_add]
        congr 1
        omega
      rw [e, Nat.add_mul_div_right _ _ hp, Nat.add_mul_mod_self_right, ih h]
    · obtain rfl : t = k := by omega
      rw [Nat.add_mul_div_right _ _ hp, Nat.div_eq_of_lt (fx_lt hB a t), Nat.zero_add, Nat.mod_eq_of_lt (hB _)]
theorem fx_front (B : Nat → Nat) (a k : Nat) : fx B a (k + 1) = B a + 256 * fx B (a + 1) k := by
  induction k with
  | zero => show 0 + B (a + 0) * 2 ^ (8 * 0) = B a + 256 * 0; simp
  | succ k ih =>
    show fx B a (k + 1) + B (a + (k + 1)) * 2 ^ (8 * (k + 1)) = B a + 256 * (fx B (a + 1) k + B (a + 1 + k) * 2 ^ (8 * k))
    rw [show 8 * (k + 1) = 8 * k + 8 by omega, ih, show a + (k + 1) = a + 1 + k by omega, Nat.pow_add, Nat.mul_add]
    have : B (a + 1 + k) * (2 ^ (8 * k) * 2 ^ 8) = 256 * (B (a + 1 + k) * 2 ^ (8 * k)) := by
      rw [show (2 : Nat) ^ 8 = 256 from rfl, ← Nat.mul_assoc, Nat.mul_comm]
    omega
theorem tb_255 (i : Nat) : (255 : Nat).testBit i = decide (i < 8) := Nat.testBit_two_pow_sub_one 8 i
theorem sh8_63 : ∀ t, t < 8 → ((nI (8 * t)).toInt64 &&& 63).toBitVec.smod 64 = BitVec.ofNat 64 (8 * t) := by decide +kernel
theorem lb_l (n i : Nat) : (lN n).toBitVec.getLsbD i = (decide (i < 64) && n.testBit i) := by rw [wb_tb, BitVec.getLsbD_ofNat]
/-- a byte out of a long: v >> 8 t & 255 -/
theorem sh8 (u : Nat) {t : Nat} (ht : t < 8) : (lN u >>> ((nI (8 * t)).toInt64 &&& 63)) &&& 255 = lN (u / 2 ^ (8 * t) % 256) := by
  apply wb_inj
  have e : (lN u >>> ((nI (8 * t)).toInt64 &&& 63)).toBitVec = (lN u).toBitVec.sshiftRight (8 * t) := by
    show (lN u).toBitVec.sshiftRight' (((nI (8 * t)).toInt64 &&& 63).toBitVec.smod 64) = _
    rw [sh8_63 t ht, BitVec.sshiftRight', BitVec.toNat_ofNat, Nat.mod_eq_of_lt (by omega)]
  rw [Int64.toBitVec_and, e]
  apply BitVec.eq_of_getLsbD_eq
  intro i hi
  rw [BitVec.getLsbD_and, BitVec.getLsbD_sshiftRight, lb_l, show (255 : Int64) = lN 255 from rfl, lb_l, tb_255, lb_l, show (256 : Nat) = 2 ^ 8 from rfl, Nat.testBit_mod_two_pow, Nat.testBit_div_two_pow]
  by_cases h : i < 8
  · rw [if_pos (by omega), Nat.add_comm i]
    simp [h, show i < 64 by omega, show 8 * t + i < 64 by omega, show ¬ 64 ≤ i by omega]
  · simp [h]
/-- a byte into a long -/
theorem set8 {B : Nat → Nat} (hB : ∀ j, B j < 256) (a : Nat) {t v : Nat} (ht : t < 8) (hv : v < 256) : (lN (fx B a 8) &&& ((255 <<< ((nI (8 * t)).toInt64 &&& 63)) ^^^ (-1))) ||| (lN v <<< ((nI (8 * t)).toInt64 &&& 63)) = lN (fx (va_up B (a + t) v) a 8) := by
  have hB' : ∀ j, va_up B (a + t) v j < 256 := by_lt hB hv
  rw [show (255 : Int64) = lN 255 from rfl, wb_shl 255 (by omega), wb_shl v (by omega)]
  apply wb_inj
  rw [Int64.toBitVec_or, Int64.toBitVec_and, Int64.toBitVec_xor]
  apply BitVec.eq_of_getLsbD_eq
  intro i hi
  rw [BitVec.getLsbD_or, BitVec.getLsbD_and, BitVec.getLsbD_xor, lb_l, lb_l, lb_l, lb_l, fx_bit hB a 8 i (by omega), fx_bit hB' a 8 i (by omega), Nat.mul_comm 255, Nat.mul_comm v, Nat.testBit_two_pow_mul, Nat.testBit_two_pow_mul, tb_255,
    show (-1 : Int64).toBitVec = BitVec.allOnes 64 from by decide, BitVec.getLsbD_allOnes]
  simp only [hi, decide_true, Bool.true_and]
  by_cases h : i / 8 = t
  · rw [h, show va_up B (a + t) v (a + t) = v from if_pos rfl, show i - 8 * t = i % 8 by omega]
    simp [show 8 * t ≤ i by omega, show i % 8 < 8 by omega]
  · rw [show va_up B (a + t) v (a + i / 8) = B (a + i / 8) from if_neg (by omega)]
    by_cases h2 : 8 * t ≤ i
    · have hv2 : v.testBit (i - 8 * t) = false := Nat.testBit_lt_two_pow (Nat.lt_of_lt_of_le hv (show 2 ^ 8 ≤ _ from Nat.pow_le_pow_right (by decide) (by omega)))
      simp [h2, hv2, show ¬ i - 8 * t < 8 by omega]
    · simp [h2]
/-- the reference's cells -/
def pkF (σ : dkS) : Nat → Int64 := fun c => lN (fx (σ (c / 8192)).1 (8 * (c % 8192)) 8)
theorem up_s (σ : dkS) (k : Nat) (r : (Nat → Nat) × Nat × Nat) : va_up σ k r k = r := if_pos rfl
theorem up_n (σ : dkS) {k i : Nat} (h : ¬ i = k) (r : (Nat → Nat) × Nat × Nat) : va_up σ k r i = σ i := if_neg h
theorem up_up (σ : dkS) (k : Nat) (r q : (Nat → Nat) × Nat × Nat) : va_up (va_up σ k r) k q = va_up σ k q := by
  funext i
  unfold va_up
  by_cases h : i = k
  · rw [if_pos h, if_pos h]
  · rw [if_neg h, if_neg h, if_neg h]
theorem up_id {σ : dkS} {k : Nat} {r : (Nat → Nat) × Nat × Nat} (h : σ k = r) : σ = va_up σ k r := by
  funext i
  unfold va_up
  by_cases q : i = k
  · rw [if_pos q, q, h]
  · rw [if_neg q]
theorem up_sw {σ : dkS} {k i : Nat} (h : ¬ k = i) (r q : (Nat → Nat) × Nat × Nat) : va_up (va_up σ k r) i q = va_up (va_up σ i q) k r := by
  funext j
  unfold va_up
  by_cases h1 : j = i
  · rw [if_pos h1, if_neg (by omega), if_pos h1]
  · rw [if_neg h1]
    by_cases h2 : j = k
    · rw [if_pos h2, if_pos h2]
    · rw [if_neg h2, if_neg h2, if_neg h1]
theorem pc_nc (σ : dkS) (k : Nat) (B : Nat → Nat) (n p n2 p2 : Nat) : pkF (va_up σ k (B, n, p)) = pkF (va_up σ k (B, n2, p2)) := by
  funext c
  unfold pkF va_up
  by_cases h : c / 8192 = k
  · rw [if_pos h, if_pos h]
  · rw [if_neg h, if_neg h]
theorem sz_up (σ : dkS) {k : Nat} (hk : k < 4) (B C : Nat → Nat) (n p m q : Nat) : upd (fun i => nI (va_up σ k (B, n, p) i).2.1) (nI k).toNatClampNeg (nI m) = fun i => nI (va_up σ k (C, m, q) i).2.1 := by
  rw [nI_clamp (by omega)]
  funext i
  unfold upd va_up
  by_cases h : i = k
  · rw [if_pos h, if_pos h]
  · rw [if_neg h, if_neg h]
    show nI (if i = k then _ else σ i).2.1 = _
    rw [if_neg h]
theorem pl_up (σ : dkS) {k : Nat} (hk : k < 4) (B C : Nat → Nat) (n p m q : Nat) : upd (fun i => nI (va_up σ k (B, n, p) i).2.2) (nI k).toNatClampNeg (nI q) = fun i => nI (va_up σ k (C, m, q) i).2.2 := by
  rw [nI_clamp (by omega)]
  funext i
  unfold upd va_up
  by_cases h : i = k
  · rw [if_pos h, if_pos h]
  · rw [if_neg h, if_neg h]
    show nI (if i = k then _ else σ i).2.2 = _
    rw [if_neg h]
theorem sz_nc (σ : dkS) (k : Nat) (B C : Nat → Nat) (n p q : Nat) : (fun i => nI (va_up σ k (B, n, p) i).2.1) = fun i => nI (va_up σ k (C, n, q) i).2.1 := by
  funext i
  unfold va_up
  by_cases h : i = k
  · rw [if_pos h, if_pos h]
  · rw [if_neg h, if_neg h]
theorem pl_nc (σ : dkS) (k : Nat) (B C : Nat → Nat) (n m p : Nat) : (fun i => nI (va_up σ k (B, n, p) i).2.2) = fun i => nI (va_up σ k (C, m, p) i).2.2 := by
  funext i
  unfold va_up
  by_cases h : i = k
  · rw [if_pos h, if_pos h]
  · rw [if_neg h, if_neg h]
theorem pk_set (σ : dkS) {k i v : Nat} {B : Nat → Nat} (n p : Nat) (hB : ∀ j, B j < 256) (hk : k < 4) (hi : i < 65536) {x : Int64} (hx : x = lN (fx (va_up B (8 * (i / 8) + i % 8) v) (8 * (i / 8)) 8)) : vp_updL (pkF (va_up σ k (B, n, p))) (nI (8192 * k + i / 8)).toNatClampNeg x = pkF (va_up σ k (va_up B i v, n, p)) := by
  rw [nI_clamp (by omega)]
  funext c
  unfold vp_updL pkF
  have e : 8 * (i / 8) + i % 8 = i := by omega
  rw [e] at hx
  by_cases h : c = 8192 * k + i / 8
  · rw [if_pos h, hx, show c / 8192 = k by omega, show c % 8192 = i / 8 by omega, up_s]
  · rw [if_neg h]
    by_cases h2 : c / 8192 = k
    · rw [h2, up_s, up_s]
      show lN (fx B (8 * (c % 8192)) 8) = lN (fx (va_up B i v) (8 * (c % 8192)) 8)
      rw [fx_congr (B := va_up B i v) (C := B) (8 * (c % 8192)) (fun j hj => if_neg (by omega))]
    · rw [up_n _ h2, up_n _ h2]
theorem pk_get (σ : dkS) {k i : Nat} (hk : k < 4) (hi : i < 65536) : pkF σ (nI (8192 * k + i / 8)).toNatClampNeg = lN (fx (σ k).1 (8 * (i / 8)) 8) := by
  rw [nI_clamp (by omega)]
  unfold pkF
  rw [show (8192 * k + i / 8) / 8192 = k by omega, show (8192 * k + i / 8) % 8192 = i / 8 by omega]
theorem fx_0 (a k : Nat) : fx (fun _ => 0) a k = 0 := by
  induction k with
  | zero => rfl
  | succ k ih => show fx (fun _ => 0) a k + 0 * _ = 0; rw [ih, Nat.zero_mul]
theorem pk_0 : pkF σ0 = fun _ => 0 := by
  funext c
  show lN (fx (fun _ => 0) _ 8) = 0
  rw [fx_0]
  rfl
abbrev rfW (cL cI : ClassId) (h cl sa pa M : Nat) (th tk : Int32) (σ : dkS) : va_W := [(h, .inr (2, [.int th, .int (nI M), .ref cl, .ref sa, .ref pa, .int tk])), (cl, .inl (cL, 32768, .inr (.inl (pkF σ)))), (sa, .inl (cI, 4, .inl (fun i => nI (σ i).2.1))), (pa, .inl (cI, 4, .inl (fun i => nI (σ i).2.2)))]
