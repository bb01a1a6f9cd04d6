/-! WHAT EACH CALL ANSWERS AND DOES: (code, answer, rows behind it); code 0: it returns -/
abbrev isR (x : Int32) : Prop := 0 ≤ x.toInt ∧ x.toInt < 4
def rj (x : Int32) : Nat := x.toInt.toNat
/-- rows as they may be -/
def dkok (M : Nat) (σ : dkS) : Prop := M ≤ 65536 ∧ ∀ i, i < 4 → (σ i).2.2 ≤ (σ i).2.1 ∧ (σ i).2.1 ≤ M ∧ ∀ j, (σ i).1 j < 256
theorem isR_n {j : Nat} (h : j < 4) : isR (nI j) := by
  have := nI_toInt (n := j) (by omega)
  unfold isR
  omega
theorem rj_n {j : Nat} (h : j < 4) : rj (nI j) = j := by
  unfold rj
  rw [nI_toInt (by omega)]
  rfl
def uNl (v : Int64) : Nat := v.toBitVec.toNat
theorem uNl_lt (v : Int64) : uNl v < 2 ^ 64 := v.toBitVec.isLt
theorem lN_u (v : Int64) : lN (uNl v) = v := wb_inj (by rw [wb_tb]; simp [uNl])
def spFixed (M : Nat) (σ : dkS) (x : Int32) (u : Nat) (z : Int32) : Nat × Int32 × dkS :=
  if ¬ isR x then (1, 0, σ) else if ¬ (1 ≤ z.toInt ∧ z.toInt ≤ 8) then (2, 0, σ) else if M < (σ (rj x)).2.1 + z.toInt.toNat then (3, 0, σ) else
  (0, nI ((σ (rj x)).2.1 + z.toInt.toNat), va_up σ (rj x) (wr (σ (rj x)).1 (σ (rj x)).2.1 z.toInt.toNat (fb u), (σ (rj x)).2.1 + z.toInt.toNat, (σ (rj x)).2.2))
def spSevens (M : Nat) (σ : dkS) (x : Int32) (u : Nat) : Nat × Int32 × dkS :=
  if ¬ isR x then (1, 0, σ) else if M < (σ (rj x)).2.1 + sw u then (2, 0, σ) else
  (0, nI (sw u), va_up σ (rj x) (wr (σ (rj x)).1 (σ (rj x)).2.1 (sw u) (sv u), (σ (rj x)).2.1 + sw u, (σ (rj x)).2.2))
def zz (v : Int64) : Int64 := (v <<< ((1 : Int32).toInt64 &&& 63)) ^^^ (v >>> ((63 : Int32).toInt64 &&& 63))
def spLetter (M : Nat) (σ : dkS) (x c : Int32) : Nat × Int32 × dkS :=
  if ¬ isR x then (1, 0, σ) else if lwI c.toInt = 0 then (2, 0, σ) else if M < (σ (rj x)).2.1 + lwI c.toInt then (3, 0, σ) else
  (0, nI (lwI c.toInt), va_up σ (rj x) (wr (σ (rj x)).1 (σ (rj x)).2.1 (lwI c.toInt) (ltb c.toInt.toNat (lwI c.toInt)), (σ (rj x)).2.1 + lwI c.toInt, (σ (rj x)).2.2))
/-- n bytes from a on are there -/
abbrev inr (n : Nat) (a k : Int32) : Prop := 0 ≤ a.toInt ∧ 0 ≤ k.toInt ∧ a.toInt + k.toInt ≤ (n : Int)
def spCopy (M : Nat) (σ : dkS) (x f a k : Int32) : Nat × Int32 × dkS :=
  if ¬ (isR x ∧ isR f) then (1, 0, σ) else if ¬ inr (σ (rj f)).2.1 a k then (2, 0, σ) else if M < (σ (rj x)).2.1 + k.toInt.toNat then (3, 0, σ) else
  (0, nI ((σ (rj x)).2.1 + k.toInt.toNat), va_up σ (rj x) (wr (σ (rj x)).1 (σ (rj x)).2.1 k.toInt.toNat (fun i => (σ (rj f)).1 (a.toInt.toNat + i)), (σ (rj x)).2.1 + k.toInt.toNat, (σ (rj x)).2.2))
def spCut (σ : dkS) (x z : Int32) : Nat × Int32 × dkS :=
  if ¬ isR x then (1, 0, σ) else if ¬ (0 ≤ z.toInt ∧ z.toInt ≤ ((σ (rj x)).2.1 : Int)) then (2, 0, σ) else
  (0, nI (σ (rj x)).2.1, va_up σ (rj x) ((σ (rj x)).1, z.toInt.toNat, min (σ (rj x)).2.2 z.toInt.toNat))
def spPlace (σ : dkS) (x z : Int32) : Nat × Int32 × dkS :=
  if ¬ isR x then (1, 0, σ) else if ¬ (0 ≤ z.toInt ∧ z.toInt ≤ ((σ (rj x)).2.1 : Int)) then (2, 0, σ) else
  (0, nI (σ (rj x)).2.2, va_up σ (rj x) ((σ (rj x)).1, (σ (rj x)).2.1, z.toInt.toNat))
def spReadFixed (σ : dkS) (x z : Int32) : Nat × Int64 × dkS :=
  if ¬ isR x then (1, 0, σ) else if ¬ (1 ≤ z.toInt ∧ z.toInt ≤ 8) then (2, 0, σ) else if (σ (rj x)).2.1 < (σ (rj x)).2.2 + z.toInt.toNat then (3, 0, σ) else
  (0, lN (fx (σ (rj x)).1 (σ (rj x)).2.2 z.toInt.toNat), va_up σ (rj x) ((σ (rj x)).1, (σ (rj x)).2.1, (σ (rj x)).2.2 + z.toInt.toNat))
abbrev gwσ (σ : dkS) (x : Int32) : Int := gw (σ (rj x)).1 (σ (rj x)).2.2 (σ (rj x)).2.1 10
def spReadSevens (σ : dkS) (x : Int32) : Nat × Int64 × dkS :=
  if ¬ isR x then (1, 0, σ) else if gwσ σ x = -2 then (2, 0, σ) else if gwσ σ x = -3 then (3, 0, σ) else
  (0, lN (gs (σ (rj x)).1 (σ (rj x)).2.2 (gwσ σ x).toNat), va_up σ (rj x) ((σ (rj x)).1, (σ (rj x)).2.1, (σ (rj x)).2.2 + (gwσ σ x).toNat))
def unzz (v : Int64) : Int64 := (v.toUInt64 >>> ((1 : Int32).toInt64.toUInt64 &&& Int64.toUInt64 63)).toInt64 ^^^ (-(v &&& 1))
def spReadSigned (σ : dkS) (x : Int32) : Nat × Int64 × dkS := ((spReadSevens σ x).1, unzz (spReadSevens σ x).2.1, (spReadSevens σ x).2.2)
abbrev laσ (σ : dkS) (x : Int32) : Int := la (σ (rj x)).1 (σ (rj x)).2.2 (σ (rj x)).2.1
def spReadLetter (σ : dkS) (x : Int32) : Nat × Int32 × dkS :=
  if ¬ isR x then (1, 0, σ) else if laσ σ x = -1 then (2, 0, σ) else if laσ σ x = -2 then (3, 0, σ) else
  (0, nI (laσ σ x).toNat, va_up σ (rj x) ((σ (rj x)).1, (σ (rj x)).2.1, (σ (rj x)).2.2 + lwI (laσ σ x)))
def spSum (σ : dkS) (x a k : Int32) : Nat × Int32 × dkS :=
  if ¬ isR x then (1, 0, σ) else if ¬ inr (σ (rj x)).2.1 a k then (2, 0, σ) else (0, crcs (σ (rj x)).1 a.toInt.toNat k.toInt.toNat ^^^ (-1), σ)
def spRow (σ : dkS) (x z : Int32) : Nat × Int32 × dkS :=
  if ¬ isR x then (1, 0, σ) else if ¬ (0 ≤ z.toInt ∧ z.toInt ≤ 2) then (2, 0, σ) else
  (0, (if z.toInt = 0 then nI (σ (rj x)).2.1 else if z.toInt = 1 then nI (σ (rj x)).2.2 else nI ((σ (rj x)).2.1 - (σ (rj x)).2.2)), σ)
def spByteAt (σ : dkS) (x z : Int32) : Nat × Int32 × dkS :=
  if ¬ isR x then (1, 0, σ) else if ¬ (0 ≤ z.toInt ∧ z.toInt < ((σ (rj x)).2.1 : Int)) then (2, 0, σ) else (0, nI ((σ (rj x)).1 z.toInt.toNat), σ)
def spTurn (σ : dkS) (x z : Int32) : Nat × Int32 × dkS :=
  if ¬ isR x then (1, 0, σ) else if ¬ (0 ≤ z.toInt ∧ z.toInt.toNat / 8 < (σ (rj x)).2.1) then (2, 0, σ) else
  (0, nI ((σ (rj x)).1 (z.toInt.toNat / 8) ^^^ 2 ^ (z.toInt.toNat % 8)), va_up σ (rj x) (va_up (σ (rj x)).1 (z.toInt.toNat / 8) ((σ (rj x)).1 (z.toInt.toNat / 8) ^^^ 2 ^ (z.toInt.toNat % 8)), (σ (rj x)).2.1, (σ (rj x)).2.2))
