/-! WHAT EACH CALL ANSWERS AND DOES: (code, answer, rows behind it); code 0: it returns -/
abbrev isR (x : Int32) : Prop := 0 ≤ x.toInt ∧ x.toInt < 4
def rj (x : Int32) : Nat := x.toInt.toNat
/-- rows as they may be -/
def dkok (M : Nat) (σ : dkS) : Prop := M ≤ 65536 ∧ ∀ i, i < 4 → (σ i).2.2 ≤ (σ i).2.1 ∧ (σ i).2.1 ≤ M ∧ ∀ j, (σ i).1 j < 256
theorem isR_n {j : Nat} (h : j < 4) : isR (nI j) := by
  have := nI_toInt (n := j) (by omega)
  unfold isR
  omega
theorem rj_n {j : Nat} (h : j < 4) : rj (nI j) = j := by
  unfold rj
  rw [nI_toInt (by omega)]
  rfl
def uNl (v : Int64) : Nat := v.toBitVec.toNat
theorem uNl_lt (v : Int64) : uNl v < 2 ^ 64 := v.toBitVec.isLt
theorem lN_u (v : Int64) : lN (uNl v) = v := wb_inj (by rw [wb_tb]; simp [uNl])
def spFixed (M : Nat) (σ : dkS) (x : Int32) (u : Nat) (z : Int32) : Nat × Int32 × dkS :=
  if ¬ isR x then (1, 0, σ) else if ¬ (1 ≤ z.toInt ∧ z.toInt ≤ 8) then (2, 0, σ) else if M < (σ (rj x)).2.1 + z.toInt.toNat then (3, 0, σ) else
  (0, nI ((σ (rj x)).2.1 + z.toInt.toNat), va_up σ (rj x) (wr (σ (rj x)).1 (σ (rj x)).2.1 z.toInt.toNat (fb u), (σ (rj x)).2.1 + z.toInt.toNat, (σ (rj x)).2.2))
def spSevens (M : Nat) (σ : dkS) (x : Int32) (u : Nat) : Nat × Int32 × dkS :=
  if ¬ isR x then (1, 0, σ) else if M < (σ (rj x)).2.1 + sw u then (2, 0, σ) else
  (0, nI (sw u), va_up σ (rj x) (wr (σ (rj x)).1 (σ (rj x)).2.1 (sw u) (sv u), (σ (rj x)).2.1 + sw u, (σ (rj x)).2.2))
def zz (v : Int64) : Int64 := (v <<< ((1 : Int32).toInt64 &&& 63)) ^^^ (v >>> ((63 : Int32).toInt64 &&& 63))
def spLetter (M : Nat) (σ : dkS) (x c : Int32) : Nat × Int32 × dkS :=
  if ¬ isR x then (1, 0, σ) else if lwI c.toInt = 0 then (2, 0, σ) else if M < (σ (rj x)).2.1 + lwI c.toInt then (3, 0, σ) else
  (0, nI (lwI c.toInt), va_up σ (rj x) (wr (σ (rj x)).1 (σ (rj x)).2.1 (lwI c.toInt) (ltb c.toInt.toNat (lwI c.toInt)), (σ (rj x)).2.1 + lwI c.toInt, (σ (rj x)).2.2))
/-- n bytes from a on are there -/
abbrev inr (n : Nat) (a k : Int32) : Prop := 0 ≤ a.toInt ∧ 0 ≤ k.toInt ∧ a.toInt + k.toInt ≤ (n : Int)
def spCopy (M : Nat) (σ : dkS) (x f a k : Int32) : Nat × Int32 × dkS :=
  if ¬ (isR x ∧ isR f) then (1, 0, σ) else if ¬ inr (σ (rj f)).2.1 a k then (2, 0, σ) else if M < (σ (rj x)).2.1 + k.toInt.toNat then (3, 0, σ) else
  (0, nI ((σ (rj x)).2.1 + k.toInt.toNat), va_up σ (rj x) (wr (σ (rj x)).1 (σ (rj x)).2.1 k.toInt.toNat (fun i => (σ (rj f)).1 (a.toInt.toNat + i)), (σ (rj x)).2.1 + k.toInt.toNat, (σ (rj x)).2.2))
def spCut (σ : dkS) (x z : Int32) : Nat × Int32 × dkS :=
  if ¬ isR x then (1, 0, σ) else if ¬ (0 ≤ z.toInt ∧ z.toInt ≤ ((σ (rj x)).2.1 : Int)) then (2, 0, σ) else
  (0, nI (σ (rj x)).2.1, va_up σ (rj x) ((σ (rj x)).1, z.toInt.toNat, min (σ (rj x)).2.2 z.toInt.toNat))
def spPlace (σ : dkS) (x z : Int32) : Nat × Int32 × dkS :=
  if ¬ isR x then (1, 0, σ) else if ¬ (0 ≤ z.toInt ∧ z.toInt ≤ ((σ (rj x)).2.1 : Int)) then (2, 0, σ) else
  (0, nI (σ (rj x)).2.2, va_up σ (rj x) ((σ (rj x)).1, (σ (rj x)).2.1, z.toInt.toNat))
def spReadFixed (σ : dkS) (x z : Int32) : Nat × Int64 × dkS :=
  if ¬ isR x then (1, 0, σ) else if ¬ (1 ≤ z.toInt ∧ z.toInt ≤ 8) then (2, 0, σ) else if (σ (rj x)).2.1 < (σ (rj x)).2.2 + z.toInt.toNat then (3, 0, σ) else
  (0, lN (fx (σ (rj x)).1 (σ (rj x)).2.2 z.toInt.toNat), va_up σ (rj x) ((σ (rj x)).1, (σ (rj x)).2.1, (σ (rj x)).2.2 + z.toInt.toNat))
abbrev gwσ (σ : dkS) (x : Int32) : Int := gw (σ (rj x)).1 (σ (rj x)).2.2 (σ (rj x)).2.1 10
def spReadSevens (σ : dkS) (x : Int32) : Nat × Int64 × dkS :=
  if ¬ isR x then (1, 0, σ) else if gwσ σ x = -2 then (2, 0, σ) else if gwσ σ x = -3 then (3, 0, σ) else
  (0, lN (gs (σ (rj x)).1 (σ (rj x)).2.2 (gwσ σ x).toNat), va_up σ (rj x) ((σ (rj x)).1, (σ (rj x)).2.1, (σ (rj x)).2.2 + (gwσ σ x).toNat))
def unzz (v : Int64) : Int64 := (v.toUInt64 >>> ((1 : Int32).toInt64.toUInt64 &&& Int64.toUInt64 63)).toInt64 ^^^ (-(v &&& 1))
def spReadSigned (σ : dkS) (x : Int32) : Nat × Int64 × dkS := ((spReadSevens σ x).1, unzz (spReadSevens σ x).2.1, (spReadSevens σ x).2.2)
abbrev laσ (σ : dkS) (x : Int32) : Int := la (σ (rj x)).1 (σ (rj x)).2.2 (σ (rj x)).2.1
def spReadLetter (σ : dkS) (x : Int32) : Nat × Int32 × dkS :=
  if ¬ isR x then (1, 0, σ) else if laσ σ x = -1 then (2, 0, σ) else if laσ σ x = -2 then (3, 0, σ) else
  (0, nI (laσ σ x).toNat, va_up σ (rj x) ((σ (rj x)).1, (σ (rj x)).2.1, (σ (rj x)).2.2 + lwI (laσ σ x)))
def spSum (σ : dkS) (x a k : Int32) : Nat × Int32 × dkS :=
  if ¬ isR x then (1, 0, σ) else if ¬ inr (σ (rj x)).2.1 a k then (2, 0, σ) else (0, crcs (σ (rj x)).1 a.toInt.toNat k.toInt.toNat ^^^ (-1), σ)
def spRow (σ : dkS) (x z : Int32) : Nat × Int32 × dkS :=
  if ¬ isR x then (1, 0, σ) else if ¬ (0 ≤ z.toInt ∧ z.toInt ≤ 2) then (2, 0, σ) else
  (0, (if z.toInt = 0 then nI (σ (rj x)).2.1 else if z.toInt = 1 then nI (σ (rj x)).2.2 else nI ((σ (rj x)).2.1 - (σ (rj x)).2.2)), σ)
def spByteAt (σ : dkS) (x z : Int32) : Nat × Int32 × dkS :=
  if ¬ isR x then (1, 0, σ) else if ¬ (0 ≤ z.toInt ∧ z.toInt < ((σ (rj x)).2.1 : Int)) then (2, 0, σ) else (0, nI ((σ (rj x)).1 z.toInt.toNat), σ)
def spTurn (σ : dkS) (x z : Int32) : Nat × Int32 × dkS :=
  if ¬ isR x then (1, 0, σ) else if ¬ (0 ≤ z.toInt ∧ z.toInt.toNat / 8 < (σ (rj x)).2.1) then (2, 0, σ) else
  (0, nI ((σ (rj x)).1 (z.toInt.toNat / 8) ^^^ 2 ^ (z.toInt.toNat % 8)), va_up σ (rj x) (va_up (σ (rj x)).1 (z.toInt.toNat / 8) ((σ (rj x)).1 (z.toInt.toNat / 8) ^^^ 2 ^ (z.toInt.toNat % 8)), (σ (rj x)).2.1, (σ (rj x)).2.2))
/-- letters from a on, before e: how many, with those before; f: the fuel -/
def lcs (B : Nat → Nat) (e : Nat) : Nat → Nat → Nat → Option Nat
  | 0, _, m => some m
  | f + 1, a, m => if e ≤ a then some m else if la B a e < 0 then none else lcs B e f (a + lwI (la B a e)) (m + 1)
def spLetters (σ : dkS) (x a k : Int32) : Nat × Int32 × dkS :=
  if ¬ isR x then (1, 0, σ) else if ¬ inr (σ (rj x)).2.1 a k then (2, 0, σ) else
  match lcs (σ (rj x)).1 (a.toInt.toNat + k.toInt.toNat) (k.toInt.toNat + 1) a.toInt.toNat 0 with
  | none => (2, 0, σ)
  | some m => (0, nI m, σ)
/-- bytes behind a head of w bytes h, then k bytes g -/
abbrev wr2 (B : Nat → Nat) (n w : Nat) (h : Nat → Nat) (k : Nat) (g : Nat → Nat) : Nat → Nat := wr (wr B n w h) (n + w) k g
def spBlock (M : Nat) (σ : dkS) (x f : Int32) : Nat × Int32 × dkS :=
  if ¬ (isR x ∧ isR f) then (1, 0, σ) else if M < (σ (rj x)).2.1 + (sw (σ (rj f)).2.1 + (σ (rj f)).2.1) then (2, 0, σ) else
  (0, nI (sw (σ (rj f)).2.1 + (σ (rj f)).2.1), va_up σ (rj x) (wr2 (σ (rj x)).1 (σ (rj x)).2.1 (sw (σ (rj f)).2.1) (sv (σ (rj f)).2.1) (σ (rj f)).2.1 (σ (rj f)).1, (σ (rj x)).2.1 + sw (σ (rj f)).2.1 + (σ (rj f)).2.1, (σ (rj x)).2.2))
/-- the sum of k bytes from a on -/
def smb (B : Nat → Nat) (a k : Nat) : Int32 := crcs B a k ^^^ (-1)
def spFrame (M : Nat) (σ : dkS) (x f : Int32) : Nat × Int32 × dkS :=
  if ¬ (isR x ∧ isR f) then (1, 0, σ) else if M < (σ (rj x)).2.1 + (sw (σ (rj f)).2.1 + 4 + (σ (rj f)).2.1) then (2, 0, σ) else
  (0, nI (sw (σ (rj f)).2.1 + 4 + (σ (rj f)).2.1), va_up σ (rj x) (wr (wr2 (σ (rj x)).1 (σ (rj x)).2.1 (sw (σ (rj f)).2.1) (sv (σ (rj f)).2.1) 4 (fb (uNl (smb (σ (rj f)).1 0 (σ (rj f)).2.1).toInt64))) ((σ (rj x)).2.1 + sw (σ (rj f)).2.1 + 4) (σ (rj f)).2.1 (σ (rj f)).1, (σ (rj x)).2.1 + sw (σ (rj f)).2.1 + 4 + (σ (rj f)).2.1, (σ (rj x)).2.2))
/-- how many bytes the head at the place says -/
abbrev gmσ (σ : dkS) (x : Int32) : Nat := gs (σ (rj x)).1 (σ (rj x)).2.2 (gwσ σ x).toNat
/-- the rows behind a block or frame that was read: w bytes of head, then the bytes -/
def mvσ (σ : dkS) (x t : Int32) (w : Nat) : dkS :=
  va_up (va_up σ (rj x) ((σ (rj x)).1, (σ (rj x)).2.1, (σ (rj x)).2.2 + w + gmσ σ x)) (rj t) (wr (σ (rj t)).1 0 (gmσ σ x) (fun i => (σ (rj x)).1 ((σ (rj x)).2.2 + w + i)), gmσ σ x, 0)
def spReadBlock (σ : dkS) (x t : Int32) : Nat × Int32 × dkS :=
  if ¬ (isR x ∧ isR t) then (1, 0, σ) else if x = t then (2, 0, σ) else if gwσ σ x = -2 then (2, 0, σ) else if gwσ σ x = -3 then (3, 0, σ) else
  if 65536 < gmσ σ x then (2, 0, σ) else if (σ (rj x)).2.1 < (σ (rj x)).2.2 + ((gwσ σ x).toNat + gmσ σ x) then (3, 0, σ) else
  (0, nI (gmσ σ x), mvσ σ x t (gwσ σ x).toNat)
def spReadFrame (σ : dkS) (x t : Int32) : Nat × Int32 × dkS :=
  if ¬ (isR x ∧ isR t) then (1, 0, σ) else if x = t then (2, 0, σ) else if gwσ σ x = -2 then (2, 0, σ) else if gwσ σ x = -3 then (3, 0, σ) else
  if 65536 < gmσ σ x then (2, 0, σ) else if (σ (rj x)).2.1 < (σ (rj x)).2.2 + ((gwσ σ x).toNat + 4 + gmσ σ x) then (3, 0, σ) else
  if ¬ (lN (fx (σ (rj x)).1 ((σ (rj x)).2.2 + (gwσ σ x).toNat) 4)).toInt32 = smb (σ (rj x)).1 ((σ (rj x)).2.2 + ((gwσ σ x).toNat + 4)) (gmσ σ x) then (4, 0, σ) else
  (0, nI (gmσ σ x), mvσ σ x t ((gwσ σ x).toNat + 4))
def eqb (B C : Nat → Nat) : Nat → Bool
  | 0 => true
  | n + 1 => eqb B C n && (B n == C n)
theorem eqb_iff (B C : Nat → Nat) (n : Nat) : eqb B C n = true ↔ ∀ i, i < n → B i = C i := by
  induction n with
  | zero => exact ⟨fun _ i h => absurd h (by omega), fun _ => rfl⟩
  | succ n ih =>
    unfold eqb
    rw [Bool.and_eq_true, ih, beq_iff_eq]
    constructor
    · rintro ⟨h1, h2⟩ i hi
      rcases Nat.lt_or_ge i n with q | q
      · exact h1 i q
      · rw [show i = n by omega]; exact h2
    · exact fun h => ⟨fun i hi => h i (by omega), h n (by omega)⟩
def spSame (σ : dkS) (x f : Int32) : Nat × Int32 × dkS :=
  if ¬ (isR x ∧ isR f) then (1, 0, σ) else (0, (if (σ (rj x)).2.1 = (σ (rj f)).2.1 ∧ eqb (σ (rj x)).1 (σ (rj f)).1 (σ (rj x)).2.1 = true then 1 else 0), σ)
