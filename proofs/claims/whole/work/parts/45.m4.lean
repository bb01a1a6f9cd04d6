/-! THE REFERENCE: A LETTER'S BYTES -/
theorem lt8_0 {B : Nat → Nat} {a e : Nat} (hB : ∀ j, B j < 256) (h : a < e) (h1 : 128 ≤ B a) (h2 : B a < 192 ∨ 248 ≤ B a) : la B a e = -1 := by
  have g0 := hB a
  have g1 := hB (a + 1)
  have g2 := hB (a + 2)
  have g3 := hB (a + 3)
  unfold la
  (repeat' split) <;> omega
theorem lt8_2b1 {B : Nat → Nat} {a e : Nat} (hB : ∀ j, B j < 256) (h : a < e) (h1 : 192 ≤ B a) (h2 : B a < 224) (bb : ¬ cbP 2 ((B a - 192) * 64) ((B a - 192) * 64 + 63)) : la B a e = -1 := by
  have g0 := hB a
  have g1 := hB (a + 1)
  have g2 := hB (a + 2)
  have g3 := hB (a + 3)
  unfold cbP at *
  unfold la
  (repeat' split) <;> omega
theorem lt8_2e1 {B : Nat → Nat} {a e : Nat} (hB : ∀ j, B j < 256) (h : a < e) (h1 : 192 ≤ B a) (h2 : B a < 224) (b1 : cbP 2 ((B a - 192) * 64) ((B a - 192) * 64 + 63)) (ee : e ≤ a + 1) : la B a e = -2 := by
  have g0 := hB a
  have g1 := hB (a + 1)
  have g2 := hB (a + 2)
  have g3 := hB (a + 3)
  unfold cbP at *
  unfold la
  (repeat' split) <;> omega
theorem lt8_2c1 {B : Nat → Nat} {a e : Nat} (hB : ∀ j, B j < 256) (h : a < e) (h1 : 192 ≤ B a) (h2 : B a < 224) (b1 : cbP 2 ((B a - 192) * 64) ((B a - 192) * 64 + 63)) (e1 : a + 1 < e) (qq : ¬ B (a + 1) / 64 = 2) : la B a e = -1 := by
  have g0 := hB a
  have g1 := hB (a + 1)
  have g2 := hB (a + 2)
  have g3 := hB (a + 3)
  unfold cbP at *
  unfold la
  (repeat' split) <;> omega
theorem lt8_2t2 {B : Nat → Nat} {a e : Nat} (hB : ∀ j, B j < 256) (h : a < e) (h1 : 192 ≤ B a) (h2 : B a < 224) (b1 : cbP 2 ((B a - 192) * 64) ((B a - 192) * 64 + 63)) (e1 : a + 1 < e) (q1 : B (a + 1) / 64 = 2) : cbP 2 ((64 * (B a - 192) + B (a + 1) % 64) * 1) ((64 * (B a - 192) + B (a + 1) % 64) * 1 + 0) := by
  have g0 := hB a
  have g1 := hB (a + 1)
  have g2 := hB (a + 2)
  have g3 := hB (a + 3)
  unfold cbP at *
  omega
theorem lt8_2g {B : Nat → Nat} {a e : Nat} (hB : ∀ j, B j < 256) (h : a < e) (h1 : 192 ≤ B a) (h2 : B a < 224) (b1 : cbP 2 ((B a - 192) * 64) ((B a - 192) * 64 + 63)) (e1 : a + 1 < e) (q1 : B (a + 1) / 64 = 2) (b2 : cbP 2 ((64 * (B a - 192) + B (a + 1) % 64) * 1) ((64 * (B a - 192) + B (a + 1) % 64) * 1 + 0)) : la B a e = (((64 * (B a - 192) + B (a + 1) % 64) : Nat) : Int) := by
  have g0 := hB a
  have g1 := hB (a + 1)
  have g2 := hB (a + 2)
  have g3 := hB (a + 3)
  unfold cbP at *
  unfold la
  (repeat' split) <;> omega
theorem lt8_2w {B : Nat → Nat} {a e : Nat} (hB : ∀ j, B j < 256) (h : a < e) (h1 : 192 ≤ B a) (h2 : B a < 224) (b1 : cbP 2 ((B a - 192) * 64) ((B a - 192) * 64 + 63)) (e1 : a + 1 < e) (q1 : B (a + 1) / 64 = 2) (b2 : cbP 2 ((64 * (B a - 192) + B (a + 1) % 64) * 1) ((64 * (B a - 192) + B (a + 1) % 64) * 1 + 0)) : lwI (((64 * (B a - 192) + B (a + 1) % 64) : Nat) : Int) = 2 := by
  have g0 := hB a
  have g1 := hB (a + 1)
  have g2 := hB (a + 2)
  have g3 := hB (a + 3)
  unfold cbP at *
  exact (lwI_2 _).mpr (by omega)
theorem lt8_3t1 {B : Nat → Nat} {a e : Nat} (hB : ∀ j, B j < 256) (h : a < e) (h1 : 224 ≤ B a) (h2 : B a < 240) : cbP 3 ((B a - 224) * 4096) ((B a - 224) * 4096 + 4095) := by
  have g0 := hB a
  have g1 := hB (a + 1)
  have g2 := hB (a + 2)
  have g3 := hB (a + 3)
  unfold cbP at *
  omega
theorem lt8_3e1 {B : Nat → Nat} {a e : Nat} (hB : ∀ j, B j < 256) (h : a < e) (h1 : 224 ≤ B a) (h2 : B a < 240) (b1 : cbP 3 ((B a - 224) * 4096) ((B a - 224) * 4096 + 4095)) (ee : e ≤ a + 1) : la B a e = -2 := by
  have g0 := hB a
  have g1 := hB (a + 1)
  have g2 := hB (a + 2)
  have g3 := hB (a + 3)
  unfold cbP at *
  unfold la
  (repeat' split) <;> omega
theorem lt8_3c1 {B : Nat → Nat} {a e : Nat} (hB : ∀ j, B j < 256) (h : a < e) (h1 : 224 ≤ B a) (h2 : B a < 240) (b1 : cbP 3 ((B a - 224) * 4096) ((B a - 224) * 4096 + 4095)) (e1 : a + 1 < e) (qq : ¬ B (a + 1) / 64 = 2) : la B a e = -1 := by
  have g0 := hB a
  have g1 := hB (a + 1)
  have g2 := hB (a + 2)
  have g3 := hB (a + 3)
  unfold cbP at *
  unfold la
  (repeat' split) <;> omega
theorem lt8_3b2 {B : Nat → Nat} {a e : Nat} (hB : ∀ j, B j < 256) (h : a < e) (h1 : 224 ≤ B a) (h2 : B a < 240) (b1 : cbP 3 ((B a - 224) * 4096) ((B a - 224) * 4096 + 4095)) (e1 : a + 1 < e) (q1 : B (a + 1) / 64 = 2) (bb : ¬ cbP 3 ((64 * (B a - 224) + B (a + 1) % 64) * 64) ((64 * (B a - 224) + B (a + 1) % 64) * 64 + 63)) : la B a e = -1 := by
  have g0 := hB a
  have g1 := hB (a + 1)
  have g2 := hB (a + 2)
  have g3 := hB (a + 3)
  unfold cbP at *
  unfold la
  (repeat' split) <;> omega
theorem lt8_3e2 {B : Nat → Nat} {a e : Nat} (hB : ∀ j, B j < 256) (h : a < e) (h1 : 224 ≤ B a) (h2 : B a < 240) (b1 : cbP 3 ((B a - 224) * 4096) ((B a - 224) * 4096 + 4095)) (e1 : a + 1 < e) (q1 : B (a + 1) / 64 = 2) (b2 : cbP 3 ((64 * (B a - 224) + B (a + 1) % 64) * 64) ((64 * (B a - 224) + B (a + 1) % 64) * 64 + 63)) (ee : e ≤ a + 2) : la B a e = -2 := by
  have g0 := hB a
  have g1 := hB (a + 1)
  have g2 := hB (a + 2)
  have g3 := hB (a + 3)
  unfold cbP at *
  unfold la
  (repeat' split) <;> omega
theorem lt8_3c2 {B : Nat → Nat} {a e : Nat} (hB : ∀ j, B j < 256) (h : a < e) (h1 : 224 ≤ B a) (h2 : B a < 240) (b1 : cbP 3 ((B a - 224) * 4096) ((B a - 224) * 4096 + 4095)) (e1 : a + 1 < e) (q1 : B (a + 1) / 64 = 2) (b2 : cbP 3 ((64 * (B a - 224) + B (a + 1) % 64) * 64) ((64 * (B a - 224) + B (a + 1) % 64) * 64 + 63)) (e2 : a + 2 < e) (qq : ¬ B (a + 2) / 64 = 2) : la B a e = -1 := by
  have g0 := hB a
  have g1 := hB (a + 1)
  have g2 := hB (a + 2)
  have g3 := hB (a + 3)
  unfold cbP at *
  unfold la
  (repeat' split) <;> omega
theorem lt8_3t3 {B : Nat → Nat} {a e : Nat} (hB : ∀ j, B j < 256) (h : a < e) (h1 : 224 ≤ B a) (h2 : B a < 240) (b1 : cbP 3 ((B a - 224) * 4096) ((B a - 224) * 4096 + 4095)) (e1 : a + 1 < e) (q1 : B (a + 1) / 64 = 2) (b2 : cbP 3 ((64 * (B a - 224) + B (a + 1) % 64) * 64) ((64 * (B a - 224) + B (a + 1) % 64) * 64 + 63)) (e2 : a + 2 < e) (q2 : B (a + 2) / 64 = 2) : cbP 3 ((64 * (64 * (B a - 224) + B (a + 1) % 64) + B (a + 2) % 64) * 1) ((64 * (64 * (B a - 224) + B (a + 1) % 64) + B (a + 2) % 64) * 1 + 0) := by
  have g0 := hB a
  have g1 := hB (a + 1)
  have g2 := hB (a + 2)
  have g3 := hB (a + 3)
  unfold cbP at *
  omega
theorem lt8_3g {B : Nat → Nat} {a e : Nat} (hB : ∀ j, B j < 256) (h : a < e) (h1 : 224 ≤ B a) (h2 : B a < 240) (b1 : cbP 3 ((B a - 224) * 4096) ((B a - 224) * 4096 + 4095)) (e1 : a + 1 < e) (q1 : B (a + 1) / 64 = 2) (b2 : cbP 3 ((64 * (B a - 224) + B (a + 1) % 64) * 64) ((64 * (B a - 224) + B (a + 1) % 64) * 64 + 63)) (e2 : a + 2 < e) (q2 : B (a + 2) / 64 = 2) (b3 : cbP 3 ((64 * (64 * (B a - 224) + B (a + 1) % 64) + B (a + 2) % 64) * 1) ((64 * (64 * (B a - 224) + B (a + 1) % 64) + B (a + 2) % 64) * 1 + 0)) : la B a e = (((64 * (64 * (B a - 224) + B (a + 1) % 64) + B (a + 2) % 64) : Nat) : Int) := by
  have g0 := hB a
  have g1 := hB (a + 1)
  have g2 := hB (a + 2)
  have g3 := hB (a + 3)
  unfold cbP at *
  unfold la
  (repeat' split) <;> omega
theorem lt8_3w {B : Nat → Nat} {a e : Nat} (hB : ∀ j, B j < 256) (h : a < e) (h1 : 224 ≤ B a) (h2 : B a < 240) (b1 : cbP 3 ((B a - 224) * 4096) ((B a - 224) * 4096 + 4095)) (e1 : a + 1 < e) (q1 : B (a + 1) / 64 = 2) (b2 : cbP 3 ((64 * (B a - 224) + B (a + 1) % 64) * 64) ((64 * (B a - 224) + B (a + 1) % 64) * 64 + 63)) (e2 : a + 2 < e) (q2 : B (a + 2) / 64 = 2) (b3 : cbP 3 ((64 * (64 * (B a - 224) + B (a + 1) % 64) + B (a + 2) % 64) * 1) ((64 * (64 * (B a - 224) + B (a + 1) % 64) + B (a + 2) % 64) * 1 + 0)) : lwI (((64 * (64 * (B a - 224) + B (a + 1) % 64) + B (a + 2) % 64) : Nat) : Int) = 3 := by
  have g0 := hB a
  have g1 := hB (a + 1)
  have g2 := hB (a + 2)
  have g3 := hB (a + 3)
  unfold cbP at *
  exact (lwI_3 _).mpr (by omega)
theorem lt8_4b1 {B : Nat → Nat} {a e : Nat} (hB : ∀ j, B j < 256) (h : a < e) (h1 : 240 ≤ B a) (h2 : B a < 248) (bb : ¬ cbP 4 ((B a - 240) * 262144) ((B a - 240) * 262144 + 262143)) : la B a e = -1 := by
  have g0 := hB a
  have g1 := hB (a + 1)
  have g2 := hB (a + 2)
  have g3 := hB (a + 3)
  unfold cbP at *
  unfold la
  (repeat' split) <;> omega
theorem lt8_4e1 {B : Nat → Nat} {a e : Nat} (hB : ∀ j, B j < 256) (h : a < e) (h1 : 240 ≤ B a) (h2 : B a < 248) (b1 : cbP 4 ((B a - 240) * 262144) ((B a - 240) * 262144 + 262143)) (ee : e ≤ a + 1) : la B a e = -2 := by
  have g0 := hB a
  have g1 := hB (a + 1)
  have g2 := hB (a + 2)
  have g3 := hB (a + 3)
  unfold cbP at *
  unfold la
  (repeat' split) <;> omega
theorem lt8_4c1 {B : Nat → Nat} {a e : Nat} (hB : ∀ j, B j < 256) (h : a < e) (h1 : 240 ≤ B a) (h2 : B a < 248) (b1 : cbP 4 ((B a - 240) * 262144) ((B a - 240) * 262144 + 262143)) (e1 : a + 1 < e) (qq : ¬ B (a + 1) / 64 = 2) : la B a e = -1 := by
  have g0 := hB a
  have g1 := hB (a + 1)
  have g2 := hB (a + 2)
  have g3 := hB (a + 3)
  unfold cbP at *
  unfold la
  (repeat' split) <;> omega
theorem lt8_4b2 {B : Nat → Nat} {a e : Nat} (hB : ∀ j, B j < 256) (h : a < e) (h1 : 240 ≤ B a) (h2 : B a < 248) (b1 : cbP 4 ((B a - 240) * 262144) ((B a - 240) * 262144 + 262143)) (e1 : a + 1 < e) (q1 : B (a + 1) / 64 = 2) (bb : ¬ cbP 4 ((64 * (B a - 240) + B (a + 1) % 64) * 4096) ((64 * (B a - 240) + B (a + 1) % 64) * 4096 + 4095)) : la B a e = -1 := by
  have g0 := hB a
  have g1 := hB (a + 1)
  have g2 := hB (a + 2)
  have g3 := hB (a + 3)
  unfold cbP at *
  unfold la
  (repeat' split) <;> omega
theorem lt8_4e2 {B : Nat → Nat} {a e : Nat} (hB : ∀ j, B j < 256) (h : a < e) (h1 : 240 ≤ B a) (h2 : B a < 248) (b1 : cbP 4 ((B a - 240) * 262144) ((B a - 240) * 262144 + 262143)) (e1 : a + 1 < e) (q1 : B (a + 1) / 64 = 2) (b2 : cbP 4 ((64 * (B a - 240) + B (a + 1) % 64) * 4096) ((64 * (B a - 240) + B (a + 1) % 64) * 4096 + 4095)) (ee : e ≤ a + 2) : la B a e = -2 := by
  have g0 := hB a
  have g1 := hB (a + 1)
  have g2 := hB (a + 2)
  have g3 := hB (a + 3)
  unfold cbP at *
  unfold la
  (repeat' split) <;> omega
theorem lt8_4c2 {B : Nat → Nat} {a e : Nat} (hB : ∀ j, B j < 256) (h : a < e) (h1 : 240 ≤ B a) (h2 : B a < 248) (b1 : cbP 4 ((B a - 240) * 262144) ((B a - 240) * 262144 + 262143)) (e1 : a + 1 < e) (q1 : B (a + 1) / 64 = 2) (b2 : cbP 4 ((64 * (B a - 240) + B (a + 1) % 64) * 4096) ((64 * (B a - 240) + B (a + 1) % 64) * 4096 + 4095)) (e2 : a + 2 < e) (qq : ¬ B (a + 2) / 64 = 2) : la B a e = -1 := by
  have g0 := hB a
  have g1 := hB (a + 1)
  have g2 := hB (a + 2)
  have g3 := hB (a + 3)
  unfold cbP at *
  unfold la
  (repeat' split) <;> omega
theorem lt8_4t3 {B : Nat → Nat} {a e : Nat} (hB : ∀ j, B j < 256) (h : a < e) (h1 : 240 ≤ B a) (h2 : B a < 248) (b1 : cbP 4 ((B a - 240) * 262144) ((B a - 240) * 262144 + 262143)) (e1 : a + 1 < e) (q1 : B (a + 1) / 64 = 2) (b2 : cbP 4 ((64 * (B a - 240) + B (a + 1) % 64) * 4096) ((64 * (B a - 240) + B (a + 1) % 64) * 4096 + 4095)) (e2 : a + 2 < e) (q2 : B (a + 2) / 64 = 2) : cbP 4 ((64 * (64 * (B a - 240) + B (a + 1) % 64) + B (a + 2) % 64) * 64) ((64 * (64 * (B a - 240) + B (a + 1) % 64) + B (a + 2) % 64) * 64 + 63) := by
  have g0 := hB a
  have g1 := hB (a + 1)
  have g2 := hB (a + 2)
  have g3 := hB (a + 3)
  unfold cbP at *
  omega
theorem lt8_4e3 {B : Nat → Nat} {a e : Nat} (hB : ∀ j, B j < 256) (h : a < e) (h1 : 240 ≤ B a) (h2 : B a < 248) (b1 : cbP 4 ((B a - 240) * 262144) ((B a - 240) * 262144 + 262143)) (e1 : a + 1 < e) (q1 : B (a + 1) / 64 = 2) (b2 : cbP 4 ((64 * (B a - 240) + B (a + 1) % 64) * 4096) ((64 * (B a - 240) + B (a + 1) % 64) * 4096 + 4095)) (e2 : a + 2 < e) (q2 : B (a + 2) / 64 = 2) (b3 : cbP 4 ((64 * (64 * (B a - 240) + B (a + 1) % 64) + B (a + 2) % 64) * 64) ((64 * (64 * (B a - 240) + B (a + 1) % 64) + B (a + 2) % 64) * 64 + 63)) (ee : e ≤ a + 3) : la B a e = -2 := by
  have g0 := hB a
  have g1 := hB (a + 1)
  have g2 := hB (a + 2)
  have g3 := hB (a + 3)
  unfold cbP at *
  unfold la
  (repeat' split) <;> omega
theorem lt8_4c3 {B : Nat → Nat} {a e : Nat} (hB : ∀ j, B j < 256) (h : a < e) (h1 : 240 ≤ B a) (h2 : B a < 248) (b1 : cbP 4 ((B a - 240) * 262144) ((B a - 240) * 262144 + 262143)) (e1 : a + 1 < e) (q1 : B (a + 1) / 64 = 2) (b2 : cbP 4 ((64 * (B a - 240) + B (a + 1) % 64) * 4096) ((64 * (B a - 240) + B (a + 1) % 64) * 4096 + 4095)) (e2 : a + 2 < e) (q2 : B (a + 2) / 64 = 2) (b3 : cbP 4 ((64 * (64 * (B a - 240) + B (a + 1) % 64) + B (a + 2) % 64) * 64) ((64 * (64 * (B a - 240) + B (a + 1) % 64) + B (a + 2) % 64) * 64 + 63)) (e3 : a + 3 < e) (qq : ¬ B (a + 3) / 64 = 2) : la B a e = -1 := by
  have g0 := hB a
  have g1 := hB (a + 1)
  have g2 := hB (a + 2)
  have g3 := hB (a + 3)
  unfold cbP at *
  unfold la
  (repeat' split) <;> omega
theorem lt8_4t4 {B : Nat → Nat} {a e : Nat} (hB : ∀ j, B j < 256) (h : a < e) (h1 : 240 ≤ B a) (h2 : B a < 248) (b1 : cbP 4 ((B a - 240) * 262144) ((B a - 240) * 262144 + 262143)) (e1 : a + 1 < e) (q1 : B (a + 1) / 64 = 2) (b2 : cbP 4 ((64 * (B a - 240) + B (a + 1) % 64) * 4096) ((64 * (B a - 240) + B (a + 1) % 64) * 4096 + 4095)) (e2 : a + 2 < e) (q2 : B (a + 2) / 64 = 2) (b3 : cbP 4 ((64 * (64 * (B a - 240) + B (a + 1) % 64) + B (a + 2) % 64) * 64) ((64 * (64 * (B a - 240) + B (a + 1) % 64) + B (a + 2) % 64) * 64 + 63)) (e3 : a + 3 < e) (q3 : B (a + 3) / 64 = 2) : cbP 4 ((64 * (64 * (64 * (B a - 240) + B (a + 1) % 64) + B (a + 2) % 64) + B (a + 3) % 64) * 1) ((64 * (64 * (64 * (B a - 240) + B (a + 1) % 64) + B (a + 2) % 64) + B (a + 3) % 64) * 1 + 0) := by
  have g0 := hB a
  have g1 := hB (a + 1)
  have g2 := hB (a + 2)
  have g3 := hB (a + 3)
  unfold cbP at *
  omega
theorem lt8_4g {B : Nat → Nat} {a e : Nat} (hB : ∀ j, B j < 256) (h : a < e) (h1 : 240 ≤ B a) (h2 : B a < 248) (b1 : cbP 4 ((B a - 240) * 262144) ((B a - 240) * 262144 + 262143)) (e1 : a + 1 < e) (q1 : B (a + 1) / 64 = 2) (b2 : cbP 4 ((64 * (B a - 240) + B (a + 1) % 64) * 4096) ((64 * (B a - 240) + B (a + 1) % 64) * 4096 + 4095)) (e2 : a + 2 < e) (q2 : B (a + 2) / 64 = 2) (b3 : cbP 4 ((64 * (64 * (B a - 240) + B (a + 1) % 64) + B (a + 2) % 64) * 64) ((64 * (64 * (B a - 240) + B (a + 1) % 64) + B (a + 2) % 64) * 64 + 63)) (e3 : a + 3 < e) (q3 : B (a + 3) / 64 = 2) (b4 : cbP 4 ((64 * (64 * (64 * (B a - 240) + B (a + 1) % 64) + B (a + 2) % 64) + B (a + 3) % 64) * 1) ((64 * (64 * (64 * (B a - 240) + B (a + 1) % 64) + B (a + 2) % 64) + B (a + 3) % 64) * 1 + 0)) : la B a e = (((64 * (64 * (64 * (B a - 240) + B (a + 1) % 64) + B (a + 2) % 64) + B (a + 3) % 64) : Nat) : Int) := by
  have g0 := hB a
  have g1 := hB (a + 1)
  have g2 := hB (a + 2)
  have g3 := hB (a + 3)
  unfold cbP at *
  unfold la
  (repeat' split) <;> omega
theorem lt8_4w {B : Nat → Nat} {a e : Nat} (hB : ∀ j, B j < 256) (h : a < e) (h1 : 240 ≤ B a) (h2 : B a < 248) (b1 : cbP 4 ((B a - 240) * 262144) ((B a - 240) * 262144 + 262143)) (e1 : a + 1 < e) (q1 : B (a + 1) / 64 = 2) (b2 : cbP 4 ((64 * (B a - 240) + B (a + 1) % 64) * 4096) ((64 * (B a - 240) + B (a + 1) % 64) * 4096 + 4095)) (e2 : a + 2 < e) (q2 : B (a + 2) / 64 = 2) (b3 : cbP 4 ((64 * (64 * (B a - 240) + B (a + 1) % 64) + B (a + 2) % 64) * 64) ((64 * (64 * (B a - 240) + B (a + 1) % 64) + B (a + 2) % 64) * 64 + 63)) (e3 : a + 3 < e) (q3 : B (a + 3) / 64 = 2) (b4 : cbP 4 ((64 * (64 * (64 * (B a - 240) + B (a + 1) % 64) + B (a + 2) % 64) + B (a + 3) % 64) * 1) ((64 * (64 * (64 * (B a - 240) + B (a + 1) % 64) + B (a + 2) % 64) + B (a + 3) % 64) * 1 + 0)) : lwI (((64 * (64 * (64 * (B a - 240) + B (a + 1) % 64) + B (a + 2) % 64) + B (a + 3) % 64) : Nat) : Int) = 4 := by
  have g0 := hB a
  have g1 := hB (a + 1)
  have g2 := hB (a + 2)
  have g3 := hB (a + 3)
  unfold cbP at *
  exact (lwI_4 _).mpr (by omega)
