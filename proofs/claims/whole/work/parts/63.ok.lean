/-! WHAT EVERY CALL KEEPS -/
theorem dkok_up {M : Nat} {σ : dkS} (k : Nat) {B : Nat → Nat} {n p : Nat} (hσ : dkok M σ) (hp : p ≤ n) (hn : n ≤ M) (hB : ∀ j, B j < 256) : dkok M (va_up σ k (B, n, p)) := by
  refine ⟨hσ.1, fun i hi => ?_⟩
  by_cases h : i = k
  · subst h
    rw [up_s]
    exact ⟨hp, hn, hB⟩
  · rw [up_n _ h]
    exact hσ.2 i hi
theorem rj_lt {x : Int32} (h : isR x) : rj x < 4 := by
  unfold rj
  unfold isR at h
  omega
theorem sv_lt2 (u i : Nat) : sv u i < 256 := sv_lt u i
theorem ne_spFixed {M : Nat} {σ : dkS} {x : Int32} {u : Nat} {z : Int32} (h : ¬ (spFixed M σ x u z).1 = 0) : (spFixed M σ x u z).2.2 = σ := by
  revert h
  unfold spFixed
  (repeat' split) <;> first | (intro _; rfl) | (intro h; exact absurd rfl h)
theorem ne_spSevens {M : Nat} {σ : dkS} {x : Int32} {u : Nat} (h : ¬ (spSevens M σ x u).1 = 0) : (spSevens M σ x u).2.2 = σ := by
  revert h
  unfold spSevens
  (repeat' split) <;> first | (intro _; rfl) | (intro h; exact absurd rfl h)
theorem ne_spLetter {M : Nat} {σ : dkS} {x c : Int32} (h : ¬ (spLetter M σ x c).1 = 0) : (spLetter M σ x c).2.2 = σ := by
  revert h
  unfold spLetter
  (repeat' split) <;> first | (intro _; rfl) | (intro h; exact absurd rfl h)
theorem ne_spCopy {M : Nat} {σ : dkS} {x f a k : Int32} (h : ¬ (spCopy M σ x f a k).1 = 0) : (spCopy M σ x f a k).2.2 = σ := by
  revert h
  unfold spCopy
  (repeat' split) <;> first | (intro _; rfl) | (intro h; exact absurd rfl h)
theorem ne_spBlock {M : Nat} {σ : dkS} {x f : Int32} (h : ¬ (spBlock M σ x f).1 = 0) : (spBlock M σ x f).2.2 = σ := by
  revert h
  unfold spBlock
  (repeat' split) <;> first | (intro _; rfl) | (intro h; exact absurd rfl h)
theorem ne_spFrame {M : Nat} {σ : dkS} {x f : Int32} (h : ¬ (spFrame M σ x f).1 = 0) : (spFrame M σ x f).2.2 = σ := by
  revert h
  unfold spFrame
  (repeat' split) <;> first | (intro _; rfl) | (intro h; exact absurd rfl h)
theorem ne_spCut {σ : dkS} {x z : Int32} (h : ¬ (spCut σ x z).1 = 0) : (spCut σ x z).2.2 = σ := by
  revert h
  unfold spCut
  (repeat' split) <;> first | (intro _; rfl) | (intro h; exact absurd rfl h)
theorem ne_spTurn {σ : dkS} {x z : Int32} (h : ¬ (spTurn σ x z).1 = 0) : (spTurn σ x z).2.2 = σ := by
  revert h
  unfold spTurn
  (repeat' split) <;> first | (intro _; rfl) | (intro h; exact absurd rfl h)
theorem ne_spPlace {σ : dkS} {x z : Int32} (h : ¬ (spPlace σ x z).1 = 0) : (spPlace σ x z).2.2 = σ := by
  revert h
  unfold spPlace
  (repeat' split) <;> first | (intro _; rfl) | (intro h; exact absurd rfl h)
theorem ne_spReadFixed {σ : dkS} {x z : Int32} (h : ¬ (spReadFixed σ x z).1 = 0) : (spReadFixed σ x z).2.2 = σ := by
  revert h
  unfold spReadFixed
  (repeat' split) <;> first | (intro _; rfl) | (intro h; exact absurd rfl h)
theorem ne_spReadSevens {σ : dkS} {x : Int32} (h : ¬ (spReadSevens σ x).1 = 0) : (spReadSevens σ x).2.2 = σ := by
  revert h
  unfold spReadSevens
  (repeat' split) <;> first | (intro _; rfl) | (intro h; exact absurd rfl h)
theorem ne_spReadSigned {σ : dkS} {x : Int32} (h : ¬ (spReadSigned σ x).1 = 0) : (spReadSigned σ x).2.2 = σ := ne_spReadSevens (σ := σ) (x := x) h
theorem ne_spReadLetter {σ : dkS} {x : Int32} (h : ¬ (spReadLetter σ x).1 = 0) : (spReadLetter σ x).2.2 = σ := by
  revert h
  unfold spReadLetter
  (repeat' split) <;> first | (intro _; rfl) | (intro h; exact absurd rfl h)
theorem ne_spReadBlock {σ : dkS} {x t : Int32} (h : ¬ (spReadBlock σ x t).1 = 0) : (spReadBlock σ x t).2.2 = σ := by
  revert h
  unfold spReadBlock
  (repeat' split) <;> first | (intro _; rfl) | (intro h; exact absurd rfl h)
theorem ne_spReadFrame {σ : dkS} {x t : Int32} (h : ¬ (spReadFrame σ x t).1 = 0) : (spReadFrame σ x t).2.2 = σ := by
  revert h
  unfold spReadFrame
  (repeat' split) <;> first | (intro _; rfl) | (intro h; exact absurd rfl h)
theorem ne_spLetters {σ : dkS} {x a k : Int32} (h : ¬ (spLetters σ x a k).1 = 0) : (spLetters σ x a k).2.2 = σ := by
  revert h
  unfold spLetters
  (repeat' split) <;> first | (intro _; rfl) | (intro h; exact absurd rfl h)
theorem ne_spSum {σ : dkS} {x a k : Int32} (h : ¬ (spSum σ x a k).1 = 0) : (spSum σ x a k).2.2 = σ := by
  revert h
  unfold spSum
  (repeat' split) <;> first | (intro _; rfl) | (intro h; exact absurd rfl h)
theorem ne_spSame {σ : dkS} {x f : Int32} (h : ¬ (spSame σ x f).1 = 0) : (spSame σ x f).2.2 = σ := by
  revert h
  unfold spSame
  (repeat' split) <;> first | (intro _; rfl) | (intro h; exact absurd rfl h)
theorem ne_spRow {σ : dkS} {x z : Int32} (h : ¬ (spRow σ x z).1 = 0) : (spRow σ x z).2.2 = σ := by
  revert h
  unfold spRow
  (repeat' split) <;> first | (intro _; rfl) | (intro h; exact absurd rfl h)
theorem ne_spByteAt {σ : dkS} {x z : Int32} (h : ¬ (spByteAt σ x z).1 = 0) : (spByteAt σ x z).2.2 = σ := by
  revert h
  unfold spByteAt
  (repeat' split) <;> first | (intro _; rfl) | (intro h; exact absurd rfl h)
theorem ok_spFixed {M : Nat} {σ : dkS} (x : Int32) (u : Nat) (z : Int32) (hσ : dkok M σ) : dkok M (spFixed M σ x u z).2.2 := by
  have hM := hσ.1
  unfold spFixed
  split
  · exact hσ
  rename_i hR
  have hR := Classical.not_not.mp hR
  have hr := hσ.2 (rj x) (rj_lt hR)
  split
  · exact hσ
  rename_i q0
  split
  · exact hσ
  rename_i q1
  exact dkok_up _ hσ (by omega) (by omega) (wr_lt hr.2.2 (fun _ _ => fb_lt _ _))
theorem ok_spSevens {M : Nat} {σ : dkS} (x : Int32) (u : Nat) (hσ : dkok M σ) : dkok M (spSevens M σ x u).2.2 := by
  have hM := hσ.1
  unfold spSevens
  split
  · exact hσ
  rename_i hR
  have hR := Classical.not_not.mp hR
  have hr := hσ.2 (rj x) (rj_lt hR)
  split
  · exact hσ
  rename_i q0
  exact dkok_up _ hσ (by omega) (by omega) (wr_lt hr.2.2 (fun _ _ => sv_lt _ _))
theorem ok_spLetter {M : Nat} {σ : dkS} (x c : Int32) (hσ : dkok M σ) : dkok M (spLetter M σ x c).2.2 := by
  have hM := hσ.1
  unfold spLetter
  split
  · exact hσ
  rename_i hR
  have hR := Classical.not_not.mp hR
  have hr := hσ.2 (rj x) (rj_lt hR)
  split
  · exact hσ
  rename_i q0
  split
  · exact hσ
  rename_i q1
  have h4 := lwI_le c.toInt
  have hc0 : 0 ≤ c.toInt ∧ c.toInt ≤ 1114111 := by
    unfold lwI at q0
    split at q0 <;> omega
  have e : ((c.toInt.toNat : Nat) : Int) = c.toInt := Int.toNat_of_nonneg hc0.1
  have hlz : lz (lwI c.toInt) c.toInt.toNat := by
    have h1 := lwI_1 c.toInt.toNat
    have h2 := lwI_2 c.toInt.toNat
    have h3 := lwI_3 c.toInt.toNat
    have h5 := lwI_4 c.toInt.toNat
    rw [e] at h1 h2 h3 h5
    unfold lz
    omega
  exact dkok_up _ hσ (by omega) (by omega) (wr_lt hr.2.2 (fun i _ => ltb_lt hlz i))
theorem ok_spCopy {M : Nat} {σ : dkS} (x f a k : Int32) (hσ : dkok M σ) : dkok M (spCopy M σ x f a k).2.2 := by
  have hM := hσ.1
  unfold spCopy
  split
  · exact hσ
  rename_i hR
  have hR := Classical.not_not.mp hR
  have hr := hσ.2 (rj x) (rj_lt hR.1)
  have hr2 := hσ.2 (rj f) (rj_lt hR.2)
  split
  · exact hσ
  rename_i q0
  split
  · exact hσ
  rename_i q1
  exact dkok_up _ hσ (by omega) (by omega) (wr_lt hr.2.2 (fun _ _ => hr2.2.2 _))
theorem ok_spBlock {M : Nat} {σ : dkS} (x f : Int32) (hσ : dkok M σ) : dkok M (spBlock M σ x f).2.2 := by
  have hM := hσ.1
  unfold spBlock
  split
  · exact hσ
  rename_i hR
  have hR := Classical.not_not.mp hR
  have hr := hσ.2 (rj x) (rj_lt hR.1)
  have hr2 := hσ.2 (rj f) (rj_lt hR.2)
  split
  · exact hσ
  rename_i q0
  exact dkok_up _ hσ (by omega) (by omega) (wr_lt (wr_lt hr.2.2 (fun _ _ => sv_lt _ _)) (fun _ _ => hr2.2.2 _))
theorem ok_spFrame {M : Nat} {σ : dkS} (x f : Int32) (hσ : dkok M σ) : dkok M (spFrame M σ x f).2.2 := by
  have hM := hσ.1
  unfold spFrame
  split
  · exact hσ
  rename_i hR
  have hR := Classical.not_not.mp hR
  have hr := hσ.2 (rj x) (rj_lt hR.1)
  have hr2 := hσ.2 (rj f) (rj_lt hR.2)
  split
  · exact hσ
  rename_i q0
  exact dkok_up _ hσ (by omega) (by omega) (wr_lt (wr_lt (wr_lt hr.2.2 (fun _ _ => sv_lt _ _)) (fun _ _ => fb_lt _ _)) (fun _ _ => hr2.2.2 _))
theorem ok_spCut {M : Nat} {σ : dkS} (x z : Int32) (hσ : dkok M σ) : dkok M (spCut σ x z).2.2 := by
  have hM := hσ.1
  unfold spCut
  split
  · exact hσ
  rename_i hR
  have hR := Classical.not_not.mp hR
  have hr := hσ.2 (rj x) (rj_lt hR)
  split
  · exact hσ
  rename_i q0
  have q0 := Classical.not_not.mp q0
  exact dkok_up _ hσ (Nat.min_le_right _ _) (by omega) hr.2.2
theorem ok_spTurn {M : Nat} {σ : dkS} (x z : Int32) (hσ : dkok M σ) : dkok M (spTurn σ x z).2.2 := by
  have hM := hσ.1
  unfold spTurn
  split
  · exact hσ
  rename_i hR
  have hR := Classical.not_not.mp hR
  have hr := hσ.2 (rj x) (rj_lt hR)
  split
  · exact hσ
  rename_i q0
  exact dkok_up _ hσ hr.1 hr.2.1 (by_lt hr.2.2 (xor_256 (hr.2.2 _) (by omega)))
theorem ok_spPlace {M : Nat} {σ : dkS} (x z : Int32) (hσ : dkok M σ) : dkok M (spPlace σ x z).2.2 := by
  have hM := hσ.1
  unfold spPlace
  split
  · exact hσ
  rename_i hR
  have hR := Classical.not_not.mp hR
  have hr := hσ.2 (rj x) (rj_lt hR)
  split
  · exact hσ
  rename_i q0
  have q0 := Classical.not_not.mp q0
  exact dkok_up _ hσ (by omega) hr.2.1 hr.2.2
theorem ok_spReadFixed {M : Nat} {σ : dkS} (x z : Int32) (hσ : dkok M σ) : dkok M (spReadFixed σ x z).2.2 := by
  have hM := hσ.1
  unfold spReadFixed
  split
  · exact hσ
  rename_i hR
  have hR := Classical.not_not.mp hR
  have hr := hσ.2 (rj x) (rj_lt hR)
  split
  · exact hσ
  rename_i q0
  split
  · exact hσ
  rename_i q1
  exact dkok_up _ hσ (by omega) hr.2.1 hr.2.2
theorem ok_spReadSevens {M : Nat} {σ : dkS} (x : Int32) (hσ : dkok M σ) : dkok M (spReadSevens σ x).2.2 := by
  have hM := hσ.1
  unfold spReadSevens
  split
  · exact hσ
  rename_i hR
  have hR := Classical.not_not.mp hR
  have hr := hσ.2 (rj x) (rj_lt hR)
  split
  · exact hσ
  rename_i q0
  split
  · exact hσ
  rename_i q1
  rcases gw_in (σ (rj x)).1 (σ (rj x)).2.2 (σ (rj x)).2.1 10 (Nat.le_refl _) with g | g | ⟨w, g, g1⟩
  · exact absurd g q0
  · exact absurd g q1
  have hg : (gwσ σ x).toNat = w := by unfold gwσ; rw [g]; rfl
  obtain ⟨hw1, hw2, hw3, hw4⟩ := gw_ok 10 w (Nat.le_refl _) g
  rw [hg]
  exact dkok_up _ hσ hw3 hr.2.1 hr.2.2
theorem ok_spReadSigned {M : Nat} {σ : dkS} (x : Int32) (hσ : dkok M σ) : dkok M (spReadSigned σ x).2.2 := ok_spReadSevens x hσ
theorem ok_spReadLetter {M : Nat} {σ : dkS} (x : Int32) (hσ : dkok M σ) : dkok M (spReadLetter σ x).2.2 := by
  have hM := hσ.1
  unfold spReadLetter
  split
  · exact hσ
  rename_i hR
  have hR := Classical.not_not.mp hR
  have hr := hσ.2 (rj x) (rj_lt hR)
  split
  · exact hσ
  rename_i q0
  split
  · exact hσ
  rename_i q1
  rcases la_in hr.2.2 (σ (rj x)).2.2 (σ (rj x)).2.1 with g | g | g
  · exact absurd g q0
  · exact absurd g q1
  exact dkok_up _ hσ (la_len hr.2.2 g.1).2 hr.2.1 hr.2.2
theorem ok_spReadBlock {M : Nat} {σ : dkS} (x t : Int32) (hσ : dkok M σ) : dkok M (spReadBlock σ x t).2.2 := by
  have hM := hσ.1
  unfold spReadBlock
  split
  · exact hσ
  rename_i hR
  have hR := Classical.not_not.mp hR
  have hr := hσ.2 (rj x) (rj_lt hR.1)
  have hr2 := hσ.2 (rj t) (rj_lt hR.2)
  split
  · exact hσ
  rename_i q0
  split
  · exact hσ
  rename_i q1
  split
  · exact hσ
  rename_i q2
  split
  · exact hσ
  rename_i q3
  split
  · exact hσ
  rename_i q4
  have hsm : (σ (rj x)).2.2 + (gwσ σ x).toNat + gmσ σ x ≤ (σ (rj x)).2.1 := by omega
  unfold mvσ
  exact dkok_up _ (dkok_up _ hσ hsm hr.2.1 hr.2.2) (Nat.zero_le _) (by omega) (wr_lt hr2.2.2 (fun _ _ => hr.2.2 _))
theorem ok_spReadFrame {M : Nat} {σ : dkS} (x t : Int32) (hσ : dkok M σ) : dkok M (spReadFrame σ x t).2.2 := by
  have hM := hσ.1
  unfold spReadFrame
  split
  · exact hσ
  rename_i hR
  have hR := Classical.not_not.mp hR
  have hr := hσ.2 (rj x) (rj_lt hR.1)
  have hr2 := hσ.2 (rj t) (rj_lt hR.2)
  split
  · exact hσ
  rename_i q0
  split
  · exact hσ
  rename_i q1
  split
  · exact hσ
  rename_i q2
  split
  · exact hσ
  rename_i q3
  split
  · exact hσ
  rename_i q4
  split
  · exact hσ
  rename_i q5
  have hsm : (σ (rj x)).2.2 + ((gwσ σ x).toNat + 4) + gmσ σ x ≤ (σ (rj x)).2.1 := by omega
  unfold mvσ
  exact dkok_up _ (dkok_up _ hσ hsm hr.2.1 hr.2.2) (Nat.zero_le _) (by omega) (wr_lt hr2.2.2 (fun _ _ => hr.2.2 _))
theorem same_01 (σ : dkS) (x f : Int32) : (spSame σ x f).2.1 = 0 ∨ (spSame σ x f).2.1 = 1 := by
  unfold spSame
  (repeat' split) <;> first | exact Or.inl rfl | exact Or.inr rfl
theorem id_spLetters (σ : dkS) (x a k : Int32) : (spLetters σ x a k).2.2 = σ := by
  unfold spLetters
  (repeat' split) <;> rfl
theorem id_spSum (σ : dkS) (x a k : Int32) : (spSum σ x a k).2.2 = σ := by
  unfold spSum
  (repeat' split) <;> rfl
theorem id_spSame (σ : dkS) (x f : Int32) : (spSame σ x f).2.2 = σ := by
  unfold spSame
  (repeat' split) <;> rfl
theorem id_spRow (σ : dkS) (x z : Int32) : (spRow σ x z).2.2 = σ := by
  unfold spRow
  (repeat' split) <;> rfl
theorem id_spByteAt (σ : dkS) (x z : Int32) : (spByteAt σ x z).2.2 = σ := by
  unfold spByteAt
  (repeat' split) <;> rfl
