/-! THE LAW: WORDS OF ITS CALLS -/
/-- the law's long out of two ints -/
def lgl (a b : Int32) : Int64 := (a.toInt64 <<< ((32 : Int32).toInt64 &&& 63)) ||| (b.toInt64 &&& 4294967295)
theorem le_spFixed (M : Nat) (σ : dkS) (x : Int32) (u : Nat) (z : Int32) : (spFixed M σ x u z).1 ≤ 4 := by
  unfold spFixed
  (repeat' split) <;> exact Nat.le_of_ble_eq_true rfl
theorem le_spSevens (M : Nat) (σ : dkS) (x : Int32) (u : Nat) : (spSevens M σ x u).1 ≤ 4 := by
  unfold spSevens
  (repeat' split) <;> exact Nat.le_of_ble_eq_true rfl
theorem le_spLetter (M : Nat) (σ : dkS) (x c : Int32) : (spLetter M σ x c).1 ≤ 4 := by
  unfold spLetter
  (repeat' split) <;> exact Nat.le_of_ble_eq_true rfl
theorem le_spCopy (M : Nat) (σ : dkS) (x f a k : Int32) : (spCopy M σ x f a k).1 ≤ 4 := by
  unfold spCopy
  (repeat' split) <;> exact Nat.le_of_ble_eq_true rfl
theorem le_spBlock (M : Nat) (σ : dkS) (x f : Int32) : (spBlock M σ x f).1 ≤ 4 := by
  unfold spBlock
  (repeat' split) <;> exact Nat.le_of_ble_eq_true rfl
theorem le_spFrame (M : Nat) (σ : dkS) (x f : Int32) : (spFrame M σ x f).1 ≤ 4 := by
  unfold spFrame
  (repeat' split) <;> exact Nat.le_of_ble_eq_true rfl
theorem le_spCut (σ : dkS) (x z : Int32) : (spCut σ x z).1 ≤ 4 := by
  unfold spCut
  (repeat' split) <;> exact Nat.le_of_ble_eq_true rfl
theorem le_spTurn (σ : dkS) (x z : Int32) : (spTurn σ x z).1 ≤ 4 := by
  unfold spTurn
  (repeat' split) <;> exact Nat.le_of_ble_eq_true rfl
theorem le_spPlace (σ : dkS) (x z : Int32) : (spPlace σ x z).1 ≤ 4 := by
  unfold spPlace
  (repeat' split) <;> exact Nat.le_of_ble_eq_true rfl
theorem le_spReadFixed (σ : dkS) (x z : Int32) : (spReadFixed σ x z).1 ≤ 4 := by
  unfold spReadFixed
  (repeat' split) <;> exact Nat.le_of_ble_eq_true rfl
theorem le_spReadSevens (σ : dkS) (x : Int32) : (spReadSevens σ x).1 ≤ 4 := by
  unfold spReadSevens
  (repeat' split) <;> exact Nat.le_of_ble_eq_true rfl
theorem le_spReadSigned (σ : dkS) (x : Int32) : (spReadSigned σ x).1 ≤ 4 := le_spReadSevens σ x
theorem le_spReadLetter (σ : dkS) (x : Int32) : (spReadLetter σ x).1 ≤ 4 := by
  unfold spReadLetter
  (repeat' split) <;> exact Nat.le_of_ble_eq_true rfl
theorem le_spReadBlock (σ : dkS) (x t : Int32) : (spReadBlock σ x t).1 ≤ 4 := by
  unfold spReadBlock
  (repeat' split) <;> exact Nat.le_of_ble_eq_true rfl
theorem le_spReadFrame (σ : dkS) (x t : Int32) : (spReadFrame σ x t).1 ≤ 4 := by
  unfold spReadFrame
  (repeat' split) <;> exact Nat.le_of_ble_eq_true rfl
theorem le_spLetters (σ : dkS) (x a k : Int32) : (spLetters σ x a k).1 ≤ 4 := by
  unfold spLetters
  (repeat' split) <;> exact Nat.le_of_ble_eq_true rfl
theorem le_spSum (σ : dkS) (x a k : Int32) : (spSum σ x a k).1 ≤ 4 := by
  unfold spSum
  (repeat' split) <;> exact Nat.le_of_ble_eq_true rfl
theorem le_spSame (σ : dkS) (x f : Int32) : (spSame σ x f).1 ≤ 4 := by
  unfold spSame
  (repeat' split) <;> exact Nat.le_of_ble_eq_true rfl
theorem le_spRow (σ : dkS) (x z : Int32) : (spRow σ x z).1 ≤ 4 := by
  unfold spRow
  (repeat' split) <;> exact Nat.le_of_ble_eq_true rfl
theorem le_spByteAt (σ : dkS) (x z : Int32) : (spByteAt σ x z).1 ≤ 4 := by
  unfold spByteAt
  (repeat' split) <;> exact Nat.le_of_ble_eq_true rfl
theorem q_L_fixed {R : Room} {s : State} {args : Array Value} {own : String} {index : Nat} {rm : Room} {mc ms : Nat} (hA : ∀ w ∈ wsA, w.before args s = true) (hl : Cond.methodLink own index y_L_fixed ∈ wsA) (hrc : rm.cells = mc + 1) (hrs : rm.slots = ms + 6) (hR : rm.frames + 1 ≤ R.frames ∧ 8 + (7 + 11) + rm.locals ≤ R.locals) : lx_CB R s args own index y_L_fixed b_L_fixed 7 (some .int) [(0, 13, 16, 13), (0, 13, 20, 15), (0, 13, 24, 17)] w_L_fixed rm mc ms 5 := lx_cb 5 hA k1_58 k1_0 hl k1_57 hrc hrs (by decide +kernel) hR
theorem q_L_sevens {R : Room} {s : State} {args : Array Value} {own : String} {index : Nat} {rm : Room} {mc ms : Nat} (hA : ∀ w ∈ wsA, w.before args s = true) (hl : Cond.methodLink own index y_L_sevens ∈ wsA) (hrc : rm.cells = mc + 1) (hrs : rm.slots = ms + 6) (hR : rm.frames + 1 ≤ R.frames ∧ 8 + (6 + 11) + rm.locals ≤ R.locals) : lx_CB R s args own index y_L_sevens b_L_sevens 6 (some .int) [(0, 11, 14, 13), (0, 11, 18, 17)] w_L_sevens rm mc ms 4 := lx_cb 4 hA k1_186 k1_0 hl k1_185 hrc hrs (by decide +kernel) hR
theorem q_L_signed {R : Room} {s : State} {args : Array Value} {own : String} {index : Nat} {rm : Room} {mc ms : Nat} (hA : ∀ w ∈ wsA, w.before args s = true) (hl : Cond.methodLink own index y_L_signed ∈ wsA) (hrc : rm.cells = mc + 1) (hrs : rm.slots = ms + 6) (hR : rm.frames + 1 ≤ R.frames ∧ 8 + (6 + 11) + rm.locals ≤ R.locals) : lx_CB R s args own index y_L_signed b_L_signed 6 (some .int) [(0, 11, 14, 13), (0, 11, 18, 17)] w_L_signed rm mc ms 4 := lx_cb 4 hA k1_202 k1_0 hl k1_201 hrc hrs (by decide +kernel) hR
theorem q_L_letter {R : Room} {s : State} {args : Array Value} {own : String} {index : Nat} {rm : Room} {mc ms : Nat} (hA : ∀ w ∈ wsA, w.before args s = true) (hl : Cond.methodLink own index y_L_letter ∈ wsA) (hrc : rm.cells = mc + 1) (hrs : rm.slots = ms + 6) (hR : rm.frames + 1 ≤ R.frames ∧ 8 + (5 + 11) + rm.locals ≤ R.locals) : lx_CB R s args own index y_L_letter b_L_letter 5 (some .int) [(0, 10, 13, 13), (0, 10, 17, 15), (0, 10, 21, 17)] w_L_letter rm mc ms 4 := lx_cb 4 hA k1_209 k1_0 hl k1_208 hrc hrs (by decide +kernel) hR
theorem q_L_copy {R : Room} {s : State} {args : Array Value} {own : String} {index : Nat} {rm : Room} {mc ms : Nat} (hA : ∀ w ∈ wsA, w.before args s = true) (hl : Cond.methodLink own index y_L_copy ∈ wsA) (hrc : rm.cells = mc + 1) (hrs : rm.slots = ms + 6) (hR : rm.frames + 1 ≤ R.frames ∧ 8 + (7 + 11) + rm.locals ≤ R.locals) : lx_CB R s args own index y_L_copy b_L_copy 7 (some .int) [(0, 14, 17, 13), (0, 14, 21, 15), (0, 14, 25, 17)] w_L_copy rm mc ms 6 := lx_cb 6 hA k1_229 k1_0 hl k1_228 hrc hrs (by decide +kernel) hR
theorem q_L_block {R : Room} {s : State} {args : Array Value} {own : String} {index : Nat} {rm : Room} {mc ms : Nat} (hA : ∀ w ∈ wsA, w.before args s = true) (hl : Cond.methodLink own index y_L_block ∈ wsA) (hrc : rm.cells = mc + 1) (hrs : rm.slots = ms + 6) (hR : rm.frames + 1 ≤ R.frames ∧ 8 + (5 + 11) + rm.locals ≤ R.locals) : lx_CB R s args own index y_L_block b_L_block 5 (some .int) [(0, 10, 13, 13), (0, 10, 17, 17)] w_L_block rm mc ms 4 := lx_cb 4 hA k2_6 k1_0 hl k2_5 hrc hrs (by decide +kernel) hR
theorem q_L_frame {R : Room} {s : State} {args : Array Value} {own : String} {index : Nat} {rm : Room} {mc ms : Nat} (hA : ∀ w ∈ wsA, w.before args s = true) (hl : Cond.methodLink own index y_L_frame ∈ wsA) (hrc : rm.cells = mc + 1) (hrs : rm.slots = ms + 6) (hR : rm.frames + 1 ≤ R.frames ∧ 8 + (5 + 11) + rm.locals ≤ R.locals) : lx_CB R s args own index y_L_frame b_L_frame 5 (some .int) [(0, 10, 13, 13), (0, 10, 17, 17)] w_L_frame rm mc ms 4 := lx_cb 4 hA k2_13 k1_0 hl k2_12 hrc hrs (by decide +kernel) hR
theorem q_L_cut {R : Room} {s : State} {args : Array Value} {own : String} {index : Nat} {rm : Room} {mc ms : Nat} (hA : ∀ w ∈ wsA, w.before args s = true) (hl : Cond.methodLink own index y_L_cut ∈ wsA) (hrc : rm.cells = mc + 1) (hrs : rm.slots = ms + 6) (hR : rm.frames + 1 ≤ R.frames ∧ 8 + (5 + 11) + rm.locals ≤ R.locals) : lx_CB R s args own index y_L_cut b_L_cut 5 (some .int) [(0, 10, 13, 13), (0, 10, 17, 15)] w_L_cut rm mc ms 4 := lx_cb 4 hA k2_28 k1_0 hl k2_27 hrc hrs (by decide +kernel) hR
theorem q_L_turn {R : Room} {s : State} {args : Array Value} {own : String} {index : Nat} {rm : Room} {mc ms : Nat} (hA : ∀ w ∈ wsA, w.before args s = true) (hl : Cond.methodLink own index y_L_turn ∈ wsA) (hrc : rm.cells = mc + 1) (hrs : rm.slots = ms + 6) (hR : rm.frames + 1 ≤ R.frames ∧ 8 + (5 + 11) + rm.locals ≤ R.locals) : lx_CB R s args own index y_L_turn b_L_turn 5 (some .int) [(0, 10, 13, 13), (0, 10, 17, 15)] w_L_turn rm mc ms 4 := lx_cb 4 hA k2_35 k1_0 hl k2_34 hrc hrs (by decide +kernel) hR
theorem q_L_place {R : Room} {s : State} {args : Array Value} {own : String} {index : Nat} {rm : Room} {mc ms : Nat} (hA : ∀ w ∈ wsA, w.before args s = true) (hl : Cond.methodLink own index y_L_place ∈ wsA) (hrc : rm.cells = mc + 1) (hrs : rm.slots = ms + 6) (hR : rm.frames + 1 ≤ R.frames ∧ 8 + (5 + 11) + rm.locals ≤ R.locals) : lx_CB R s args own index y_L_place b_L_place 5 (some .int) [(0, 10, 13, 13), (0, 10, 17, 15)] w_L_place rm mc ms 4 := lx_cb 4 hA k2_43 k1_0 hl k2_42 hrc hrs (by decide +kernel) hR
theorem q_L_readFixed {R : Room} {s : State} {args : Array Value} {own : String} {index : Nat} {rm : Room} {mc ms : Nat} (hA : ∀ w ∈ wsA, w.before args s = true) (hl : Cond.methodLink own index y_L_readFixed ∈ wsA) (hrc : rm.cells = mc + 1) (hrs : rm.slots = ms + 6) (hR : rm.frames + 1 ≤ R.frames ∧ 8 + (5 + 11) + rm.locals ≤ R.locals) : lx_CB R s args own index y_L_readFixed b_L_readFixed 5 (some .int) [(0, 9, 12, 13), (0, 9, 16, 15), (0, 9, 20, 53)] w_L_readFixed rm mc ms 4 := lx_cb 4 hA k2_51 k1_0 hl k2_50 hrc hrs (by decide +kernel) hR
theorem q_L_readSevens {R : Room} {s : State} {args : Array Value} {own : String} {index : Nat} {rm : Room} {mc ms : Nat} (hA : ∀ w ∈ wsA, w.before args s = true) (hl : Cond.methodLink own index y_L_readSevens ∈ wsA) (hrc : rm.cells = mc + 1) (hrs : rm.slots = ms + 6) (hR : rm.frames + 1 ≤ R.frames ∧ 8 + (4 + 11) + rm.locals ≤ R.locals) : lx_CB R s args own index y_L_readSevens b_L_readSevens 4 (some .int) [(0, 8, 11, 13), (0, 8, 14, 15), (0, 8, 17, 53)] w_L_readSevens rm mc ms 3 := lx_cb 3 hA k2_81 k1_0 hl k2_80 hrc hrs (by decide +kernel) hR
theorem q_L_readSigned {R : Room} {s : State} {args : Array Value} {own : String} {index : Nat} {rm : Room} {mc ms : Nat} (hA : ∀ w ∈ wsA, w.before args s = true) (hl : Cond.methodLink own index y_L_readSigned ∈ wsA) (hrc : rm.cells = mc + 1) (hrs : rm.slots = ms + 6) (hR : rm.frames + 1 ≤ R.frames ∧ 8 + (4 + 11) + rm.locals ≤ R.locals) : lx_CB R s args own index y_L_readSigned b_L_readSigned 4 (some .int) [(0, 8, 11, 13), (0, 8, 14, 15), (0, 8, 17, 53)] w_L_readSigned rm mc ms 3 := lx_cb 3 hA k2_103 k1_0 hl k2_102 hrc hrs (by decide +kernel) hR
theorem q_L_readLetter {R : Room} {s : State} {args : Array Value} {own : String} {index : Nat} {rm : Room} {mc ms : Nat} (hA : ∀ w ∈ wsA, w.before args s = true) (hl : Cond.methodLink own index y_L_readLetter ∈ wsA) (hrc : rm.cells = mc + 1) (hrs : rm.slots = ms + 6) (hR : rm.frames + 1 ≤ R.frames ∧ 8 + (4 + 11) + rm.locals ≤ R.locals) : lx_CB R s args own index y_L_readLetter b_L_readLetter 4 (some .int) [(0, 9, 12, 13), (0, 9, 15, 15), (0, 9, 18, 53)] w_L_readLetter rm mc ms 3 := lx_cb 3 hA k2_110 k1_0 hl k2_109 hrc hrs (by decide +kernel) hR
theorem q_L_readBlock {R : Room} {s : State} {args : Array Value} {own : String} {index : Nat} {rm : Room} {mc ms : Nat} (hA : ∀ w ∈ wsA, w.before args s = true) (hl : Cond.methodLink own index y_L_readBlock ∈ wsA) (hrc : rm.cells = mc + 1) (hrs : rm.slots = ms + 6) (hR : rm.frames + 1 ≤ R.frames ∧ 8 + (5 + 11) + rm.locals ≤ R.locals) : lx_CB R s args own index y_L_readBlock b_L_readBlock 5 (some .int) [(0, 10, 13, 13), (0, 10, 17, 15), (0, 10, 21, 53)] w_L_readBlock rm mc ms 4 := lx_cb 4 hA k2_125 k1_0 hl k2_124 hrc hrs (by decide +kernel) hR
theorem q_L_readFrame {R : Room} {s : State} {args : Array Value} {own : String} {index : Nat} {rm : Room} {mc ms : Nat} (hA : ∀ w ∈ wsA, w.before args s = true) (hl : Cond.methodLink own index y_L_readFrame ∈ wsA) (hrc : rm.cells = mc + 1) (hrs : rm.slots = ms + 6) (hR : rm.frames + 1 ≤ R.frames ∧ 8 + (5 + 11) + rm.locals ≤ R.locals) : lx_CB R s args own index y_L_readFrame b_L_readFrame 5 (some .int) [(0, 10, 13, 13), (0, 10, 17, 15), (0, 10, 21, 53), (0, 10, 25, 72)] w_L_readFrame rm mc ms 4 := lx_cb 4 hA k2_144 k1_0 hl k2_143 hrc hrs (by decide +kernel) hR
theorem q_L_letters {R : Room} {s : State} {args : Array Value} {own : String} {index : Nat} {rm : Room} {mc ms : Nat} (hA : ∀ w ∈ wsA, w.before args s = true) (hl : Cond.methodLink own index y_L_letters ∈ wsA) (hrc : rm.cells = mc + 1) (hrs : rm.slots = ms + 6) (hR : rm.frames + 1 ≤ R.frames ∧ 8 + (6 + 11) + rm.locals ≤ R.locals) : lx_CB R s args own index y_L_letters b_L_letters 6 (some .int) [(0, 12, 15, 13), (0, 12, 19, 15)] w_L_letters rm mc ms 5 := lx_cb 5 hA k2_168 k1_0 hl k2_167 hrc hrs (by decide +kernel) hR
theorem q_L_sum {R : Room} {s : State} {args : Array Value} {own : String} {index : Nat} {rm : Room} {mc ms : Nat} (hA : ∀ w ∈ wsA, w.before args s = true) (hl : Cond.methodLink own index y_L_sum ∈ wsA) (hrc : rm.cells = mc + 1) (hrs : rm.slots = ms + 6) (hR : rm.frames + 1 ≤ R.frames ∧ 8 + (6 + 11) + rm.locals ≤ R.locals) : lx_CB R s args own index y_L_sum b_L_sum 6 (some .int) [(0, 12, 15, 13), (0, 12, 19, 15)] w_L_sum rm mc ms 5 := lx_cb 5 hA k2_176 k1_0 hl k2_175 hrc hrs (by decide +kernel) hR
theorem q_L_same {R : Room} {s : State} {args : Array Value} {own : String} {index : Nat} {rm : Room} {mc ms : Nat} (hA : ∀ w ∈ wsA, w.before args s = true) (hl : Cond.methodLink own index y_L_same ∈ wsA) (hrc : rm.cells = mc + 1) (hrs : rm.slots = ms + 6) (hR : rm.frames + 1 ≤ R.frames ∧ 8 + (5 + 11) + rm.locals ≤ R.locals) : lx_CB R s args own index y_L_same b_L_same 5 (some .int) [(0, 17, 20, 13)] w_L_same rm mc ms 4 := lx_cb 4 hA k2_183 k1_0 hl k2_182 hrc hrs (by decide +kernel) hR
theorem q_L_row {R : Room} {s : State} {args : Array Value} {own : String} {index : Nat} {rm : Room} {mc ms : Nat} (hA : ∀ w ∈ wsA, w.before args s = true) (hl : Cond.methodLink own index y_L_row ∈ wsA) (hrc : rm.cells = mc + 1) (hrs : rm.slots = ms + 6) (hR : rm.frames + 1 ≤ R.frames ∧ 8 + (5 + 11) + rm.locals ≤ R.locals) : lx_CB R s args own index y_L_row b_L_row 5 (some .int) [(0, 10, 13, 13), (0, 10, 17, 15)] w_L_row rm mc ms 4 := lx_cb 4 hA k2_190 k1_0 hl k2_189 hrc hrs (by decide +kernel) hR
theorem q_L_byteAt {R : Room} {s : State} {args : Array Value} {own : String} {index : Nat} {rm : Room} {mc ms : Nat} (hA : ∀ w ∈ wsA, w.before args s = true) (hl : Cond.methodLink own index y_L_byteAt ∈ wsA) (hrc : rm.cells = mc + 1) (hrs : rm.slots = ms + 6) (hR : rm.frames + 1 ≤ R.frames ∧ 8 + (5 + 11) + rm.locals ≤ R.locals) : lx_CB R s args own index y_L_byteAt b_L_byteAt 5 (some .int) [(0, 10, 13, 13), (0, 10, 17, 15)] w_L_byteAt rm mc ms 4 := lx_cb 4 hA k2_198 k1_0 hl k2_197 hrc hrs (by decide +kernel) hR
set_option maxHeartbeats 600000 in
set_option maxRecDepth 100000 in
/-- the law's cell, at 0 -/
theorem c_L_cell (l : Launch) (b L : Nat) (xs : Nat → Int32) (hL : L ≤ 2561) : Met l y_L_cell w_L_cell ({ frames := 0, cells := 0, slots := 0, locals := 0 }) (va_Pc [.ref b, .int 0] (fun U => va_X b L xs U U.heap ∧ b < U.heap.size)) (vp_Si (fun r => r = if 0 < L then xs 0 else 0)) 0 0 (fun _ => False) := by
  refine Met.ofW (cc := b_L_cell) (maxL := 2) (ret := (some .int)) (by decide) rfl ?_
  intro p9 e9 s m args below meth c9 s₁ BL hml hv
  obtain ⟨rfl, hX, hbl⟩ := hv
  have hS : va_S (fun _ => False) s.heap s.heap [] := va_S.rf
  have hx := BL.exec
  have hb := BL.bytes
  have hr := BL.returns
  have hts := atoms_spec (ws := w_L_cell) BL.pre
  have hA : ∀ w ∈ wsA, w.before _ s = true := fun w h => hts w (List.mem_cons_of_mem _ h)
  have hown : s.vm.findClass R_L = some m.cls := findClass_of_methodNamed BL.named
  have hlocks := BL.notSynchronized
  have hl := lv_entry ([.ref b, .int 0]) (n := 2) (Nat.le_of_ble_eq_true rfl)
  rw [lg_entry_eq]
  generalize (lg_sl ([.ref b, .int 0]) ++ List.replicate (2 - (lg_sl ([.ref b, .int 0])).length) Slot.unset).toArray = ls at hl ⊢
  have hl : lv_has ls 2 [(0, .ref b), (1, .int 0)] := hl
  refine lv_iload_n hx hb d_L_cell_0 rfl (lv_at hl 1 rfl) ?_
  refine lv_aload_n hx hb d_L_cell_1 rfl (lv_at hl 0 rfl) ?_
  refine va_slen hx hb hX hbl (fun h => h) hS d_L_cell_2 ?_
  refine lv_icmp_ge (tgt := 12) hx hb d_L_cell_3 (by decide) (fun c3 => ?_) (fun c3 => ?_)
  · refine lv_iconst (v := 0) hx hb d_L_cell_12 (by decide) ?_
    have hL0 : L = 0 := by have := (nI_leI (a := L) (b := 0) (by omega) (by omega)).mp c3; omega
    exact W.iret (v := 0) hx hb hr (fun t ht hW => ⟨_, rfl, (by rw [hL0]; rfl), ht⟩) (fun q h => by cases h) d_L_cell_13
  · refine lv_aload_n hx hb d_L_cell_6 rfl (lv_at hl 0 rfl) ?_
    refine lv_iload_n hx hb d_L_cell_7 rfl (lv_at hl 1 rfl) ?_
    have hL1 : 0 < L := by have := mt (nI_leI (a := L) (b := 0) (by omega) (by omega)).mpr c3; omega
    refine va_sld hx hb hX hbl (fun h => h) hS (vp_in_nI (n := 0) (N := L) hL1 (by omega)) d_L_cell_8 ?_
    refine lv_topi (fun v8 ev8 => ?_)
    refine lv_goto (tgt := 13) hx hb d_L_cell_9 (by decide) ?_
    exact W.iret (v := v8) hx hb hr (fun t ht hW => ⟨_, rfl, (by rw [if_pos hL1]; exact ev8), ht⟩) (fun q h => by cases h) d_L_cell_13
