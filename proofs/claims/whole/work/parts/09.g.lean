/-! THE START AS THROWS NEED IT: Throwable's two statics, the texts -/
def tx_strs : List (Nat × String) := [(151, "no such row"), (154, "a number has 1 to 8 bytes"), (160, "the row would be too long"), (57, "no such letter"), (85, "the row has not so many bytes"), (90, "no such bit"), (99, "no such place"), (163, "the row ends before it is whole"), (173, "the last of several sevens is 0"), (175, "sevens of more than 64 bits"), (171, "sevens of more than ten bytes"), (115, "the bytes of no letter"), (119, "the row ends within a letter"), (156, "a row is not read into itself"), (183, "more bytes than a block can have"), (140, "the sum is another one"), (143, "not whole letters"), (145, "what is 0, 1 or 2"), (147, "no such byte")]
def tx_st4 : List Cond := [.laysStatic Bundle.tN "UNASSIGNED_STACK" Bundle.steD, .laysStatic Bundle.tN "SUPPRESSED_SENTINEL" Bundle.listD, .isRef (.static Bundle.tN "UNASSIGNED_STACK" Bundle.steD), .isRef (.static Bundle.tN "SUPPRESSED_SENTINEL" Bundle.listD)]
def tx_G (U : State) : Prop := (Cond.initialized Bundle.tN).before #[] U = true ∧ (∀ w ∈ tx_st4, w.before #[] U = true) ∧ ∀ z ∈ tx_strs, ∃ a : Nat, vk_R "PacketDesk" z.1 z.2 a U
theorem tx_ls {C n d : String} {s U : State} {a' : Array Value} (hW : s.WarmedH U.vm) (hh : ∀ q : Nat, q < s.heap.size → U.heap[q]? = s.heap[q]?) (h : (Cond.laysStatic C n d).before #[] s = true) : (Cond.laysStatic C n d).before a' U = true := by
  obtain ⟨c, k, i, f, a, cell, h1, h2, h3, h4, h5, h6, h7, h8, h9⟩ := Cond.laysStatic_spec h
  obtain ⟨k', hi', he⟩ := State.fieldFound?_setVm hW.alike h2
  show (Cond.laysStatic C n d).holds a' U none U [] = true
  exact Cond.laysStatic_of (by rw [hW.alike.findClass]; exact h1) hi' h3 (by rw [he]; exact h4) (by rw [hh a (Array.getElem?_eq_some_iff.mp h5).1]; exact h5) h6 h7 h8 (by rw [he]; exact h9)
theorem tx_ir {C n d : String} {s U : State} {a' : Array Value} (hW : s.WarmedH U.vm) (hh : ∀ q : Nat, q < s.heap.size → U.heap[q]? = s.heap[q]?) (hi : (Cond.initialized C).before #[] s = true) (hl : (Cond.laysStatic C n d).before #[] s = true) (h : (Cond.isRef (.static C n d)).before #[] s = true) : (Cond.isRef (.static C n d)).before a' U = true := by
  have hz : va_Zq C n d (fun _ => False) U U.heap := va_Zq.kept (va_Zq.moved hW.alike (va_Zqof (A := fun _ => False) hl hi h (fun _ _ h => h))) (fun q hq _ => hh q hq)
  have key : ∀ v : Value, v.isRef = true → va_Z C n d v (fun _ => False) U U.heap → (Cond.isRef (.static C n d)).before a' U = true := by
    intro v hv hz
    obtain ⟨cf, kf, fi, f, a, cell, h1, h2, h3, h4, h5, h6, h7, -⟩ := hz
    have he : (Term.static C n d).eval a' U none [] U = some v := by
      simp [Term.eval, State.fieldNamed?, h1, h2, h4, h5, h6, h7]
    simp only [Cond.before, Cond.holds, Cond.value, he]
    cases v <;> simp_all [Value.isRef]
  rcases hz with h | ⟨t, h⟩
  · exact key _ rfl h
  · exact key _ rfl h
theorem tx_G.go {s U : State} (hG : tx_G s) (hW : s.WarmedH U.vm) (hh : ∀ q : Nat, q < s.heap.size → U.heap[q]? = s.heap[q]?) : tx_G U := by
  obtain ⟨h1, h2, h3⟩ := hG
  refine ⟨word_at hW (Or.inl (by first | rfl | simp [Cond.onTables, Cond.keeps, Cond.steady])) h1, ?_, fun z hz => ?_⟩
  · have l1 := h2 _ (by simp [tx_st4] : Cond.laysStatic Bundle.tN "UNASSIGNED_STACK" Bundle.steD ∈ tx_st4)
    have l2 := h2 _ (by simp [tx_st4] : Cond.laysStatic Bundle.tN "SUPPRESSED_SENTINEL" Bundle.listD ∈ tx_st4)
    have r1 := h2 _ (by simp [tx_st4] : Cond.isRef (.static Bundle.tN "UNASSIGNED_STACK" Bundle.steD) ∈ tx_st4)
    have r2 := h2 _ (by simp [tx_st4] : Cond.isRef (.static Bundle.tN "SUPPRESSED_SENTINEL" Bundle.listD) ∈ tx_st4)
    intro w hw
    simp only [tx_st4, List.mem_cons, List.not_mem_nil, or_false] at hw
    rcases hw with rfl | rfl | rfl | rfl
    · exact tx_ls hW hh l1
    · exact tx_ls hW hh l2
    · exact tx_ir hW hh h1 l1 r1
    · exact tx_ir hW hh h1 l2 r2
  · obtain ⟨a, ha⟩ := h3 z hz
    exact ⟨a, vk_R.warm hW ha⟩
theorem tx_ok {args : Array Value} {s : State} (hA : ∀ w ∈ wsA, w.before args s = true) (hG : tx_G s) {L : List Cond} (hL : ∀ w ∈ L, w ∈ wsA ∨ w ∈ tx_st4) : ∀ w ∈ L, w.before args s = true := by
  intro w hw
  rcases hL w hw with h | h
  · exact hA w h
  · have h2 := hG.2.1 w h
    simp only [tx_st4, List.mem_cons, List.not_mem_nil, or_false] at h
    rcases h with rfl | rfl | rfl | rfl
    · exact h2
    · exact h2
    · exact h2
    · exact h2
def tx_six : ByteArray := ⟨#[0x2a, 0x2b, 0xb7, 0x00, 0x07, 0xb1]⟩
def tx_13 : ByteArray := ⟨#[0x2a, 0x2b, 0xb7, 0x00, 0x0d, 0xb1]⟩
abbrev X_IOOBE : String := "java/lang/IndexOutOfBoundsException"
theorem at_IOOBE : ∀ w ∈ tx_atoms R_D 153 X_IOOBE "java/lang/RuntimeException" 7 tx_six ["java/lang/Exception"], w ∈ wsA ∨ w ∈ tx_st4 := by decide +kernel
theorem th_IOOBE {p : Program} {l : Launch} {e : Env} {R : Room} {s : State} {m : MethodId} {args : Array Value} {below : List Frame} {meth : Method} {c : Code} {H : Heap} {cells slots : Nat} {pc nL is : Nat} {ls : Array Slot} {cc : ByteArray} {tx : String} {free : Addr → Prop} {thr : String → Prop} {Qr : Array Value → State → Outcome → State → Prop}
    (hx : p.tables.exec = Jvm.exec) (hb : c.code = cc) (hml : c.maxLocals = nL) (hlocks : meth.locks = false) (hce : c.exceptionTable.isEmpty = true) (htr : e.platform.stackTraces = false) (hown : s.vm.findClass R_D = some m.cls) (hA : ∀ w ∈ wsA, w.before args s = true) (hG : tx_G s) (hls : ls.size = nL) {st : List Value} (hst : (st.map fun v => v.category).sum ≤ 8) (hs : (is, tx) ∈ tx_strs)
    (d0 : decode cc pc = .ok (.new 149, 3)) (d3 : decode cc (pc + 3) = .ok (.dup, 1)) (d4 : decode cc (pc + 4) = .ok (.ldc is, 2)) (d6 : decode cc (pc + 6) = .ok (.invokespecial 153, 3)) (d9 : decode cc (pc + 9) = .ok (.athrow, 1))
    (hRf : 6 ≤ R.frames) (hRl : 90 ≤ R.locals) (hRc : cells + 1 ≤ R.cells) (hRs : slots + 6 ≤ R.slots) (ht : thr X_IOOBE) : W p l e R s m args below meth c H [] cells slots (tx_MQ below (tx_Q thr Qr) args s cells slots free) (F0 m pc ls st) := by
  obtain ⟨q, hZ⟩ := hG.2.2 _ hs
  exact tx_throw hx hb hml hlocks hce htr hown (by decide +kernel) (by decide +kernel) (by decide +kernel) (by decide +kernel) (by decide +kernel) (by decide +kernel) (by decide +kernel) (tx_ok hA hG at_IOOBE) (hA _ (by decide +kernel)) (hA _ (by decide +kernel)) hZ hls hst d0 d3 d4 d6 d9 (by show 1 + 4 < _; omega) (by show 13 * (1 + 2) + 51 ≤ _; omega) hRc hRs (fun x t hE => Or.inr ⟨x, _, rfl, ht, hE⟩)
abbrev X_IAE : String := "java/lang/IllegalArgumentException"
theorem at_IAE : ∀ w ∈ tx_atoms R_D 59 X_IAE "java/lang/RuntimeException" 7 tx_six ["java/lang/Exception"], w ∈ wsA ∨ w ∈ tx_st4 := by decide +kernel
theorem th_IAE {p : Program} {l : Launch} {e : Env} {R : Room} {s : State} {m : MethodId} {args : Array Value} {below : List Frame} {meth : Method} {c : Code} {H : Heap} {cells slots : Nat} {pc nL is : Nat} {ls : Array Slot} {cc : ByteArray} {tx : String} {free : Addr → Prop} {thr : String → Prop} {Qr : Array Value → State → Outcome → State → Prop}
    (hx : p.tables.exec = Jvm.exec) (hb : c.code = cc) (hml : c.maxLocals = nL) (hlocks : meth.locks = false) (hce : c.exceptionTable.isEmpty = true) (htr : e.platform.stackTraces = false) (hown : s.vm.findClass R_D = some m.cls) (hA : ∀ w ∈ wsA, w.before args s = true) (hG : tx_G s) (hls : ls.size = nL) {st : List Value} (hst : (st.map fun v => v.category).sum ≤ 8) (hs : (is, tx) ∈ tx_strs)
    (d0 : decode cc pc = .ok (.new 55, 3)) (d3 : decode cc (pc + 3) = .ok (.dup, 1)) (d4 : decode cc (pc + 4) = .ok (.ldc is, 2)) (d6 : decode cc (pc + 6) = .ok (.invokespecial 59, 3)) (d9 : decode cc (pc + 9) = .ok (.athrow, 1))
    (hRf : 6 ≤ R.frames) (hRl : 90 ≤ R.locals) (hRc : cells + 1 ≤ R.cells) (hRs : slots + 6 ≤ R.slots) (ht : thr X_IAE) : W p l e R s m args below meth c H [] cells slots (tx_MQ below (tx_Q thr Qr) args s cells slots free) (F0 m pc ls st) := by
  obtain ⟨q, hZ⟩ := hG.2.2 _ hs
  exact tx_throw hx hb hml hlocks hce htr hown (by decide +kernel) (by decide +kernel) (by decide +kernel) (by decide +kernel) (by decide +kernel) (by decide +kernel) (by decide +kernel) (tx_ok hA hG at_IAE) (hA _ (by decide +kernel)) (hA _ (by decide +kernel)) hZ hls hst d0 d3 d4 d6 d9 (by show 1 + 4 < _; omega) (by show 13 * (1 + 2) + 51 ≤ _; omega) hRc hRs (fun x t hE => Or.inr ⟨x, _, rfl, ht, hE⟩)
abbrev X_ISE : String := "java/lang/IllegalStateException"
theorem at_ISE : ∀ w ∈ tx_atoms R_D 162 X_ISE "java/lang/RuntimeException" 7 tx_six ["java/lang/Exception"], w ∈ wsA ∨ w ∈ tx_st4 := by decide +kernel
theorem th_ISE {p : Program} {l : Launch} {e : Env} {R : Room} {s : State} {m : MethodId} {args : Array Value} {below : List Frame} {meth : Method} {c : Code} {H : Heap} {cells slots : Nat} {pc nL is : Nat} {ls : Array Slot} {cc : ByteArray} {tx : String} {free : Addr → Prop} {thr : String → Prop} {Qr : Array Value → State → Outcome → State → Prop}
    (hx : p.tables.exec = Jvm.exec) (hb : c.code = cc) (hml : c.maxLocals = nL) (hlocks : meth.locks = false) (hce : c.exceptionTable.isEmpty = true) (htr : e.platform.stackTraces = false) (hown : s.vm.findClass R_D = some m.cls) (hA : ∀ w ∈ wsA, w.before args s = true) (hG : tx_G s) (hls : ls.size = nL) {st : List Value} (hst : (st.map fun v => v.category).sum ≤ 8) (hs : (is, tx) ∈ tx_strs)
    (d0 : decode cc pc = .ok (.new 158, 3)) (d3 : decode cc (pc + 3) = .ok (.dup, 1)) (d4 : decode cc (pc + 4) = .ok (.ldc is, 2)) (d6 : decode cc (pc + 6) = .ok (.invokespecial 162, 3)) (d9 : decode cc (pc + 9) = .ok (.athrow, 1))
    (hRf : 6 ≤ R.frames) (hRl : 90 ≤ R.locals) (hRc : cells + 1 ≤ R.cells) (hRs : slots + 6 ≤ R.slots) (ht : thr X_ISE) : W p l e R s m args below meth c H [] cells slots (tx_MQ below (tx_Q thr Qr) args s cells slots free) (F0 m pc ls st) := by
  obtain ⟨q, hZ⟩ := hG.2.2 _ hs
  exact tx_throw hx hb hml hlocks hce htr hown (by decide +kernel) (by decide +kernel) (by decide +kernel) (by decide +kernel) (by decide +kernel) (by decide +kernel) (by decide +kernel) (tx_ok hA hG at_ISE) (hA _ (by decide +kernel)) (hA _ (by decide +kernel)) hZ hls hst d0 d3 d4 d6 d9 (by show 1 + 4 < _; omega) (by show 13 * (1 + 2) + 51 ≤ _; omega) hRc hRs (fun x t hE => Or.inr ⟨x, _, rfl, ht, hE⟩)
abbrev X_NSEE : String := "java/util/NoSuchElementException"
theorem at_NSEE : ∀ w ∈ tx_atoms R_D 121 X_NSEE "java/lang/RuntimeException" 13 tx_13 ["java/lang/Exception"], w ∈ wsA ∨ w ∈ tx_st4 := by decide +kernel
theorem th_NSEE {p : Program} {l : Launch} {e : Env} {R : Room} {s : State} {m : MethodId} {args : Array Value} {below : List Frame} {meth : Method} {c : Code} {H : Heap} {cells slots : Nat} {pc nL is : Nat} {ls : Array Slot} {cc : ByteArray} {tx : String} {free : Addr → Prop} {thr : String → Prop} {Qr : Array Value → State → Outcome → State → Prop}
    (hx : p.tables.exec = Jvm.exec) (hb : c.code = cc) (hml : c.maxLocals = nL) (hlocks : meth.locks = false) (hce : c.exceptionTable.isEmpty = true) (htr : e.platform.stackTraces = false) (hown : s.vm.findClass R_D = some m.cls) (hA : ∀ w ∈ wsA, w.before args s = true) (hG : tx_G s) (hls : ls.size = nL) {st : List Value} (hst : (st.map fun v => v.category).sum ≤ 8) (hs : (is, tx) ∈ tx_strs)
    (d0 : decode cc pc = .ok (.new 117, 3)) (d3 : decode cc (pc + 3) = .ok (.dup, 1)) (d4 : decode cc (pc + 4) = .ok (.ldc is, 2)) (d6 : decode cc (pc + 6) = .ok (.invokespecial 121, 3)) (d9 : decode cc (pc + 9) = .ok (.athrow, 1))
    (hRf : 6 ≤ R.frames) (hRl : 90 ≤ R.locals) (hRc : cells + 1 ≤ R.cells) (hRs : slots + 6 ≤ R.slots) (ht : thr X_NSEE) : W p l e R s m args below meth c H [] cells slots (tx_MQ below (tx_Q thr Qr) args s cells slots free) (F0 m pc ls st) := by
  obtain ⟨q, hZ⟩ := hG.2.2 _ hs
  exact tx_throw hx hb hml hlocks hce htr hown (by decide +kernel) (by decide +kernel) (by decide +kernel) (by decide +kernel) (by decide +kernel) (by decide +kernel) (by decide +kernel) (tx_ok hA hG at_NSEE) (hA _ (by decide +kernel)) (hA _ (by decide +kernel)) hZ hls hst d0 d3 d4 d6 d9 (by show 1 + 4 < _; omega) (by show 13 * (1 + 2) + 51 ≤ _; omega) hRc hRs (fun x t hE => Or.inr ⟨x, _, rfl, ht, hE⟩)
abbrev X_UOE : String := "java/lang/UnsupportedOperationException"
theorem at_UOE : ∀ w ∈ tx_atoms R_D 142 X_UOE "java/lang/RuntimeException" 7 tx_six ["java/lang/Exception"], w ∈ wsA ∨ w ∈ tx_st4 := by decide +kernel
theorem th_UOE {p : Program} {l : Launch} {e : Env} {R : Room} {s : State} {m : MethodId} {args : Array Value} {below : List Frame} {meth : Method} {c : Code} {H : Heap} {cells slots : Nat} {pc nL is : Nat} {ls : Array Slot} {cc : ByteArray} {tx : String} {free : Addr → Prop} {thr : String → Prop} {Qr : Array Value → State → Outcome → State → Prop}
    (hx : p.tables.exec = Jvm.exec) (hb : c.code = cc) (hml : c.maxLocals = nL) (hlocks : meth.locks = false) (hce : c.exceptionTable.isEmpty = true) (htr : e.platform.stackTraces = false) (hown : s.vm.findClass R_D = some m.cls) (hA : ∀ w ∈ wsA, w.before args s = true) (hG : tx_G s) (hls : ls.size = nL) {st : List Value} (hst : (st.map fun v => v.category).sum ≤ 8) (hs : (is, tx) ∈ tx_strs)
    (d0 : decode cc pc = .ok (.new 138, 3)) (d3 : decode cc (pc + 3) = .ok (.dup, 1)) (d4 : decode cc (pc + 4) = .ok (.ldc is, 2)) (d6 : decode cc (pc + 6) = .ok (.invokespecial 142, 3)) (d9 : decode cc (pc + 9) = .ok (.athrow, 1))
    (hRf : 6 ≤ R.frames) (hRl : 90 ≤ R.locals) (hRc : cells + 1 ≤ R.cells) (hRs : slots + 6 ≤ R.slots) (ht : thr X_UOE) : W p l e R s m args below meth c H [] cells slots (tx_MQ below (tx_Q thr Qr) args s cells slots free) (F0 m pc ls st) := by
  obtain ⟨q, hZ⟩ := hG.2.2 _ hs
  exact tx_throw hx hb hml hlocks hce htr hown (by decide +kernel) (by decide +kernel) (by decide +kernel) (by decide +kernel) (by decide +kernel) (by decide +kernel) (by decide +kernel) (tx_ok hA hG at_UOE) (hA _ (by decide +kernel)) (hA _ (by decide +kernel)) hZ hls hst d0 d3 d4 d6 d9 (by show 1 + 4 < _; omega) (by show 13 * (1 + 2) + 51 ≤ _; omega) hRc hRs (fun x t hE => Or.inr ⟨x, _, rfl, ht, hE⟩)
