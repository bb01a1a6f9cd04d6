/-! WORDS: every method's words are its own code and the whole of the tables that is steady -/
def wa_good (w : Cond) : Bool := (w.onTables && w.keeps) || (match w with
  | .arrayClass _ => true
  | _ => false)
def wsA : List Cond := lw_tbl.filter wa_good
theorem wa_ok {w : Cond} (h : wa_good w = true) : (w.onTables && w.keeps) = true ∨ ∃ ty, w = .arrayClass ty := by
  unfold wa_good at h
  rcases (Bool.or_eq_true _ _).mp h with h | h
  · exact Or.inl h
  · split at h
    · exact Or.inr ⟨_, rfl⟩
    · cases h
theorem wa_mem {w : Cond} (h : w ∈ lw_tbl) (hg : wa_good w = true) : w ∈ wsA := List.mem_filter.mpr ⟨h, hg⟩
theorem wa_goodIn {c1 : Cond} (h1 : c1 ∈ wsA) : GoodIn wsA (c1 :: wsA) := by
  intro w hw
  have h : w ∈ wsA := by
    rcases List.mem_cons.mp hw with rfl | h
    · exact h1
    · exact h
  exact ⟨h, wa_ok (List.mem_filter.mp h).2⟩
theorem wa_lw {args : Array Value} {s : State} (h : ∀ w ∈ lw_tbl, w.before args s = true) : ∀ w ∈ wsA, w.before args s = true := fun w hw => h w (List.mem_filter.mp hw).1
theorem wa_cb {R : Room} {s : State} {args : Array Value} {own : String} {index : Nat} {y : MethodName} {bytes : ByteArray} {maxL : Nat} {ret : Option FieldType} {rm : Room} {mc ms : Nat} (n : Nat) (hA : ∀ w ∈ wsA, w.before args s = true) (hc : Cond.code y bytes maxL ret ∈ wsA) (hi : Cond.initialized y.cls ∈ wsA) (hl : Cond.methodLink own index y ∈ wsA) (hrc : rm.cells = mc) (hrs : rm.slots = ms)
    (hd : y.cls ≠ "java/lang/invoke/MethodHandle" ∧ y.cls ≠ "java/lang/invoke/VarHandle" ∧ (parseMethodDescriptor y.desc).map (fun d => d.parameters.length) = some n) (hR : rm.frames + 1 ≤ R.frames ∧ 8 + (maxL + 11) + rm.locals ≤ R.locals) : CallB R s args own index y bytes maxL ret (Cond.code y bytes maxL ret :: wsA) rm mc ms n :=
  callB_of n (Ts := wsA) hA (wa_goodIn hc) rfl hrc hrs (hA _ hi) (hA _ hl) hd hR
