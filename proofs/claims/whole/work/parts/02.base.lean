/-! WORDS: every method's words are its own code and the whole of the tables that is steady -/
def wa_good (w : Cond) : Bool := (w.onTables && w.keeps) || (w.onTables && w.keepsFace) || (match w with
  | .arrayClass _ => true
  | _ => false)
def wsA : List Cond := lw_tbl.filter wa_good
theorem wa_at {w : Cond} (hg : wa_good w = true) {args a' : Array Value} {s U : State} (hW : s.WarmedH U.vm) (h : w.before args s = true) : w.before a' U = true := by
  unfold wa_good at hg
  rcases (Bool.or_eq_true _ _).mp hg with hg | hg
  · rcases (Bool.or_eq_true _ _).mp hg with hg | hg
    · exact word_at hW (Or.inl hg) h
    · have hg := (Bool.and_eq_true _ _).mp hg
      have h1 : w.before args (s.setVm U.vm) = true := Cond.before_shiftedFace (State.Shifted.of_warmed hW) _ hg.2 h
      rw [Cond.onTables_vm (A' := a') (U' := U) U.vm w hg.1] at h1
      exact h1
  · split at hg
    · exact word_at hW (Or.inr ⟨_, rfl⟩) h
    · cases hg
theorem wa_mem {w : Cond} (h : w ∈ lw_tbl) (hg : wa_good w = true) : w ∈ wsA := List.mem_filter.mpr ⟨h, hg⟩
theorem wa_lw {args : Array Value} {s : State} (h : ∀ w ∈ lw_tbl, w.before args s = true) : ∀ w ∈ wsA, w.before args s = true := fun w hw => h w (List.mem_filter.mp hw).1
theorem wa_pay {args : Array Value} {s : State} (hA : ∀ w ∈ wsA, w.before args s = true) {c1 : Cond} (h1 : c1 ∈ wsA) : ∀ w ∈ c1 :: wsA, ∀ (a' : Array Value) (U : State), s.WarmedH U.vm → w.before a' U = true := by
  intro w hw a' U hW
  have h : w ∈ wsA := by
    rcases List.mem_cons.mp hw with rfl | h
    · exact h1
    · exact h
  exact wa_at (List.mem_filter.mp h).2 hW (hA w h)
theorem wa_cb {R : Room} {s : State} {args : Array Value} {own : String} {index : Nat} {y : MethodName} {bytes : ByteArray} {maxL : Nat} {ret : Option FieldType} {rm : Room} {mc ms : Nat} (n : Nat) (hA : ∀ w ∈ wsA, w.before args s = true) (hc : Cond.code y bytes maxL ret ∈ wsA) (hi : Cond.initialized y.cls ∈ wsA) (hl : Cond.methodLink own index y ∈ wsA) (hrc : rm.cells = mc) (hrs : rm.slots = ms)
    (hd : y.cls ≠ "java/lang/invoke/MethodHandle" ∧ y.cls ≠ "java/lang/invoke/VarHandle" ∧ (parseMethodDescriptor y.desc).map (fun d => d.parameters.length) = some n) (hR : rm.frames + 1 ≤ R.frames ∧ 8 + (maxL + 11) + rm.locals ≤ R.locals) : CallB R s args own index y bytes maxL ret (Cond.code y bytes maxL ret :: wsA) rm mc ms n := by
  refine ⟨hrc, hrs, hR.1, hR.2, wa_pay hA hc, List.mem_cons_self, hA _ hc, hA _ hi, ⟨hd.1, hd.2.1⟩, fun sig h => ?_, hA _ hl⟩
  have h2 := hd.2.2
  rw [h] at h2
  exact (Option.some.inj h2).symm
