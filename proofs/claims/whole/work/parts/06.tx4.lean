/-! AN EXCEPTION IS CAUGHT IN THE METHOD: the search through its table, entries resolved or not -/
theorem tx_goCold {E : CtlPost} {e : Env} {d : Bool} {acts : List Action} {s : State} {f : JFrame} {a : Addr} {Q : Handler → Jvm.Pre} {x : ClassFile.ExceptionTableEntry} {t : List ClassFile.ExceptionTableEntry} {c : ClassId} {cell : Cell} {vm' : Vm} (hx : covers x f.pc = true) (h0 : x.catchType ≠ 0)
    (hg : (resolveClass f.method.cls x.catchType).Gives e.toSetting s.vm (.ok c) vm') (hsz : vm'.classes.size ≤ s.vm.classes.size) (hcell : s.heap[a]? = some cell) (hobj : ∀ k, cell.vm ≠ .statics k)
    (hk : ∃ k, vm'.classes[cell.cls]? = some k) (hc : ∃ k, vm'.classes[c]? = some k) :
    Sem.wp (findHandler.go f a (x :: t)) Q E e d acts s ↔
      if vm'.assignable cell.cls c = true then Q (.found x.handlerPc) d acts (s.setVm vm') else Sem.wp (findHandler.go f a t) Q E e d acts (s.setVm vm') := by
  obtain ⟨ha, ht⟩ := hg.op (op := VmOp.resolveClass f.method.cls x.catchType) rfl
  simp only [covers] at hx
  cases hfit : vm'.assignable cell.cls c <;>
    simp [findHandler.go, hx, h0, ha, ht, hsz, hcell, hobj, hk, hc, hfit, VmOp.dirties, VmOp.acts]
/-- an entry of the table, with its class's name: it covers the place, its class links -/
def tx_ent (own : String) (pc : Nat) (args : Array Value) (s : State) (z : ClassFile.ExceptionTableEntry × String) : Prop := covers z.1 pc = true ∧ z.1.catchType ≠ 0 ∧ (Cond.classLink own z.1.catchType z.2).before args s = true
theorem tx_find {e : Env} {l : Launch} {s : State} {m : MethodId} {args : Array Value} {a : Addr} {ce : Cell} {own E nm : String} (hadm : l.admits e) (hown : s.vm.findClass own = some m.cls) (hvm : ce.vm = .none) (hE : s.vm.findClass E = some ce.cls) {pc : Nat} {ls : Array Slot} {st : List Value}
    {x0 : ClassFile.ExceptionTableEntry} {rest : List ClassFile.ExceptionTableEntry} (h0 : tx_ent own pc args s (x0, nm)) (hc : ∀ t : ClassId, s.vm.findClass nm = some t → s.vm.assignable ce.cls t = true) :
    ∀ (pre : List (ClassFile.ExceptionTableEntry × String)) (S : State), s.WarmedH S.vm → S.heap[a]? = some ce → (∀ z ∈ pre, tx_ent own pc args s z ∧ va_Nc E z.2 s) →
      ∃ vm' : Vm, s.WarmedH vm' ∧ ∀ (Q : Handler → Jvm.Pre) (E' : CtlPost) (d : Bool) (acts : List Action), Sem.wp (findHandler.go (F0 m pc ls st) a (pre.map (·.1) ++ x0 :: rest)) Q E' e d acts S ↔ Q (.found x0.handlerPc) d acts (S.setVm vm') := by
  have hpl : e.platform.magicAccessors = ({} : Platform).magicAccessors := by rw [hadm.platform]
  have hobj : ∀ k, ce.vm ≠ .statics k := fun k h => by rw [hvm] at h; cases h
  have key : ∀ (z : ClassFile.ExceptionTableEntry × String) (S : State), s.WarmedH S.vm → S.heap[a]? = some ce → tx_ent own pc args s z → ∃ (t : ClassId) (vm' : Vm), s.vm.findClass z.2 = some t ∧ s.WarmedH vm' ∧ ∀ (r : List ClassFile.ExceptionTableEntry) (Q : Handler → Jvm.Pre) (E' : CtlPost) (d : Bool) (acts : List Action),
      Sem.wp (findHandler.go (F0 m pc ls st) a (z.1 :: r)) Q E' e d acts S ↔ if s.vm.assignable ce.cls t = true then Q (.found z.1.handlerPc) d acts (S.setVm vm') else Sem.wp (findHandler.go (F0 m pc ls st) a r) Q E' e d acts (S.setVm vm') := by
    intro z S hW hcell hz
    obtain ⟨z1, z2, z3⟩ := hz
    obtain ⟨t, ht, hcl⟩ := Cond.classLink_spec hown z3 e.platform hpl
    obtain ⟨dk, _, _, kt, hd, _, _, _, _, hkt, _, hopen⟩ := hcl.here
    have hcl₀ := hW.classLinks hcl
    have hW' : s.WarmedH (S.vm.noted m.cls z.1.catchType (.cls t)) := hW.noted hd hopen (State.rightAt_cls hcl)
    obtain ⟨ks, hks⟩ := Vm.classAt_of_findClass hE
    obtain ⟨ks', hks', -⟩ := hW'.alike.2.2 _ _ hks
    obtain ⟨kt', hkt', -⟩ := hW'.alike.2.2 _ _ hkt
    refine ⟨t, _, ht, hW', fun r Q E' d acts => ?_⟩
    rw [tx_goCold (f := F0 m pc ls st) z1 z2 (resolveClass_links e.toSetting hcl₀) (by simp) hcell hobj ⟨ks', hks'⟩ ⟨kt', hkt'⟩, hW'.alike.assignable]
  intro pre
  induction pre with
  | nil =>
    intro S hW hcell _
    obtain ⟨t, vm', ht, hW', hgo⟩ := key (x0, nm) S hW hcell h0
    refine ⟨vm', hW', fun Q E' d acts => ?_⟩
    rw [List.map_nil, List.nil_append, hgo, if_pos (hc t ht)]
  | cons z pre ih =>
    intro S hW hcell hp
    obtain ⟨hz, c1, t1, n1, n2, n3⟩ := hp z List.mem_cons_self
    obtain ⟨t, vm', ht, hW', hgo⟩ := key z S hW hcell hz
    cases n2.symm.trans ht
    cases n1.symm.trans hE
    obtain ⟨vm'', hW'', hgo2⟩ := ih (S.setVm vm') hW' hcell (fun y hy => hp y (List.mem_cons_of_mem _ hy))
    refine ⟨vm'', hW'', fun Q E' d acts => ?_⟩
    rw [List.map_cons, List.cons_append, hgo, if_neg (by rw [n3]; decide), hgo2]
    rfl
theorem tx_stepCatch {e : Env} {s s' : State} {a : Addr} {f : JFrame} {r : List Frame} {pc : Nat} (hfind : ∀ (Q : Handler → Jvm.Pre) (E : CtlPost) (d : Bool) (acts : List Action), Sem.wp (findHandler f a) Q E e d acts s ↔ Q (.found pc) d acts s') :
    (stepThrowing e s a (.java f :: r)).Is (s'.setFrames (.java { f with pc := pc, stack := [.ref a] } :: r)) [] := by
  simp only [stepThrowing, searchFrame, vmDo]
  generalize hr : Sem.go _ e false [] s = res
  obtain ⟨as, rfl, ha⟩ := Sem.eq_ok_of hr (a := Handler.found pc) (s' := s') (acts' := []) (by simp [hfind _ _ _ _])
  exact ⟨rfl, ha⟩
section TXC
variable {p : Program} {l : Launch} {e : Env} {R : Room} {s : State} {m : MethodId} {args : Array Value} {below : List Frame} {meth : Method} {c : Code} {H : Heap} {locs : List Loc} {cells slots : Nat} {Q : State → Prop}
/-- the exception of class E at x is caught by the entry behind pre -/
theorem tx_catch {x pc hpc : Nat} {ls : Array Slot} {st : List Value} {own E nm : String} {ce : Cell} (hown : s.vm.findClass own = some m.cls) (hcell : H[x]? = some ce) (hvm : ce.vm = .none) (hE : s.vm.findClass E = some ce.cls)
    (pre : List (ClassFile.ExceptionTableEntry × String)) {x0 : ClassFile.ExceptionTableEntry} {rest : List ClassFile.ExceptionTableEntry} (htab : c.exceptionTable.toList = pre.map (·.1) ++ x0 :: rest) (h0 : tx_ent own pc args s (x0, nm)) (hc : ∀ t : ClassId, s.vm.findClass nm = some t → s.vm.assignable ce.cls t = true)
    (hpre : ∀ z ∈ pre, tx_ent own pc args s z ∧ va_Nc E z.2 s) (hh : x0.handlerPc = hpc)
    (k : W p l e R s m args below meth c H locs cells slots Q (F0 m hpc ls [.ref x])) : tx_W p l e R s m args below meth c H locs cells slots Q (F0 m pc ls st) x := by
  intro T hT X
  subst hh
  have hS : ((T.setTop (F0 m pc ls st)).pushFrame (.throwing x)).vm = T.vm := Stand.throwing_vm T _ x
  have hSh : ((T.setTop (F0 m pc ls st)).pushFrame (.throwing x)).heap = T.heap := Stand.throwing_heap T _ x
  obtain ⟨vm', hW', hgo⟩ := tx_find (ls := ls) (st := st) (rest := rest) X.admits hown hvm hE h0 hc pre ((T.setTop (F0 m pc ls st)).pushFrame (.throwing x)) (by rw [hS]; exact X.warmed) (by rw [hSh, hT]; exact hcell) hpre
  have X' := X.noted hW'
  obtain ⟨t, a1, b1⟩ := k (T.setVm vm') hT X'
  refine ⟨t, ?_, b1⟩
  have hm' : ((T.setTop (F0 m pc ls st)).pushFrame (.throwing x)).vm.method? m = some meth := by rw [hS]; exact X.method'
  obtain ⟨hgo1, hw1⟩ := (show At T (F0 m pc ls st).method c below from X.here).throwing x
  refine Steps.head hgo1 hw1 ?_
  rw [stepThread_throwing (frames_entered X.here.top _), (tx_stepCatch (s := (T.setTop (F0 m pc ls st)).pushFrame (.throwing x)) (s' := ((T.setTop (F0 m pc ls st)).pushFrame (.throwing x)).setVm vm') (pc := x0.handlerPc) (fun Q E d acts => by
    rw [W.findHandler_eq (f := F0 m pc ls st) hm' X.code, htab]; exact hgo Q E d acts)).1]
  obtain ⟨g₀, hr⟩ := X.frames_eq
  have hr' : (T.setVm vm').frames = .java g₀ :: below := hr
  have e0 : ∀ F : List Frame, (((T.setTop (F0 m pc ls st)).pushFrame (.throwing x)).setVm vm').setFrames F = (T.setVm vm').setFrames F := by
    intro F
    show (((T.setTop (F0 m pc ls st)).pushFrame (.throwing x)).setFrames F).setVm vm' = _
    rw [State.pushFrame, State.setFrames_setFrames, State.setTop_of_frames _ hr, State.setFrames_setFrames]
    rfl
  rw [State.setTop_of_frames _ hr'] at a1
  rw [hr, e0]
  exact a1
end TXC
