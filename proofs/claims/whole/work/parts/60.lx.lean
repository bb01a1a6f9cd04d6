/-!  -/
/-! METHODS WITH AN EXCEPTION TABLE: their table, their calls, what a wrapper starts from -/
theorem lx_self (vm : Vm) (c : ClassId) : vm.assignable c c = true := by
  show vm.assignableAux (255 + 1) c c = true
  rw [Vm.assignableAux]
  simp only [beq_self_eq_true, Bool.true_or]
theorem lx_tab {p : Program} {l : Launch} {y : MethodName} {S : Spec} {cc : ByteArray} {maxL : Nat} {ret : Option FieldType} {e : Env} {s : State} {m : MethodId} {args : Array Value} {below : List Frame} {meth : Method} {c : Code} {s₁ : State} {hh : List (Nat × Nat × Nat × Nat)} (B : BodyLoose p l y S cc maxL ret e s m args below meth c s₁) (h : (Cond.codeWith y cc maxL ret hh).before args s = true) :
    c.exceptionTable.toList = hh.map (fun q => (⟨q.1, q.2.1, q.2.2.1, q.2.2.2⟩ : ClassFile.ExceptionTableEntry)) := by
  obtain ⟨m9, meth', c', hn, hm', hc', -, -, ht, -⟩ := Cond.codeWith_spec h
  cases B.named.symm.trans hn
  cases B.method.symm.trans hm'
  cases (Stand.of_body B).code.symm.trans hc'
  rw [← ht, List.map_map]
  exact (List.map_id' c.exceptionTable.toList).symm
def lx_nc : List (String × String) := [(X_IOOBE, X_IAE), (X_IOOBE, X_ISE), (X_IOOBE, X_NSEE), (X_IOOBE, X_UOE), (X_IAE, X_IOOBE), (X_IAE, X_ISE), (X_IAE, X_NSEE), (X_IAE, X_UOE), (X_ISE, X_IOOBE), (X_ISE, X_IAE), (X_ISE, X_NSEE), (X_ISE, X_UOE), (X_NSEE, X_IOOBE), (X_NSEE, X_IAE), (X_NSEE, X_ISE), (X_NSEE, X_UOE), (X_UOE, X_IOOBE), (X_UOE, X_IAE), (X_UOE, X_ISE), (X_UOE, X_NSEE)]
def tx_N (U : State) : Prop := ∀ z ∈ lx_nc, va_Nc z.1 z.2 U
theorem tx_N.moved {u U : State} (hvm : u.vm.Alike U.vm) (h : tx_N u) : tx_N U := fun z hz => (h z hz).moved hvm
def oxn (sz : Nat) (D : va_G) (tys : List (ClassId × FieldType)) (ws : va_W) (U : State) : Prop := oxv sz D tys ws U ∧ tx_N U
theorem oxn_b {sz : Nat} {D : va_G} {tys : List (ClassId × FieldType)} {ws : va_W} {av : List Value} : FrameBlind (va_Pc av (oxn sz D tys ws)) := fun a U g mk q => ⟨q.1, (oxv_b (av := a.toList) a U g mk ⟨by simp, q.2.1⟩).2, tx_N.moved (u := U) (U := U.calling g mk a) (Vm.Alike.refl U.vm) q.2.2⟩
theorem oxn_S {s : State} {H : Heap} {D : va_G} {tys : List (ClassId × FieldType)} {ws : va_W} {av : List Value} {A : Nat → Prop} (hP : va_P D vCl ws H) (hK : va_K D vCl tys s) (hD : va_D A ws) (hG : tx_G s) (hh : ∀ q : Nat, q < s.heap.size → H[q]? = s.heap[q]?) (hN : tx_N s) : PreS s H (va_Pc av (oxn H.size D tys ws)) av := ⟨oxn_b, fun U hU hW => ⟨rfl, ((oxv_S (av := av) hP hK hD hG hh).2 U hU hW).2, hN.moved hW.alike⟩⟩
section LX
variable {p : Program} {l : Launch} {e : Env} {R : Room} {s : State} {m : MethodId} {args : Array Value} {below : List Frame} {meth : Method} {c : Code} {H : Heap} {locs : List Loc} {cells slots : Nat} {Q : State → Prop}
variable {y : MethodName} {bytes cc : ByteArray} {maxL nL mc ms n index : Nat} {ret : Option FieldType} {ws : List Cond} {rm : Room} {Pc : Array Value → State → Prop} {Qc : Array Value → State → Outcome → State → Prop} {free : Addr → Prop} {own : String} {As rest : List Value} {g : JFrame} {hh : List (Nat × Nat × Nat × Nat)}
def lx_CB (R : Room) (s : State) (args : Array Value) (own : String) (index : Nat) (y : MethodName) (bytes : ByteArray) (maxL : Nat) (ret : Option FieldType) (hh : List (Nat × Nat × Nat × Nat)) (ws : List Cond) (rm : Room) (mc ms n : Nat) : Prop :=
  rm.cells = mc + 1 ∧ rm.slots = ms + 6 ∧ rm.frames + 1 ≤ R.frames ∧ 8 + (maxL + 11) + rm.locals ≤ R.locals ∧ (∀ w ∈ ws, ∀ (a' : Array Value) (U : State), s.WarmedH U.vm → w.before a' U = true) ∧
  (Cond.codeWith y bytes maxL ret hh).before args s = true ∧ (Cond.initialized y.cls).before args s = true ∧ (y.cls ≠ "java/lang/invoke/MethodHandle" ∧ y.cls ≠ "java/lang/invoke/VarHandle") ∧ (∀ sig, parseMethodDescriptor y.desc = some sig → n = sig.parameters.length) ∧ (Cond.methodLink own index y).before args s = true ∧ (Cond.static y).before args s = true
theorem lx_cb (n : Nat) (hA : ∀ w ∈ wsA, w.before args s = true) (hc : Cond.codeWith y bytes maxL ret hh ∈ wsA) (hi : Cond.initialized y.cls ∈ wsA) (hl : Cond.methodLink own index y ∈ wsA) (hst : Cond.static y ∈ wsA) (hrc : rm.cells = mc + 1) (hrs : rm.slots = ms + 6)
    (hd : y.cls ≠ "java/lang/invoke/MethodHandle" ∧ y.cls ≠ "java/lang/invoke/VarHandle" ∧ (parseMethodDescriptor y.desc).map (fun d => d.parameters.length) = some n) (hR : rm.frames + 1 ≤ R.frames ∧ 8 + (maxL + 11) + rm.locals ≤ R.locals) : lx_CB R s args own index y bytes maxL ret hh (Cond.codeWith y bytes maxL ret hh :: wsA) rm mc ms n := by
  refine ⟨hrc, hrs, hR.1, hR.2, wa_pay hA hc, hA _ hc, hA _ hi, ⟨hd.1, hd.2.1⟩, fun sig h => ?_, hA _ hl, hA _ hst⟩
  have h2 := hd.2.2
  rw [h] at h2
  exact (Option.some.inj h2).symm
theorem lx_runS {Ts : List Cond} (S : CallFix p m c cc nL s args Ts own) (hM : Met l y ws rm Pc Qc mc ms free) (cw : lx_CB R s args own index y bytes maxL ret hh ws rm mc ms n) (hp : PreS s H Pc As)
    (hg : g.method = m) (hn : As.length = n) (hsize : g.locals.size = nL) (hstack : g.stack = As.reverse ++ rest) (hW : 2 * g.monitorRoom + (rest.map fun v => v.category).sum ≤ 8) (hdg : decode cc g.pc = .ok (.invokestatic index, 3)) (hf : cells + (mc + 1) ≤ R.cells ∧ slots + (ms + 6) ≤ R.slots) :
    tx_Run p l e R s m args below meth c H locs cells slots mc ms g rest (Qc As.toArray) free := by
  obtain ⟨hrc, hrs, hfr, hlo, hws, hcode, hini, hy, hlen, hl, hstt⟩ := cw
  obtain ⟨hx, hb, hml, ho, -⟩ := S
  intro T hT X
  obtain ⟨mk, methM, cM, hnamed, hmethM, hcM, -, hlM, -, -, -, hsigM⟩ := Cond.codeWith_spec hcode
  have hstatic : methM.isStatic = true := Cond.static_spec hnamed hmethM hstt
  obtain ⟨kP, hkP, -⟩ := className_of_methodNamed hnamed
  have hinitP : kP.init = .initialized := Cond.initialized_spec (findClass_of_methodNamed hnamed) hkP hini
  obtain ⟨vm₁, X₁, hstep₁⟩ := X.invokestatic hx ho hl hnamed hmethM hstatic hkP hinitP hy (g := g) hg (argsL := As) (rest := rest) (hn.trans (hlen _ hsigM)) hstack (by rw [hb]; exact hdg)
  exact tx_go hT rfl X₁ (tx_ofMet hM) hg (hsize.trans hml.symm) (by rw [hb]; exact hdg) hW (X₁.named hnamed) hws (by rw [X₁.warmed.alike.method?]; exact hmethM) hcM hlM hini hfr hlo (by rw [hrc]; exact hf.1) (by rw [hrs]; exact hf.2) hp.1 hp.2 hstep₁
theorem lx_wi {pc : Nat} {ls : Array Slot} {st0 : List Value} {a : Array Value} {S : Type} {A0 A1 : Nat → Prop} {H0 : Heap} {post : Int32 → S → Prop} {B : S → State → Prop} (hr : tx_Run p l e R s m args below meth c H locs cells slots mc ms (F0 m pc ls st0) rest (va_Qi post B A1 a) free) (hS : va_S A0 H0 H locs) (hA : ∀ q, q < H.size → A1 q → A0 q) (hf : ∀ q, free q → A0 q)
    (kk : ∀ (r : Int32) (u : S) (t : State) (H1 : Heap) (locs1 : List Loc), t.heap = H1 → s.vm.Alike t.vm → post r u → B u t → H.size ≤ H1.size → (∀ q : Nat, q < H.size → ¬ A1 q → H1[q]? = H[q]?) → va_S A0 H0 H1 locs1 → W p l e R s m args below meth c H1 locs1 (cells + mc) (slots + ms) Q (F0 m (pc + 3) ls (.int r :: rest))) : W p l e R s m args below meth c H locs cells slots Q (F0 m pc ls st0) := by
  refine tx_call hr (fun v st₀ t L h0 hW0 hWt hL hq => ?_) (fun x st₀ t L h0 hW0 hWt hL hq => ?_)
  · obtain ⟨⟨r, u, hv, hp, hb⟩, hz, hk⟩ := hq
    cases hv
    rw [h0] at hz hk
    exact kk r u t t.heap (locs ++ L) rfl hWt.alike hp hb hz hk ⟨Nat.le_trans hS.1 hz, fun q h1 h2 => by rw [hk q (Nat.lt_of_lt_of_le h1 hS.1) (fun z => h2 (hA q (Nat.lt_of_lt_of_le h1 hS.1) z))]; exact hS.2.1 q h1 h2, fun q hq => by
      rcases List.mem_append.mp hq with h | h
      · exact hS.2.2 q h
      · exact hf _ (hL q h)⟩
  · obtain ⟨⟨r, u, hv, -⟩, -⟩ := hq
    cases hv
end LX
