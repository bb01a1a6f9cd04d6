section
-- ===== PART A: goes FIRST, ahead of the names: the tables' words, and 'selects' of the private methods out of them =====
/-- a private method of a class that the tables say can be made, by its rows of tables_1 -/
def lw_okq (q : MethodName × Nat) : Prop := (q.1.cls ≠ "java/lang/invoke/MethodHandle" ∧ q.1.cls ≠ "java/lang/invoke/VarHandle") ∧ Cond.instantiable q.1.cls q.2 ∈ tables_1 ∧ Cond.privateMethod q.1 ∈ tables_1 ∧ Cond.instanceMethod q.1 ∈ tables_1
theorem lw_p0 : lw_okq (⟨"PacketDesk", "rowOf", "(I)LPacketDesk$Row;"⟩, 1) := ⟨⟨by decide +kernel, by decide +kernel⟩, List.mem_of_getElem? (i := 15) (by decide +kernel), List.mem_of_getElem? (i := 67) (by decide +kernel), List.mem_of_getElem? (i := 68) (by decide +kernel)⟩
theorem lw_p1 : lw_okq (⟨"java/lang/Throwable", "fillInStackTrace", "(I)Ljava/lang/Throwable;"⟩, 6) := ⟨⟨by decide +kernel, by decide +kernel⟩, List.mem_of_getElem? (i := 111) (by decide +kernel), List.mem_of_getElem? (i := 109) (by decide +kernel), List.mem_of_getElem? (i := 110) (by decide +kernel)⟩
theorem lw_p2 : lw_okq (⟨"PacketDeskModel", "fail", "(I)I"⟩, 6) := ⟨⟨by decide +kernel, by decide +kernel⟩, List.mem_of_getElem? (i := 445) (by decide +kernel), List.mem_of_getElem? (i := 485) (by decide +kernel), List.mem_of_getElem? (i := 486) (by decide +kernel)⟩
theorem lw_p3 : lw_okq (⟨"PacketDeskModel", "fits", "(II)Z"⟩, 6) := ⟨⟨by decide +kernel, by decide +kernel⟩, List.mem_of_getElem? (i := 445) (by decide +kernel), List.mem_of_getElem? (i := 489) (by decide +kernel), List.mem_of_getElem? (i := 490) (by decide +kernel)⟩
theorem lw_p4 : lw_okq (⟨"PacketDeskModel", "add", "(II)V"⟩, 6) := ⟨⟨by decide +kernel, by decide +kernel⟩, List.mem_of_getElem? (i := 445) (by decide +kernel), List.mem_of_getElem? (i := 494) (by decide +kernel), List.mem_of_getElem? (i := 495) (by decide +kernel)⟩
theorem lw_p5 : lw_okq (⟨"PacketDeskModel", "set", "(III)V"⟩, 6) := ⟨⟨by decide +kernel, by decide +kernel⟩, List.mem_of_getElem? (i := 445) (by decide +kernel), List.mem_of_getElem? (i := 498) (by decide +kernel), List.mem_of_getElem? (i := 499) (by decide +kernel)⟩
theorem lw_p6 : lw_okq (⟨"PacketDeskModel", "putGroups", "(IJ)I"⟩, 6) := ⟨⟨by decide +kernel, by decide +kernel⟩, List.mem_of_getElem? (i := 445) (by decide +kernel), List.mem_of_getElem? (i := 507) (by decide +kernel), List.mem_of_getElem? (i := 508) (by decide +kernel)⟩
theorem lw_p7 : lw_okq (⟨"PacketDeskModel", "addGroups", "(IJ)V"⟩, 6) := ⟨⟨by decide +kernel, by decide +kernel⟩, List.mem_of_getElem? (i := 445) (by decide +kernel), List.mem_of_getElem? (i := 514) (by decide +kernel), List.mem_of_getElem? (i := 515) (by decide +kernel)⟩
theorem lw_p8 : lw_okq (⟨"PacketDeskModel", "has", "(III)Z"⟩, 6) := ⟨⟨by decide +kernel, by decide +kernel⟩, List.mem_of_getElem? (i := 445) (by decide +kernel), List.mem_of_getElem? (i := 543) (by decide +kernel), List.mem_of_getElem? (i := 544) (by decide +kernel)⟩
theorem lw_p9 : lw_okq (⟨"PacketDeskModel", "at", "(II)I"⟩, 6) := ⟨⟨by decide +kernel, by decide +kernel⟩, List.mem_of_getElem? (i := 445) (by decide +kernel), List.mem_of_getElem? (i := 547) (by decide +kernel), List.mem_of_getElem? (i := 548) (by decide +kernel)⟩
theorem lw_p10 : lw_okq (⟨"PacketDeskModel", "wrap", "(III)I"⟩, 6) := ⟨⟨by decide +kernel, by decide +kernel⟩, List.mem_of_getElem? (i := 445) (by decide +kernel), List.mem_of_getElem? (i := 555) (by decide +kernel), List.mem_of_getElem? (i := 556) (by decide +kernel)⟩
theorem lw_p11 : lw_okq (⟨"PacketDeskModel", "sumOf", "(III)I"⟩, 6) := ⟨⟨by decide +kernel, by decide +kernel⟩, List.mem_of_getElem? (i := 445) (by decide +kernel), List.mem_of_getElem? (i := 559) (by decide +kernel), List.mem_of_getElem? (i := 560) (by decide +kernel)⟩
theorem lw_p12 : lw_okq (⟨"PacketDeskModel", "number", "(III)J"⟩, 6) := ⟨⟨by decide +kernel, by decide +kernel⟩, List.mem_of_getElem? (i := 445) (by decide +kernel), List.mem_of_getElem? (i := 584) (by decide +kernel), List.mem_of_getElem? (i := 585) (by decide +kernel)⟩
theorem lw_p13 : lw_okq (⟨"PacketDeskModel", "grouped", "(II)J"⟩, 6) := ⟨⟨by decide +kernel, by decide +kernel⟩, List.mem_of_getElem? (i := 445) (by decide +kernel), List.mem_of_getElem? (i := 592) (by decide +kernel), List.mem_of_getElem? (i := 593) (by decide +kernel)⟩
theorem lw_p14 : lw_okq (⟨"PacketDeskModel", "failed", "()I"⟩, 6) := ⟨⟨by decide +kernel, by decide +kernel⟩, List.mem_of_getElem? (i := 445) (by decide +kernel), List.mem_of_getElem? (i := 596) (by decide +kernel), List.mem_of_getElem? (i := 597) (by decide +kernel)⟩
theorem lw_p15 : lw_okq (⟨"PacketDeskModel", "lettered", "(III)I"⟩, 6) := ⟨⟨by decide +kernel, by decide +kernel⟩, List.mem_of_getElem? (i := 445) (by decide +kernel), List.mem_of_getElem? (i := 609) (by decide +kernel), List.mem_of_getElem? (i := 610) (by decide +kernel)⟩
def lw_privs_1 : List (MethodName × Nat) := [(⟨"PacketDesk", "rowOf", "(I)LPacketDesk$Row;"⟩, 1), (⟨"java/lang/Throwable", "fillInStackTrace", "(I)Ljava/lang/Throwable;"⟩, 6), (⟨"PacketDeskModel", "fail", "(I)I"⟩, 6), (⟨"PacketDeskModel", "fits", "(II)Z"⟩, 6), (⟨"PacketDeskModel", "add", "(II)V"⟩, 6), (⟨"PacketDeskModel", "set", "(III)V"⟩, 6), (⟨"PacketDeskModel", "putGroups", "(IJ)I"⟩, 6), (⟨"PacketDeskModel", "addGroups", "(IJ)V"⟩, 6), (⟨"PacketDeskModel", "has", "(III)Z"⟩, 6), (⟨"PacketDeskModel", "at", "(II)I"⟩, 6), (⟨"PacketDeskModel", "wrap", "(III)I"⟩, 6), (⟨"PacketDeskModel", "sumOf", "(III)I"⟩, 6), (⟨"PacketDeskModel", "number", "(III)J"⟩, 6), (⟨"PacketDeskModel", "grouped", "(II)J"⟩, 6), (⟨"PacketDeskModel", "failed", "()I"⟩, 6), (⟨"PacketDeskModel", "lettered", "(III)I"⟩, 6)]
theorem lw_r1 : ∀ q ∈ lw_privs_1, lw_okq q := List.forall_mem_cons.mpr ⟨lw_p0, List.forall_mem_cons.mpr ⟨lw_p1, List.forall_mem_cons.mpr ⟨lw_p2, List.forall_mem_cons.mpr ⟨lw_p3, List.forall_mem_cons.mpr ⟨lw_p4, List.forall_mem_cons.mpr ⟨lw_p5, List.forall_mem_cons.mpr ⟨lw_p6, List.forall_mem_cons.mpr ⟨lw_p7, List.forall_mem_cons.mpr ⟨lw_p8, List.forall_mem_cons.mpr ⟨lw_p9, List.forall_mem_cons.mpr ⟨lw_p10, List.forall_mem_cons.mpr ⟨lw_p11, List.forall_mem_cons.mpr ⟨lw_p12, List.forall_mem_cons.mpr ⟨lw_p13, List.forall_mem_cons.mpr ⟨lw_p14, List.forall_mem_cons.mpr ⟨lw_p15, fun _ h => absurd h List.not_mem_nil⟩⟩⟩⟩⟩⟩⟩⟩⟩⟩⟩⟩⟩⟩⟩⟩
theorem lw_p16 : lw_okq (⟨"PacketDeskModel", "unwrap", "(III)I"⟩, 6) := ⟨⟨by decide +kernel, by decide +kernel⟩, List.mem_of_getElem? (i := 445) (by decide +kernel), List.mem_of_getElem? (i := 620) (by decide +kernel), List.mem_of_getElem? (i := 621) (by decide +kernel)⟩
def lw_privs_2 : List (MethodName × Nat) := [(⟨"PacketDeskModel", "unwrap", "(III)I"⟩, 6)]
theorem lw_r2 : ∀ q ∈ lw_privs_2, lw_okq q := List.forall_mem_cons.mpr ⟨lw_p16, fun _ h => absurd h List.not_mem_nil⟩
def lw_privs : List (MethodName × Nat) := lw_privs_1 ++ (lw_privs_2)
def lw_tbl : List Cond := k2_sels lw_privs ++ tables_1
theorem lw_privs_ok : ∀ q ∈ lw_privs, lw_okq q := by
  show ∀ q ∈ lw_privs_1 ++ (lw_privs_2), lw_okq q
  exact List.forall_mem_append.mpr ⟨lw_r1, lw_r2⟩
end
section
/-! WORDS: every method's words are its own code and the whole of the tables that is steady -/
def wa_good (w : Cond) : Bool := (w.onTables && w.keeps) || (match w with
  | .arrayClass _ => true
  | _ => false)
def wsA : List Cond := lw_tbl.filter wa_good
theorem wa_ok {w : Cond} (h : wa_good w = true) : (w.onTables && w.keeps) = true ∨ ∃ ty, w = .arrayClass ty := by
  unfold wa_good at h
  rcases (Bool.or_eq_true _ _).mp h with h | h
  · exact Or.inl h
  · split at h
    · exact Or.inr ⟨_, rfl⟩
    · cases h
theorem wa_mem {w : Cond} (h : w ∈ lw_tbl) (hg : wa_good w = true) : w ∈ wsA := List.mem_filter.mpr ⟨h, hg⟩
theorem wa_goodIn {c1 : Cond} (h1 : c1 ∈ wsA) : GoodIn wsA (c1 :: wsA) := by
  intro w hw
  have h : w ∈ wsA := by
    rcases List.mem_cons.mp hw with rfl | h
    · exact h1
    · exact h
  exact ⟨h, wa_ok (List.mem_filter.mp h).2⟩
theorem wa_lw {args : Array Value} {s : State} (h : ∀ w ∈ lw_tbl, w.before args s = true) : ∀ w ∈ wsA, w.before args s = true := fun w hw => h w (List.mem_filter.mp hw).1
theorem wa_cb {R : Room} {s : State} {args : Array Value} {own : String} {index : Nat} {y : MethodName} {bytes : ByteArray} {maxL : Nat} {ret : Option FieldType} {rm : Room} {mc ms : Nat} (n : Nat) (hA : ∀ w ∈ wsA, w.before args s = true) (hc : Cond.code y bytes maxL ret ∈ wsA) (hi : Cond.initialized y.cls ∈ wsA) (hl : Cond.methodLink own index y ∈ wsA) (hrc : rm.cells = mc) (hrs : rm.slots = ms)
    (hd : y.cls ≠ "java/lang/invoke/MethodHandle" ∧ y.cls ≠ "java/lang/invoke/VarHandle" ∧ (parseMethodDescriptor y.desc).map (fun d => d.parameters.length) = some n) (hR : rm.frames + 1 ≤ R.frames ∧ 8 + (maxL + 11) + rm.locals ≤ R.locals) : CallB R s args own index y bytes maxL ret (Cond.code y bytes maxL ret :: wsA) rm mc ms n :=
  callB_of n (Ts := wsA) hA (wa_goodIn hc) rfl hrc hrs (hA _ hi) (hA _ hl) hd hR
end
section
/-! THE THROWING LAYER: contracts whose method returns or throws; calls of such methods; an exception that leaves a method; an exception that is caught in it. -/
/-- how many cells (slots) a method leaves: d more where it throws -/
def tx_n (o : Outcome) (k d : Nat) : Nat := match o with
  | .returned _ => k
  | .threw _ => k + d
/-- the frame of a method's end, however it ends -/
def tx_end (st t : State) (L : List Loc) (mc ms : Nat) : Prop := st.WarmedH t.vm ∧ st.sameButNew ({ t with vm := st.vm } : State) L mc ms
def tx_Met (l : Launch) (y : MethodName) (ws : List Cond) (rm : Room) (Pc : Array Value → State → Prop) (Qc : Array Value → State → Outcome → State → Prop) (mc ms : Nat) (free : Addr → Prop) : Prop :=
  MetFree l y (headSpec ws rm) Pc (fun _ _ _ _ _ => True) (fun a st o t => Qc a st o t ∧ ∃ L, tx_end st t L (tx_n o mc 1) (tx_n o ms 6) ∧ ∀ q ∈ L, free q.base)
def tx_MQ (below : List Frame) (Qc : Array Value → State → Outcome → State → Prop) (a : Array Value) (s : State) (mc ms : Nat) (free : Addr → Prop) : State → Prop := fun t =>
  ∃ o, t.status = .running ∧ Ended t below o ∧ Qc a s o t ∧ ∃ L, tx_end s t L (tx_n o mc 1) (tx_n o ms 6) ∧ ∀ q ∈ L, free q.base
theorem tx_ofMet {l : Launch} {y : MethodName} {ws : List Cond} {rm : Room} {Pc : Array Value → State → Prop} {Qc : Array Value → State → Outcome → State → Prop} {mc ms : Nat} {free : Addr → Prop} (h : Met l y ws rm Pc Qc mc ms free) : tx_Met l y ws rm Pc Qc mc ms free := by
  intro p e ha hc hk s m args below hf happ hP hK
  obtain ⟨n, o, h1, h2, h3, hQ, L, ⟨⟨v, hv⟩, hW, hs⟩, hL⟩ := h p e ha hc hk s m args below hf happ hP hK
  subst hv
  exact ⟨n, _, h1, h2, h3, hQ, L, ⟨hW, hs⟩, hL⟩
theorem tx_ofW {l : Launch} {y : MethodName} {ws ws' : List Cond} {rm : Room} {Pc : Array Value → State → Prop} {Qc : Array Value → State → Outcome → State → Prop} {mc ms : Nat} {free : Addr → Prop} {cc : ByteArray} {maxL : Nat} {ret : Option FieldType}
    (hy : plainName y.cls = true) (hw : ws = Cond.code y cc maxL ret :: ws')
    (body : ∀ p e s m args below meth c s₁, BodyLoose p l y (headSpec ws rm) cc maxL ret e s m args below meth c s₁ → c.maxLocals = maxL → c.exceptionTable.isEmpty = true → l.admits e → Pc args s →
      W p l e (headSpec ws rm).room s m args below meth c s.heap [] 0 0 (tx_MQ below Qc args s mc ms free) (entryFrame m args maxL)) : tx_Met l y ws rm Pc Qc mc ms free := by
  refine MetFree.of_bodyS (code := cc) (maxLocals := maxL) (ret := ret) hy ?_ ?_
  · intro args s m h hn
    obtain ⟨meth, c, h1, h2, h3, h4, h5, h6, -, -⟩ := Cond.code_spec hn (atoms_spec (ws := ws) h _ (by rw [hw]; exact List.mem_cons_self))
    exact ⟨meth, c, h1, h2, h3, h4, h5, h6⟩
  · intro p e s m args below meth c s₁ B hml hP _
    have hh0 : s₁.heap = s.heap := by rw [B.state]; rfl
    have X0 := Stand.of_body B
    have hce : c.exceptionTable.isEmpty = true := B.noHandlers (atoms_spec (ws := ws) B.pre _ (by rw [hw]; exact List.mem_cons_self))
    obtain ⟨t, a1, o, b1, b2, b3⟩ := body p e s m args below meth c s₁ B hml hce X0.admits hP s₁ hh0 X0
    exact ⟨t, o, a1, b1, b2, b3⟩
section TX
variable {p : Program} {l : Launch} {e : Env} {R : Room} {s : State} {m : MethodId} {args : Array Value} {below : List Frame} {meth : Method} {c : Code} {H : Heap} {locs : List Loc} {cells slots : Nat} {Q : State → Prop}
/-- a method that may throw returns -/
theorem tx_ret {Qc : Array Value → State → Outcome → State → Prop} {free : Addr → Prop} {mc ms : Nat} {g : JFrame} (k : W p l e R s m args below meth c H locs cells slots (MQ below Qc args s mc ms free) g) : W p l e R s m args below meth c H locs cells slots (tx_MQ below Qc args s mc ms free) g := by
  intro T hT X
  obtain ⟨t, a1, o, b1, b2, b3, L, ⟨⟨v, hv⟩, hW, hs⟩, hL⟩ := k T hT X
  subst hv
  exact ⟨t, a1, _, b1, b2, b3, L, ⟨hW, hs⟩, hL⟩
/-- an exception x is on its way over the frame g -/
def tx_W (p : Program) (l : Launch) (e : Env) (R : Room) (s : State) (m : MethodId) (args : Array Value) (below : List Frame) (meth : Method) (c : Code) (H : Heap) (locs : List Loc) (cells slots : Nat) (Q : State → Prop) (g : JFrame) (x : Addr) : Prop :=
  ∀ T : State, T.heap = H → Stand p l e R s m args below meth c T locs cells slots → ∃ t, Steps p.tables e below ((T.setTop g).pushFrame (.throwing x)) t ∧ Q t
/-- it leaves the method: no handler covers the place -/
theorem tx_out {Qc : Array Value → State → Outcome → State → Prop} {free : Addr → Prop} {mc ms pc : Nat} {ls : Array Slot} {st : List Value} {x : Addr} (hlocks : meth.locks = false) (hce : c.exceptionTable.isEmpty = true)
    (hq : ∀ t : State, t.heap = H → s.WarmedH t.vm → Qc args s (.threw x) t) (hf : ∀ q ∈ locs, free q.base) :
    tx_W p l e R s m args below meth c H locs (mc + 1) (ms + 6) (tx_MQ below Qc args s mc ms free) (F0 m pc ls st) x := by
  intro T hT X
  obtain ⟨hwalk, hrun, hend, hW, hsame⟩ := X.leaveThrown x (g := F0 m pc ls st) rfl rfl rfl (covers_of_empty hce _) hlocks
  exact ⟨_, hwalk, _, hrun, hend, hq _ hT hW, locs, ⟨hW, hsame⟩, hf⟩
theorem tx_widen {k n : Nat} {g : JFrame} {x : Addr} (h1 : cells ≤ k) (h2 : slots ≤ n) (h : tx_W p l e R s m args below meth c H locs k n Q g x) : tx_W p l e R s m args below meth c H locs cells slots Q g x :=
  fun T hT X => h T hT (stand_widen X h1 h2)
/-- the call itself: from the frame at the call to its end -/
theorem tx_enter {T : State} (X : Stand p l e R s m args below meth c T locs cells slots) {y : MethodName} {ws : List Cond} {rm : Room} {Pc : Array Value → State → Prop} {Qc : Array Value → State → Outcome → State → Prop} {mc ms len maxL : Nat} {free : Addr → Prop}
    (hM : tx_Met l y ws rm Pc Qc mc ms free) {g : JFrame} {ig : Instr} {mk : MethodId} {a : Array Value} (hg : g.method = m) (hsize : g.locals.size = c.maxLocals) (hdg : decode c.code g.pc = .ok (ig, len)) (hW : 2 * g.monitorRoom + (g.stack.map fun v => v.category).sum ≤ 8)
    (hn : T.methodNamed? y = some mk) (hpre : ∀ w ∈ ws, w.before a T = true) {methY : Method} {cY : Code} (hmY : T.vm.method? mk = some methY) (hcY : methY.code = some cY) (hlY : cY.maxLocals = maxL) (hini : (Cond.initialized y.cls).before a T = true)
    (hfr : rm.frames + 1 ≤ R.frames) (hlo : 8 + (maxL + 11) + rm.locals ≤ R.locals) (hce : cells + rm.cells ≤ R.cells) (hsl : slots + rm.slots ≤ R.slots) (hP : Pc a (T.calling g mk a)) :
    ∃ (o : Outcome) (t T' : State) (L : List Loc), Stand p l e R s m args below meth c T' (locs ++ L) (cells + tx_n o mc 1) (slots + tx_n o ms 6) ∧ (∀ q ∈ L, free q.base) ∧ T'.heap = t.heap ∧ T'.vm = t.vm ∧ Qc a (T.calling g mk a) o t ∧
      Steps p.tables e below (doInvoke e (T.setTop g) [] mk a).1 t ∧ (match o with
        | .returned v => t = T'.setTop { g with pc := g.pc + len, stack := v.toList ++ g.stack }
        | .threw x => t = (T'.setTop g).pushFrame (.throwing x)) := by
  obtain ⟨kY, hkY, -⟩ := className_of_methodNamed hn
  have hinitY : kY.init = .initialized := Cond.initialized_spec (findClass_of_methodNamed hn) hkY hini
  have h : At T g.method c below := by rw [hg]; exact X.here
  have happ : (headSpec ws rm).appliesLoose y e.platform (T.calling g mk a) = true :=
    Spec.appliesLoose_calling (g := g) h hdg hn hkY hinitY (X.room_calling (g := g) (R' := (headSpec ws rm).room) hsize hmY hcY hfr (by rw [hlY]; show _ + _ + rm.locals ≤ _; omega) hce hsl) (atoms_intro hpre)
  obtain ⟨mid, hmid⟩ := h.above
  have hfrm : (T.setTop g).frames = (.java g :: mid) ++ below := by rw [State.frames_setTop' g h.top, hmid]; rfl
  obtain ⟨o, t, hsteps, -, hend, hq⟩ := Steps.callFree hM p X.admits X.cas X.clock (acts := []) hfrm happ hP trivial
  obtain ⟨hq, L, ⟨hWt, hsame⟩, hL⟩ := hq
  have hfe : (T.setTop g).frames = .java g :: below := by rw [State.frames_setTop' g h.top, X.tail]
  rw [hfe] at hend
  cases o with
  | returned v =>
    obtain ⟨T', X', -, -, ht⟩ := X.outOf hg hdg hend hWt hsame
    exact ⟨_, t, T', L, X', hL, by rw [ht]; rfl, by rw [ht]; rfl, hq, hsteps, ht⟩
  | threw x =>
    obtain ⟨T', X', -, -, ht⟩ := X.outOfThrown hg hend hWt hsame
    exact ⟨_, t, T', L, X', hL, by rw [ht]; exact (Stand.throwing_heap T' g x).symm, by rw [ht]; exact (Stand.throwing_vm T' g x).symm, hq, hsteps, ht⟩
/-- a call and its two ends -/
def tx_Run (p : Program) (l : Launch) (e : Env) (R : Room) (s : State) (m : MethodId) (args : Array Value) (below : List Frame) (meth : Method) (c : Code) (H : Heap) (locs : List Loc) (cells slots mc ms : Nat) (g : JFrame) (rest : List Value) (Qa : State → Outcome → State → Prop) (free : Addr → Prop) : Prop :=
  ∀ T : State, T.heap = H → Stand p l e R s m args below meth c T locs cells slots → ∃ (o : Outcome) (st₀ t T' : State) (L : List Loc), st₀.heap = H ∧ s.WarmedH st₀.vm ∧ Stand p l e R s m args below meth c T' (locs ++ L) (cells + tx_n o mc 1) (slots + tx_n o ms 6) ∧ (∀ q ∈ L, free q.base) ∧ T'.heap = t.heap ∧ T'.vm = t.vm ∧ Qa st₀ o t ∧
    (match o with
      | .returned v => Goes p e below T g T' { g with pc := g.pc + 3, stack := v.toList ++ rest }
      | .threw x => ∀ target, Steps p.tables e below ((T'.setTop { g with stack := rest }).pushFrame (.throwing x)) target → Steps p.tables e below (T.setTop g) target)
variable {y : MethodName} {bytes cc : ByteArray} {maxL nL mc ms n index : Nat} {ret : Option FieldType} {ws : List Cond} {rm : Room} {Pc : Array Value → State → Prop} {Qc : Array Value → State → Outcome → State → Prop} {free : Addr → Prop} {own C : String} {b : Addr} {As rest : List Value} {g : JFrame}
theorem tx_go {T T1 : State} {vm₁ : Vm} {ig : Instr} {mk : MethodId} {a : Array Value} (hT : T.heap = H) (hT1 : T1 = T.setVm vm₁) (X₁ : Stand p l e R s m args below meth c T1 locs cells slots) (hM : tx_Met l y ws rm Pc Qc mc ms free) (hg : g.method = m) (hsize : g.locals.size = c.maxLocals) (hdg : decode c.code g.pc = .ok (ig, 3)) (hW : 2 * g.monitorRoom + (rest.map fun v => v.category).sum ≤ 8)
    (hn : T1.methodNamed? y = some mk) (hws : ∀ w ∈ ws, ∀ (a' : Array Value) (U : State), s.WarmedH U.vm → w.before a' U = true) {methY : Method} {cY : Code} (hmY : T1.vm.method? mk = some methY) (hcY : methY.code = some cY) (hlY : cY.maxLocals = maxL) (hini : (Cond.initialized y.cls).before args s = true)
    (hfr : rm.frames + 1 ≤ R.frames) (hlo : 8 + (maxL + 11) + rm.locals ≤ R.locals) (hce : cells + rm.cells ≤ R.cells) (hsl : slots + rm.slots ≤ R.slots) (hbl : FrameBlind Pc) (hP : ∀ U : State, U.heap = H → s.WarmedH U.vm → Pc a U)
    (hst : ∀ target, (∀ acts, Steps p.tables e below (doInvoke e (T1.setTop { g with stack := rest }) acts mk a).1 target) → Steps p.tables e below (T.setTop g) target) :
    ∃ (o : Outcome) (st₀ t T' : State) (L : List Loc), st₀.heap = H ∧ s.WarmedH st₀.vm ∧ Stand p l e R s m args below meth c T' (locs ++ L) (cells + tx_n o mc 1) (slots + tx_n o ms 6) ∧ (∀ q ∈ L, free q.base) ∧ T'.heap = t.heap ∧ T'.vm = t.vm ∧ Qc a st₀ o t ∧
    (match o with
      | .returned v => Goes p e below T g T' { g with pc := g.pc + 3, stack := v.toList ++ rest }
      | .threw x => ∀ target, Steps p.tables e below ((T'.setTop { g with stack := rest }).pushFrame (.throwing x)) target → Steps p.tables e below (T.setTop g) target) := by
  have hh1 : T1.heap = H := by rw [hT1]; exact hT
  obtain ⟨o, t, T', L, X', hL, e1, e2, hq, hsteps, hend⟩ := tx_enter X₁ hM (g := { g with stack := rest }) (len := 3) (a := a) hg hsize hdg hW hn (fun w h => hws w h _ _ X₁.warmed) hmY hcY hlY (word_at X₁.warmed (Or.inl (by first | rfl | simp [Cond.onTables, Cond.keeps, Cond.steady])) hini) hfr hlo hce hsl (hbl _ _ _ _ (hP T1 hh1 X₁.warmed))
  refine ⟨o, T1.calling { g with stack := rest } mk a, t, T', L, hh1, ?_, X', hL, e1, e2, hq, ?_⟩
  · exact X₁.warmed
  · cases o with
    | returned v =>
      intro target h
      refine hst _ fun acts => ?_
      rw [doInvoke_state]
      have hend : t = T'.setTop { g with pc := g.pc + 3, stack := v.toList ++ rest } := hend
      rw [hend] at hsteps
      exact hsteps.trans h
    | threw x =>
      intro target h
      refine hst _ fun acts => ?_
      rw [doInvoke_state]
      have hend : t = (T'.setTop { g with stack := rest }).pushFrame (.throwing x) := hend
      rw [hend] at hsteps
      exact hsteps.trans h
theorem tx_runV {Ts : List Cond} (S : CallFix p m c cc nL s args Ts own) (hM : tx_Met l y ws rm Pc Qc mc ms free) (cw : CallW R s args own C index y bytes maxL ret ws rm (mc + 1) (ms + 6) n) (hp : PreV s H C b Pc As)
    (hg : g.method = m) (hn : As.length = n) (hsize : g.locals.size = nL) (hstack : g.stack = As.reverse ++ .ref b :: rest) (hW : 2 * g.monitorRoom + (rest.map fun v => v.category).sum ≤ 8) (hdg : decode cc g.pc = .ok (.invokevirtual index, 3)) (hf : cells + (mc + 1) ≤ R.cells ∧ slots + (ms + 6) ≤ R.slots) :
    tx_Run p l e R s m args below meth c H locs cells slots mc ms g rest (Qc (Value.ref b :: As).toArray) free := by
  obtain ⟨⟨hrc, hrs, hfr, hlo, hws, -, hcode, hini, hy, hlen, hl⟩, hin, hse⟩ := cw
  obtain ⟨hx, hb, hml, ho, -⟩ := S
  obtain ⟨hbl, ⟨cellB, hcB, hoB, hclB⟩, hPc⟩ := hp
  intro T hT X
  obtain ⟨mk, methM, hnamed, hmethM, hstM, habM⟩ := Cond.instanceMethod_spec hin
  obtain ⟨methM', cM, hmethM', hcM, -, hlM, -, -, -, hsigM⟩ := Cond.code_spec hnamed hcode
  cases hmethM.symm.trans hmethM'
  obtain ⟨c2, r2, m2, q1, q2, q3, q4, kP, hkP, hkPi⟩ := Cond.selects_spec hse
  cases hclB.symm.trans q1
  cases (State.methodFound?_of_named hnamed hy).symm.trans q2
  cases hnamed.symm.trans q3
  have hselP : selectMethod e.platform s.vm cellB.cls mk = .method mk := by rw [Launch.admits_selectMethod X.admits]; exact q4
  obtain ⟨vm₁, X₁, hstep₁⟩ := X.invokevirtual hx ho hl hnamed hmethM hstM hkP hkPi hy (a := b) (cell := cellB) (by rw [hT]; exact hcB)
    (fun z h => by rw [h] at hoB; cases hoB) hselP hmethM habM hkP hkPi (g := g) hg (argsL := As) (rest := rest) (hn.trans (hlen _ hsigM)) hstack (by rw [hb]; exact hdg)
  exact tx_go hT rfl X₁ hM hg (hsize.trans hml.symm) (by rw [hb]; exact hdg) hW (X₁.named hnamed) hws (by rw [X₁.warmed.alike.method?]; exact hmethM) hcM hlM hini hfr hlo (by rw [hrc]; exact hf.1) (by rw [hrs]; exact hf.2) hbl hPc hstep₁
theorem tx_runS {Ts : List Cond} (S : CallFix p m c cc nL s args Ts own) (hM : tx_Met l y ws rm Pc Qc mc ms free) (cw : CallB R s args own index y bytes maxL ret ws rm (mc + 1) (ms + 6) n ∧ (Cond.static y).before args s = true) (hp : PreS s H Pc As)
    (hg : g.method = m) (hn : As.length = n) (hsize : g.locals.size = nL) (hstack : g.stack = As.reverse ++ rest) (hW : 2 * g.monitorRoom + (rest.map fun v => v.category).sum ≤ 8) (hdg : decode cc g.pc = .ok (.invokestatic index, 3)) (hf : cells + (mc + 1) ≤ R.cells ∧ slots + (ms + 6) ≤ R.slots) :
    tx_Run p l e R s m args below meth c H locs cells slots mc ms g rest (Qc As.toArray) free := by
  obtain ⟨⟨hrc, hrs, hfr, hlo, hws, -, hcode, hini, hy, hlen, hl⟩, hstt⟩ := cw
  obtain ⟨hx, hb, hml, ho, -⟩ := S
  intro T hT X
  obtain ⟨mk, hnamed⟩ := Cond.code_named hcode
  obtain ⟨methM, cM, hmethM, hcM, -, hlM, -, -, -, hsigM⟩ := Cond.code_spec hnamed hcode
  have hstatic : methM.isStatic = true := Cond.static_spec hnamed hmethM hstt
  obtain ⟨kP, hkP, -⟩ := className_of_methodNamed hnamed
  have hinitP : kP.init = .initialized := Cond.initialized_spec (findClass_of_methodNamed hnamed) hkP hini
  obtain ⟨vm₁, X₁, hstep₁⟩ := X.invokestatic hx ho hl hnamed hmethM hstatic hkP hinitP hy (g := g) hg (argsL := As) (rest := rest) (hn.trans (hlen _ hsigM)) hstack (by rw [hb]; exact hdg)
  exact tx_go hT rfl X₁ hM hg (hsize.trans hml.symm) (by rw [hb]; exact hdg) hW (X₁.named hnamed) hws (by rw [X₁.warmed.alike.method?]; exact hmethM) hcM hlM hini hfr hlo (by rw [hrc]; exact hf.1) (by rw [hrs]; exact hf.2) hp.1 hp.2 hstep₁
/-- behind a call: two ways on -/
theorem tx_call {pc : Nat} {ls : Array Slot} {st0 : List Value} {Qa : State → Outcome → State → Prop} (hr : tx_Run p l e R s m args below meth c H locs cells slots mc ms (F0 m pc ls st0) rest Qa free)
    (kr : ∀ (v : Option Value) (st₀ t : State) (L : List Loc), st₀.heap = H → s.WarmedH st₀.vm → s.WarmedH t.vm → (∀ q ∈ L, free q.base) → Qa st₀ (.returned v) t → W p l e R s m args below meth c t.heap (locs ++ L) (cells + mc) (slots + ms) Q (F0 m (pc + 3) ls (v.toList ++ rest)))
    (kt : ∀ (x : Addr) (st₀ t : State) (L : List Loc), st₀.heap = H → s.WarmedH st₀.vm → s.WarmedH t.vm → (∀ q ∈ L, free q.base) → Qa st₀ (.threw x) t → tx_W p l e R s m args below meth c t.heap (locs ++ L) (cells + (mc + 1)) (slots + (ms + 6)) Q (F0 m pc ls rest) x) :
    W p l e R s m args below meth c H locs cells slots Q (F0 m pc ls st0) := by
  intro T hT X
  obtain ⟨o, st₀, t, T', L, h0, hW0, X', hL, e1, e2, hq, hgo⟩ := hr T hT X
  have hWt : s.WarmedH t.vm := by rw [← e2]; exact X'.warmed
  cases o with
  | returned v =>
    obtain ⟨t2, a1, b1⟩ := kr v st₀ t L h0 hW0 hWt hL hq T' e1 X'
    exact ⟨t2, hgo t2 a1, b1⟩
  | threw x =>
    obtain ⟨t2, a1, b1⟩ := kt x st₀ t L h0 hW0 hWt hL hq T' e1 X'
    exact ⟨t2, hgo t2 a1, b1⟩
end TX
end
section
/-! AN EXCEPTION IS MADE AND THROWN: new X; dup; ldc "..."; invokespecial X.<init>(String); athrow. The library's ctorThrowS is of classes whose constructor passes its text on by entry 7; java.util.NoSuchElementException's does by entry 13: so here the first link's entry and bytes are free. -/
def tx_atoms (own : String) (ic : Nat) (X Y : String) (k : Nat) (bs : ByteArray) (r : List String) : List Cond :=
  Bundle.throwableAtoms ++ (Bundle.throwableSAtoms ++ (Bundle.passSAtoms X Y k bs ++ (Bundle.chainSAtoms Y r ++
  [.methodLink own ic (Bundle.initS X), .instantiable X 6, .selects X Bundle.tFill0 Bundle.tFill0, .selects X Bundle.tFill Bundle.tFill,
   .lays X Bundle.tN "cause" "Ljava/lang/Throwable;", .lays X Bundle.tN "stackTrace" Bundle.steD, .lays X Bundle.tN "suppressedExceptions" Bundle.listD, .lays X Bundle.tN "detailMessage" "Ljava/lang/String;",
   .isRef (.static Bundle.tN "UNASSIGNED_STACK" Bundle.steD), .isRef (.static Bundle.tN "SUPPRESSED_SENTINEL" Bundle.listD),
   .fieldLink Bundle.tN 198 Bundle.tN "backtrace" "Ljava/lang/Object;", .lays Bundle.tN Bundle.tN "backtrace" "Ljava/lang/Object;", .lays X Bundle.tN "backtrace" "Ljava/lang/Object;"])))
theorem tx_old {s U : State} {k n : Nat} (h : s.sameButNew ({ U with vm := s.vm } : State) [] k n) : s.heap.size ≤ U.heap.size ∧ ∀ q : Nat, q < s.heap.size → U.heap[q]? = s.heap[q]? := by
  obtain ⟨-, h1, -, -, -, h6⟩ := h
  refine ⟨h1, fun q hq => ?_⟩
  have hc : s.heap[q]? = some s.heap[q] := Array.getElem?_eq_getElem hq
  obtain ⟨c', g1, g2, g3, g4⟩ := h6 q _ hc
  have g1 : U.heap[q]? = some c' := g1
  rw [g1, hc, g2]
  congr 1
  have : c'.slots = (s.heap[q]).slots := by
    apply Array.ext_getElem?
    intro i
    exact g4 i (by simp)
  rw [this]
set_option maxHeartbeats 4000000 in
theorem tx_made {p : Program} {l : Launch} {e : Env} {R : Room} {s : State} {m₀ : MethodId} {args : Array Value} {below : List Frame} {meth : Method} {c : Code} {W : State} {cells slots : Nat} (X : Stand p l e R s m₀ args below meth c W [] cells slots) (hexec : p.tables.exec = Jvm.exec) (htr : e.platform.stackTraces = false) {own cls Y : String} {names : List String} {ic k0 : Nat} {bs : ByteArray}
    (hown : s.vm.findClass own = some m₀.cls) (hcls : Bundle.fit cls = true) (hY : Bundle.fit Y = true) (hnames : ∀ n ∈ names, Bundle.fit n = true)
    (b0 : decode bs 0 = .ok (.aload_n 0, 1)) (b1 : decode bs 1 = .ok (.aload_n 1, 1)) (b2 : decode bs 2 = .ok (.invokespecial k0, 3)) (b5 : decode bs 5 = .ok (.return_, 1))
    (h : ∀ a ∈ tx_atoms own ic cls Y k0 bs names, a.before args s = true)
    {a : Addr} {cX : ClassId} {kX : Class} (hfoundX : s.vm.findClass cls = some cX) (hkX : s.vm.classes[cX]? = some kX) (hcell : W.heap[a]? = some (freshCell cX kX)) (hnew : s.heap.size ≤ a)
    {msg : Value} (hmsg : msg.isRef = true)
    {g : JFrame} (hg : g.method = m₀) (hsize : g.locals.size = c.maxLocals) (hlocked : g.locked = none) (hentered : g.entered = []) {rest : List Value} (hstack : g.stack = msg :: .ref a :: .ref a :: rest)
    (hd6 : decode c.code g.pc = .ok (.invokespecial ic, 3)) (hd9 : decode c.code (g.pc + 3) = .ok (.athrow, 1)) (hout : ∀ x ∈ c.exceptionTable.toList, covers x (g.pc + 3) = false)
    (hRframes : names.length + 4 < R.frames) (hRlocals : 2 * g.monitorRoom + ((Value.ref a :: rest).map fun v => v.category).sum + (13 * (names.length + 2) + 42) ≤ R.locals) (hlocks : meth.locks = false) :
    ∃ U : State, Steps p.tables e below (W.setTop g) U ∧ U.status = .running ∧ Ended U below (.threw a) ∧ s.WarmedH U.vm ∧ s.sameButNew ({ U with vm := s.vm } : State) [] cells slots ∧
      ∃ ce : Cell, U.heap[a]? = some ce ∧ ce.vm = .none ∧ s.vm.findClass cls = some ce.cls := by
  have howns : e.platform.frameOwnsMonitors = true := by rw [X.admits.platform]
  have hfin : e.platform.finalization = false := by rw [X.admits.platform]
  have hpl : e.platform.magicAccessors = ({} : Platform).magicAccessors := by rw [X.admits.platform]
  have a' : ∀ x, x ∈ tx_atoms own ic cls Y k0 bs names → x.holds args s none s [] = true := fun x hx => h x hx
  obtain ⟨T, Z0, L, -, Ys⟩ := ThrowableC.of_atoms (args := args) howns hfin hpl (fun x hx => h x (by simp [tx_atoms, hx]))
  obtain ⟨Z, M, LZ, LM, hnZ⟩ := Init0T.ofS_atoms (args := args) hpl L Ys (fun x hx => h x (by simp [tx_atoms, hx]))
  obtain ⟨P0, L0, hP0m, hP0s⟩ := PassC.ofS_atoms (args := args) (s := s) hpl (X := cls) (Y := Y) (Bundle.fit_spec hcls).1 (Bundle.fit_spec hY).2 b0 b1 b2 b5 (fun x hx => h x (by simp [tx_atoms, hx]))
  obtain ⟨P1, Ps, hlen, L1, hL, hP1m, hlink1, hlink⟩ := Bundle.chainS (args := args) hpl hnZ names Y hY hnames (fun x hx => h x (by simp [tx_atoms, hx]))
  have hsup : P0.sup = P1.m := Option.some.inj (hP0s.symm.trans hP1m)
  have hfound : s.vm.findClass cls = some P0.m.cls := findClass_of_methodNamed hP0m
  cases Option.some.inj (hfoundX.symm.trans hfound)
  obtain ⟨c1, kX', hc1, hk, hord, -, -, hn6⟩ := Cond.instantiable_spec (a' (.instantiable cls 6) (by simp [tx_atoms]))
  cases Option.some.inj (hc1.symm.trans hfound)
  cases Option.some.inj (hkX.symm.trans hk)
  have sel : ∀ {y : MethodName} {my : MethodId}, (Cond.selects cls y y) ∈ tx_atoms own ic cls Y k0 bs names → s.methodNamed? y = some my → (y.cls ≠ "java/lang/invoke/MethodHandle" ∧ y.cls ≠ "java/lang/invoke/VarHandle") → selectMethod e.platform s.vm P0.m.cls my = .method my := by
    intro y my hin hny hyy
    obtain ⟨c2, r2, m2, q1, q2, q3, q4, -⟩ := Cond.selects_spec (a' _ hin)
    cases Option.some.inj (q1.symm.trans hfound)
    cases Option.some.inj (q2.symm.trans (State.methodFound?_of_named hny hyy))
    cases Option.some.inj (q3.symm.trans hny)
    rw [Launch.admits_selectMethod X.admits]; exact q4
  have hsel0 := sel (y := Bundle.tFill0) (by simp [tx_atoms]) Ys.fill0 (by decide)
  have hselF := sel (y := Bundle.tFill) (by simp [tx_atoms]) Ys.fill (by decide)
  obtain ⟨cellS0, hcS0, hiss⟩ := Ys.statics
  obtain ⟨u0, hu0⟩ := Cond.staticRefV Ys.unassigned L.unassignedStatic L.statics hcS0 hiss (a' (.isRef (.static Bundle.tN "UNASSIGNED_STACK" Bundle.steD)) (by simp [tx_atoms]))
  obtain ⟨sen, hsen⟩ := Cond.staticRefV Ys.sentinel L.sentinelStatic L.statics hcS0 hiss (a' (.isRef (.static Bundle.tN "SUPPRESSED_SENTINEL" Bundle.listD)) (by simp [tx_atoms]))
  obtain ⟨ci198, i198, fB, hk198, hg198, ha198, hsB, -, hnB, htB, hffB⟩ := Cond.ownField (t := .object "java/lang/Object") Ys.found L.cls (by decide +kernel) (a' (.fieldLink Bundle.tN 198 Bundle.tN "backtrace" "Ljava/lang/Object;") (by simp [tx_atoms])) (a' (.lays Bundle.tN Bundle.tN "backtrace" "Ljava/lang/Object;") (by simp [tx_atoms])) e.platform hpl
  obtain ⟨cellS, hcS', heS, -, hkeep⟩ := X.same.2.2.2.2.2 T.aS cellS0 hcS0
  have hcellS : W.heap[T.aS]? = some cellS := hcS'
  have hknownS : cellS.vm ≠ .unknown := by
    rw [heS]; intro hu
    rw [show cellS0.vm = .unknown from hu] at hiss
    cases hiss
  have hneS : T.aS ≠ a := Nat.ne_of_lt (Nat.lt_of_lt_of_le (Array.getElem?_eq_some_iff.mp hcS0).1 hnew)
  obtain ⟨iM, hffM⟩ := Ys.msg
  obtain ⟨tyC, dC, hdC, hdnC⟩ := Cond.laysAt hfound hk Ys.cause (a' (.lays cls Bundle.tN "cause" "Ljava/lang/Throwable;") (by simp [tx_atoms]))
  obtain ⟨tyS, dS, hdS, hdnS⟩ := Cond.laysAt hfound hk Ys.stack (a' (.lays cls Bundle.tN "stackTrace" Bundle.steD) (by simp [tx_atoms]))
  obtain ⟨tyP, dP, hdP, hdnP⟩ := Cond.laysAt hfound hk Ys.supp (a' (.lays cls Bundle.tN "suppressedExceptions" Bundle.listD) (by simp [tx_atoms]))
  obtain ⟨tyM, dM, hdM, hdnM⟩ := Cond.laysAt hfound hk hffM (a' (.lays cls Bundle.tN "detailMessage" "Ljava/lang/String;") (by simp [tx_atoms]))
  obtain ⟨tyB, dB, hdB, hdnB⟩ := Cond.laysAt hfound hk hffB (a' (.lays cls Bundle.tN "backtrace" "Ljava/lang/Object;") (by simp [tx_atoms]))
  have bC := Cond.laysApart hdB hdC hdnB hdnC (by rw [hnB, Ys.causeName]; decide)
  have bS := Cond.laysApart hdB hdS hdnB hdnS (by rw [hnB, Ys.stackName]; decide)
  have bP := Cond.laysApart hdB hdP hdnB hdnP (by rw [hnB, Ys.suppName]; decide)
  have hskip : SkipFacts T e.platform s (fun u => u) u0 ((preparedCellV T.toThrowableT (freshCell P0.m.cls kX) a u0 sen).withEntry W.cur) :=
    ⟨{ ci198 := ci198, i198 := i198, fBack := fB }, ⟨hk198, hg198, ha198, hsB⟩, by
      have := fresh_default (c := P0.m.cls) tyB
      rw [htB] at this
      simpa [preparedCellV, Cell.setSlot, Cell.withEntry, Array.getElem?_setIfInBounds, bC, bS, bP, bC.symm, bS.symm, bP.symm, defaultValue] using this, fun _ _ => rfl⟩
  obtain ⟨tm, methC, cdC, kC, vm₁, hnC, -, -, -, -, -, -, -, hW₁, st1⟩ := Steps.initColdS (tb := p.tables) (e := e) (below := below) (s := s) (U := W) X.here hexec X.warmed hpl hown (t := Bundle.initS cls) rfl rfl (Bundle.fit_spec hcls).2
    (a' (.methodLink own ic (Bundle.initS cls)) (by simp [tx_atoms])) (h (.instanceMethod (Bundle.initS cls)) (by simp [tx_atoms, Bundle.passSAtoms])) (bytes := bs) (maxL := 2) (h (.code (Bundle.initS cls) bs 2 none) (by simp [tx_atoms, Bundle.passSAtoms]))
    (f := g) hg (a := a) (msg := msg) (rest := .ref a :: rest) hstack hd6
  cases Option.some.inj (hnC.symm.trans hP0m)
  have X₁ := X.noted hW₁
  obtain ⟨vm₂, X₂, st2⟩ := X₁.ctorMessageOffV hexec (g := { g with stack := .ref a :: rest }) hg hsize T L Z LZ M LM (P0 :: P1 :: Ps)
    (fun P hP => by
      rcases List.mem_cons.mp hP with rfl | hP
      · exact L0
      · rcases List.mem_cons.mp hP with rfl | hP
        · exact L1
        · exact hL P hP) ⟨hsup, hlink1, hlink⟩ (u0 := u0) (sen := sen) (self := a) hmsg (cell := freshCell P0.m.cls kX) (cellS := cellS)
    hcell (fun _ => by simp) (by simp) rfl rfl hsel0 hselF hcellS hneS hknownS (by rw [hkeep _ (by simp)]; exact hu0) (by rw [hkeep _ (by simp)]; exact hsen)
    (Takes.of_laid hk hord tyC (by rw [Ys.causeType]; rfl)) (Takes.of_laid hk hord tyS (by rw [Ys.stackType]; exact fits_refV_array _ u0)) (Takes.of_laid hk hord tyP (by rw [Ys.suppType]; exact fits_refV_object _ sen))
    (Takes.of_laid hk hord tyM (by rw [Ys.msgType]; exact fits_refV_object _ ⟨msg, hmsg⟩)) Ys.objLocals hskip htr [] hd6
    (by simp only [List.length_cons, hlen]; omega) (by simp only [List.length_cons, hlen]; exact hRlocals)
  obtain ⟨hwalk, hrun, hended, hWU, hsame⟩ := X₂.athrowLeaves hexec (g := { g with stack := .ref a :: rest, pc := g.pc + 3 }) hg hlocked hentered hout (a := a) (rest := rest) rfl hd9
  have hlt : a < ((W.setVm vm₁).setVm vm₂).heap.size := (Array.getElem?_eq_some_iff.mp hcell).1
  have hU := heapAt_setCell_self (s := (W.setVm vm₁).setVm vm₂) (plainBareV T.toThrowableT (freshCell P0.m.cls kX) a u0 sen msg) hlt
  refine ⟨_, st1 _ (fun acts => ?_), hrun, hended, hWU, hsame.weaken (fun y hy hlt' => ?_) (Nat.le_refl _) (Nat.le_refl _), _, hU, rfl, hfound⟩
  · rw [doInvoke_state]
    exact st2 _ hwalk
  · exfalso
    have hb : y.base = a := by
      simp only [List.nil_append, List.mem_cons, List.not_mem_nil, or_false] at hy
      rcases hy with rfl | rfl | rfl | rfl | rfl <;> rfl
    rw [hb] at hlt'
    exact Nat.not_lt.mpr hnew hlt'
end
section
/-- what an exception of class E at x says: it is new, it is an object of that class, and nothing that was there has changed -/
def tx_E (E : String) (x : Nat) (U : State) (H H1 : Heap) : Prop := H.size ≤ x ∧ (∃ ce : Cell, H1[x]? = some ce ∧ ce.vm = .none ∧ U.vm.findClass E = some ce.cls) ∧ H.size ≤ H1.size ∧ ∀ q : Nat, q < H.size → H1[q]? = H[q]?
theorem tx_E.moved {E : String} {x : Nat} {u U : State} {H H1 : Heap} (hvm : u.vm.Alike U.vm) (h : tx_E E x u H H1) : tx_E E x U H H1 := by
  obtain ⟨h1, ⟨ce, h2, h3, h4⟩, h5, h6⟩ := h
  exact ⟨h1, ⟨ce, h2, h3, by rw [hvm.findClass]; exact h4⟩, h5, h6⟩
theorem tx_E.from {E : String} {x : Nat} {U : State} {H0 H H1 : Heap} (h : tx_E E x U H H1) (hz : H0.size ≤ H.size) (hk : ∀ q : Nat, q < H0.size → H[q]? = H0[q]?) : tx_E E x U H0 H1 := by
  obtain ⟨h1, h2, h5, h6⟩ := h
  exact ⟨Nat.le_trans hz h1, h2, Nat.le_trans hz h5, fun q hq => (h6 q (Nat.lt_of_lt_of_le hq hz)).trans (hk q hq)⟩
/-- a method's end: it returns as Qr says, or throws one of thr -/
def tx_Q (thr : String → Prop) (Qr : Array Value → State → Outcome → State → Prop) : Array Value → State → Outcome → State → Prop := fun a st o t =>
  (∃ v, o = .returned v ∧ Qr a st o t) ∨ ∃ (x : Nat) (E : String), o = .threw x ∧ thr E ∧ tx_E E x st st.heap t.heap
section TXQ
variable {p : Program} {l : Launch} {e : Env} {R : Room} {s : State} {m : MethodId} {args : Array Value} {below : List Frame} {meth : Method} {c : Code} {H : Heap} {locs : List Loc} {cells slots : Nat} {Q : State → Prop}
variable {pc mc ms : Nat} {ls : Array Slot} {rest st0 : List Value} {a : Array Value} {thr thr2 : String → Prop} {Qr Qr2 : Array Value → State → Outcome → State → Prop} {free : Addr → Prop}
/-- it goes on out of the method -/
theorem tx_prop {H1 : Heap} {st : List Value} {x : Nat} {E : String} (hlocks : meth.locks = false) (hce : c.exceptionTable.isEmpty = true) (hE : tx_E E x s H H1) (hz : s.heap.size ≤ H.size) (hk : ∀ q : Nat, q < s.heap.size → H[q]? = s.heap[q]?) (ht : thr2 E) (hf : ∀ q ∈ locs, free q.base) :
    tx_W p l e R s m args below meth c H1 locs (mc + 1) (ms + 6) (tx_MQ below (tx_Q thr2 Qr2) args s mc ms free) (F0 m pc ls st) x :=
  tx_out hlocks hce (fun t ht0 _ => Or.inr ⟨x, E, rfl, ht, by rw [ht0]; exact hE.from hz hk⟩) hf
/-- a call whose method may throw: the exception goes on; else as the callee says -/
theorem tx_callP (hr : tx_Run p l e R s m args below meth c H locs cells slots mc ms (F0 m pc ls st0) rest (tx_Q thr Qr a) free)
    (kt : ∀ (x : Nat) (E : String) (H1 : Heap) (L : List Loc), thr E → tx_E E x s H H1 → (∀ q ∈ L, free q.base) → tx_W p l e R s m args below meth c H1 (locs ++ L) (cells + (mc + 1)) (slots + (ms + 6)) Q (F0 m pc ls rest) x)
    (kr : ∀ (v : Option Value) (st₀ t : State) (L : List Loc), st₀.heap = H → s.WarmedH st₀.vm → s.WarmedH t.vm → (∀ q ∈ L, free q.base) → Qr a st₀ (.returned v) t → W p l e R s m args below meth c t.heap (locs ++ L) (cells + mc) (slots + ms) Q (F0 m (pc + 3) ls (v.toList ++ rest))) :
    W p l e R s m args below meth c H locs cells slots Q (F0 m pc ls st0) := by
  refine tx_call hr (fun v st₀ t L h0 hW0 hWt hL hq => ?_) (fun x st₀ t L h0 hW0 hWt hL hq => ?_)
  · rcases hq with ⟨v', hv, hq⟩ | ⟨x, E, hv, -⟩
    · exact kr v st₀ t L h0 hW0 hWt hL hq
    · cases hv
  · rcases hq with ⟨v', hv, -⟩ | ⟨x', E, hv, ht, hE⟩
    · cases hv
    · cases hv
      exact kt x E t.heap L ht (by rw [← h0]; exact hE.moved hW0.alike.symm) hL
/-- a method that only reads -/
theorem tx_pure {Qv : Option Value → Prop} (hr : tx_Run p l e R s m args below meth c H locs cells slots 0 0 (F0 m pc ls st0) rest (tx_Q thr Qr a) (fun _ => False)) (hQ : ∀ (st t : State) (v : Option Value), Qr a st (.returned v) t → Qv v ∧ t.heap = st.heap)
    (kt : ∀ (x : Nat) (E : String) (H1 : Heap), thr E → tx_E E x s H H1 → tx_W p l e R s m args below meth c H1 locs (cells + 1) (slots + 6) Q (F0 m pc ls rest) x)
    (kr : ∀ v : Option Value, Qv v → W p l e R s m args below meth c H locs cells slots Q (F0 m (pc + 3) ls (v.toList ++ rest))) :
    W p l e R s m args below meth c H locs cells slots Q (F0 m pc ls st0) := by
  refine tx_callP hr (fun x E H1 L ht hE hL => ?_) (fun v st₀ t L h0 hW0 hWt hL hq => ?_)
  · intro T hT X
    exact kt x E H1 ht hE T hT (Stand.forget X (fun q h => (hL q h).elim))
  · obtain ⟨hv, hh⟩ := hQ st₀ t v hq
    intro T hT X
    exact kr v hv T (by rw [hT, hh, h0]) (Stand.forget X (fun q h => (hL q h).elim))
theorem tx_si {post : Int32 → Prop} (hr : tx_Run p l e R s m args below meth c H locs cells slots 0 0 (F0 m pc ls st0) rest (tx_Q thr (vp_Si post) a) (fun _ => False))
    (kt : ∀ (x : Nat) (E : String) (H1 : Heap), thr E → tx_E E x s H H1 → tx_W p l e R s m args below meth c H1 locs (cells + 1) (slots + 6) Q (F0 m pc ls rest) x)
    (kr : ∀ r : Int32, post r → W p l e R s m args below meth c H locs cells slots Q (F0 m (pc + 3) ls (.int r :: rest))) : W p l e R s m args below meth c H locs cells slots Q (F0 m pc ls st0) := by
  refine tx_pure (Qv := fun v => ∃ r : Int32, v = some (.int r) ∧ post r) hr (fun st t v hq => ?_) kt (fun v hv => ?_)
  · obtain ⟨r, h1, h2, h3⟩ := hq
    cases h1
    exact ⟨⟨r, rfl, h2⟩, h3⟩
  · obtain ⟨r, rfl, h⟩ := hv
    exact kr r h
theorem tx_sl {post : Int64 → Prop} (hr : tx_Run p l e R s m args below meth c H locs cells slots 0 0 (F0 m pc ls st0) rest (tx_Q thr (vp_Sl post) a) (fun _ => False))
    (kt : ∀ (x : Nat) (E : String) (H1 : Heap), thr E → tx_E E x s H H1 → tx_W p l e R s m args below meth c H1 locs (cells + 1) (slots + 6) Q (F0 m pc ls rest) x)
    (kr : ∀ r : Int64, post r → W p l e R s m args below meth c H locs cells slots Q (F0 m (pc + 3) ls (.long r :: rest))) : W p l e R s m args below meth c H locs cells slots Q (F0 m pc ls st0) := by
  refine tx_pure (Qv := fun v => ∃ r : Int64, v = some (.long r) ∧ post r) hr (fun st t v hq => ?_) kt (fun v hv => ?_)
  · obtain ⟨r, h1, h2, h3⟩ := hq
    cases h1
    exact ⟨⟨r, rfl, h2⟩, h3⟩
  · obtain ⟨r, rfl, h⟩ := hv
    exact kr r h
theorem tx_sv {post : Unit → Prop} (hr : tx_Run p l e R s m args below meth c H locs cells slots 0 0 (F0 m pc ls st0) rest (tx_Q thr (va_Sv post) a) (fun _ => False))
    (kt : ∀ (x : Nat) (E : String) (H1 : Heap), thr E → tx_E E x s H H1 → tx_W p l e R s m args below meth c H1 locs (cells + 1) (slots + 6) Q (F0 m pc ls rest) x)
    (kr : post () → W p l e R s m args below meth c H locs cells slots Q (F0 m (pc + 3) ls rest)) : W p l e R s m args below meth c H locs cells slots Q (F0 m pc ls st0) := by
  refine tx_pure (Qv := fun v => v = none ∧ post ()) hr (fun st t v hq => ?_) kt (fun v hv => ?_)
  · obtain ⟨h1, h2, h3⟩ := hq
    cases h1
    exact ⟨⟨rfl, h2⟩, h3⟩
  · obtain ⟨rfl, h⟩ := hv
    exact kr h
theorem tx_sr {post : Nat → Prop} {ad : Nat → Value} (hr : tx_Run p l e R s m args below meth c H locs cells slots 0 0 (F0 m pc ls st0) rest (tx_Q thr (va_Sr post ad) a) (fun _ => False))
    (kt : ∀ (x : Nat) (E : String) (H1 : Heap), thr E → tx_E E x s H H1 → tx_W p l e R s m args below meth c H1 locs (cells + 1) (slots + 6) Q (F0 m pc ls rest) x)
    (kr : ∀ k : Nat, post k → W p l e R s m args below meth c H locs cells slots Q (F0 m (pc + 3) ls (ad k :: rest))) : W p l e R s m args below meth c H locs cells slots Q (F0 m pc ls st0) := by
  refine tx_pure (Qv := fun v => ∃ k : Nat, v = some (ad k) ∧ post k) hr (fun st t v hq => ?_) kt (fun v hv => ?_)
  · obtain ⟨r, h1, h2, h3⟩ := hq
    cases h1
    exact ⟨⟨r, rfl, h2⟩, h3⟩
  · obtain ⟨r, rfl, h⟩ := hv
    exact kr r h
/-- calls that write: the world behind them -/
theorem tx_wi {S : Type} {A0 A1 : Nat → Prop} {H0 : Heap} {post : Int32 → S → Prop} {B : S → State → Prop} (hr : tx_Run p l e R s m args below meth c H locs cells slots mc ms (F0 m pc ls st0) rest (tx_Q thr (va_Qi post B A1) a) free) (hS : va_S A0 H0 H locs) (hA : ∀ q, q < H.size → A1 q → A0 q) (hf : ∀ q, free q → A0 q)
    (kt : ∀ (x : Nat) (E : String) (H1 : Heap) (L : List Loc), thr E → tx_E E x s H H1 → (∀ q ∈ L, free q.base) → tx_W p l e R s m args below meth c H1 (locs ++ L) (cells + (mc + 1)) (slots + (ms + 6)) Q (F0 m pc ls rest) x)
    (kk : ∀ (r : Int32) (u : S) (t : State) (H1 : Heap) (locs1 : List Loc), t.heap = H1 → s.vm.Alike t.vm → post r u → B u t → H.size ≤ H1.size → (∀ q : Nat, q < H.size → ¬ A1 q → H1[q]? = H[q]?) → va_S A0 H0 H1 locs1 → W p l e R s m args below meth c H1 locs1 (cells + mc) (slots + ms) Q (F0 m (pc + 3) ls (.int r :: rest))) : W p l e R s m args below meth c H locs cells slots Q (F0 m pc ls st0) := by
  refine tx_callP hr kt (fun v st₀ t L h0 hW0 hWt hL hq => ?_)
  obtain ⟨⟨r, u, hv, hp, hb⟩, hz, hk⟩ := hq
  cases hv
  rw [h0] at hz hk
  exact kk r u t t.heap (locs ++ L) rfl hWt.alike hp hb hz hk ⟨Nat.le_trans hS.1 hz, fun q h1 h2 => by rw [hk q (Nat.lt_of_lt_of_le h1 hS.1) (fun z => h2 (hA q (Nat.lt_of_lt_of_le h1 hS.1) z))]; exact hS.2.1 q h1 h2, fun q hq => by
      rcases List.mem_append.mp hq with h | h
      · exact hS.2.2 q h
      · exact hf _ (hL q h)⟩
theorem tx_wl {S : Type} {A0 A1 : Nat → Prop} {H0 : Heap} {post : Int64 → S → Prop} {B : S → State → Prop} (hr : tx_Run p l e R s m args below meth c H locs cells slots mc ms (F0 m pc ls st0) rest (tx_Q thr (va_Ql post B A1) a) free) (hS : va_S A0 H0 H locs) (hA : ∀ q, q < H.size → A1 q → A0 q) (hf : ∀ q, free q → A0 q)
    (kt : ∀ (x : Nat) (E : String) (H1 : Heap) (L : List Loc), thr E → tx_E E x s H H1 → (∀ q ∈ L, free q.base) → tx_W p l e R s m args below meth c H1 (locs ++ L) (cells + (mc + 1)) (slots + (ms + 6)) Q (F0 m pc ls rest) x)
    (kk : ∀ (r : Int64) (u : S) (t : State) (H1 : Heap) (locs1 : List Loc), t.heap = H1 → s.vm.Alike t.vm → post r u → B u t → H.size ≤ H1.size → (∀ q : Nat, q < H.size → ¬ A1 q → H1[q]? = H[q]?) → va_S A0 H0 H1 locs1 → W p l e R s m args below meth c H1 locs1 (cells + mc) (slots + ms) Q (F0 m (pc + 3) ls (.long r :: rest))) : W p l e R s m args below meth c H locs cells slots Q (F0 m pc ls st0) := by
  refine tx_callP hr kt (fun v st₀ t L h0 hW0 hWt hL hq => ?_)
  obtain ⟨⟨r, u, hv, hp, hb⟩, hz, hk⟩ := hq
  cases hv
  rw [h0] at hz hk
  exact kk r u t t.heap (locs ++ L) rfl hWt.alike hp hb hz hk ⟨Nat.le_trans hS.1 hz, fun q h1 h2 => by rw [hk q (Nat.lt_of_lt_of_le h1 hS.1) (fun z => h2 (hA q (Nat.lt_of_lt_of_le h1 hS.1) z))]; exact hS.2.1 q h1 h2, fun q hq => by
      rcases List.mem_append.mp hq with h | h
      · exact hS.2.2 q h
      · exact hf _ (hL q h)⟩
theorem tx_sz {g : JFrame} (k : s.heap.size ≤ H.size → W p l e R s m args below meth c H locs cells slots Q g) : W p l e R s m args below meth c H locs cells slots Q g := fun T hT X => k (by rw [← hT]; exact X.same.2.1) T hT X
/-- new; dup; ldc; invokespecial; athrow -/
theorem tx_throw {cc : ByteArray} {nL : Nat} (hx : p.tables.exec = Jvm.exec) (hb : c.code = cc) (hml : c.maxLocals = nL) (hlocks : meth.locks = false) (hce : c.exceptionTable.isEmpty = true) (htr : e.platform.stackTraces = false) {own cls Y : String} {names : List String} {i0 is ic k0 q : Nat} {bs : ByteArray} {tx : String}
    (hown : s.vm.findClass own = some m.cls) (hcls : Bundle.fit cls = true) (hY : Bundle.fit Y = true) (hnames : ∀ n ∈ names, Bundle.fit n = true)
    (b0 : decode bs 0 = .ok (.aload_n 0, 1)) (b1 : decode bs 1 = .ok (.aload_n 1, 1)) (b2 : decode bs 2 = .ok (.invokespecial k0, 3)) (b5 : decode bs 5 = .ok (.return_, 1))
    (h : ∀ a ∈ tx_atoms own ic cls Y k0 bs names, a.before args s = true) (hcl : (Cond.classLink own i0 cls).before args s = true) (hini : (Cond.initialized cls).before args s = true) (hZ : vk_R own is tx q s) (hls : ls.size = nL) {st : List Value} (hst : (st.map fun v => v.category).sum ≤ 8)
    (d0 : decode cc pc = .ok (.new i0, 3)) (d3 : decode cc (pc + 3) = .ok (.dup, 1)) (d4 : decode cc (pc + 4) = .ok (.ldc is, 2)) (d6 : decode cc (pc + 6) = .ok (.invokespecial ic, 3)) (d9 : decode cc (pc + 9) = .ok (.athrow, 1))
    (hRf : names.length + 4 < R.frames) (hRl : 13 * (names.length + 2) + 51 ≤ R.locals) (hRc : cells + 1 ≤ R.cells) (hRs : slots + 6 ≤ R.slots)
    {Qc : Array Value → State → Outcome → State → Prop} (hq : ∀ (x : Nat) (t : State), tx_E cls x s s.heap t.heap → Qc args s (.threw x) t) :
    W p l e R s m args below meth c H [] cells slots (tx_MQ below Qc args s cells slots free) (F0 m pc ls st) := by
  refine tx_sz (fun hsz => ?_)
  refine W.newc hx hb hown hcl (h _ (by simp [tx_atoms] : Cond.instantiable cls 6 ∈ _)) hini rfl d0 hRc hRs (fun cC kC g1 g2 g3 g4 => ?_)
  refine W.eq (g2 := F0 m (pc + 3) ls (.ref H.size :: st)) rfl ?_
  refine lv_dup hx hb d3 rfl ?_
  refine va_ldcS hx hb hown hZ d4 ?_
  intro T hT X
  obtain ⟨U, hsteps, hrun, hend, hW, hsame, ce, hce1, hce2, hce3⟩ := tx_made X hx htr hown hcls hY hnames b0 b1 b2 b5 h g1 g2 (a := H.size) (by rw [hT]; simp) hsz (msg := .ref q) rfl (g := F0 m (pc + 6) ls (.ref q :: .ref H.size :: .ref H.size :: st)) rfl (by rw [hml]; exact hls) rfl rfl (rest := st) rfl (by rw [hb]; exact d6) (by rw [hb]; exact d9) (covers_of_empty hce _) hRf (by show 2 * 0 + (1 + (st.map fun v => v.category).sum) + _ ≤ _; omega) hlocks
  obtain ⟨o1, o2⟩ := tx_old hsame
  exact ⟨U, hsteps, _, hrun, hend, hq _ _ ⟨hsz, ⟨ce, hce1, hce2, hce3⟩, o1, o2⟩, [], ⟨hW, hsame⟩, fun _ h => by cases h⟩
end TXQ
end
section
/-! AN EXCEPTION IS CAUGHT IN THE METHOD: the search through its table, entries resolved or not -/
theorem tx_goCold {E : CtlPost} {e : Env} {d : Bool} {acts : List Action} {s : State} {f : JFrame} {a : Addr} {Q : Handler → Jvm.Pre} {x : ClassFile.ExceptionTableEntry} {t : List ClassFile.ExceptionTableEntry} {c : ClassId} {cell : Cell} {vm' : Vm} (hx : covers x f.pc = true) (h0 : x.catchType ≠ 0)
    (hg : (resolveClass f.method.cls x.catchType).Gives e.toSetting s.vm (.ok c) vm') (hsz : vm'.classes.size ≤ s.vm.classes.size) (hcell : s.heap[a]? = some cell) (hobj : ∀ k, cell.vm ≠ .statics k)
    (hk : ∃ k, vm'.classes[cell.cls]? = some k) (hc : ∃ k, vm'.classes[c]? = some k) :
    Sem.wp (findHandler.go f a (x :: t)) Q E e d acts s ↔
      if vm'.assignable cell.cls c = true then Q (.found x.handlerPc) d acts (s.setVm vm') else Sem.wp (findHandler.go f a t) Q E e d acts (s.setVm vm') := by
  obtain ⟨ha, ht⟩ := hg.op (op := VmOp.resolveClass f.method.cls x.catchType) rfl
  simp only [covers] at hx
  cases hfit : vm'.assignable cell.cls c <;>
    simp [findHandler.go, hx, h0, ha, ht, hsz, hcell, hobj, hk, hc, hfit, VmOp.dirties, VmOp.acts]
/-- an entry of the table, with its class's name: it covers the place, its class links -/
def tx_ent (own : String) (pc : Nat) (args : Array Value) (s : State) (z : ClassFile.ExceptionTableEntry × String) : Prop := covers z.1 pc = true ∧ z.1.catchType ≠ 0 ∧ (Cond.classLink own z.1.catchType z.2).before args s = true
theorem tx_find {e : Env} {l : Launch} {s : State} {m : MethodId} {args : Array Value} {a : Addr} {ce : Cell} {own E nm : String} (hadm : l.admits e) (hown : s.vm.findClass own = some m.cls) (hvm : ce.vm = .none) (hE : s.vm.findClass E = some ce.cls) {pc : Nat} {ls : Array Slot} {st : List Value}
    {x0 : ClassFile.ExceptionTableEntry} {rest : List ClassFile.ExceptionTableEntry} (h0 : tx_ent own pc args s (x0, nm)) (hc : ∀ t : ClassId, s.vm.findClass nm = some t → s.vm.assignable ce.cls t = true) :
    ∀ (pre : List (ClassFile.ExceptionTableEntry × String)) (S : State), s.WarmedH S.vm → S.heap[a]? = some ce → (∀ z ∈ pre, tx_ent own pc args s z ∧ va_Nc E z.2 s) →
      ∃ vm' : Vm, s.WarmedH vm' ∧ ∀ (Q : Handler → Jvm.Pre) (E' : CtlPost) (d : Bool) (acts : List Action), Sem.wp (findHandler.go (F0 m pc ls st) a (pre.map (·.1) ++ x0 :: rest)) Q E' e d acts S ↔ Q (.found x0.handlerPc) d acts (S.setVm vm') := by
  have hpl : e.platform.magicAccessors = ({} : Platform).magicAccessors := by rw [hadm.platform]
  have hobj : ∀ k, ce.vm ≠ .statics k := fun k h => by rw [hvm] at h; cases h
  have key : ∀ (z : ClassFile.ExceptionTableEntry × String) (S : State), s.WarmedH S.vm → S.heap[a]? = some ce → tx_ent own pc args s z → ∃ (t : ClassId) (vm' : Vm), s.vm.findClass z.2 = some t ∧ s.WarmedH vm' ∧ ∀ (r : List ClassFile.ExceptionTableEntry) (Q : Handler → Jvm.Pre) (E' : CtlPost) (d : Bool) (acts : List Action),
      Sem.wp (findHandler.go (F0 m pc ls st) a (z.1 :: r)) Q E' e d acts S ↔ if s.vm.assignable ce.cls t = true then Q (.found z.1.handlerPc) d acts (S.setVm vm') else Sem.wp (findHandler.go (F0 m pc ls st) a r) Q E' e d acts (S.setVm vm') := by
    intro z S hW hcell hz
    obtain ⟨z1, z2, z3⟩ := hz
    obtain ⟨t, ht, hcl⟩ := Cond.classLink_spec hown z3 e.platform hpl
    obtain ⟨dk, _, _, kt, hd, _, _, _, _, hkt, _, hopen⟩ := hcl.here
    have hcl₀ := hW.classLinks hcl
    have hW' : s.WarmedH (S.vm.noted m.cls z.1.catchType (.cls t)) := hW.noted hd hopen (State.rightAt_cls hcl)
    obtain ⟨ks, hks⟩ := Vm.classAt_of_findClass hE
    obtain ⟨ks', hks', -⟩ := hW'.alike.2.2 _ _ hks
    obtain ⟨kt', hkt', -⟩ := hW'.alike.2.2 _ _ hkt
    refine ⟨t, _, ht, hW', fun r Q E' d acts => ?_⟩
    rw [tx_goCold (f := F0 m pc ls st) z1 z2 (resolveClass_links e.toSetting hcl₀) (by simp) hcell hobj ⟨ks', hks'⟩ ⟨kt', hkt'⟩, hW'.alike.assignable]
  intro pre
  induction pre with
  | nil =>
    intro S hW hcell _
    obtain ⟨t, vm', ht, hW', hgo⟩ := key (x0, nm) S hW hcell h0
    refine ⟨vm', hW', fun Q E' d acts => ?_⟩
    rw [List.map_nil, List.nil_append, hgo, if_pos (hc t ht)]
  | cons z pre ih =>
    intro S hW hcell hp
    obtain ⟨hz, c1, t1, n1, n2, n3⟩ := hp z List.mem_cons_self
    obtain ⟨t, vm', ht, hW', hgo⟩ := key z S hW hcell hz
    cases n2.symm.trans ht
    cases n1.symm.trans hE
    obtain ⟨vm'', hW'', hgo2⟩ := ih (S.setVm vm') hW' hcell (fun y hy => hp y (List.mem_cons_of_mem _ hy))
    refine ⟨vm'', hW'', fun Q E' d acts => ?_⟩
    rw [List.map_cons, List.cons_append, hgo, if_neg (by rw [n3]; decide), hgo2]
    rfl
theorem tx_stepCatch {e : Env} {s s' : State} {a : Addr} {f : JFrame} {r : List Frame} {pc : Nat} (hfind : ∀ (Q : Handler → Jvm.Pre) (E : CtlPost) (d : Bool) (acts : List Action), Sem.wp (findHandler f a) Q E e d acts s ↔ Q (.found pc) d acts s') :
    (stepThrowing e s a (.java f :: r)).Is (s'.setFrames (.java { f with pc := pc, stack := [.ref a] } :: r)) [] := by
  simp only [stepThrowing, searchFrame, vmDo]
  generalize hr : Sem.go _ e false [] s = res
  obtain ⟨as, rfl, ha⟩ := Sem.eq_ok_of hr (a := Handler.found pc) (s' := s') (acts' := []) (by simp [hfind _ _ _ _])
  exact ⟨rfl, ha⟩
section TXC
variable {p : Program} {l : Launch} {e : Env} {R : Room} {s : State} {m : MethodId} {args : Array Value} {below : List Frame} {meth : Method} {c : Code} {H : Heap} {locs : List Loc} {cells slots : Nat} {Q : State → Prop}
/-- the exception of class E at x is caught by the entry behind pre -/
theorem tx_catch {x pc hpc : Nat} {ls : Array Slot} {st : List Value} {own E nm : String} {ce : Cell} (hown : s.vm.findClass own = some m.cls) (hcell : H[x]? = some ce) (hvm : ce.vm = .none) (hE : s.vm.findClass E = some ce.cls)
    (pre : List (ClassFile.ExceptionTableEntry × String)) {x0 : ClassFile.ExceptionTableEntry} {rest : List ClassFile.ExceptionTableEntry} (htab : c.exceptionTable.toList = pre.map (·.1) ++ x0 :: rest) (h0 : tx_ent own pc args s (x0, nm)) (hc : ∀ t : ClassId, s.vm.findClass nm = some t → s.vm.assignable ce.cls t = true)
    (hpre : ∀ z ∈ pre, tx_ent own pc args s z ∧ va_Nc E z.2 s) (hh : x0.handlerPc = hpc)
    (k : W p l e R s m args below meth c H locs cells slots Q (F0 m hpc ls [.ref x])) : tx_W p l e R s m args below meth c H locs cells slots Q (F0 m pc ls st) x := by
  intro T hT X
  subst hh
  have hS : ((T.setTop (F0 m pc ls st)).pushFrame (.throwing x)).vm = T.vm := Stand.throwing_vm T _ x
  have hSh : ((T.setTop (F0 m pc ls st)).pushFrame (.throwing x)).heap = T.heap := Stand.throwing_heap T _ x
  obtain ⟨vm', hW', hgo⟩ := tx_find (ls := ls) (st := st) (rest := rest) X.admits hown hvm hE h0 hc pre ((T.setTop (F0 m pc ls st)).pushFrame (.throwing x)) (by rw [hS]; exact X.warmed) (by rw [hSh, hT]; exact hcell) hpre
  have X' := X.noted hW'
  obtain ⟨t, a1, b1⟩ := k (T.setVm vm') hT X'
  refine ⟨t, ?_, b1⟩
  have hm' : ((T.setTop (F0 m pc ls st)).pushFrame (.throwing x)).vm.method? m = some meth := by rw [hS]; exact X.method'
  obtain ⟨hgo1, hw1⟩ := (show At T (F0 m pc ls st).method c below from X.here).throwing x
  refine Steps.head hgo1 hw1 ?_
  rw [stepThread_throwing (frames_entered X.here.top _), (tx_stepCatch (s := (T.setTop (F0 m pc ls st)).pushFrame (.throwing x)) (s' := ((T.setTop (F0 m pc ls st)).pushFrame (.throwing x)).setVm vm') (pc := x0.handlerPc) (fun Q E d acts => by
    rw [W.findHandler_eq (f := F0 m pc ls st) hm' X.code, htab]; exact hgo Q E d acts)).1]
  obtain ⟨g₀, hr⟩ := X.frames_eq
  have hr' : (T.setVm vm').frames = .java g₀ :: below := hr
  have e0 : ∀ F : List Frame, (((T.setTop (F0 m pc ls st)).pushFrame (.throwing x)).setVm vm').setFrames F = (T.setVm vm').setFrames F := by
    intro F
    show (((T.setTop (F0 m pc ls st)).pushFrame (.throwing x)).setFrames F).setVm vm' = _
    rw [State.pushFrame, State.setFrames_setFrames, State.setTop_of_frames _ hr, State.setFrames_setFrames]
    rfl
  rw [State.setTop_of_frames _ hr'] at a1
  rw [hr, e0]
  exact a1
end TXC
end
