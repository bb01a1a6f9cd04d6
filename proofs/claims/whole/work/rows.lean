section
-- ===== PART A: goes FIRST, ahead of the names: the tables' words, and 'selects' of the private methods out of them =====
/-- a private method of a class that the tables say can be made, by its rows of tables_1 -/
def lw_okq (q : MethodName × Nat) : Prop := (q.1.cls ≠ "java/lang/invoke/MethodHandle" ∧ q.1.cls ≠ "java/lang/invoke/VarHandle") ∧ Cond.instantiable q.1.cls q.2 ∈ tables_1 ∧ Cond.privateMethod q.1 ∈ tables_1 ∧ Cond.instanceMethod q.1 ∈ tables_1
theorem lw_p0 : lw_okq (⟨"PacketDesk", "rowOf", "(I)LPacketDesk$Row;"⟩, 1) := ⟨⟨by decide +kernel, by decide +kernel⟩, List.mem_of_getElem? (i := 15) (by decide +kernel), List.mem_of_getElem? (i := 67) (by decide +kernel), List.mem_of_getElem? (i := 68) (by decide +kernel)⟩
theorem lw_p1 : lw_okq (⟨"java/lang/Throwable", "fillInStackTrace", "(I)Ljava/lang/Throwable;"⟩, 6) := ⟨⟨by decide +kernel, by decide +kernel⟩, List.mem_of_getElem? (i := 111) (by decide +kernel), List.mem_of_getElem? (i := 109) (by decide +kernel), List.mem_of_getElem? (i := 110) (by decide +kernel)⟩
theorem lw_p2 : lw_okq (⟨"PacketDeskModel", "fail", "(I)I"⟩, 6) := ⟨⟨by decide +kernel, by decide +kernel⟩, List.mem_of_getElem? (i := 445) (by decide +kernel), List.mem_of_getElem? (i := 485) (by decide +kernel), List.mem_of_getElem? (i := 486) (by decide +kernel)⟩
theorem lw_p3 : lw_okq (⟨"PacketDeskModel", "fits", "(II)Z"⟩, 6) := ⟨⟨by decide +kernel, by decide +kernel⟩, List.mem_of_getElem? (i := 445) (by decide +kernel), List.mem_of_getElem? (i := 489) (by decide +kernel), List.mem_of_getElem? (i := 490) (by decide +kernel)⟩
theorem lw_p4 : lw_okq (⟨"PacketDeskModel", "add", "(II)V"⟩, 6) := ⟨⟨by decide +kernel, by decide +kernel⟩, List.mem_of_getElem? (i := 445) (by decide +kernel), List.mem_of_getElem? (i := 494) (by decide +kernel), List.mem_of_getElem? (i := 495) (by decide +kernel)⟩
theorem lw_p5 : lw_okq (⟨"PacketDeskModel", "set", "(III)V"⟩, 6) := ⟨⟨by decide +kernel, by decide +kernel⟩, List.mem_of_getElem? (i := 445) (by decide +kernel), List.mem_of_getElem? (i := 498) (by decide +kernel), List.mem_of_getElem? (i := 499) (by decide +kernel)⟩
theorem lw_p6 : lw_okq (⟨"PacketDeskModel", "putGroups", "(IJ)I"⟩, 6) := ⟨⟨by decide +kernel, by decide +kernel⟩, List.mem_of_getElem? (i := 445) (by decide +kernel), List.mem_of_getElem? (i := 507) (by decide +kernel), List.mem_of_getElem? (i := 508) (by decide +kernel)⟩
theorem lw_p7 : lw_okq (⟨"PacketDeskModel", "addGroups", "(IJ)V"⟩, 6) := ⟨⟨by decide +kernel, by decide +kernel⟩, List.mem_of_getElem? (i := 445) (by decide +kernel), List.mem_of_getElem? (i := 514) (by decide +kernel), List.mem_of_getElem? (i := 515) (by decide +kernel)⟩
theorem lw_p8 : lw_okq (⟨"PacketDeskModel", "has", "(III)Z"⟩, 6) := ⟨⟨by decide +kernel, by decide +kernel⟩, List.mem_of_getElem? (i := 445) (by decide +kernel), List.mem_of_getElem? (i := 543) (by decide +kernel), List.mem_of_getElem? (i := 544) (by decide +kernel)⟩
theorem lw_p9 : lw_okq (⟨"PacketDeskModel", "at", "(II)I"⟩, 6) := ⟨⟨by decide +kernel, by decide +kernel⟩, List.mem_of_getElem? (i := 445) (by decide +kernel), List.mem_of_getElem? (i := 547) (by decide +kernel), List.mem_of_getElem? (i := 548) (by decide +kernel)⟩
theorem lw_p10 : lw_okq (⟨"PacketDeskModel", "wrap", "(III)I"⟩, 6) := ⟨⟨by decide +kernel, by decide +kernel⟩, List.mem_of_getElem? (i := 445) (by decide +kernel), List.mem_of_getElem? (i := 555) (by decide +kernel), List.mem_of_getElem? (i := 556) (by decide +kernel)⟩
theorem lw_p11 : lw_okq (⟨"PacketDeskModel", "sumOf", "(III)I"⟩, 6) := ⟨⟨by decide +kernel, by decide +kernel⟩, List.mem_of_getElem? (i := 445) (by decide +kernel), List.mem_of_getElem? (i := 559) (by decide +kernel), List.mem_of_getElem? (i := 560) (by decide +kernel)⟩
theorem lw_p12 : lw_okq (⟨"PacketDeskModel", "number", "(III)J"⟩, 6) := ⟨⟨by decide +kernel, by decide +kernel⟩, List.mem_of_getElem? (i := 445) (by decide +kernel), List.mem_of_getElem? (i := 584) (by decide +kernel), List.mem_of_getElem? (i := 585) (by decide +kernel)⟩
theorem lw_p13 : lw_okq (⟨"PacketDeskModel", "grouped", "(II)J"⟩, 6) := ⟨⟨by decide +kernel, by decide +kernel⟩, List.mem_of_getElem? (i := 445) (by decide +kernel), List.mem_of_getElem? (i := 592) (by decide +kernel), List.mem_of_getElem? (i := 593) (by decide +kernel)⟩
theorem lw_p14 : lw_okq (⟨"PacketDeskModel", "failed", "()I"⟩, 6) := ⟨⟨by decide +kernel, by decide +kernel⟩, List.mem_of_getElem? (i := 445) (by decide +kernel), List.mem_of_getElem? (i := 596) (by decide +kernel), List.mem_of_getElem? (i := 597) (by decide +kernel)⟩
theorem lw_p15 : lw_okq (⟨"PacketDeskModel", "lettered", "(III)I"⟩, 6) := ⟨⟨by decide +kernel, by decide +kernel⟩, List.mem_of_getElem? (i := 445) (by decide +kernel), List.mem_of_getElem? (i := 609) (by decide +kernel), List.mem_of_getElem? (i := 610) (by decide +kernel)⟩
def lw_privs_1 : List (MethodName × Nat) := [(⟨"PacketDesk", "rowOf", "(I)LPacketDesk$Row;"⟩, 1), (⟨"java/lang/Throwable", "fillInStackTrace", "(I)Ljava/lang/Throwable;"⟩, 6), (⟨"PacketDeskModel", "fail", "(I)I"⟩, 6), (⟨"PacketDeskModel", "fits", "(II)Z"⟩, 6), (⟨"PacketDeskModel", "add", "(II)V"⟩, 6), (⟨"PacketDeskModel", "set", "(III)V"⟩, 6), (⟨"PacketDeskModel", "putGroups", "(IJ)I"⟩, 6), (⟨"PacketDeskModel", "addGroups", "(IJ)V"⟩, 6), (⟨"PacketDeskModel", "has", "(III)Z"⟩, 6), (⟨"PacketDeskModel", "at", "(II)I"⟩, 6), (⟨"PacketDeskModel", "wrap", "(III)I"⟩, 6), (⟨"PacketDeskModel", "sumOf", "(III)I"⟩, 6), (⟨"PacketDeskModel", "number", "(III)J"⟩, 6), (⟨"PacketDeskModel", "grouped", "(II)J"⟩, 6), (⟨"PacketDeskModel", "failed", "()I"⟩, 6), (⟨"PacketDeskModel", "lettered", "(III)I"⟩, 6)]
theorem lw_r1 : ∀ q ∈ lw_privs_1, lw_okq q := List.forall_mem_cons.mpr ⟨lw_p0, List.forall_mem_cons.mpr ⟨lw_p1, List.forall_mem_cons.mpr ⟨lw_p2, List.forall_mem_cons.mpr ⟨lw_p3, List.forall_mem_cons.mpr ⟨lw_p4, List.forall_mem_cons.mpr ⟨lw_p5, List.forall_mem_cons.mpr ⟨lw_p6, List.forall_mem_cons.mpr ⟨lw_p7, List.forall_mem_cons.mpr ⟨lw_p8, List.forall_mem_cons.mpr ⟨lw_p9, List.forall_mem_cons.mpr ⟨lw_p10, List.forall_mem_cons.mpr ⟨lw_p11, List.forall_mem_cons.mpr ⟨lw_p12, List.forall_mem_cons.mpr ⟨lw_p13, List.forall_mem_cons.mpr ⟨lw_p14, List.forall_mem_cons.mpr ⟨lw_p15, fun _ h => absurd h List.not_mem_nil⟩⟩⟩⟩⟩⟩⟩⟩⟩⟩⟩⟩⟩⟩⟩⟩
theorem lw_p16 : lw_okq (⟨"PacketDeskModel", "unwrap", "(III)I"⟩, 6) := ⟨⟨by decide +kernel, by decide +kernel⟩, List.mem_of_getElem? (i := 445) (by decide +kernel), List.mem_of_getElem? (i := 620) (by decide +kernel), List.mem_of_getElem? (i := 621) (by decide +kernel)⟩
def lw_privs_2 : List (MethodName × Nat) := [(⟨"PacketDeskModel", "unwrap", "(III)I"⟩, 6)]
theorem lw_r2 : ∀ q ∈ lw_privs_2, lw_okq q := List.forall_mem_cons.mpr ⟨lw_p16, fun _ h => absurd h List.not_mem_nil⟩
def lw_privs : List (MethodName × Nat) := lw_privs_1 ++ (lw_privs_2)
def lw_tbl : List Cond := k2_sels lw_privs ++ tables_1
theorem lw_privs_ok : ∀ q ∈ lw_privs, lw_okq q := by
  show ∀ q ∈ lw_privs_1 ++ (lw_privs_2), lw_okq q
  exact List.forall_mem_append.mpr ⟨lw_r1, lw_r2⟩
end
section
/-! WORDS: every method's words are its own code and the whole of the tables that is steady -/
def wa_good (w : Cond) : Bool := (w.onTables && w.keeps) || (w.onTables && w.keepsFace) || (match w with
  | .arrayClass _ => true
  | _ => false)
def wsA : List Cond := lw_tbl.filter wa_good
theorem wa_at {w : Cond} (hg : wa_good w = true) {args a' : Array Value} {s U : State} (hW : s.WarmedH U.vm) (h : w.before args s = true) : w.before a' U = true := by
  unfold wa_good at hg
  rcases (Bool.or_eq_true _ _).mp hg with hg | hg
  · rcases (Bool.or_eq_true _ _).mp hg with hg | hg
    · exact word_at hW (Or.inl hg) h
    · have hg := (Bool.and_eq_true _ _).mp hg
      have h1 : w.before args (s.setVm U.vm) = true := Cond.before_shiftedFace (State.Shifted.of_warmed hW) _ hg.2 h
      rw [Cond.onTables_vm (A' := a') (U' := U) U.vm w hg.1] at h1
      exact h1
  · split at hg
    · exact word_at hW (Or.inr ⟨_, rfl⟩) h
    · cases hg
theorem wa_mem {w : Cond} (h : w ∈ lw_tbl) (hg : wa_good w = true) : w ∈ wsA := List.mem_filter.mpr ⟨h, hg⟩
theorem wa_lw {args : Array Value} {s : State} (h : ∀ w ∈ lw_tbl, w.before args s = true) : ∀ w ∈ wsA, w.before args s = true := fun w hw => h w (List.mem_filter.mp hw).1
theorem wa_pay {args : Array Value} {s : State} (hA : ∀ w ∈ wsA, w.before args s = true) {c1 : Cond} (h1 : c1 ∈ wsA) : ∀ w ∈ c1 :: wsA, ∀ (a' : Array Value) (U : State), s.WarmedH U.vm → w.before a' U = true := by
  intro w hw a' U hW
  have h : w ∈ wsA := by
    rcases List.mem_cons.mp hw with rfl | h
    · exact h1
    · exact h
  exact wa_at (List.mem_filter.mp h).2 hW (hA w h)
theorem wa_cb {R : Room} {s : State} {args : Array Value} {own : String} {index : Nat} {y : MethodName} {bytes : ByteArray} {maxL : Nat} {ret : Option FieldType} {rm : Room} {mc ms : Nat} (n : Nat) (hA : ∀ w ∈ wsA, w.before args s = true) (hc : Cond.code y bytes maxL ret ∈ wsA) (hi : Cond.initialized y.cls ∈ wsA) (hl : Cond.methodLink own index y ∈ wsA) (hrc : rm.cells = mc) (hrs : rm.slots = ms)
    (hd : y.cls ≠ "java/lang/invoke/MethodHandle" ∧ y.cls ≠ "java/lang/invoke/VarHandle" ∧ (parseMethodDescriptor y.desc).map (fun d => d.parameters.length) = some n) (hR : rm.frames + 1 ≤ R.frames ∧ 8 + (maxL + 11) + rm.locals ≤ R.locals) : CallB R s args own index y bytes maxL ret (Cond.code y bytes maxL ret :: wsA) rm mc ms n := by
  refine ⟨hrc, hrs, hR.1, hR.2, wa_pay hA hc, List.mem_cons_self, hA _ hc, hA _ hi, ⟨hd.1, hd.2.1⟩, fun sig h => ?_, hA _ hl⟩
  have h2 := hd.2.2
  rw [h] at h2
  exact (Option.some.inj h2).symm
end
section
/-! THE THROWING LAYER: contracts whose method returns or throws; calls of such methods; an exception that leaves a method; an exception that is caught in it. -/
/-- how many cells (slots) a method leaves: d more where it throws -/
def tx_n (o : Outcome) (k d : Nat) : Nat := match o with
  | .returned _ => k
  | .threw _ => k + d
/-- the frame of a method's end, however it ends -/
def tx_end (st t : State) (L : List Loc) (mc ms : Nat) : Prop := st.WarmedH t.vm ∧ st.sameButNew ({ t with vm := st.vm } : State) L mc ms
def tx_Met (l : Launch) (y : MethodName) (ws : List Cond) (rm : Room) (Pc : Array Value → State → Prop) (Qc : Array Value → State → Outcome → State → Prop) (mc ms : Nat) (free : Addr → Prop) : Prop :=
  MetFree l y (headSpec ws rm) Pc (fun _ _ _ _ _ => True) (fun a st o t => Qc a st o t ∧ ∃ L, tx_end st t L (tx_n o mc 1) (tx_n o ms 6) ∧ ∀ q ∈ L, free q.base)
def tx_MQ (below : List Frame) (Qc : Array Value → State → Outcome → State → Prop) (a : Array Value) (s : State) (mc ms : Nat) (free : Addr → Prop) : State → Prop := fun t =>
  ∃ o, t.status = .running ∧ Ended t below o ∧ Qc a s o t ∧ ∃ L, tx_end s t L (tx_n o mc 1) (tx_n o ms 6) ∧ ∀ q ∈ L, free q.base
theorem tx_ofMet {l : Launch} {y : MethodName} {ws : List Cond} {rm : Room} {Pc : Array Value → State → Prop} {Qc : Array Value → State → Outcome → State → Prop} {mc ms : Nat} {free : Addr → Prop} (h : Met l y ws rm Pc Qc mc ms free) : tx_Met l y ws rm Pc Qc mc ms free := by
  intro p e ha hc hk s m args below hf happ hP hK
  obtain ⟨n, o, h1, h2, h3, hQ, L, ⟨⟨v, hv⟩, hW, hs⟩, hL⟩ := h p e ha hc hk s m args below hf happ hP hK
  subst hv
  exact ⟨n, _, h1, h2, h3, hQ, L, ⟨hW, hs⟩, hL⟩
theorem tx_ofW {l : Launch} {y : MethodName} {ws ws' : List Cond} {rm : Room} {Pc : Array Value → State → Prop} {Qc : Array Value → State → Outcome → State → Prop} {mc ms : Nat} {free : Addr → Prop} {cc : ByteArray} {maxL : Nat} {ret : Option FieldType}
    (hy : plainName y.cls = true) (hw : ws = Cond.code y cc maxL ret :: ws')
    (body : ∀ p e s m args below meth c s₁, BodyLoose p l y (headSpec ws rm) cc maxL ret e s m args below meth c s₁ → c.maxLocals = maxL → c.exceptionTable.isEmpty = true → l.admits e → Pc args s →
      W p l e (headSpec ws rm).room s m args below meth c s.heap [] 0 0 (tx_MQ below Qc args s mc ms free) (entryFrame m args maxL)) : tx_Met l y ws rm Pc Qc mc ms free := by
  refine MetFree.of_bodyS (code := cc) (maxLocals := maxL) (ret := ret) hy ?_ ?_
  · intro args s m h hn
    obtain ⟨meth, c, h1, h2, h3, h4, h5, h6, -, -⟩ := Cond.code_spec hn (atoms_spec (ws := ws) h _ (by rw [hw]; exact List.mem_cons_self))
    exact ⟨meth, c, h1, h2, h3, h4, h5, h6⟩
  · intro p e s m args below meth c s₁ B hml hP _
    have hh0 : s₁.heap = s.heap := by rw [B.state]; rfl
    have X0 := Stand.of_body B
    have hce : c.exceptionTable.isEmpty = true := B.noHandlers (atoms_spec (ws := ws) B.pre _ (by rw [hw]; exact List.mem_cons_self))
    obtain ⟨t, a1, o, b1, b2, b3⟩ := body p e s m args below meth c s₁ B hml hce X0.admits hP s₁ hh0 X0
    exact ⟨t, o, a1, b1, b2, b3⟩
section TX
variable {p : Program} {l : Launch} {e : Env} {R : Room} {s : State} {m : MethodId} {args : Array Value} {below : List Frame} {meth : Method} {c : Code} {H : Heap} {locs : List Loc} {cells slots : Nat} {Q : State → Prop}
/-- a method that may throw returns -/
theorem tx_ret {Qc : Array Value → State → Outcome → State → Prop} {free : Addr → Prop} {mc ms : Nat} {g : JFrame} (k : W p l e R s m args below meth c H locs cells slots (MQ below Qc args s mc ms free) g) : W p l e R s m args below meth c H locs cells slots (tx_MQ below Qc args s mc ms free) g := by
  intro T hT X
  obtain ⟨t, a1, o, b1, b2, b3, L, ⟨⟨v, hv⟩, hW, hs⟩, hL⟩ := k T hT X
  subst hv
  exact ⟨t, a1, _, b1, b2, b3, L, ⟨hW, hs⟩, hL⟩
/-- an exception x is on its way over the frame g -/
def tx_W (p : Program) (l : Launch) (e : Env) (R : Room) (s : State) (m : MethodId) (args : Array Value) (below : List Frame) (meth : Method) (c : Code) (H : Heap) (locs : List Loc) (cells slots : Nat) (Q : State → Prop) (g : JFrame) (x : Addr) : Prop :=
  ∀ T : State, T.heap = H → Stand p l e R s m args below meth c T locs cells slots → ∃ t, Steps p.tables e below ((T.setTop g).pushFrame (.throwing x)) t ∧ Q t
/-- it leaves the method: no handler covers the place -/
theorem tx_out {Qc : Array Value → State → Outcome → State → Prop} {free : Addr → Prop} {mc ms pc : Nat} {ls : Array Slot} {st : List Value} {x : Addr} (hlocks : meth.locks = false) (hce : c.exceptionTable.isEmpty = true)
    (hq : ∀ t : State, t.heap = H → s.WarmedH t.vm → Qc args s (.threw x) t) (hf : ∀ q ∈ locs, free q.base) :
    tx_W p l e R s m args below meth c H locs (mc + 1) (ms + 6) (tx_MQ below Qc args s mc ms free) (F0 m pc ls st) x := by
  intro T hT X
  obtain ⟨hwalk, hrun, hend, hW, hsame⟩ := X.leaveThrown x (g := F0 m pc ls st) rfl rfl rfl (covers_of_empty hce _) hlocks
  exact ⟨_, hwalk, _, hrun, hend, hq _ hT hW, locs, ⟨hW, hsame⟩, hf⟩
theorem tx_widen {k n : Nat} {g : JFrame} {x : Addr} (h1 : cells ≤ k) (h2 : slots ≤ n) (h : tx_W p l e R s m args below meth c H locs k n Q g x) : tx_W p l e R s m args below meth c H locs cells slots Q g x :=
  fun T hT X => h T hT (stand_widen X h1 h2)
/-- the call itself: from the frame at the call to its end -/
theorem tx_enter {T : State} (X : Stand p l e R s m args below meth c T locs cells slots) {y : MethodName} {ws : List Cond} {rm : Room} {Pc : Array Value → State → Prop} {Qc : Array Value → State → Outcome → State → Prop} {mc ms len maxL : Nat} {free : Addr → Prop}
    (hM : tx_Met l y ws rm Pc Qc mc ms free) {g : JFrame} {ig : Instr} {mk : MethodId} {a : Array Value} (hg : g.method = m) (hsize : g.locals.size = c.maxLocals) (hdg : decode c.code g.pc = .ok (ig, len)) (hW : 2 * g.monitorRoom + (g.stack.map fun v => v.category).sum ≤ 8)
    (hn : T.methodNamed? y = some mk) (hpre : ∀ w ∈ ws, w.before a T = true) {methY : Method} {cY : Code} (hmY : T.vm.method? mk = some methY) (hcY : methY.code = some cY) (hlY : cY.maxLocals = maxL) (hini : (Cond.initialized y.cls).before a T = true)
    (hfr : rm.frames + 1 ≤ R.frames) (hlo : 8 + (maxL + 11) + rm.locals ≤ R.locals) (hce : cells + rm.cells ≤ R.cells) (hsl : slots + rm.slots ≤ R.slots) (hP : Pc a (T.calling g mk a)) :
    ∃ (o : Outcome) (t T' : State) (L : List Loc), Stand p l e R s m args below meth c T' (locs ++ L) (cells + tx_n o mc 1) (slots + tx_n o ms 6) ∧ (∀ q ∈ L, free q.base) ∧ T'.heap = t.heap ∧ T'.vm = t.vm ∧ Qc a (T.calling g mk a) o t ∧
      Steps p.tables e below (doInvoke e (T.setTop g) [] mk a).1 t ∧ (match o with
        | .returned v => t = T'.setTop { g with pc := g.pc + len, stack := v.toList ++ g.stack }
        | .threw x => t = (T'.setTop g).pushFrame (.throwing x)) := by
  obtain ⟨kY, hkY, -⟩ := className_of_methodNamed hn
  have hinitY : kY.init = .initialized := Cond.initialized_spec (findClass_of_methodNamed hn) hkY hini
  have h : At T g.method c below := by rw [hg]; exact X.here
  have happ : (headSpec ws rm).appliesLoose y e.platform (T.calling g mk a) = true :=
    Spec.appliesLoose_calling (g := g) h hdg hn hkY hinitY (X.room_calling (g := g) (R' := (headSpec ws rm).room) hsize hmY hcY hfr (by rw [hlY]; show _ + _ + rm.locals ≤ _; omega) hce hsl) (atoms_intro hpre)
  obtain ⟨mid, hmid⟩ := h.above
  have hfrm : (T.setTop g).frames = (.java g :: mid) ++ below := by rw [State.frames_setTop' g h.top, hmid]; rfl
  obtain ⟨o, t, hsteps, -, hend, hq⟩ := Steps.callFree hM p X.admits X.cas X.clock (acts := []) hfrm happ hP trivial
  obtain ⟨hq, L, ⟨hWt, hsame⟩, hL⟩ := hq
  have hfe : (T.setTop g).frames = .java g :: below := by rw [State.frames_setTop' g h.top, X.tail]
  rw [hfe] at hend
  cases o with
  | returned v =>
    obtain ⟨T', X', -, -, ht⟩ := X.outOf hg hdg hend hWt hsame
    exact ⟨_, t, T', L, X', hL, by rw [ht]; rfl, by rw [ht]; rfl, hq, hsteps, ht⟩
  | threw x =>
    obtain ⟨T', X', -, -, ht⟩ := X.outOfThrown hg hend hWt hsame
    exact ⟨_, t, T', L, X', hL, by rw [ht]; exact (Stand.throwing_heap T' g x).symm, by rw [ht]; exact (Stand.throwing_vm T' g x).symm, hq, hsteps, ht⟩
/-- a call and its two ends -/
def tx_Run (p : Program) (l : Launch) (e : Env) (R : Room) (s : State) (m : MethodId) (args : Array Value) (below : List Frame) (meth : Method) (c : Code) (H : Heap) (locs : List Loc) (cells slots mc ms : Nat) (g : JFrame) (rest : List Value) (Qa : State → Outcome → State → Prop) (free : Addr → Prop) : Prop :=
  ∀ T : State, T.heap = H → Stand p l e R s m args below meth c T locs cells slots → ∃ (o : Outcome) (st₀ t T' : State) (L : List Loc), st₀.heap = H ∧ s.WarmedH st₀.vm ∧ Stand p l e R s m args below meth c T' (locs ++ L) (cells + tx_n o mc 1) (slots + tx_n o ms 6) ∧ (∀ q ∈ L, free q.base) ∧ T'.heap = t.heap ∧ T'.vm = t.vm ∧ Qa st₀ o t ∧
    (match o with
      | .returned v => Goes p e below T g T' { g with pc := g.pc + 3, stack := v.toList ++ rest }
      | .threw x => ∀ target, Steps p.tables e below ((T'.setTop { g with stack := rest }).pushFrame (.throwing x)) target → Steps p.tables e below (T.setTop g) target)
variable {y : MethodName} {bytes cc : ByteArray} {maxL nL mc ms n index : Nat} {ret : Option FieldType} {ws : List Cond} {rm : Room} {Pc : Array Value → State → Prop} {Qc : Array Value → State → Outcome → State → Prop} {free : Addr → Prop} {own C : String} {b : Addr} {As rest : List Value} {g : JFrame}
theorem tx_go {T T1 : State} {vm₁ : Vm} {ig : Instr} {mk : MethodId} {a : Array Value} (hT : T.heap = H) (hT1 : T1 = T.setVm vm₁) (X₁ : Stand p l e R s m args below meth c T1 locs cells slots) (hM : tx_Met l y ws rm Pc Qc mc ms free) (hg : g.method = m) (hsize : g.locals.size = c.maxLocals) (hdg : decode c.code g.pc = .ok (ig, 3)) (hW : 2 * g.monitorRoom + (rest.map fun v => v.category).sum ≤ 8)
    (hn : T1.methodNamed? y = some mk) (hws : ∀ w ∈ ws, ∀ (a' : Array Value) (U : State), s.WarmedH U.vm → w.before a' U = true) {methY : Method} {cY : Code} (hmY : T1.vm.method? mk = some methY) (hcY : methY.code = some cY) (hlY : cY.maxLocals = maxL) (hini : (Cond.initialized y.cls).before args s = true)
    (hfr : rm.frames + 1 ≤ R.frames) (hlo : 8 + (maxL + 11) + rm.locals ≤ R.locals) (hce : cells + rm.cells ≤ R.cells) (hsl : slots + rm.slots ≤ R.slots) (hbl : FrameBlind Pc) (hP : ∀ U : State, U.heap = H → s.WarmedH U.vm → Pc a U)
    (hst : ∀ target, (∀ acts, Steps p.tables e below (doInvoke e (T1.setTop { g with stack := rest }) acts mk a).1 target) → Steps p.tables e below (T.setTop g) target) :
    ∃ (o : Outcome) (st₀ t T' : State) (L : List Loc), st₀.heap = H ∧ s.WarmedH st₀.vm ∧ Stand p l e R s m args below meth c T' (locs ++ L) (cells + tx_n o mc 1) (slots + tx_n o ms 6) ∧ (∀ q ∈ L, free q.base) ∧ T'.heap = t.heap ∧ T'.vm = t.vm ∧ Qc a st₀ o t ∧
    (match o with
      | .returned v => Goes p e below T g T' { g with pc := g.pc + 3, stack := v.toList ++ rest }
      | .threw x => ∀ target, Steps p.tables e below ((T'.setTop { g with stack := rest }).pushFrame (.throwing x)) target → Steps p.tables e below (T.setTop g) target) := by
  have hh1 : T1.heap = H := by rw [hT1]; exact hT
  obtain ⟨o, t, T', L, X', hL, e1, e2, hq, hsteps, hend⟩ := tx_enter X₁ hM (g := { g with stack := rest }) (len := 3) (a := a) hg hsize hdg hW hn (fun w h => hws w h _ _ X₁.warmed) hmY hcY hlY (word_at X₁.warmed (Or.inl (by first | rfl | simp [Cond.onTables, Cond.keeps, Cond.steady])) hini) hfr hlo hce hsl (hbl _ _ _ _ (hP T1 hh1 X₁.warmed))
  refine ⟨o, T1.calling { g with stack := rest } mk a, t, T', L, hh1, ?_, X', hL, e1, e2, hq, ?_⟩
  · exact X₁.warmed
  · cases o with
    | returned v =>
      intro target h
      refine hst _ fun acts => ?_
      rw [doInvoke_state]
      have hend : t = T'.setTop { g with pc := g.pc + 3, stack := v.toList ++ rest } := hend
      rw [hend] at hsteps
      exact hsteps.trans h
    | threw x =>
      intro target h
      refine hst _ fun acts => ?_
      rw [doInvoke_state]
      have hend : t = (T'.setTop { g with stack := rest }).pushFrame (.throwing x) := hend
      rw [hend] at hsteps
      exact hsteps.trans h
theorem tx_runV {Ts : List Cond} (S : CallFix p m c cc nL s args Ts own) (hM : tx_Met l y ws rm Pc Qc mc ms free) (cw : CallW R s args own C index y bytes maxL ret ws rm (mc + 1) (ms + 6) n) (hp : PreV s H C b Pc As)
    (hg : g.method = m) (hn : As.length = n) (hsize : g.locals.size = nL) (hstack : g.stack = As.reverse ++ .ref b :: rest) (hW : 2 * g.monitorRoom + (rest.map fun v => v.category).sum ≤ 8) (hdg : decode cc g.pc = .ok (.invokevirtual index, 3)) (hf : cells + (mc + 1) ≤ R.cells ∧ slots + (ms + 6) ≤ R.slots) :
    tx_Run p l e R s m args below meth c H locs cells slots mc ms g rest (Qc (Value.ref b :: As).toArray) free := by
  obtain ⟨⟨hrc, hrs, hfr, hlo, hws, -, hcode, hini, hy, hlen, hl⟩, hin, hse⟩ := cw
  obtain ⟨hx, hb, hml, ho, -⟩ := S
  obtain ⟨hbl, ⟨cellB, hcB, hoB, hclB⟩, hPc⟩ := hp
  intro T hT X
  obtain ⟨mk, methM, hnamed, hmethM, hstM, habM⟩ := Cond.instanceMethod_spec hin
  obtain ⟨methM', cM, hmethM', hcM, -, hlM, -, -, -, hsigM⟩ := Cond.code_spec hnamed hcode
  cases hmethM.symm.trans hmethM'
  obtain ⟨c2, r2, m2, q1, q2, q3, q4, kP, hkP, hkPi⟩ := Cond.selects_spec hse
  cases hclB.symm.trans q1
  cases (State.methodFound?_of_named hnamed hy).symm.trans q2
  cases hnamed.symm.trans q3
  have hselP : selectMethod e.platform s.vm cellB.cls mk = .method mk := by rw [Launch.admits_selectMethod X.admits]; exact q4
  obtain ⟨vm₁, X₁, hstep₁⟩ := X.invokevirtual hx ho hl hnamed hmethM hstM hkP hkPi hy (a := b) (cell := cellB) (by rw [hT]; exact hcB)
    (fun z h => by rw [h] at hoB; cases hoB) hselP hmethM habM hkP hkPi (g := g) hg (argsL := As) (rest := rest) (hn.trans (hlen _ hsigM)) hstack (by rw [hb]; exact hdg)
  exact tx_go hT rfl X₁ hM hg (hsize.trans hml.symm) (by rw [hb]; exact hdg) hW (X₁.named hnamed) hws (by rw [X₁.warmed.alike.method?]; exact hmethM) hcM hlM hini hfr hlo (by rw [hrc]; exact hf.1) (by rw [hrs]; exact hf.2) hbl hPc hstep₁
theorem tx_runS {Ts : List Cond} (S : CallFix p m c cc nL s args Ts own) (hM : tx_Met l y ws rm Pc Qc mc ms free) (cw : CallB R s args own index y bytes maxL ret ws rm (mc + 1) (ms + 6) n ∧ (Cond.static y).before args s = true) (hp : PreS s H Pc As)
    (hg : g.method = m) (hn : As.length = n) (hsize : g.locals.size = nL) (hstack : g.stack = As.reverse ++ rest) (hW : 2 * g.monitorRoom + (rest.map fun v => v.category).sum ≤ 8) (hdg : decode cc g.pc = .ok (.invokestatic index, 3)) (hf : cells + (mc + 1) ≤ R.cells ∧ slots + (ms + 6) ≤ R.slots) :
    tx_Run p l e R s m args below meth c H locs cells slots mc ms g rest (Qc As.toArray) free := by
  obtain ⟨⟨hrc, hrs, hfr, hlo, hws, -, hcode, hini, hy, hlen, hl⟩, hstt⟩ := cw
  obtain ⟨hx, hb, hml, ho, -⟩ := S
  intro T hT X
  obtain ⟨mk, hnamed⟩ := Cond.code_named hcode
  obtain ⟨methM, cM, hmethM, hcM, -, hlM, -, -, -, hsigM⟩ := Cond.code_spec hnamed hcode
  have hstatic : methM.isStatic = true := Cond.static_spec hnamed hmethM hstt
  obtain ⟨kP, hkP, -⟩ := className_of_methodNamed hnamed
  have hinitP : kP.init = .initialized := Cond.initialized_spec (findClass_of_methodNamed hnamed) hkP hini
  obtain ⟨vm₁, X₁, hstep₁⟩ := X.invokestatic hx ho hl hnamed hmethM hstatic hkP hinitP hy (g := g) hg (argsL := As) (rest := rest) (hn.trans (hlen _ hsigM)) hstack (by rw [hb]; exact hdg)
  exact tx_go hT rfl X₁ hM hg (hsize.trans hml.symm) (by rw [hb]; exact hdg) hW (X₁.named hnamed) hws (by rw [X₁.warmed.alike.method?]; exact hmethM) hcM hlM hini hfr hlo (by rw [hrc]; exact hf.1) (by rw [hrs]; exact hf.2) hp.1 hp.2 hstep₁
/-- behind a call: two ways on -/
theorem tx_call {pc : Nat} {ls : Array Slot} {st0 : List Value} {Qa : State → Outcome → State → Prop} (hr : tx_Run p l e R s m args below meth c H locs cells slots mc ms (F0 m pc ls st0) rest Qa free)
    (kr : ∀ (v : Option Value) (st₀ t : State) (L : List Loc), st₀.heap = H → s.WarmedH st₀.vm → s.WarmedH t.vm → (∀ q ∈ L, free q.base) → Qa st₀ (.returned v) t → W p l e R s m args below meth c t.heap (locs ++ L) (cells + mc) (slots + ms) Q (F0 m (pc + 3) ls (v.toList ++ rest)))
    (kt : ∀ (x : Addr) (st₀ t : State) (L : List Loc), st₀.heap = H → s.WarmedH st₀.vm → s.WarmedH t.vm → (∀ q ∈ L, free q.base) → Qa st₀ (.threw x) t → tx_W p l e R s m args below meth c t.heap (locs ++ L) (cells + (mc + 1)) (slots + (ms + 6)) Q (F0 m pc ls rest) x) :
    W p l e R s m args below meth c H locs cells slots Q (F0 m pc ls st0) := by
  intro T hT X
  obtain ⟨o, st₀, t, T', L, h0, hW0, X', hL, e1, e2, hq, hgo⟩ := hr T hT X
  have hWt : s.WarmedH t.vm := by rw [← e2]; exact X'.warmed
  cases o with
  | returned v =>
    obtain ⟨t2, a1, b1⟩ := kr v st₀ t L h0 hW0 hWt hL hq T' e1 X'
    exact ⟨t2, hgo t2 a1, b1⟩
  | threw x =>
    obtain ⟨t2, a1, b1⟩ := kt x st₀ t L h0 hW0 hWt hL hq T' e1 X'
    exact ⟨t2, hgo t2 a1, b1⟩
end TX
end
section
/-! AN EXCEPTION IS MADE AND THROWN: new X; dup; ldc "..."; invokespecial X.<init>(String); athrow. The library's ctorThrowS is of classes whose constructor passes its text on by entry 7; java.util.NoSuchElementException's does by entry 13: so here the first link's entry and bytes are free. -/
def tx_atoms (own : String) (ic : Nat) (X Y : String) (k : Nat) (bs : ByteArray) (r : List String) : List Cond :=
  Bundle.throwableAtoms ++ (Bundle.throwableSAtoms ++ (Bundle.passSAtoms X Y k bs ++ (Bundle.chainSAtoms Y r ++
  [.methodLink own ic (Bundle.initS X), .instantiable X 6, .selects X Bundle.tFill0 Bundle.tFill0, .selects X Bundle.tFill Bundle.tFill,
   .lays X Bundle.tN "cause" "Ljava/lang/Throwable;", .lays X Bundle.tN "stackTrace" Bundle.steD, .lays X Bundle.tN "suppressedExceptions" Bundle.listD, .lays X Bundle.tN "detailMessage" "Ljava/lang/String;",
   .isRef (.static Bundle.tN "UNASSIGNED_STACK" Bundle.steD), .isRef (.static Bundle.tN "SUPPRESSED_SENTINEL" Bundle.listD),
   .fieldLink Bundle.tN 198 Bundle.tN "backtrace" "Ljava/lang/Object;", .lays Bundle.tN Bundle.tN "backtrace" "Ljava/lang/Object;", .lays X Bundle.tN "backtrace" "Ljava/lang/Object;"])))
theorem tx_old {s U : State} {k n : Nat} (h : s.sameButNew ({ U with vm := s.vm } : State) [] k n) : s.heap.size ≤ U.heap.size ∧ ∀ q : Nat, q < s.heap.size → U.heap[q]? = s.heap[q]? := by
  obtain ⟨-, h1, -, -, -, h6⟩ := h
  refine ⟨h1, fun q hq => ?_⟩
  have hc : s.heap[q]? = some s.heap[q] := Array.getElem?_eq_getElem hq
  obtain ⟨c', g1, g2, g3, g4⟩ := h6 q _ hc
  have g1 : U.heap[q]? = some c' := g1
  rw [g1, hc, g2]
  congr 1
  have : c'.slots = (s.heap[q]).slots := by
    apply Array.ext_getElem?
    intro i
    exact g4 i (by simp)
  rw [this]
set_option maxHeartbeats 4000000 in
theorem tx_made {p : Program} {l : Launch} {e : Env} {R : Room} {s : State} {m₀ : MethodId} {args : Array Value} {below : List Frame} {meth : Method} {c : Code} {W : State} {cells slots : Nat} (X : Stand p l e R s m₀ args below meth c W [] cells slots) (hexec : p.tables.exec = Jvm.exec) (htr : e.platform.stackTraces = false) {own cls Y : String} {names : List String} {ic k0 : Nat} {bs : ByteArray}
    (hown : s.vm.findClass own = some m₀.cls) (hcls : Bundle.fit cls = true) (hY : Bundle.fit Y = true) (hnames : ∀ n ∈ names, Bundle.fit n = true)
    (b0 : decode bs 0 = .ok (.aload_n 0, 1)) (b1 : decode bs 1 = .ok (.aload_n 1, 1)) (b2 : decode bs 2 = .ok (.invokespecial k0, 3)) (b5 : decode bs 5 = .ok (.return_, 1))
    (h : ∀ a ∈ tx_atoms own ic cls Y k0 bs names, a.before args s = true)
    {a : Addr} {cX : ClassId} {kX : Class} (hfoundX : s.vm.findClass cls = some cX) (hkX : s.vm.classes[cX]? = some kX) (hcell : W.heap[a]? = some (freshCell cX kX)) (hnew : s.heap.size ≤ a)
    {msg : Value} (hmsg : msg.isRef = true)
    {g : JFrame} (hg : g.method = m₀) (hsize : g.locals.size = c.maxLocals) (hlocked : g.locked = none) (hentered : g.entered = []) {rest : List Value} (hstack : g.stack = msg :: .ref a :: .ref a :: rest)
    (hd6 : decode c.code g.pc = .ok (.invokespecial ic, 3)) (hd9 : decode c.code (g.pc + 3) = .ok (.athrow, 1)) (hout : ∀ x ∈ c.exceptionTable.toList, covers x (g.pc + 3) = false)
    (hRframes : names.length + 4 < R.frames) (hRlocals : 2 * g.monitorRoom + ((Value.ref a :: rest).map fun v => v.category).sum + (13 * (names.length + 2) + 42) ≤ R.locals) (hlocks : meth.locks = false) :
    ∃ U : State, Steps p.tables e below (W.setTop g) U ∧ U.status = .running ∧ Ended U below (.threw a) ∧ s.WarmedH U.vm ∧ s.sameButNew ({ U with vm := s.vm } : State) [] cells slots ∧
      ∃ ce : Cell, U.heap[a]? = some ce ∧ ce.vm = .none ∧ s.vm.findClass cls = some ce.cls := by
  have howns : e.platform.frameOwnsMonitors = true := by rw [X.admits.platform]
  have hfin : e.platform.finalization = false := by rw [X.admits.platform]
  have hpl : e.platform.magicAccessors = ({} : Platform).magicAccessors := by rw [X.admits.platform]
  have a' : ∀ x, x ∈ tx_atoms own ic cls Y k0 bs names → x.holds args s none s [] = true := fun x hx => h x hx
  obtain ⟨T, Z0, L, -, Ys⟩ := ThrowableC.of_atoms (args := args) howns hfin hpl (fun x hx => h x (by simp [tx_atoms, hx]))
  obtain ⟨Z, M, LZ, LM, hnZ⟩ := Init0T.ofS_atoms (args := args) hpl L Ys (fun x hx => h x (by simp [tx_atoms, hx]))
  obtain ⟨P0, L0, hP0m, hP0s⟩ := PassC.ofS_atoms (args := args) (s := s) hpl (X := cls) (Y := Y) (Bundle.fit_spec hcls).1 (Bundle.fit_spec hY).2 b0 b1 b2 b5 (fun x hx => h x (by simp [tx_atoms, hx]))
  obtain ⟨P1, Ps, hlen, L1, hL, hP1m, hlink1, hlink⟩ := Bundle.chainS (args := args) hpl hnZ names Y hY hnames (fun x hx => h x (by simp [tx_atoms, hx]))
  have hsup : P0.sup = P1.m := Option.some.inj (hP0s.symm.trans hP1m)
  have hfound : s.vm.findClass cls = some P0.m.cls := findClass_of_methodNamed hP0m
  cases Option.some.inj (hfoundX.symm.trans hfound)
  obtain ⟨c1, kX', hc1, hk, hord, -, -, hn6⟩ := Cond.instantiable_spec (a' (.instantiable cls 6) (by simp [tx_atoms]))
  cases Option.some.inj (hc1.symm.trans hfound)
  cases Option.some.inj (hkX.symm.trans hk)
  have sel : ∀ {y : MethodName} {my : MethodId}, (Cond.selects cls y y) ∈ tx_atoms own ic cls Y k0 bs names → s.methodNamed? y = some my → (y.cls ≠ "java/lang/invoke/MethodHandle" ∧ y.cls ≠ "java/lang/invoke/VarHandle") → selectMethod e.platform s.vm P0.m.cls my = .method my := by
    intro y my hin hny hyy
    obtain ⟨c2, r2, m2, q1, q2, q3, q4, -⟩ := Cond.selects_spec (a' _ hin)
    cases Option.some.inj (q1.symm.trans hfound)
    cases Option.some.inj (q2.symm.trans (State.methodFound?_of_named hny hyy))
    cases Option.some.inj (q3.symm.trans hny)
    rw [Launch.admits_selectMethod X.admits]; exact q4
  have hsel0 := sel (y := Bundle.tFill0) (by simp [tx_atoms]) Ys.fill0 (by decide)
  have hselF := sel (y := Bundle.tFill) (by simp [tx_atoms]) Ys.fill (by decide)
  obtain ⟨cellS0, hcS0, hiss⟩ := Ys.statics
  obtain ⟨u0, hu0⟩ := Cond.staticRefV Ys.unassigned L.unassignedStatic L.statics hcS0 hiss (a' (.isRef (.static Bundle.tN "UNASSIGNED_STACK" Bundle.steD)) (by simp [tx_atoms]))
  obtain ⟨sen, hsen⟩ := Cond.staticRefV Ys.sentinel L.sentinelStatic L.statics hcS0 hiss (a' (.isRef (.static Bundle.tN "SUPPRESSED_SENTINEL" Bundle.listD)) (by simp [tx_atoms]))
  obtain ⟨ci198, i198, fB, hk198, hg198, ha198, hsB, -, hnB, htB, hffB⟩ := Cond.ownField (t := .object "java/lang/Object") Ys.found L.cls (by decide +kernel) (a' (.fieldLink Bundle.tN 198 Bundle.tN "backtrace" "Ljava/lang/Object;") (by simp [tx_atoms])) (a' (.lays Bundle.tN Bundle.tN "backtrace" "Ljava/lang/Object;") (by simp [tx_atoms])) e.platform hpl
  obtain ⟨cellS, hcS', heS, -, hkeep⟩ := X.same.2.2.2.2.2 T.aS cellS0 hcS0
  have hcellS : W.heap[T.aS]? = some cellS := hcS'
  have hknownS : cellS.vm ≠ .unknown := by
    rw [heS]; intro hu
    rw [show cellS0.vm = .unknown from hu] at hiss
    cases hiss
  have hneS : T.aS ≠ a := Nat.ne_of_lt (Nat.lt_of_lt_of_le (Array.getElem?_eq_some_iff.mp hcS0).1 hnew)
  obtain ⟨iM, hffM⟩ := Ys.msg
  obtain ⟨tyC, dC, hdC, hdnC⟩ := Cond.laysAt hfound hk Ys.cause (a' (.lays cls Bundle.tN "cause" "Ljava/lang/Throwable;") (by simp [tx_atoms]))
  obtain ⟨tyS, dS, hdS, hdnS⟩ := Cond.laysAt hfound hk Ys.stack (a' (.lays cls Bundle.tN "stackTrace" Bundle.steD) (by simp [tx_atoms]))
  obtain ⟨tyP, dP, hdP, hdnP⟩ := Cond.laysAt hfound hk Ys.supp (a' (.lays cls Bundle.tN "suppressedExceptions" Bundle.listD) (by simp [tx_atoms]))
  obtain ⟨tyM, dM, hdM, hdnM⟩ := Cond.laysAt hfound hk hffM (a' (.lays cls Bundle.tN "detailMessage" "Ljava/lang/String;") (by simp [tx_atoms]))
  obtain ⟨tyB, dB, hdB, hdnB⟩ := Cond.laysAt hfound hk hffB (a' (.lays cls Bundle.tN "backtrace" "Ljava/lang/Object;") (by simp [tx_atoms]))
  have bC := Cond.laysApart hdB hdC hdnB hdnC (by rw [hnB, Ys.causeName]; decide)
  have bS := Cond.laysApart hdB hdS hdnB hdnS (by rw [hnB, Ys.stackName]; decide)
  have bP := Cond.laysApart hdB hdP hdnB hdnP (by rw [hnB, Ys.suppName]; decide)
  have hskip : SkipFacts T e.platform s (fun u => u) u0 ((preparedCellV T.toThrowableT (freshCell P0.m.cls kX) a u0 sen).withEntry W.cur) :=
    ⟨{ ci198 := ci198, i198 := i198, fBack := fB }, ⟨hk198, hg198, ha198, hsB⟩, by
      have := fresh_default (c := P0.m.cls) tyB
      rw [htB] at this
      simpa [preparedCellV, Cell.setSlot, Cell.withEntry, Array.getElem?_setIfInBounds, bC, bS, bP, bC.symm, bS.symm, bP.symm, defaultValue] using this, fun _ _ => rfl⟩
  obtain ⟨tm, methC, cdC, kC, vm₁, hnC, -, -, -, -, -, -, -, hW₁, st1⟩ := Steps.initColdS (tb := p.tables) (e := e) (below := below) (s := s) (U := W) X.here hexec X.warmed hpl hown (t := Bundle.initS cls) rfl rfl (Bundle.fit_spec hcls).2
    (a' (.methodLink own ic (Bundle.initS cls)) (by simp [tx_atoms])) (h (.instanceMethod (Bundle.initS cls)) (by simp [tx_atoms, Bundle.passSAtoms])) (bytes := bs) (maxL := 2) (h (.code (Bundle.initS cls) bs 2 none) (by simp [tx_atoms, Bundle.passSAtoms]))
    (f := g) hg (a := a) (msg := msg) (rest := .ref a :: rest) hstack hd6
  cases Option.some.inj (hnC.symm.trans hP0m)
  have X₁ := X.noted hW₁
  obtain ⟨vm₂, X₂, st2⟩ := X₁.ctorMessageOffV hexec (g := { g with stack := .ref a :: rest }) hg hsize T L Z LZ M LM (P0 :: P1 :: Ps)
    (fun P hP => by
      rcases List.mem_cons.mp hP with rfl | hP
      · exact L0
      · rcases List.mem_cons.mp hP with rfl | hP
        · exact L1
        · exact hL P hP) ⟨hsup, hlink1, hlink⟩ (u0 := u0) (sen := sen) (self := a) hmsg (cell := freshCell P0.m.cls kX) (cellS := cellS)
    hcell (fun _ => by simp) (by simp) rfl rfl hsel0 hselF hcellS hneS hknownS (by rw [hkeep _ (by simp)]; exact hu0) (by rw [hkeep _ (by simp)]; exact hsen)
    (Takes.of_laid hk hord tyC (by rw [Ys.causeType]; rfl)) (Takes.of_laid hk hord tyS (by rw [Ys.stackType]; exact fits_refV_array _ u0)) (Takes.of_laid hk hord tyP (by rw [Ys.suppType]; exact fits_refV_object _ sen))
    (Takes.of_laid hk hord tyM (by rw [Ys.msgType]; exact fits_refV_object _ ⟨msg, hmsg⟩)) Ys.objLocals hskip htr [] hd6
    (by simp only [List.length_cons, hlen]; omega) (by simp only [List.length_cons, hlen]; exact hRlocals)
  obtain ⟨hwalk, hrun, hended, hWU, hsame⟩ := X₂.athrowLeaves hexec (g := { g with stack := .ref a :: rest, pc := g.pc + 3 }) hg hlocked hentered hout (a := a) (rest := rest) rfl hd9
  have hlt : a < ((W.setVm vm₁).setVm vm₂).heap.size := (Array.getElem?_eq_some_iff.mp hcell).1
  have hU := heapAt_setCell_self (s := (W.setVm vm₁).setVm vm₂) (plainBareV T.toThrowableT (freshCell P0.m.cls kX) a u0 sen msg) hlt
  refine ⟨_, st1 _ (fun acts => ?_), hrun, hended, hWU, hsame.weaken (fun y hy hlt' => ?_) (Nat.le_refl _) (Nat.le_refl _), _, hU, rfl, hfound⟩
  · rw [doInvoke_state]
    exact st2 _ hwalk
  · exfalso
    have hb : y.base = a := by
      simp only [List.nil_append, List.mem_cons, List.not_mem_nil, or_false] at hy
      rcases hy with rfl | rfl | rfl | rfl | rfl <;> rfl
    rw [hb] at hlt'
    exact Nat.not_lt.mpr hnew hlt'
end
section
/-- what an exception of class E at x says: it is new, it is an object of that class, and nothing that was there has changed -/
def tx_E (E : String) (x : Nat) (U : State) (H H1 : Heap) : Prop := H.size ≤ x ∧ (∃ ce : Cell, H1[x]? = some ce ∧ ce.vm = .none ∧ U.vm.findClass E = some ce.cls) ∧ H.size ≤ H1.size ∧ ∀ q : Nat, q < H.size → H1[q]? = H[q]?
theorem tx_E.moved {E : String} {x : Nat} {u U : State} {H H1 : Heap} (hvm : u.vm.Alike U.vm) (h : tx_E E x u H H1) : tx_E E x U H H1 := by
  obtain ⟨h1, ⟨ce, h2, h3, h4⟩, h5, h6⟩ := h
  exact ⟨h1, ⟨ce, h2, h3, by rw [hvm.findClass]; exact h4⟩, h5, h6⟩
theorem tx_E.from {E : String} {x : Nat} {U : State} {H0 H H1 : Heap} (h : tx_E E x U H H1) (hz : H0.size ≤ H.size) (hk : ∀ q : Nat, q < H0.size → H[q]? = H0[q]?) : tx_E E x U H0 H1 := by
  obtain ⟨h1, h2, h5, h6⟩ := h
  exact ⟨Nat.le_trans hz h1, h2, Nat.le_trans hz h5, fun q hq => (h6 q (Nat.lt_of_lt_of_le hq hz)).trans (hk q hq)⟩
/-- a method's end: it returns as Qr says, or throws one of thr -/
def tx_Q (thr : String → Prop) (Qr : Array Value → State → Outcome → State → Prop) : Array Value → State → Outcome → State → Prop := fun a st o t =>
  (∃ v, o = .returned v ∧ Qr a st o t) ∨ ∃ (x : Nat) (E : String), o = .threw x ∧ thr E ∧ tx_E E x st st.heap t.heap
section TXQ
variable {p : Program} {l : Launch} {e : Env} {R : Room} {s : State} {m : MethodId} {args : Array Value} {below : List Frame} {meth : Method} {c : Code} {H : Heap} {locs : List Loc} {cells slots : Nat} {Q : State → Prop}
variable {pc mc ms : Nat} {ls : Array Slot} {rest st0 : List Value} {a : Array Value} {thr thr2 : String → Prop} {Qr Qr2 : Array Value → State → Outcome → State → Prop} {free : Addr → Prop}
/-- it goes on out of the method -/
theorem tx_prop {H1 : Heap} {st : List Value} {x : Nat} {E : String} (hlocks : meth.locks = false) (hce : c.exceptionTable.isEmpty = true) (hE : tx_E E x s H H1) (hz : s.heap.size ≤ H.size) (hk : ∀ q : Nat, q < s.heap.size → H[q]? = s.heap[q]?) (ht : thr2 E) (hf : ∀ q ∈ locs, free q.base) :
    tx_W p l e R s m args below meth c H1 locs (mc + 1) (ms + 6) (tx_MQ below (tx_Q thr2 Qr2) args s mc ms free) (F0 m pc ls st) x :=
  tx_out hlocks hce (fun t ht0 _ => Or.inr ⟨x, E, rfl, ht, by rw [ht0]; exact hE.from hz hk⟩) hf
/-- a call whose method may throw: the exception goes on; else as the callee says -/
theorem tx_callP (hr : tx_Run p l e R s m args below meth c H locs cells slots mc ms (F0 m pc ls st0) rest (tx_Q thr Qr a) free)
    (kt : ∀ (x : Nat) (E : String) (H1 : Heap) (L : List Loc), thr E → tx_E E x s H H1 → (∀ q ∈ L, free q.base) → tx_W p l e R s m args below meth c H1 (locs ++ L) (cells + (mc + 1)) (slots + (ms + 6)) Q (F0 m pc ls rest) x)
    (kr : ∀ (v : Option Value) (st₀ t : State) (L : List Loc), st₀.heap = H → s.WarmedH st₀.vm → s.WarmedH t.vm → (∀ q ∈ L, free q.base) → Qr a st₀ (.returned v) t → W p l e R s m args below meth c t.heap (locs ++ L) (cells + mc) (slots + ms) Q (F0 m (pc + 3) ls (v.toList ++ rest))) :
    W p l e R s m args below meth c H locs cells slots Q (F0 m pc ls st0) := by
  refine tx_call hr (fun v st₀ t L h0 hW0 hWt hL hq => ?_) (fun x st₀ t L h0 hW0 hWt hL hq => ?_)
  · rcases hq with ⟨v', hv, hq⟩ | ⟨x, E, hv, -⟩
    · exact kr v st₀ t L h0 hW0 hWt hL hq
    · cases hv
  · rcases hq with ⟨v', hv, -⟩ | ⟨x', E, hv, ht, hE⟩
    · cases hv
    · cases hv
      exact kt x E t.heap L ht (by rw [← h0]; exact hE.moved hW0.alike.symm) hL
/-- a method that only reads -/
theorem tx_pure {Qv : Option Value → Prop} (hr : tx_Run p l e R s m args below meth c H locs cells slots 0 0 (F0 m pc ls st0) rest (tx_Q thr Qr a) (fun _ => False)) (hQ : ∀ (st t : State) (v : Option Value), Qr a st (.returned v) t → Qv v ∧ t.heap = st.heap)
    (kt : ∀ (x : Nat) (E : String) (H1 : Heap), thr E → tx_E E x s H H1 → tx_W p l e R s m args below meth c H1 locs (cells + 1) (slots + 6) Q (F0 m pc ls rest) x)
    (kr : ∀ v : Option Value, Qv v → W p l e R s m args below meth c H locs cells slots Q (F0 m (pc + 3) ls (v.toList ++ rest))) :
    W p l e R s m args below meth c H locs cells slots Q (F0 m pc ls st0) := by
  refine tx_callP hr (fun x E H1 L ht hE hL => ?_) (fun v st₀ t L h0 hW0 hWt hL hq => ?_)
  · intro T hT X
    exact kt x E H1 ht hE T hT (Stand.forget X (fun q h => (hL q h).elim))
  · obtain ⟨hv, hh⟩ := hQ st₀ t v hq
    intro T hT X
    exact kr v hv T (by rw [hT, hh, h0]) (Stand.forget X (fun q h => (hL q h).elim))
theorem tx_si {post : Int32 → Prop} (hr : tx_Run p l e R s m args below meth c H locs cells slots 0 0 (F0 m pc ls st0) rest (tx_Q thr (vp_Si post) a) (fun _ => False))
    (kt : ∀ (x : Nat) (E : String) (H1 : Heap), thr E → tx_E E x s H H1 → tx_W p l e R s m args below meth c H1 locs (cells + 1) (slots + 6) Q (F0 m pc ls rest) x)
    (kr : ∀ r : Int32, post r → W p l e R s m args below meth c H locs cells slots Q (F0 m (pc + 3) ls (.int r :: rest))) : W p l e R s m args below meth c H locs cells slots Q (F0 m pc ls st0) := by
  refine tx_pure (Qv := fun v => ∃ r : Int32, v = some (.int r) ∧ post r) hr (fun st t v hq => ?_) kt (fun v hv => ?_)
  · obtain ⟨r, h1, h2, h3⟩ := hq
    cases h1
    exact ⟨⟨r, rfl, h2⟩, h3⟩
  · obtain ⟨r, rfl, h⟩ := hv
    exact kr r h
theorem tx_sl {post : Int64 → Prop} (hr : tx_Run p l e R s m args below meth c H locs cells slots 0 0 (F0 m pc ls st0) rest (tx_Q thr (vp_Sl post) a) (fun _ => False))
    (kt : ∀ (x : Nat) (E : String) (H1 : Heap), thr E → tx_E E x s H H1 → tx_W p l e R s m args below meth c H1 locs (cells + 1) (slots + 6) Q (F0 m pc ls rest) x)
    (kr : ∀ r : Int64, post r → W p l e R s m args below meth c H locs cells slots Q (F0 m (pc + 3) ls (.long r :: rest))) : W p l e R s m args below meth c H locs cells slots Q (F0 m pc ls st0) := by
  refine tx_pure (Qv := fun v => ∃ r : Int64, v = some (.long r) ∧ post r) hr (fun st t v hq => ?_) kt (fun v hv => ?_)
  · obtain ⟨r, h1, h2, h3⟩ := hq
    cases h1
    exact ⟨⟨r, rfl, h2⟩, h3⟩
  · obtain ⟨r, rfl, h⟩ := hv
    exact kr r h
theorem tx_sv {post : Unit → Prop} (hr : tx_Run p l e R s m args below meth c H locs cells slots 0 0 (F0 m pc ls st0) rest (tx_Q thr (va_Sv post) a) (fun _ => False))
    (kt : ∀ (x : Nat) (E : String) (H1 : Heap), thr E → tx_E E x s H H1 → tx_W p l e R s m args below meth c H1 locs (cells + 1) (slots + 6) Q (F0 m pc ls rest) x)
    (kr : post () → W p l e R s m args below meth c H locs cells slots Q (F0 m (pc + 3) ls rest)) : W p l e R s m args below meth c H locs cells slots Q (F0 m pc ls st0) := by
  refine tx_pure (Qv := fun v => v = none ∧ post ()) hr (fun st t v hq => ?_) kt (fun v hv => ?_)
  · obtain ⟨h1, h2, h3⟩ := hq
    cases h1
    exact ⟨⟨rfl, h2⟩, h3⟩
  · obtain ⟨rfl, h⟩ := hv
    exact kr h
theorem tx_sr {post : Nat → Prop} {ad : Nat → Value} (hr : tx_Run p l e R s m args below meth c H locs cells slots 0 0 (F0 m pc ls st0) rest (tx_Q thr (va_Sr post ad) a) (fun _ => False))
    (kt : ∀ (x : Nat) (E : String) (H1 : Heap), thr E → tx_E E x s H H1 → tx_W p l e R s m args below meth c H1 locs (cells + 1) (slots + 6) Q (F0 m pc ls rest) x)
    (kr : ∀ k : Nat, post k → W p l e R s m args below meth c H locs cells slots Q (F0 m (pc + 3) ls (ad k :: rest))) : W p l e R s m args below meth c H locs cells slots Q (F0 m pc ls st0) := by
  refine tx_pure (Qv := fun v => ∃ k : Nat, v = some (ad k) ∧ post k) hr (fun st t v hq => ?_) kt (fun v hv => ?_)
  · obtain ⟨r, h1, h2, h3⟩ := hq
    cases h1
    exact ⟨⟨r, rfl, h2⟩, h3⟩
  · obtain ⟨r, rfl, h⟩ := hv
    exact kr r h
/-- calls that write: the world behind them -/
theorem tx_wi {S : Type} {A0 A1 : Nat → Prop} {H0 : Heap} {post : Int32 → S → Prop} {B : S → State → Prop} (hr : tx_Run p l e R s m args below meth c H locs cells slots mc ms (F0 m pc ls st0) rest (tx_Q thr (va_Qi post B A1) a) free) (hS : va_S A0 H0 H locs) (hA : ∀ q, q < H.size → A1 q → A0 q) (hf : ∀ q, free q → A0 q)
    (kt : ∀ (x : Nat) (E : String) (H1 : Heap) (L : List Loc), thr E → tx_E E x s H H1 → (∀ q ∈ L, free q.base) → tx_W p l e R s m args below meth c H1 (locs ++ L) (cells + (mc + 1)) (slots + (ms + 6)) Q (F0 m pc ls rest) x)
    (kk : ∀ (r : Int32) (u : S) (t : State) (H1 : Heap) (locs1 : List Loc), t.heap = H1 → s.vm.Alike t.vm → post r u → B u t → H.size ≤ H1.size → (∀ q : Nat, q < H.size → ¬ A1 q → H1[q]? = H[q]?) → va_S A0 H0 H1 locs1 → W p l e R s m args below meth c H1 locs1 (cells + mc) (slots + ms) Q (F0 m (pc + 3) ls (.int r :: rest))) : W p l e R s m args below meth c H locs cells slots Q (F0 m pc ls st0) := by
  refine tx_callP hr kt (fun v st₀ t L h0 hW0 hWt hL hq => ?_)
  obtain ⟨⟨r, u, hv, hp, hb⟩, hz, hk⟩ := hq
  cases hv
  rw [h0] at hz hk
  exact kk r u t t.heap (locs ++ L) rfl hWt.alike hp hb hz hk ⟨Nat.le_trans hS.1 hz, fun q h1 h2 => by rw [hk q (Nat.lt_of_lt_of_le h1 hS.1) (fun z => h2 (hA q (Nat.lt_of_lt_of_le h1 hS.1) z))]; exact hS.2.1 q h1 h2, fun q hq => by
      rcases List.mem_append.mp hq with h | h
      · exact hS.2.2 q h
      · exact hf _ (hL q h)⟩
theorem tx_wl {S : Type} {A0 A1 : Nat → Prop} {H0 : Heap} {post : Int64 → S → Prop} {B : S → State → Prop} (hr : tx_Run p l e R s m args below meth c H locs cells slots mc ms (F0 m pc ls st0) rest (tx_Q thr (va_Ql post B A1) a) free) (hS : va_S A0 H0 H locs) (hA : ∀ q, q < H.size → A1 q → A0 q) (hf : ∀ q, free q → A0 q)
    (kt : ∀ (x : Nat) (E : String) (H1 : Heap) (L : List Loc), thr E → tx_E E x s H H1 → (∀ q ∈ L, free q.base) → tx_W p l e R s m args below meth c H1 (locs ++ L) (cells + (mc + 1)) (slots + (ms + 6)) Q (F0 m pc ls rest) x)
    (kk : ∀ (r : Int64) (u : S) (t : State) (H1 : Heap) (locs1 : List Loc), t.heap = H1 → s.vm.Alike t.vm → post r u → B u t → H.size ≤ H1.size → (∀ q : Nat, q < H.size → ¬ A1 q → H1[q]? = H[q]?) → va_S A0 H0 H1 locs1 → W p l e R s m args below meth c H1 locs1 (cells + mc) (slots + ms) Q (F0 m (pc + 3) ls (.long r :: rest))) : W p l e R s m args below meth c H locs cells slots Q (F0 m pc ls st0) := by
  refine tx_callP hr kt (fun v st₀ t L h0 hW0 hWt hL hq => ?_)
  obtain ⟨⟨r, u, hv, hp, hb⟩, hz, hk⟩ := hq
  cases hv
  rw [h0] at hz hk
  exact kk r u t t.heap (locs ++ L) rfl hWt.alike hp hb hz hk ⟨Nat.le_trans hS.1 hz, fun q h1 h2 => by rw [hk q (Nat.lt_of_lt_of_le h1 hS.1) (fun z => h2 (hA q (Nat.lt_of_lt_of_le h1 hS.1) z))]; exact hS.2.1 q h1 h2, fun q hq => by
      rcases List.mem_append.mp hq with h | h
      · exact hS.2.2 q h
      · exact hf _ (hL q h)⟩
theorem tx_sz {g : JFrame} (k : s.heap.size ≤ H.size → W p l e R s m args below meth c H locs cells slots Q g) : W p l e R s m args below meth c H locs cells slots Q g := fun T hT X => k (by rw [← hT]; exact X.same.2.1) T hT X
/-- new; dup; ldc; invokespecial; athrow -/
theorem tx_throw {cc : ByteArray} {nL : Nat} (hx : p.tables.exec = Jvm.exec) (hb : c.code = cc) (hml : c.maxLocals = nL) (hlocks : meth.locks = false) (hce : c.exceptionTable.isEmpty = true) (htr : e.platform.stackTraces = false) {own cls Y : String} {names : List String} {i0 is ic k0 q : Nat} {bs : ByteArray} {tx : String}
    (hown : s.vm.findClass own = some m.cls) (hcls : Bundle.fit cls = true) (hY : Bundle.fit Y = true) (hnames : ∀ n ∈ names, Bundle.fit n = true)
    (b0 : decode bs 0 = .ok (.aload_n 0, 1)) (b1 : decode bs 1 = .ok (.aload_n 1, 1)) (b2 : decode bs 2 = .ok (.invokespecial k0, 3)) (b5 : decode bs 5 = .ok (.return_, 1))
    (h : ∀ a ∈ tx_atoms own ic cls Y k0 bs names, a.before args s = true) (hcl : (Cond.classLink own i0 cls).before args s = true) (hini : (Cond.initialized cls).before args s = true) (hZ : vk_R own is tx q s) (hls : ls.size = nL) {st : List Value} (hst : (st.map fun v => v.category).sum ≤ 8)
    (d0 : decode cc pc = .ok (.new i0, 3)) (d3 : decode cc (pc + 3) = .ok (.dup, 1)) (d4 : decode cc (pc + 4) = .ok (.ldc is, 2)) (d6 : decode cc (pc + 6) = .ok (.invokespecial ic, 3)) (d9 : decode cc (pc + 9) = .ok (.athrow, 1))
    (hRf : names.length + 4 < R.frames) (hRl : 13 * (names.length + 2) + 51 ≤ R.locals) (hRc : cells + 1 ≤ R.cells) (hRs : slots + 6 ≤ R.slots)
    {Qc : Array Value → State → Outcome → State → Prop} (hq : ∀ (x : Nat) (t : State), tx_E cls x s s.heap t.heap → Qc args s (.threw x) t) :
    W p l e R s m args below meth c H [] cells slots (tx_MQ below Qc args s cells slots free) (F0 m pc ls st) := by
  refine tx_sz (fun hsz => ?_)
  refine W.newc hx hb hown hcl (h _ (by simp [tx_atoms] : Cond.instantiable cls 6 ∈ _)) hini rfl d0 hRc hRs (fun cC kC g1 g2 g3 g4 => ?_)
  refine W.eq (g2 := F0 m (pc + 3) ls (.ref H.size :: st)) rfl ?_
  refine lv_dup hx hb d3 rfl ?_
  refine va_ldcS hx hb hown hZ d4 ?_
  intro T hT X
  obtain ⟨U, hsteps, hrun, hend, hW, hsame, ce, hce1, hce2, hce3⟩ := tx_made X hx htr hown hcls hY hnames b0 b1 b2 b5 h g1 g2 (a := H.size) (by rw [hT]; simp) hsz (msg := .ref q) rfl (g := F0 m (pc + 6) ls (.ref q :: .ref H.size :: .ref H.size :: st)) rfl (by rw [hml]; exact hls) rfl rfl (rest := st) rfl (by rw [hb]; exact d6) (by rw [hb]; exact d9) (covers_of_empty hce _) hRf (by show 2 * 0 + (1 + (st.map fun v => v.category).sum) + _ ≤ _; omega) hlocks
  obtain ⟨o1, o2⟩ := tx_old hsame
  exact ⟨U, hsteps, _, hrun, hend, hq _ _ ⟨hsz, ⟨ce, hce1, hce2, hce3⟩, o1, o2⟩, [], ⟨hW, hsame⟩, fun _ h => by cases h⟩
end TXQ
end
section
/-! AN EXCEPTION IS CAUGHT IN THE METHOD: the search through its table, entries resolved or not -/
theorem tx_goCold {E : CtlPost} {e : Env} {d : Bool} {acts : List Action} {s : State} {f : JFrame} {a : Addr} {Q : Handler → Jvm.Pre} {x : ClassFile.ExceptionTableEntry} {t : List ClassFile.ExceptionTableEntry} {c : ClassId} {cell : Cell} {vm' : Vm} (hx : covers x f.pc = true) (h0 : x.catchType ≠ 0)
    (hg : (resolveClass f.method.cls x.catchType).Gives e.toSetting s.vm (.ok c) vm') (hsz : vm'.classes.size ≤ s.vm.classes.size) (hcell : s.heap[a]? = some cell) (hobj : ∀ k, cell.vm ≠ .statics k)
    (hk : ∃ k, vm'.classes[cell.cls]? = some k) (hc : ∃ k, vm'.classes[c]? = some k) :
    Sem.wp (findHandler.go f a (x :: t)) Q E e d acts s ↔
      if vm'.assignable cell.cls c = true then Q (.found x.handlerPc) d acts (s.setVm vm') else Sem.wp (findHandler.go f a t) Q E e d acts (s.setVm vm') := by
  obtain ⟨ha, ht⟩ := hg.op (op := VmOp.resolveClass f.method.cls x.catchType) rfl
  simp only [covers] at hx
  cases hfit : vm'.assignable cell.cls c <;>
    simp [findHandler.go, hx, h0, ha, ht, hsz, hcell, hobj, hk, hc, hfit, VmOp.dirties, VmOp.acts]
/-- an entry of the table, with its class's name: it covers the place, its class links -/
def tx_ent (own : String) (pc : Nat) (args : Array Value) (s : State) (z : ClassFile.ExceptionTableEntry × String) : Prop := covers z.1 pc = true ∧ z.1.catchType ≠ 0 ∧ (Cond.classLink own z.1.catchType z.2).before args s = true
theorem tx_find {e : Env} {l : Launch} {s : State} {m : MethodId} {args : Array Value} {a : Addr} {ce : Cell} {own E nm : String} (hadm : l.admits e) (hown : s.vm.findClass own = some m.cls) (hvm : ce.vm = .none) (hE : s.vm.findClass E = some ce.cls) {pc : Nat} {ls : Array Slot} {st : List Value}
    {x0 : ClassFile.ExceptionTableEntry} {rest : List ClassFile.ExceptionTableEntry} (h0 : tx_ent own pc args s (x0, nm)) (hc : ∀ t : ClassId, s.vm.findClass nm = some t → s.vm.assignable ce.cls t = true) :
    ∀ (pre : List (ClassFile.ExceptionTableEntry × String)) (S : State), s.WarmedH S.vm → S.heap[a]? = some ce → (∀ z ∈ pre, tx_ent own pc args s z ∧ va_Nc E z.2 s) →
      ∃ vm' : Vm, s.WarmedH vm' ∧ ∀ (Q : Handler → Jvm.Pre) (E' : CtlPost) (d : Bool) (acts : List Action), Sem.wp (findHandler.go (F0 m pc ls st) a (pre.map (·.1) ++ x0 :: rest)) Q E' e d acts S ↔ Q (.found x0.handlerPc) d acts (S.setVm vm') := by
  have hpl : e.platform.magicAccessors = ({} : Platform).magicAccessors := by rw [hadm.platform]
  have hobj : ∀ k, ce.vm ≠ .statics k := fun k h => by rw [hvm] at h; cases h
  have key : ∀ (z : ClassFile.ExceptionTableEntry × String) (S : State), s.WarmedH S.vm → S.heap[a]? = some ce → tx_ent own pc args s z → ∃ (t : ClassId) (vm' : Vm), s.vm.findClass z.2 = some t ∧ s.WarmedH vm' ∧ ∀ (r : List ClassFile.ExceptionTableEntry) (Q : Handler → Jvm.Pre) (E' : CtlPost) (d : Bool) (acts : List Action),
      Sem.wp (findHandler.go (F0 m pc ls st) a (z.1 :: r)) Q E' e d acts S ↔ if s.vm.assignable ce.cls t = true then Q (.found z.1.handlerPc) d acts (S.setVm vm') else Sem.wp (findHandler.go (F0 m pc ls st) a r) Q E' e d acts (S.setVm vm') := by
    intro z S hW hcell hz
    obtain ⟨z1, z2, z3⟩ := hz
    obtain ⟨t, ht, hcl⟩ := Cond.classLink_spec hown z3 e.platform hpl
    obtain ⟨dk, _, _, kt, hd, _, _, _, _, hkt, _, hopen⟩ := hcl.here
    have hcl₀ := hW.classLinks hcl
    have hW' : s.WarmedH (S.vm.noted m.cls z.1.catchType (.cls t)) := hW.noted hd hopen (State.rightAt_cls hcl)
    obtain ⟨ks, hks⟩ := Vm.classAt_of_findClass hE
    obtain ⟨ks', hks', -⟩ := hW'.alike.2.2 _ _ hks
    obtain ⟨kt', hkt', -⟩ := hW'.alike.2.2 _ _ hkt
    refine ⟨t, _, ht, hW', fun r Q E' d acts => ?_⟩
    rw [tx_goCold (f := F0 m pc ls st) z1 z2 (resolveClass_links e.toSetting hcl₀) (by simp) hcell hobj ⟨ks', hks'⟩ ⟨kt', hkt'⟩, hW'.alike.assignable]
  intro pre
  induction pre with
  | nil =>
    intro S hW hcell _
    obtain ⟨t, vm', ht, hW', hgo⟩ := key (x0, nm) S hW hcell h0
    refine ⟨vm', hW', fun Q E' d acts => ?_⟩
    rw [List.map_nil, List.nil_append, hgo, if_pos (hc t ht)]
  | cons z pre ih =>
    intro S hW hcell hp
    obtain ⟨hz, c1, t1, n1, n2, n3⟩ := hp z List.mem_cons_self
    obtain ⟨t, vm', ht, hW', hgo⟩ := key z S hW hcell hz
    cases n2.symm.trans ht
    cases n1.symm.trans hE
    obtain ⟨vm'', hW'', hgo2⟩ := ih (S.setVm vm') hW' hcell (fun y hy => hp y (List.mem_cons_of_mem _ hy))
    refine ⟨vm'', hW'', fun Q E' d acts => ?_⟩
    rw [List.map_cons, List.cons_append, hgo, if_neg (by rw [n3]; decide), hgo2]
    rfl
theorem tx_stepCatch {e : Env} {s s' : State} {a : Addr} {f : JFrame} {r : List Frame} {pc : Nat} (hfind : ∀ (Q : Handler → Jvm.Pre) (E : CtlPost) (d : Bool) (acts : List Action), Sem.wp (findHandler f a) Q E e d acts s ↔ Q (.found pc) d acts s') :
    (stepThrowing e s a (.java f :: r)).Is (s'.setFrames (.java { f with pc := pc, stack := [.ref a] } :: r)) [] := by
  simp only [stepThrowing, searchFrame, vmDo]
  generalize hr : Sem.go _ e false [] s = res
  obtain ⟨as, rfl, ha⟩ := Sem.eq_ok_of hr (a := Handler.found pc) (s' := s') (acts' := []) (by simp [hfind _ _ _ _])
  exact ⟨rfl, ha⟩
section TXC
variable {p : Program} {l : Launch} {e : Env} {R : Room} {s : State} {m : MethodId} {args : Array Value} {below : List Frame} {meth : Method} {c : Code} {H : Heap} {locs : List Loc} {cells slots : Nat} {Q : State → Prop}
/-- the exception of class E at x is caught by the entry behind pre -/
theorem tx_catch {x pc hpc : Nat} {ls : Array Slot} {st : List Value} {own E nm : String} {ce : Cell} (hown : s.vm.findClass own = some m.cls) (hcell : H[x]? = some ce) (hvm : ce.vm = .none) (hE : s.vm.findClass E = some ce.cls)
    (pre : List (ClassFile.ExceptionTableEntry × String)) {x0 : ClassFile.ExceptionTableEntry} {rest : List ClassFile.ExceptionTableEntry} (htab : c.exceptionTable.toList = pre.map (·.1) ++ x0 :: rest) (h0 : tx_ent own pc args s (x0, nm)) (hc : ∀ t : ClassId, s.vm.findClass nm = some t → s.vm.assignable ce.cls t = true)
    (hpre : ∀ z ∈ pre, tx_ent own pc args s z ∧ va_Nc E z.2 s) (hh : x0.handlerPc = hpc)
    (k : W p l e R s m args below meth c H locs cells slots Q (F0 m hpc ls [.ref x])) : tx_W p l e R s m args below meth c H locs cells slots Q (F0 m pc ls st) x := by
  intro T hT X
  subst hh
  have hS : ((T.setTop (F0 m pc ls st)).pushFrame (.throwing x)).vm = T.vm := Stand.throwing_vm T _ x
  have hSh : ((T.setTop (F0 m pc ls st)).pushFrame (.throwing x)).heap = T.heap := Stand.throwing_heap T _ x
  obtain ⟨vm', hW', hgo⟩ := tx_find (ls := ls) (st := st) (rest := rest) X.admits hown hvm hE h0 hc pre ((T.setTop (F0 m pc ls st)).pushFrame (.throwing x)) (by rw [hS]; exact X.warmed) (by rw [hSh, hT]; exact hcell) hpre
  have X' := X.noted hW'
  obtain ⟨t, a1, b1⟩ := k (T.setVm vm') hT X'
  refine ⟨t, ?_, b1⟩
  have hm' : ((T.setTop (F0 m pc ls st)).pushFrame (.throwing x)).vm.method? m = some meth := by rw [hS]; exact X.method'
  obtain ⟨hgo1, hw1⟩ := (show At T (F0 m pc ls st).method c below from X.here).throwing x
  refine Steps.head hgo1 hw1 ?_
  rw [stepThread_throwing (frames_entered X.here.top _), (tx_stepCatch (s := (T.setTop (F0 m pc ls st)).pushFrame (.throwing x)) (s' := ((T.setTop (F0 m pc ls st)).pushFrame (.throwing x)).setVm vm') (pc := x0.handlerPc) (fun Q E d acts => by
    rw [W.findHandler_eq (f := F0 m pc ls st) hm' X.code, htab]; exact hgo Q E d acts)).1]
  obtain ⟨g₀, hr⟩ := X.frames_eq
  have hr' : (T.setVm vm').frames = .java g₀ :: below := hr
  have e0 : ∀ F : List Frame, (((T.setTop (F0 m pc ls st)).pushFrame (.throwing x)).setVm vm').setFrames F = (T.setVm vm').setFrames F := by
    intro F
    show (((T.setTop (F0 m pc ls st)).pushFrame (.throwing x)).setFrames F).setVm vm' = _
    rw [State.pushFrame, State.setFrames_setFrames, State.setTop_of_frames _ hr, State.setFrames_setFrames]
    rfl
  rw [State.setTop_of_frames _ hr'] at a1
  rw [hr, e0]
  exact a1
end TXC
end
section
/-! NAMES (by program out of the claim's tables and listing) -/
def R_D : String := "PacketDesk"
def R_R : String := "PacketDesk$Row"
def R_M : String := "PacketDeskModel"
def R_L : String := "PacketDeskLaw"
def F_D : u_T := fun k => match k with
  | _ => ("PacketDesk", "rows", "[LPacketDesk$Row;", true)
def t_D : Nat → FieldType := fun k => match k with
  | _ => .array (.object "PacketDesk$Row")
theorem n_D : ∀ a, a < 1 → ∀ b, b < 1 → a ≠ b → (F_D a).2.1 ≠ (F_D b).2.1 := by decide +kernel
theorem t_D_ok : ∀ k, k < 1 → parseFieldDescriptor (F_D k).2.2.1 = some (t_D k) := by decide +kernel
theorem i_D : ∀ w ∈ u_ws R_D F_D 1, w ∈ wsA := by decide +kernel
def F_R : u_T := fun k => match k with
  | 0 => ("PacketDesk$Row", "bytes", "[B", true)
  | 1 => ("PacketDesk$Row", "size", "I", false)
  | _ => ("PacketDesk$Row", "place", "I", false)
def t_R : Nat → FieldType := fun k => match k with
  | 0 => .array .byte
  | 1 => .int
  | _ => .int
theorem n_R : ∀ a, a < 3 → ∀ b, b < 3 → a ≠ b → (F_R a).2.1 ≠ (F_R b).2.1 := by decide +kernel
theorem t_R_ok : ∀ k, k < 3 → parseFieldDescriptor (F_R k).2.2.1 = some (t_R k) := by decide +kernel
theorem i_R : ∀ w ∈ u_ws R_R F_R 3, w ∈ wsA := by decide +kernel
def F_M : u_T := fun k => match k with
  | 0 => ("PacketDeskModel", "thrown", "I", false)
  | 1 => ("PacketDeskModel", "limit", "I", true)
  | 2 => ("PacketDeskModel", "cells", "[J", true)
  | 3 => ("PacketDeskModel", "sizes", "[I", true)
  | 4 => ("PacketDeskModel", "places", "[I", true)
  | _ => ("PacketDeskModel", "took", "I", false)
def t_M : Nat → FieldType := fun k => match k with
  | 0 => .int
  | 1 => .int
  | 2 => .array .long
  | 3 => .array .int
  | 4 => .array .int
  | _ => .int
theorem n_M : ∀ a, a < 6 → ∀ b, b < 6 → a ≠ b → (F_M a).2.1 ≠ (F_M b).2.1 := by decide +kernel
theorem t_M_ok : ∀ k, k < 6 → parseFieldDescriptor (F_M k).2.2.1 = some (t_M k) := by decide +kernel
theorem i_M : ∀ w ∈ u_ws R_M F_M 6, w ∈ wsA := by decide +kernel
abbrev vCl : List vw_C := [(R_D, F_D, 1), (R_R, F_R, 3), (R_M, F_M, 6)]
abbrev b_D_init : ByteArray := prog_1_method_1_code
def y_D_init : MethodName := ⟨R_D, "<init>", "(I)V"⟩
abbrev w_D_init : List Cond := Cond.code y_D_init b_D_init 4 none :: wsA
abbrev b_D_fixed : ByteArray := prog_1_method_2_code
def y_D_fixed : MethodName := ⟨R_D, "fixed", "(IJI)I"⟩
abbrev w_D_fixed : List Cond := Cond.code y_D_fixed b_D_fixed 6 (some .int) :: wsA
abbrev b_D_sevens : ByteArray := prog_1_method_3_code
def y_D_sevens : MethodName := ⟨R_D, "sevens", "(IJ)I"⟩
abbrev w_D_sevens : List Cond := Cond.code y_D_sevens b_D_sevens 4 (some .int) :: wsA
abbrev b_D_signed : ByteArray := prog_1_method_4_code
def y_D_signed : MethodName := ⟨R_D, "signed", "(IJ)I"⟩
abbrev w_D_signed : List Cond := Cond.code y_D_signed b_D_signed 4 (some .int) :: wsA
abbrev b_D_letter : ByteArray := prog_1_method_5_code
def y_D_letter : MethodName := ⟨R_D, "letter", "(II)I"⟩
abbrev w_D_letter : List Cond := Cond.code y_D_letter b_D_letter 5 (some .int) :: wsA
abbrev b_D_copy : ByteArray := prog_1_method_6_code
def y_D_copy : MethodName := ⟨R_D, "copy", "(IIII)I"⟩
abbrev w_D_copy : List Cond := Cond.code y_D_copy b_D_copy 7 (some .int) :: wsA
abbrev b_D_block : ByteArray := prog_1_method_7_code
def y_D_block : MethodName := ⟨R_D, "block", "(II)I"⟩
abbrev w_D_block : List Cond := Cond.code y_D_block b_D_block 7 (some .int) :: wsA
abbrev b_D_frame : ByteArray := prog_1_method_8_code
def y_D_frame : MethodName := ⟨R_D, "frame", "(II)I"⟩
abbrev w_D_frame : List Cond := Cond.code y_D_frame b_D_frame 7 (some .int) :: wsA
abbrev b_D_cut : ByteArray := prog_1_method_9_code
def y_D_cut : MethodName := ⟨R_D, "cut", "(II)I"⟩
abbrev w_D_cut : List Cond := Cond.code y_D_cut b_D_cut 5 (some .int) :: wsA
abbrev b_D_turn : ByteArray := prog_1_method_10_code
def y_D_turn : MethodName := ⟨R_D, "turn", "(II)I"⟩
abbrev w_D_turn : List Cond := Cond.code y_D_turn b_D_turn 5 (some .int) :: wsA
abbrev b_D_place : ByteArray := prog_1_method_11_code
def y_D_place : MethodName := ⟨R_D, "place", "(II)I"⟩
abbrev w_D_place : List Cond := Cond.code y_D_place b_D_place 5 (some .int) :: wsA
abbrev b_D_readFixed : ByteArray := prog_1_method_12_code
def y_D_readFixed : MethodName := ⟨R_D, "readFixed", "(II)J"⟩
abbrev w_D_readFixed : List Cond := Cond.code y_D_readFixed b_D_readFixed 6 (some .long) :: wsA
abbrev b_D_readSevens : ByteArray := prog_1_method_13_code
def y_D_readSevens : MethodName := ⟨R_D, "readSevens", "(I)J"⟩
abbrev w_D_readSevens : List Cond := Cond.code y_D_readSevens b_D_readSevens 2 (some .long) :: wsA
abbrev b_D_readSigned : ByteArray := prog_1_method_14_code
def y_D_readSigned : MethodName := ⟨R_D, "readSigned", "(I)J"⟩
abbrev w_D_readSigned : List Cond := Cond.code y_D_readSigned b_D_readSigned 4 (some .long) :: wsA
abbrev b_D_readLetter : ByteArray := prog_1_method_15_code
def y_D_readLetter : MethodName := ⟨R_D, "readLetter", "(I)I"⟩
abbrev w_D_readLetter : List Cond := Cond.code y_D_readLetter b_D_readLetter 4 (some .int) :: wsA
abbrev b_D_readBlock : ByteArray := prog_1_method_16_code
def y_D_readBlock : MethodName := ⟨R_D, "readBlock", "(II)I"⟩
abbrev w_D_readBlock : List Cond := Cond.code y_D_readBlock b_D_readBlock 7 (some .int) :: wsA
abbrev b_D_readFrame : ByteArray := prog_1_method_17_code
def y_D_readFrame : MethodName := ⟨R_D, "readFrame", "(II)I"⟩
abbrev w_D_readFrame : List Cond := Cond.code y_D_readFrame b_D_readFrame 9 (some .int) :: wsA
abbrev b_D_letters : ByteArray := prog_1_method_18_code
def y_D_letters : MethodName := ⟨R_D, "letters", "(III)I"⟩
abbrev w_D_letters : List Cond := Cond.code y_D_letters b_D_letters 9 (some .int) :: wsA
abbrev b_D_sum : ByteArray := prog_1_method_19_code
def y_D_sum : MethodName := ⟨R_D, "sum", "(III)I"⟩
abbrev w_D_sum : List Cond := Cond.code y_D_sum b_D_sum 5 (some .int) :: wsA
abbrev b_D_same : ByteArray := prog_1_method_20_code
def y_D_same : MethodName := ⟨R_D, "same", "(II)Z"⟩
abbrev w_D_same : List Cond := Cond.code y_D_same b_D_same 6 (some .boolean) :: wsA
abbrev b_D_row : ByteArray := prog_1_method_21_code
def y_D_row : MethodName := ⟨R_D, "row", "(II)I"⟩
abbrev w_D_row : List Cond := Cond.code y_D_row b_D_row 4 (some .int) :: wsA
abbrev b_D_byteAt : ByteArray := prog_1_method_22_code
def y_D_byteAt : MethodName := ⟨R_D, "byteAt", "(II)I"⟩
abbrev w_D_byteAt : List Cond := Cond.code y_D_byteAt b_D_byteAt 4 (some .int) :: wsA
abbrev b_D_rowOf : ByteArray := prog_1_method_23_code
def y_D_rowOf : MethodName := ⟨R_D, "rowOf", "(I)LPacketDesk$Row;"⟩
abbrev w_D_rowOf : List Cond := Cond.code y_D_rowOf b_D_rowOf 2 (some (.object "PacketDesk$Row")) :: wsA
abbrev b_D_needFixedWidth : ByteArray := prog_1_method_24_code
def y_D_needFixedWidth : MethodName := ⟨R_D, "needFixedWidth", "(I)V"⟩
abbrev w_D_needFixedWidth : List Cond := Cond.code y_D_needFixedWidth b_D_needFixedWidth 1 none :: wsA
abbrev b_D_needTwoRows : ByteArray := prog_1_method_25_code
def y_D_needTwoRows : MethodName := ⟨R_D, "needTwoRows", "(II)V"⟩
abbrev w_D_needTwoRows : List Cond := Cond.code y_D_needTwoRows b_D_needTwoRows 2 none :: wsA
abbrev b_D_needRange : ByteArray := prog_1_method_26_code
def y_D_needRange : MethodName := ⟨R_D, "needRange", "(LPacketDesk$Row;II)V"⟩
abbrev w_D_needRange : List Cond := Cond.code y_D_needRange b_D_needRange 3 none :: wsA
abbrev b_D_needRoom : ByteArray := prog_1_method_27_code
def y_D_needRoom : MethodName := ⟨R_D, "needRoom", "(LPacketDesk$Row;I)V"⟩
abbrev w_D_needRoom : List Cond := Cond.code y_D_needRoom b_D_needRoom 2 none :: wsA
abbrev b_D_needLeft : ByteArray := prog_1_method_28_code
def y_D_needLeft : MethodName := ⟨R_D, "needLeft", "(LPacketDesk$Row;I)V"⟩
abbrev w_D_needLeft : List Cond := Cond.code y_D_needLeft b_D_needLeft 2 none :: wsA
abbrev b_D_addFixed : ByteArray := prog_1_method_29_code
def y_D_addFixed : MethodName := ⟨R_D, "addFixed", "(LPacketDesk$Row;JI)V"⟩
abbrev w_D_addFixed : List Cond := Cond.code y_D_addFixed b_D_addFixed 5 none :: wsA
abbrev b_D_fixedAt : ByteArray := prog_1_method_30_code
def y_D_fixedAt : MethodName := ⟨R_D, "fixedAt", "(LPacketDesk$Row;II)J"⟩
abbrev w_D_fixedAt : List Cond := Cond.code y_D_fixedAt b_D_fixedAt 6 (some .long) :: wsA
abbrev b_D_sevensWidth : ByteArray := prog_1_method_31_code
def y_D_sevensWidth : MethodName := ⟨R_D, "sevensWidth", "(J)I"⟩
abbrev w_D_sevensWidth : List Cond := Cond.code y_D_sevensWidth b_D_sevensWidth 3 (some .int) :: wsA
abbrev b_D_writeSevens : ByteArray := prog_1_method_32_code
def y_D_writeSevens : MethodName := ⟨R_D, "writeSevens", "(LPacketDesk$Row;J)I"⟩
abbrev w_D_writeSevens : List Cond := Cond.code y_D_writeSevens b_D_writeSevens 4 (some .int) :: wsA
abbrev b_D_addSevens : ByteArray := prog_1_method_33_code
def y_D_addSevens : MethodName := ⟨R_D, "addSevens", "(LPacketDesk$Row;J)V"⟩
abbrev w_D_addSevens : List Cond := Cond.code y_D_addSevens b_D_addSevens 5 none :: wsA
abbrev b_D_sevensWidthAtPlace : ByteArray := prog_1_method_34_code
def y_D_sevensWidthAtPlace : MethodName := ⟨R_D, "sevensWidthAtPlace", "(LPacketDesk$Row;)I"⟩
abbrev w_D_sevensWidthAtPlace : List Cond := Cond.code y_D_sevensWidthAtPlace b_D_sevensWidthAtPlace 3 (some .int) :: wsA
abbrev b_D_needRightLast : ByteArray := prog_1_method_35_code
def y_D_needRightLast : MethodName := ⟨R_D, "needRightLast", "(II)V"⟩
abbrev w_D_needRightLast : List Cond := Cond.code y_D_needRightLast b_D_needRightLast 2 none :: wsA
abbrev b_D_sevensAtPlace : ByteArray := prog_1_method_36_code
def y_D_sevensAtPlace : MethodName := ⟨R_D, "sevensAtPlace", "(LPacketDesk$Row;I)J"⟩
abbrev w_D_sevensAtPlace : List Cond := Cond.code y_D_sevensAtPlace b_D_sevensAtPlace 5 (some .long) :: wsA
abbrev b_D_takeSevens : ByteArray := prog_1_method_37_code
def y_D_takeSevens : MethodName := ⟨R_D, "takeSevens", "(LPacketDesk$Row;)J"⟩
abbrev w_D_takeSevens : List Cond := Cond.code y_D_takeSevens b_D_takeSevens 4 (some .long) :: wsA
abbrev b_D_howManyAtPlace : ByteArray := prog_1_method_38_code
def y_D_howManyAtPlace : MethodName := ⟨R_D, "howManyAtPlace", "(LPacketDesk$Row;I)I"⟩
abbrev w_D_howManyAtPlace : List Cond := Cond.code y_D_howManyAtPlace b_D_howManyAtPlace 4 (some .int) :: wsA
abbrev b_D_letterWidth : ByteArray := prog_1_method_39_code
def y_D_letterWidth : MethodName := ⟨R_D, "letterWidth", "(I)I"⟩
abbrev w_D_letterWidth : List Cond := Cond.code y_D_letterWidth b_D_letterWidth 1 (some .int) :: wsA
abbrev b_D_addLetter : ByteArray := prog_1_method_40_code
def y_D_addLetter : MethodName := ⟨R_D, "addLetter", "(LPacketDesk$Row;II)V"⟩
abbrev w_D_addLetter : List Cond := Cond.code y_D_addLetter b_D_addLetter 5 none :: wsA
abbrev b_D_firstMark : ByteArray := prog_1_method_41_code
def y_D_firstMark : MethodName := ⟨R_D, "firstMark", "(I)I"⟩
abbrev w_D_firstMark : List Cond := Cond.code y_D_firstMark b_D_firstMark 1 (some .int) :: wsA
abbrev b_D_widthByFirst : ByteArray := prog_1_method_42_code
def y_D_widthByFirst : MethodName := ⟨R_D, "widthByFirst", "(I)I"⟩
abbrev w_D_widthByFirst : List Cond := Cond.code y_D_widthByFirst b_D_widthByFirst 1 (some .int) :: wsA
abbrev b_D_letterAt : ByteArray := prog_1_method_43_code
def y_D_letterAt : MethodName := ⟨R_D, "letterAt", "(LPacketDesk$Row;II)I"⟩
abbrev w_D_letterAt : List Cond := Cond.code y_D_letterAt b_D_letterAt 8 (some .int) :: wsA
abbrev b_D_sumOf : ByteArray := prog_1_method_44_code
def y_D_sumOf : MethodName := ⟨R_D, "sumOf", "(LPacketDesk$Row;II)I"⟩
abbrev w_D_sumOf : List Cond := Cond.code y_D_sumOf b_D_sumOf 6 (some .int) :: wsA
abbrev b_D_addBytes : ByteArray := prog_1_method_45_code
def y_D_addBytes : MethodName := ⟨R_D, "addBytes", "(LPacketDesk$Row;LPacketDesk$Row;II)V"⟩
abbrev w_D_addBytes : List Cond := Cond.code y_D_addBytes b_D_addBytes 4 none :: wsA
abbrev b_D_moveBytes : ByteArray := prog_1_method_46_code
def y_D_moveBytes : MethodName := ⟨R_D, "moveBytes", "(LPacketDesk$Row;IILPacketDesk$Row;)V"⟩
abbrev w_D_moveBytes : List Cond := Cond.code y_D_moveBytes b_D_moveBytes 4 none :: wsA
abbrev b_M_init : ByteArray := prog_4_method_1_code
def y_M_init : MethodName := ⟨R_M, "<init>", "(I)V"⟩
abbrev w_M_init : List Cond := Cond.code y_M_init b_M_init 2 none :: wsA
abbrev b_M_thrown : ByteArray := prog_4_method_2_code
def y_M_thrown : MethodName := ⟨R_M, "thrown", "()I"⟩
abbrev w_M_thrown : List Cond := Cond.code y_M_thrown b_M_thrown 1 (some .int) :: wsA
abbrev b_M_fail : ByteArray := prog_4_method_3_code
def y_M_fail : MethodName := ⟨R_M, "fail", "(I)I"⟩
abbrev w_M_fail : List Cond := Cond.code y_M_fail b_M_fail 2 (some .int) :: wsA
abbrev b_M_isRow : ByteArray := prog_4_method_4_code
def y_M_isRow : MethodName := ⟨R_M, "isRow", "(I)Z"⟩
abbrev w_M_isRow : List Cond := Cond.code y_M_isRow b_M_isRow 1 (some .boolean) :: wsA
abbrev b_M_at : ByteArray := prog_4_method_5_code
def y_M_at : MethodName := ⟨R_M, "at", "(II)I"⟩
abbrev w_M_at : List Cond := Cond.code y_M_at b_M_at 3 (some .int) :: wsA
abbrev b_M_set : ByteArray := prog_4_method_6_code
def y_M_set : MethodName := ⟨R_M, "set", "(III)V"⟩
abbrev w_M_set : List Cond := Cond.code y_M_set b_M_set 6 none :: wsA
abbrev b_M_add : ByteArray := prog_4_method_7_code
def y_M_add : MethodName := ⟨R_M, "add", "(II)V"⟩
abbrev w_M_add : List Cond := Cond.code y_M_add b_M_add 3 none :: wsA
abbrev b_M_fits : ByteArray := prog_4_method_8_code
def y_M_fits : MethodName := ⟨R_M, "fits", "(II)Z"⟩
abbrev w_M_fits : List Cond := Cond.code y_M_fits b_M_fits 3 (some .boolean) :: wsA
abbrev b_M_groups : ByteArray := prog_4_method_9_code
def y_M_groups : MethodName := ⟨R_M, "groups", "(J)I"⟩
abbrev w_M_groups : List Cond := Cond.code y_M_groups b_M_groups 5 (some .int) :: wsA
abbrev b_M_addGroups : ByteArray := prog_4_method_10_code
def y_M_addGroups : MethodName := ⟨R_M, "addGroups", "(IJ)V"⟩
abbrev w_M_addGroups : List Cond := Cond.code y_M_addGroups b_M_addGroups 7 none :: wsA
abbrev b_M_folded : ByteArray := prog_4_method_11_code
def y_M_folded : MethodName := ⟨R_M, "folded", "(J)J"⟩
abbrev w_M_folded : List Cond := Cond.code y_M_folded b_M_folded 2 (some .long) :: wsA
abbrev b_M_sumOf : ByteArray := prog_4_method_12_code
def y_M_sumOf : MethodName := ⟨R_M, "sumOf", "(III)I"⟩
abbrev w_M_sumOf : List Cond := Cond.code y_M_sumOf b_M_sumOf 9 (some .int) :: wsA
abbrev b_M_fixed : ByteArray := prog_4_method_13_code
def y_M_fixed : MethodName := ⟨R_M, "fixed", "(IJI)I"⟩
abbrev w_M_fixed : List Cond := Cond.code y_M_fixed b_M_fixed 6 (some .int) :: wsA
abbrev b_M_putGroups : ByteArray := prog_4_method_14_code
def y_M_putGroups : MethodName := ⟨R_M, "putGroups", "(IJ)I"⟩
abbrev w_M_putGroups : List Cond := Cond.code y_M_putGroups b_M_putGroups 5 (some .int) :: wsA
abbrev b_M_sevens : ByteArray := prog_4_method_15_code
def y_M_sevens : MethodName := ⟨R_M, "sevens", "(IJ)I"⟩
abbrev w_M_sevens : List Cond := Cond.code y_M_sevens b_M_sevens 4 (some .int) :: wsA
abbrev b_M_signed : ByteArray := prog_4_method_16_code
def y_M_signed : MethodName := ⟨R_M, "signed", "(IJ)I"⟩
abbrev w_M_signed : List Cond := Cond.code y_M_signed b_M_signed 4 (some .int) :: wsA
abbrev b_M_isLetter : ByteArray := prog_4_method_17_code
def y_M_isLetter : MethodName := ⟨R_M, "isLetter", "(I)Z"⟩
abbrev w_M_isLetter : List Cond := Cond.code y_M_isLetter b_M_isLetter 1 (some .boolean) :: wsA
abbrev b_M_lengthOf : ByteArray := prog_4_method_18_code
def y_M_lengthOf : MethodName := ⟨R_M, "lengthOf", "(I)I"⟩
abbrev w_M_lengthOf : List Cond := Cond.code y_M_lengthOf b_M_lengthOf 1 (some .int) :: wsA
abbrev b_M_letter : ByteArray := prog_4_method_19_code
def y_M_letter : MethodName := ⟨R_M, "letter", "(II)I"⟩
abbrev w_M_letter : List Cond := Cond.code y_M_letter b_M_letter 7 (some .int) :: wsA
abbrev b_M_has : ByteArray := prog_4_method_20_code
def y_M_has : MethodName := ⟨R_M, "has", "(III)Z"⟩
abbrev w_M_has : List Cond := Cond.code y_M_has b_M_has 4 (some .boolean) :: wsA
abbrev b_M_copy : ByteArray := prog_4_method_21_code
def y_M_copy : MethodName := ⟨R_M, "copy", "(IIII)I"⟩
abbrev w_M_copy : List Cond := Cond.code y_M_copy b_M_copy 6 (some .int) :: wsA
abbrev b_M_wrap : ByteArray := prog_4_method_22_code
def y_M_wrap : MethodName := ⟨R_M, "wrap", "(III)I"⟩
abbrev w_M_wrap : List Cond := Cond.code y_M_wrap b_M_wrap 8 (some .int) :: wsA
abbrev b_M_block : ByteArray := prog_4_method_23_code
def y_M_block : MethodName := ⟨R_M, "block", "(II)I"⟩
abbrev w_M_block : List Cond := Cond.code y_M_block b_M_block 3 (some .int) :: wsA
abbrev b_M_frame : ByteArray := prog_4_method_24_code
def y_M_frame : MethodName := ⟨R_M, "frame", "(II)I"⟩
abbrev w_M_frame : List Cond := Cond.code y_M_frame b_M_frame 3 (some .int) :: wsA
abbrev b_M_cut : ByteArray := prog_4_method_25_code
def y_M_cut : MethodName := ⟨R_M, "cut", "(II)I"⟩
abbrev w_M_cut : List Cond := Cond.code y_M_cut b_M_cut 4 (some .int) :: wsA
abbrev b_M_turn : ByteArray := prog_4_method_26_code
def y_M_turn : MethodName := ⟨R_M, "turn", "(II)I"⟩
abbrev w_M_turn : List Cond := Cond.code y_M_turn b_M_turn 3 (some .int) :: wsA
abbrev b_M_place : ByteArray := prog_4_method_27_code
def y_M_place : MethodName := ⟨R_M, "place", "(II)I"⟩
abbrev w_M_place : List Cond := Cond.code y_M_place b_M_place 4 (some .int) :: wsA
abbrev b_M_number : ByteArray := prog_4_method_28_code
def y_M_number : MethodName := ⟨R_M, "number", "(III)J"⟩
abbrev w_M_number : List Cond := Cond.code y_M_number b_M_number 7 (some .long) :: wsA
abbrev b_M_readFixed : ByteArray := prog_4_method_29_code
def y_M_readFixed : MethodName := ⟨R_M, "readFixed", "(II)J"⟩
abbrev w_M_readFixed : List Cond := Cond.code y_M_readFixed b_M_readFixed 5 (some .long) :: wsA
abbrev b_M_grouped : ByteArray := prog_4_method_30_code
def y_M_grouped : MethodName := ⟨R_M, "grouped", "(II)J"⟩
abbrev w_M_grouped : List Cond := Cond.code y_M_grouped b_M_grouped 8 (some .long) :: wsA
abbrev b_M_failed : ByteArray := prog_4_method_31_code
def y_M_failed : MethodName := ⟨R_M, "failed", "()I"⟩
abbrev w_M_failed : List Cond := Cond.code y_M_failed b_M_failed 1 (some .int) :: wsA
abbrev b_M_readSevens : ByteArray := prog_4_method_32_code
def y_M_readSevens : MethodName := ⟨R_M, "readSevens", "(I)J"⟩
abbrev w_M_readSevens : List Cond := Cond.code y_M_readSevens b_M_readSevens 4 (some .long) :: wsA
abbrev b_M_readSigned : ByteArray := prog_4_method_33_code
def y_M_readSigned : MethodName := ⟨R_M, "readSigned", "(I)J"⟩
abbrev w_M_readSigned : List Cond := Cond.code y_M_readSigned b_M_readSigned 4 (some .long) :: wsA
abbrev b_M_canBe : ByteArray := prog_4_method_34_code
def y_M_canBe : MethodName := ⟨R_M, "canBe", "(III)Z"⟩
abbrev w_M_canBe : List Cond := Cond.code y_M_canBe b_M_canBe 3 (some .boolean) :: wsA
abbrev b_M_lettered : ByteArray := prog_4_method_35_code
def y_M_lettered : MethodName := ⟨R_M, "lettered", "(III)I"⟩
abbrev w_M_lettered : List Cond := Cond.code y_M_lettered b_M_lettered 10 (some .int) :: wsA
abbrev b_M_readLetter : ByteArray := prog_4_method_36_code
def y_M_readLetter : MethodName := ⟨R_M, "readLetter", "(I)I"⟩
abbrev w_M_readLetter : List Cond := Cond.code y_M_readLetter b_M_readLetter 3 (some .int) :: wsA
abbrev b_M_unwrap : ByteArray := prog_4_method_37_code
def y_M_unwrap : MethodName := ⟨R_M, "unwrap", "(III)I"⟩
abbrev w_M_unwrap : List Cond := Cond.code y_M_unwrap b_M_unwrap 9 (some .int) :: wsA
abbrev b_M_readBlock : ByteArray := prog_4_method_38_code
def y_M_readBlock : MethodName := ⟨R_M, "readBlock", "(II)I"⟩
abbrev w_M_readBlock : List Cond := Cond.code y_M_readBlock b_M_readBlock 3 (some .int) :: wsA
abbrev b_M_readFrame : ByteArray := prog_4_method_39_code
def y_M_readFrame : MethodName := ⟨R_M, "readFrame", "(II)I"⟩
abbrev w_M_readFrame : List Cond := Cond.code y_M_readFrame b_M_readFrame 3 (some .int) :: wsA
abbrev b_M_letters : ByteArray := prog_4_method_40_code
def y_M_letters : MethodName := ⟨R_M, "letters", "(III)I"⟩
abbrev w_M_letters : List Cond := Cond.code y_M_letters b_M_letters 6 (some .int) :: wsA
abbrev b_M_sum : ByteArray := prog_4_method_41_code
def y_M_sum : MethodName := ⟨R_M, "sum", "(III)I"⟩
abbrev w_M_sum : List Cond := Cond.code y_M_sum b_M_sum 4 (some .int) :: wsA
abbrev b_M_same : ByteArray := prog_4_method_42_code
def y_M_same : MethodName := ⟨R_M, "same", "(II)Z"⟩
abbrev w_M_same : List Cond := Cond.code y_M_same b_M_same 5 (some .boolean) :: wsA
abbrev b_M_row : ByteArray := prog_4_method_43_code
def y_M_row : MethodName := ⟨R_M, "row", "(II)I"⟩
abbrev w_M_row : List Cond := Cond.code y_M_row b_M_row 3 (some .int) :: wsA
abbrev b_M_byteAt : ByteArray := prog_4_method_44_code
def y_M_byteAt : MethodName := ⟨R_M, "byteAt", "(II)I"⟩
abbrev w_M_byteAt : List Cond := Cond.code y_M_byteAt b_M_byteAt 3 (some .int) :: wsA
abbrev b_R_init : ByteArray := prog_2_method_1_code
def y_R_init : MethodName := ⟨R_R, "<init>", "(I)V"⟩
abbrev w_R_init : List Cond := Cond.code y_R_init b_R_init 2 none :: wsA
abbrev b_R_get : ByteArray := prog_2_method_2_code
def y_R_get : MethodName := ⟨R_R, "get", "(I)I"⟩
abbrev w_R_get : List Cond := Cond.code y_R_get b_R_get 2 (some .int) :: wsA
abbrev b_R_add : ByteArray := prog_2_method_3_code
def y_R_add : MethodName := ⟨R_R, "add", "(I)V"⟩
abbrev w_R_add : List Cond := Cond.code y_R_add b_R_add 2 none :: wsA
abbrev b_L_cell : ByteArray := method_2_code
def y_L_cell : MethodName := ⟨R_L, "cell", "([II)I"⟩
abbrev w_L_cell : List Cond := Cond.code y_L_cell b_L_cell 2 (some .int) :: wsA
abbrev b_L_fixed : ByteArray := method_3_code
def y_L_fixed : MethodName := ⟨R_L, "fixed", "(LPacketDesk;IJI[J)I"⟩
abbrev w_L_fixed : List Cond := Cond.codeWith y_L_fixed b_L_fixed 7 (some .int) [(0, 13, 16, 13), (0, 13, 20, 15), (0, 13, 24, 17)] :: wsA
abbrev b_L_sevens : ByteArray := method_4_code
def y_L_sevens : MethodName := ⟨R_L, "sevens", "(LPacketDesk;IJ[J)I"⟩
abbrev w_L_sevens : List Cond := Cond.codeWith y_L_sevens b_L_sevens 6 (some .int) [(0, 11, 14, 13), (0, 11, 18, 17)] :: wsA
abbrev b_L_signed : ByteArray := method_5_code
def y_L_signed : MethodName := ⟨R_L, "signed", "(LPacketDesk;IJ[J)I"⟩
abbrev w_L_signed : List Cond := Cond.codeWith y_L_signed b_L_signed 6 (some .int) [(0, 11, 14, 13), (0, 11, 18, 17)] :: wsA
abbrev b_L_letter : ByteArray := method_6_code
def y_L_letter : MethodName := ⟨R_L, "letter", "(LPacketDesk;II[J)I"⟩
abbrev w_L_letter : List Cond := Cond.codeWith y_L_letter b_L_letter 5 (some .int) [(0, 10, 13, 13), (0, 10, 17, 15), (0, 10, 21, 17)] :: wsA
abbrev b_L_copy : ByteArray := method_7_code
def y_L_copy : MethodName := ⟨R_L, "copy", "(LPacketDesk;IIII[J)I"⟩
abbrev w_L_copy : List Cond := Cond.codeWith y_L_copy b_L_copy 7 (some .int) [(0, 14, 17, 13), (0, 14, 21, 15), (0, 14, 25, 17)] :: wsA
abbrev b_L_block : ByteArray := method_8_code
def y_L_block : MethodName := ⟨R_L, "block", "(LPacketDesk;II[J)I"⟩
abbrev w_L_block : List Cond := Cond.codeWith y_L_block b_L_block 5 (some .int) [(0, 10, 13, 13), (0, 10, 17, 17)] :: wsA
abbrev b_L_frame : ByteArray := method_9_code
def y_L_frame : MethodName := ⟨R_L, "frame", "(LPacketDesk;II[J)I"⟩
abbrev w_L_frame : List Cond := Cond.codeWith y_L_frame b_L_frame 5 (some .int) [(0, 10, 13, 13), (0, 10, 17, 17)] :: wsA
abbrev b_L_cut : ByteArray := method_10_code
def y_L_cut : MethodName := ⟨R_L, "cut", "(LPacketDesk;II[J)I"⟩
abbrev w_L_cut : List Cond := Cond.codeWith y_L_cut b_L_cut 5 (some .int) [(0, 10, 13, 13), (0, 10, 17, 15)] :: wsA
abbrev b_L_turn : ByteArray := method_11_code
def y_L_turn : MethodName := ⟨R_L, "turn", "(LPacketDesk;II[J)I"⟩
abbrev w_L_turn : List Cond := Cond.codeWith y_L_turn b_L_turn 5 (some .int) [(0, 10, 13, 13), (0, 10, 17, 15)] :: wsA
abbrev b_L_place : ByteArray := method_12_code
def y_L_place : MethodName := ⟨R_L, "place", "(LPacketDesk;II[J)I"⟩
abbrev w_L_place : List Cond := Cond.codeWith y_L_place b_L_place 5 (some .int) [(0, 10, 13, 13), (0, 10, 17, 15)] :: wsA
abbrev b_L_readFixed : ByteArray := method_13_code
def y_L_readFixed : MethodName := ⟨R_L, "readFixed", "(LPacketDesk;II[J)I"⟩
abbrev w_L_readFixed : List Cond := Cond.codeWith y_L_readFixed b_L_readFixed 5 (some .int) [(0, 9, 12, 13), (0, 9, 16, 15), (0, 9, 20, 53)] :: wsA
abbrev b_L_readSevens : ByteArray := method_14_code
def y_L_readSevens : MethodName := ⟨R_L, "readSevens", "(LPacketDesk;I[J)I"⟩
abbrev w_L_readSevens : List Cond := Cond.codeWith y_L_readSevens b_L_readSevens 4 (some .int) [(0, 8, 11, 13), (0, 8, 14, 15), (0, 8, 17, 53)] :: wsA
abbrev b_L_readSigned : ByteArray := method_15_code
def y_L_readSigned : MethodName := ⟨R_L, "readSigned", "(LPacketDesk;I[J)I"⟩
abbrev w_L_readSigned : List Cond := Cond.codeWith y_L_readSigned b_L_readSigned 4 (some .int) [(0, 8, 11, 13), (0, 8, 14, 15), (0, 8, 17, 53)] :: wsA
abbrev b_L_readLetter : ByteArray := method_16_code
def y_L_readLetter : MethodName := ⟨R_L, "readLetter", "(LPacketDesk;I[J)I"⟩
abbrev w_L_readLetter : List Cond := Cond.codeWith y_L_readLetter b_L_readLetter 4 (some .int) [(0, 9, 12, 13), (0, 9, 15, 15), (0, 9, 18, 53)] :: wsA
abbrev b_L_readBlock : ByteArray := method_17_code
def y_L_readBlock : MethodName := ⟨R_L, "readBlock", "(LPacketDesk;II[J)I"⟩
abbrev w_L_readBlock : List Cond := Cond.codeWith y_L_readBlock b_L_readBlock 5 (some .int) [(0, 10, 13, 13), (0, 10, 17, 15), (0, 10, 21, 53)] :: wsA
abbrev b_L_readFrame : ByteArray := method_18_code
def y_L_readFrame : MethodName := ⟨R_L, "readFrame", "(LPacketDesk;II[J)I"⟩
abbrev w_L_readFrame : List Cond := Cond.codeWith y_L_readFrame b_L_readFrame 5 (some .int) [(0, 10, 13, 13), (0, 10, 17, 15), (0, 10, 21, 53), (0, 10, 25, 72)] :: wsA
abbrev b_L_letters : ByteArray := method_19_code
def y_L_letters : MethodName := ⟨R_L, "letters", "(LPacketDesk;III[J)I"⟩
abbrev w_L_letters : List Cond := Cond.codeWith y_L_letters b_L_letters 6 (some .int) [(0, 12, 15, 13), (0, 12, 19, 15)] :: wsA
abbrev b_L_sum : ByteArray := method_20_code
def y_L_sum : MethodName := ⟨R_L, "sum", "(LPacketDesk;III[J)I"⟩
abbrev w_L_sum : List Cond := Cond.codeWith y_L_sum b_L_sum 6 (some .int) [(0, 12, 15, 13), (0, 12, 19, 15)] :: wsA
abbrev b_L_same : ByteArray := method_21_code
def y_L_same : MethodName := ⟨R_L, "same", "(LPacketDesk;II[J)I"⟩
abbrev w_L_same : List Cond := Cond.codeWith y_L_same b_L_same 5 (some .int) [(0, 17, 20, 13)] :: wsA
abbrev b_L_row : ByteArray := method_22_code
def y_L_row : MethodName := ⟨R_L, "row", "(LPacketDesk;II[J)I"⟩
abbrev w_L_row : List Cond := Cond.codeWith y_L_row b_L_row 5 (some .int) [(0, 10, 13, 13), (0, 10, 17, 15)] :: wsA
abbrev b_L_byteAt : ByteArray := method_23_code
def y_L_byteAt : MethodName := ⟨R_L, "byteAt", "(LPacketDesk;II[J)I"⟩
abbrev w_L_byteAt : List Cond := Cond.codeWith y_L_byteAt b_L_byteAt 5 (some .int) [(0, 10, 13, 13), (0, 10, 17, 15)] :: wsA
end
section
/-! decode rows -/
theorem d_R_init_0 : decode b_R_init 0 = .ok (.aload_n 0, 1) := by decide +kernel
theorem d_R_init_1 : decode b_R_init 1 = .ok (.invokespecial 1, 3) := by decide +kernel
theorem d_R_init_4 : decode b_R_init 4 = .ok (.aload_n 0, 1) := by decide +kernel
theorem d_R_init_5 : decode b_R_init 5 = .ok (.iload_n 1, 1) := by decide +kernel
theorem d_R_init_6 : decode b_R_init 6 = .ok (.newarray .byte, 2) := by decide +kernel
theorem d_R_init_8 : decode b_R_init 8 = .ok (.putfield 7, 3) := by decide +kernel
theorem d_R_init_11 : decode b_R_init 11 = .ok (.return_, 1) := by decide +kernel
theorem d_R_get_0 : decode b_R_get 0 = .ok (.aload_n 0, 1) := by decide +kernel
theorem d_R_get_1 : decode b_R_get 1 = .ok (.getfield 7, 3) := by decide +kernel
theorem d_R_get_4 : decode b_R_get 4 = .ok (.iload_n 1, 1) := by decide +kernel
theorem d_R_get_5 : decode b_R_get 5 = .ok (.baload, 1) := by decide +kernel
theorem d_R_get_6 : decode b_R_get 6 = .ok (.sipush 255, 3) := by decide +kernel
theorem d_R_get_9 : decode b_R_get 9 = .ok (.iand, 1) := by decide +kernel
theorem d_R_get_10 : decode b_R_get 10 = .ok (.ireturn, 1) := by decide +kernel
theorem d_R_add_0 : decode b_R_add 0 = .ok (.aload_n 0, 1) := by decide +kernel
theorem d_R_add_1 : decode b_R_add 1 = .ok (.getfield 7, 3) := by decide +kernel
theorem d_R_add_4 : decode b_R_add 4 = .ok (.aload_n 0, 1) := by decide +kernel
theorem d_R_add_5 : decode b_R_add 5 = .ok (.getfield 13, 3) := by decide +kernel
theorem d_R_add_8 : decode b_R_add 8 = .ok (.iload_n 1, 1) := by decide +kernel
theorem d_R_add_9 : decode b_R_add 9 = .ok (.i2b, 1) := by decide +kernel
theorem d_R_add_10 : decode b_R_add 10 = .ok (.bastore, 1) := by decide +kernel
theorem d_R_add_11 : decode b_R_add 11 = .ok (.aload_n 0, 1) := by decide +kernel
theorem d_R_add_12 : decode b_R_add 12 = .ok (.dup, 1) := by decide +kernel
theorem d_R_add_13 : decode b_R_add 13 = .ok (.getfield 13, 3) := by decide +kernel
theorem d_R_add_16 : decode b_R_add 16 = .ok (.iconst 1, 1) := by decide +kernel
theorem d_R_add_17 : decode b_R_add 17 = .ok (.iadd, 1) := by decide +kernel
theorem d_R_add_18 : decode b_R_add 18 = .ok (.putfield 13, 3) := by decide +kernel
theorem d_R_add_21 : decode b_R_add 21 = .ok (.return_, 1) := by decide +kernel
theorem d_D_init_0 : decode b_D_init 0 = .ok (.aload_n 0, 1) := by decide +kernel
theorem d_D_init_1 : decode b_D_init 1 = .ok (.invokespecial 1, 3) := by decide +kernel
theorem d_D_init_4 : decode b_D_init 4 = .ok (.bipush 16, 2) := by decide +kernel
theorem d_D_init_6 : decode b_D_init 6 = .ok (.ldc 9, 2) := by decide +kernel
theorem d_D_init_8 : decode b_D_init 8 = .ok (.iload_n 1, 1) := by decide +kernel
theorem d_D_init_9 : decode b_D_init 9 = .ok (.invokestatic 10, 3) := by decide +kernel
theorem d_D_init_12 : decode b_D_init 12 = .ok (.invokestatic 16, 3) := by decide +kernel
theorem d_D_init_15 : decode b_D_init 15 = .ok (.istore_n 2, 1) := by decide +kernel
theorem d_D_init_16 : decode b_D_init 16 = .ok (.aload_n 0, 1) := by decide +kernel
theorem d_D_init_17 : decode b_D_init 17 = .ok (.iconst 4, 1) := by decide +kernel
theorem d_D_init_18 : decode b_D_init 18 = .ok (.anewarray 19, 3) := by decide +kernel
theorem d_D_init_21 : decode b_D_init 21 = .ok (.putfield 21, 3) := by decide +kernel
theorem d_D_init_24 : decode b_D_init 24 = .ok (.iconst 0, 1) := by decide +kernel
theorem d_D_init_25 : decode b_D_init 25 = .ok (.istore_n 3, 1) := by decide +kernel
theorem d_D_init_26 : decode b_D_init 26 = .ok (.iload_n 3, 1) := by decide +kernel
theorem d_D_init_27 : decode b_D_init 27 = .ok (.iconst 4, 1) := by decide +kernel
theorem d_D_init_28 : decode b_D_init 28 = .ok (.if_icmp .ge 23, 3) := by decide +kernel
theorem d_D_init_31 : decode b_D_init 31 = .ok (.aload_n 0, 1) := by decide +kernel
theorem d_D_init_32 : decode b_D_init 32 = .ok (.getfield 21, 3) := by decide +kernel
theorem d_D_init_35 : decode b_D_init 35 = .ok (.iload_n 3, 1) := by decide +kernel
theorem d_D_init_36 : decode b_D_init 36 = .ok (.new 19, 3) := by decide +kernel
theorem d_D_init_39 : decode b_D_init 39 = .ok (.dup, 1) := by decide +kernel
theorem d_D_init_40 : decode b_D_init 40 = .ok (.iload_n 2, 1) := by decide +kernel
theorem d_D_init_41 : decode b_D_init 41 = .ok (.invokespecial 25, 3) := by decide +kernel
theorem d_D_init_44 : decode b_D_init 44 = .ok (.aastore, 1) := by decide +kernel
theorem d_D_init_45 : decode b_D_init 45 = .ok (.iinc 3 1, 3) := by decide +kernel
theorem d_D_init_48 : decode b_D_init 48 = .ok (.goto (-22), 3) := by decide +kernel
theorem d_D_init_51 : decode b_D_init 51 = .ok (.return_, 1) := by decide +kernel
theorem d_D_fixed_0 : decode b_D_fixed 0 = .ok (.aload_n 0, 1) := by decide +kernel
theorem d_D_fixed_1 : decode b_D_fixed 1 = .ok (.iload_n 1, 1) := by decide +kernel
theorem d_D_fixed_2 : decode b_D_fixed 2 = .ok (.invokevirtual 28, 3) := by decide +kernel
theorem d_D_fixed_5 : decode b_D_fixed 5 = .ok (.astore 5, 2) := by decide +kernel
theorem d_D_fixed_7 : decode b_D_fixed 7 = .ok (.iload 4, 2) := by decide +kernel
theorem d_D_fixed_9 : decode b_D_fixed 9 = .ok (.invokestatic 32, 3) := by decide +kernel
theorem d_D_fixed_12 : decode b_D_fixed 12 = .ok (.aload 5, 2) := by decide +kernel
theorem d_D_fixed_14 : decode b_D_fixed 14 = .ok (.iload 4, 2) := by decide +kernel
theorem d_D_fixed_16 : decode b_D_fixed 16 = .ok (.invokestatic 35, 3) := by decide +kernel
theorem d_D_fixed_19 : decode b_D_fixed 19 = .ok (.aload 5, 2) := by decide +kernel
theorem d_D_fixed_21 : decode b_D_fixed 21 = .ok (.lload_n 2, 1) := by decide +kernel
theorem d_D_fixed_22 : decode b_D_fixed 22 = .ok (.iload 4, 2) := by decide +kernel
theorem d_D_fixed_24 : decode b_D_fixed 24 = .ok (.invokestatic 39, 3) := by decide +kernel
theorem d_D_fixed_27 : decode b_D_fixed 27 = .ok (.aload 5, 2) := by decide +kernel
theorem d_D_fixed_29 : decode b_D_fixed 29 = .ok (.getfield 43, 3) := by decide +kernel
theorem d_D_fixed_32 : decode b_D_fixed 32 = .ok (.ireturn, 1) := by decide +kernel
theorem d_D_sevens_0 : decode b_D_sevens 0 = .ok (.aload_n 0, 1) := by decide +kernel
theorem d_D_sevens_1 : decode b_D_sevens 1 = .ok (.iload_n 1, 1) := by decide +kernel
theorem d_D_sevens_2 : decode b_D_sevens 2 = .ok (.invokevirtual 28, 3) := by decide +kernel
theorem d_D_sevens_5 : decode b_D_sevens 5 = .ok (.lload_n 2, 1) := by decide +kernel
theorem d_D_sevens_6 : decode b_D_sevens 6 = .ok (.invokestatic 47, 3) := by decide +kernel
theorem d_D_sevens_9 : decode b_D_sevens 9 = .ok (.ireturn, 1) := by decide +kernel
theorem d_D_signed_0 : decode b_D_signed 0 = .ok (.aload_n 0, 1) := by decide +kernel
theorem d_D_signed_1 : decode b_D_signed 1 = .ok (.iload_n 1, 1) := by decide +kernel
theorem d_D_signed_2 : decode b_D_signed 2 = .ok (.invokevirtual 28, 3) := by decide +kernel
theorem d_D_signed_5 : decode b_D_signed 5 = .ok (.lload_n 2, 1) := by decide +kernel
theorem d_D_signed_6 : decode b_D_signed 6 = .ok (.iconst 1, 1) := by decide +kernel
theorem d_D_signed_7 : decode b_D_signed 7 = .ok (.lshl, 1) := by decide +kernel
theorem d_D_signed_8 : decode b_D_signed 8 = .ok (.lload_n 2, 1) := by decide +kernel
theorem d_D_signed_9 : decode b_D_signed 9 = .ok (.bipush 63, 2) := by decide +kernel
theorem d_D_signed_11 : decode b_D_signed 11 = .ok (.lshr, 1) := by decide +kernel
theorem d_D_signed_12 : decode b_D_signed 12 = .ok (.lxor, 1) := by decide +kernel
theorem d_D_signed_13 : decode b_D_signed 13 = .ok (.invokestatic 47, 3) := by decide +kernel
theorem d_D_signed_16 : decode b_D_signed 16 = .ok (.ireturn, 1) := by decide +kernel
theorem d_D_letter_0 : decode b_D_letter 0 = .ok (.aload_n 0, 1) := by decide +kernel
theorem d_D_letter_1 : decode b_D_letter 1 = .ok (.iload_n 1, 1) := by decide +kernel
theorem d_D_letter_2 : decode b_D_letter 2 = .ok (.invokevirtual 28, 3) := by decide +kernel
theorem d_D_letter_5 : decode b_D_letter 5 = .ok (.astore_n 3, 1) := by decide +kernel
theorem d_D_letter_6 : decode b_D_letter 6 = .ok (.iload_n 2, 1) := by decide +kernel
theorem d_D_letter_7 : decode b_D_letter 7 = .ok (.invokestatic 51, 3) := by decide +kernel
theorem d_D_letter_10 : decode b_D_letter 10 = .ok (.istore 4, 2) := by decide +kernel
theorem d_D_letter_12 : decode b_D_letter 12 = .ok (.iload 4, 2) := by decide +kernel
theorem d_D_letter_14 : decode b_D_letter 14 = .ok (.ifCond .ne 13, 3) := by decide +kernel
theorem d_D_letter_17 : decode b_D_letter 17 = .ok (.new 55, 3) := by decide +kernel
theorem d_D_letter_20 : decode b_D_letter 20 = .ok (.dup, 1) := by decide +kernel
theorem d_D_letter_21 : decode b_D_letter 21 = .ok (.ldc 57, 2) := by decide +kernel
theorem d_D_letter_23 : decode b_D_letter 23 = .ok (.invokespecial 59, 3) := by decide +kernel
theorem d_D_letter_26 : decode b_D_letter 26 = .ok (.athrow, 1) := by decide +kernel
theorem d_D_letter_27 : decode b_D_letter 27 = .ok (.aload_n 3, 1) := by decide +kernel
theorem d_D_letter_28 : decode b_D_letter 28 = .ok (.iload 4, 2) := by decide +kernel
theorem d_D_letter_30 : decode b_D_letter 30 = .ok (.invokestatic 35, 3) := by decide +kernel
theorem d_D_letter_33 : decode b_D_letter 33 = .ok (.aload_n 3, 1) := by decide +kernel
theorem d_D_letter_34 : decode b_D_letter 34 = .ok (.iload_n 2, 1) := by decide +kernel
theorem d_D_letter_35 : decode b_D_letter 35 = .ok (.iload 4, 2) := by decide +kernel
theorem d_D_letter_37 : decode b_D_letter 37 = .ok (.invokestatic 62, 3) := by decide +kernel
theorem d_D_letter_40 : decode b_D_letter 40 = .ok (.iload 4, 2) := by decide +kernel
theorem d_D_letter_42 : decode b_D_letter 42 = .ok (.ireturn, 1) := by decide +kernel
theorem d_D_copy_0 : decode b_D_copy 0 = .ok (.aload_n 0, 1) := by decide +kernel
theorem d_D_copy_1 : decode b_D_copy 1 = .ok (.iload_n 1, 1) := by decide +kernel
theorem d_D_copy_2 : decode b_D_copy 2 = .ok (.invokevirtual 28, 3) := by decide +kernel
theorem d_D_copy_5 : decode b_D_copy 5 = .ok (.astore 5, 2) := by decide +kernel
theorem d_D_copy_7 : decode b_D_copy 7 = .ok (.aload_n 0, 1) := by decide +kernel
theorem d_D_copy_8 : decode b_D_copy 8 = .ok (.iload_n 2, 1) := by decide +kernel
theorem d_D_copy_9 : decode b_D_copy 9 = .ok (.invokevirtual 28, 3) := by decide +kernel
theorem d_D_copy_12 : decode b_D_copy 12 = .ok (.astore 6, 2) := by decide +kernel
theorem d_D_copy_14 : decode b_D_copy 14 = .ok (.aload 6, 2) := by decide +kernel
theorem d_D_copy_16 : decode b_D_copy 16 = .ok (.iload_n 3, 1) := by decide +kernel
theorem d_D_copy_17 : decode b_D_copy 17 = .ok (.iload 4, 2) := by decide +kernel
theorem d_D_copy_19 : decode b_D_copy 19 = .ok (.invokestatic 66, 3) := by decide +kernel
theorem d_D_copy_22 : decode b_D_copy 22 = .ok (.aload 5, 2) := by decide +kernel
theorem d_D_copy_24 : decode b_D_copy 24 = .ok (.iload 4, 2) := by decide +kernel
theorem d_D_copy_26 : decode b_D_copy 26 = .ok (.invokestatic 35, 3) := by decide +kernel
theorem d_D_copy_29 : decode b_D_copy 29 = .ok (.aload 5, 2) := by decide +kernel
theorem d_D_copy_31 : decode b_D_copy 31 = .ok (.aload 6, 2) := by decide +kernel
theorem d_D_copy_33 : decode b_D_copy 33 = .ok (.iload_n 3, 1) := by decide +kernel
theorem d_D_copy_34 : decode b_D_copy 34 = .ok (.iload 4, 2) := by decide +kernel
theorem d_D_copy_36 : decode b_D_copy 36 = .ok (.invokestatic 69, 3) := by decide +kernel
theorem d_D_copy_39 : decode b_D_copy 39 = .ok (.aload 5, 2) := by decide +kernel
theorem d_D_copy_41 : decode b_D_copy 41 = .ok (.getfield 43, 3) := by decide +kernel
theorem d_D_copy_44 : decode b_D_copy 44 = .ok (.ireturn, 1) := by decide +kernel
theorem d_D_block_0 : decode b_D_block 0 = .ok (.aload_n 0, 1) := by decide +kernel
theorem d_D_block_1 : decode b_D_block 1 = .ok (.iload_n 1, 1) := by decide +kernel
theorem d_D_block_2 : decode b_D_block 2 = .ok (.invokevirtual 28, 3) := by decide +kernel
theorem d_D_block_5 : decode b_D_block 5 = .ok (.astore_n 3, 1) := by decide +kernel
theorem d_D_block_6 : decode b_D_block 6 = .ok (.aload_n 0, 1) := by decide +kernel
theorem d_D_block_7 : decode b_D_block 7 = .ok (.iload_n 2, 1) := by decide +kernel
theorem d_D_block_8 : decode b_D_block 8 = .ok (.invokevirtual 28, 3) := by decide +kernel
theorem d_D_block_11 : decode b_D_block 11 = .ok (.astore 4, 2) := by decide +kernel
theorem d_D_block_13 : decode b_D_block 13 = .ok (.aload 4, 2) := by decide +kernel
theorem d_D_block_15 : decode b_D_block 15 = .ok (.getfield 43, 3) := by decide +kernel
theorem d_D_block_18 : decode b_D_block 18 = .ok (.istore 5, 2) := by decide +kernel
theorem d_D_block_20 : decode b_D_block 20 = .ok (.iload 5, 2) := by decide +kernel
theorem d_D_block_22 : decode b_D_block 22 = .ok (.i2l, 1) := by decide +kernel
theorem d_D_block_23 : decode b_D_block 23 = .ok (.invokestatic 73, 3) := by decide +kernel
theorem d_D_block_26 : decode b_D_block 26 = .ok (.iload 5, 2) := by decide +kernel
theorem d_D_block_28 : decode b_D_block 28 = .ok (.iadd, 1) := by decide +kernel
theorem d_D_block_29 : decode b_D_block 29 = .ok (.istore 6, 2) := by decide +kernel
theorem d_D_block_31 : decode b_D_block 31 = .ok (.aload_n 3, 1) := by decide +kernel
theorem d_D_block_32 : decode b_D_block 32 = .ok (.iload 6, 2) := by decide +kernel
theorem d_D_block_34 : decode b_D_block 34 = .ok (.invokestatic 35, 3) := by decide +kernel
theorem d_D_block_37 : decode b_D_block 37 = .ok (.aload_n 3, 1) := by decide +kernel
theorem d_D_block_38 : decode b_D_block 38 = .ok (.iload 5, 2) := by decide +kernel
theorem d_D_block_40 : decode b_D_block 40 = .ok (.i2l, 1) := by decide +kernel
theorem d_D_block_41 : decode b_D_block 41 = .ok (.invokestatic 77, 3) := by decide +kernel
theorem d_D_block_44 : decode b_D_block 44 = .ok (.aload_n 3, 1) := by decide +kernel
theorem d_D_block_45 : decode b_D_block 45 = .ok (.aload 4, 2) := by decide +kernel
theorem d_D_block_47 : decode b_D_block 47 = .ok (.iconst 0, 1) := by decide +kernel
theorem d_D_block_48 : decode b_D_block 48 = .ok (.iload 5, 2) := by decide +kernel
theorem d_D_block_50 : decode b_D_block 50 = .ok (.invokestatic 69, 3) := by decide +kernel
theorem d_D_block_53 : decode b_D_block 53 = .ok (.iload 6, 2) := by decide +kernel
theorem d_D_block_55 : decode b_D_block 55 = .ok (.ireturn, 1) := by decide +kernel
theorem d_D_frame_0 : decode b_D_frame 0 = .ok (.aload_n 0, 1) := by decide +kernel
theorem d_D_frame_1 : decode b_D_frame 1 = .ok (.iload_n 1, 1) := by decide +kernel
theorem d_D_frame_2 : decode b_D_frame 2 = .ok (.invokevirtual 28, 3) := by decide +kernel
theorem d_D_frame_5 : decode b_D_frame 5 = .ok (.astore_n 3, 1) := by decide +kernel
theorem d_D_frame_6 : decode b_D_frame 6 = .ok (.aload_n 0, 1) := by decide +kernel
theorem d_D_frame_7 : decode b_D_frame 7 = .ok (.iload_n 2, 1) := by decide +kernel
theorem d_D_frame_8 : decode b_D_frame 8 = .ok (.invokevirtual 28, 3) := by decide +kernel
theorem d_D_frame_11 : decode b_D_frame 11 = .ok (.astore 4, 2) := by decide +kernel
theorem d_D_frame_13 : decode b_D_frame 13 = .ok (.aload 4, 2) := by decide +kernel
theorem d_D_frame_15 : decode b_D_frame 15 = .ok (.getfield 43, 3) := by decide +kernel
theorem d_D_frame_18 : decode b_D_frame 18 = .ok (.istore 5, 2) := by decide +kernel
theorem d_D_frame_20 : decode b_D_frame 20 = .ok (.iload 5, 2) := by decide +kernel
theorem d_D_frame_22 : decode b_D_frame 22 = .ok (.i2l, 1) := by decide +kernel
theorem d_D_frame_23 : decode b_D_frame 23 = .ok (.invokestatic 73, 3) := by decide +kernel
theorem d_D_frame_26 : decode b_D_frame 26 = .ok (.iconst 4, 1) := by decide +kernel
theorem d_D_frame_27 : decode b_D_frame 27 = .ok (.iadd, 1) := by decide +kernel
theorem d_D_frame_28 : decode b_D_frame 28 = .ok (.iload 5, 2) := by decide +kernel
theorem d_D_frame_30 : decode b_D_frame 30 = .ok (.iadd, 1) := by decide +kernel
theorem d_D_frame_31 : decode b_D_frame 31 = .ok (.istore 6, 2) := by decide +kernel
theorem d_D_frame_33 : decode b_D_frame 33 = .ok (.aload_n 3, 1) := by decide +kernel
theorem d_D_frame_34 : decode b_D_frame 34 = .ok (.iload 6, 2) := by decide +kernel
theorem d_D_frame_36 : decode b_D_frame 36 = .ok (.invokestatic 35, 3) := by decide +kernel
theorem d_D_frame_39 : decode b_D_frame 39 = .ok (.aload_n 3, 1) := by decide +kernel
theorem d_D_frame_40 : decode b_D_frame 40 = .ok (.iload 5, 2) := by decide +kernel
theorem d_D_frame_42 : decode b_D_frame 42 = .ok (.i2l, 1) := by decide +kernel
theorem d_D_frame_43 : decode b_D_frame 43 = .ok (.invokestatic 77, 3) := by decide +kernel
theorem d_D_frame_46 : decode b_D_frame 46 = .ok (.aload_n 3, 1) := by decide +kernel
theorem d_D_frame_47 : decode b_D_frame 47 = .ok (.aload 4, 2) := by decide +kernel
theorem d_D_frame_49 : decode b_D_frame 49 = .ok (.iconst 0, 1) := by decide +kernel
theorem d_D_frame_50 : decode b_D_frame 50 = .ok (.iload 5, 2) := by decide +kernel
theorem d_D_frame_52 : decode b_D_frame 52 = .ok (.invokestatic 81, 3) := by decide +kernel
theorem d_D_frame_55 : decode b_D_frame 55 = .ok (.i2l, 1) := by decide +kernel
theorem d_D_frame_56 : decode b_D_frame 56 = .ok (.iconst 4, 1) := by decide +kernel
theorem d_D_frame_57 : decode b_D_frame 57 = .ok (.invokestatic 39, 3) := by decide +kernel
theorem d_D_frame_60 : decode b_D_frame 60 = .ok (.aload_n 3, 1) := by decide +kernel
theorem d_D_frame_61 : decode b_D_frame 61 = .ok (.aload 4, 2) := by decide +kernel
theorem d_D_frame_63 : decode b_D_frame 63 = .ok (.iconst 0, 1) := by decide +kernel
theorem d_D_frame_64 : decode b_D_frame 64 = .ok (.iload 5, 2) := by decide +kernel
theorem d_D_frame_66 : decode b_D_frame 66 = .ok (.invokestatic 69, 3) := by decide +kernel
theorem d_D_frame_69 : decode b_D_frame 69 = .ok (.iload 6, 2) := by decide +kernel
theorem d_D_frame_71 : decode b_D_frame 71 = .ok (.ireturn, 1) := by decide +kernel
theorem d_D_cut_0 : decode b_D_cut 0 = .ok (.aload_n 0, 1) := by decide +kernel
theorem d_D_cut_1 : decode b_D_cut 1 = .ok (.iload_n 1, 1) := by decide +kernel
theorem d_D_cut_2 : decode b_D_cut 2 = .ok (.invokevirtual 28, 3) := by decide +kernel
theorem d_D_cut_5 : decode b_D_cut 5 = .ok (.astore_n 3, 1) := by decide +kernel
theorem d_D_cut_6 : decode b_D_cut 6 = .ok (.iload_n 2, 1) := by decide +kernel
theorem d_D_cut_7 : decode b_D_cut 7 = .ok (.ifCond .lt 11, 3) := by decide +kernel
theorem d_D_cut_10 : decode b_D_cut 10 = .ok (.iload_n 2, 1) := by decide +kernel
theorem d_D_cut_11 : decode b_D_cut 11 = .ok (.aload_n 3, 1) := by decide +kernel
theorem d_D_cut_12 : decode b_D_cut 12 = .ok (.getfield 43, 3) := by decide +kernel
theorem d_D_cut_15 : decode b_D_cut 15 = .ok (.if_icmp .le 13, 3) := by decide +kernel
theorem d_D_cut_18 : decode b_D_cut 18 = .ok (.new 55, 3) := by decide +kernel
theorem d_D_cut_21 : decode b_D_cut 21 = .ok (.dup, 1) := by decide +kernel
theorem d_D_cut_22 : decode b_D_cut 22 = .ok (.ldc 85, 2) := by decide +kernel
theorem d_D_cut_24 : decode b_D_cut 24 = .ok (.invokespecial 59, 3) := by decide +kernel
theorem d_D_cut_27 : decode b_D_cut 27 = .ok (.athrow, 1) := by decide +kernel
theorem d_D_cut_28 : decode b_D_cut 28 = .ok (.aload_n 3, 1) := by decide +kernel
theorem d_D_cut_29 : decode b_D_cut 29 = .ok (.getfield 43, 3) := by decide +kernel
theorem d_D_cut_32 : decode b_D_cut 32 = .ok (.istore 4, 2) := by decide +kernel
theorem d_D_cut_34 : decode b_D_cut 34 = .ok (.aload_n 3, 1) := by decide +kernel
theorem d_D_cut_35 : decode b_D_cut 35 = .ok (.iload_n 2, 1) := by decide +kernel
theorem d_D_cut_36 : decode b_D_cut 36 = .ok (.putfield 43, 3) := by decide +kernel
theorem d_D_cut_39 : decode b_D_cut 39 = .ok (.aload_n 3, 1) := by decide +kernel
theorem d_D_cut_40 : decode b_D_cut 40 = .ok (.aload_n 3, 1) := by decide +kernel
theorem d_D_cut_41 : decode b_D_cut 41 = .ok (.getfield 87, 3) := by decide +kernel
theorem d_D_cut_44 : decode b_D_cut 44 = .ok (.iload_n 2, 1) := by decide +kernel
theorem d_D_cut_45 : decode b_D_cut 45 = .ok (.invokestatic 10, 3) := by decide +kernel
theorem d_D_cut_48 : decode b_D_cut 48 = .ok (.putfield 87, 3) := by decide +kernel
theorem d_D_cut_51 : decode b_D_cut 51 = .ok (.iload 4, 2) := by decide +kernel
theorem d_D_cut_53 : decode b_D_cut 53 = .ok (.ireturn, 1) := by decide +kernel
theorem d_D_turn_0 : decode b_D_turn 0 = .ok (.aload_n 0, 1) := by decide +kernel
theorem d_D_turn_1 : decode b_D_turn 1 = .ok (.iload_n 1, 1) := by decide +kernel
theorem d_D_turn_2 : decode b_D_turn 2 = .ok (.invokevirtual 28, 3) := by decide +kernel
theorem d_D_turn_5 : decode b_D_turn 5 = .ok (.astore_n 3, 1) := by decide +kernel
theorem d_D_turn_6 : decode b_D_turn 6 = .ok (.iload_n 2, 1) := by decide +kernel
theorem d_D_turn_7 : decode b_D_turn 7 = .ok (.ifCond .lt 14, 3) := by decide +kernel
theorem d_D_turn_10 : decode b_D_turn 10 = .ok (.iload_n 2, 1) := by decide +kernel
theorem d_D_turn_11 : decode b_D_turn 11 = .ok (.bipush 8, 2) := by decide +kernel
theorem d_D_turn_13 : decode b_D_turn 13 = .ok (.idiv, 1) := by decide +kernel
theorem d_D_turn_14 : decode b_D_turn 14 = .ok (.aload_n 3, 1) := by decide +kernel
theorem d_D_turn_15 : decode b_D_turn 15 = .ok (.getfield 43, 3) := by decide +kernel
theorem d_D_turn_18 : decode b_D_turn 18 = .ok (.if_icmp .lt 13, 3) := by decide +kernel
theorem d_D_turn_21 : decode b_D_turn 21 = .ok (.new 55, 3) := by decide +kernel
theorem d_D_turn_24 : decode b_D_turn 24 = .ok (.dup, 1) := by decide +kernel
theorem d_D_turn_25 : decode b_D_turn 25 = .ok (.ldc 90, 2) := by decide +kernel
theorem d_D_turn_27 : decode b_D_turn 27 = .ok (.invokespecial 59, 3) := by decide +kernel
theorem d_D_turn_30 : decode b_D_turn 30 = .ok (.athrow, 1) := by decide +kernel
theorem d_D_turn_31 : decode b_D_turn 31 = .ok (.aload_n 3, 1) := by decide +kernel
theorem d_D_turn_32 : decode b_D_turn 32 = .ok (.iload_n 2, 1) := by decide +kernel
theorem d_D_turn_33 : decode b_D_turn 33 = .ok (.bipush 8, 2) := by decide +kernel
theorem d_D_turn_35 : decode b_D_turn 35 = .ok (.idiv, 1) := by decide +kernel
theorem d_D_turn_36 : decode b_D_turn 36 = .ok (.invokevirtual 92, 3) := by decide +kernel
theorem d_D_turn_39 : decode b_D_turn 39 = .ok (.iconst 1, 1) := by decide +kernel
theorem d_D_turn_40 : decode b_D_turn 40 = .ok (.iload_n 2, 1) := by decide +kernel
theorem d_D_turn_41 : decode b_D_turn 41 = .ok (.bipush 8, 2) := by decide +kernel
theorem d_D_turn_43 : decode b_D_turn 43 = .ok (.irem, 1) := by decide +kernel
theorem d_D_turn_44 : decode b_D_turn 44 = .ok (.ishl, 1) := by decide +kernel
theorem d_D_turn_45 : decode b_D_turn 45 = .ok (.ixor, 1) := by decide +kernel
theorem d_D_turn_46 : decode b_D_turn 46 = .ok (.istore 4, 2) := by decide +kernel
theorem d_D_turn_48 : decode b_D_turn 48 = .ok (.aload_n 3, 1) := by decide +kernel
theorem d_D_turn_49 : decode b_D_turn 49 = .ok (.getfield 95, 3) := by decide +kernel
theorem d_D_turn_52 : decode b_D_turn 52 = .ok (.iload_n 2, 1) := by decide +kernel
theorem d_D_turn_53 : decode b_D_turn 53 = .ok (.bipush 8, 2) := by decide +kernel
theorem d_D_turn_55 : decode b_D_turn 55 = .ok (.idiv, 1) := by decide +kernel
theorem d_D_turn_56 : decode b_D_turn 56 = .ok (.iload 4, 2) := by decide +kernel
theorem d_D_turn_58 : decode b_D_turn 58 = .ok (.i2b, 1) := by decide +kernel
theorem d_D_turn_59 : decode b_D_turn 59 = .ok (.bastore, 1) := by decide +kernel
theorem d_D_turn_60 : decode b_D_turn 60 = .ok (.iload 4, 2) := by decide +kernel
theorem d_D_turn_62 : decode b_D_turn 62 = .ok (.ireturn, 1) := by decide +kernel
theorem d_D_place_0 : decode b_D_place 0 = .ok (.aload_n 0, 1) := by decide +kernel
theorem d_D_place_1 : decode b_D_place 1 = .ok (.iload_n 1, 1) := by decide +kernel
theorem d_D_place_2 : decode b_D_place 2 = .ok (.invokevirtual 28, 3) := by decide +kernel
theorem d_D_place_5 : decode b_D_place 5 = .ok (.astore_n 3, 1) := by decide +kernel
theorem d_D_place_6 : decode b_D_place 6 = .ok (.iload_n 2, 1) := by decide +kernel
theorem d_D_place_7 : decode b_D_place 7 = .ok (.ifCond .lt 11, 3) := by decide +kernel
theorem d_D_place_10 : decode b_D_place 10 = .ok (.iload_n 2, 1) := by decide +kernel
theorem d_D_place_11 : decode b_D_place 11 = .ok (.aload_n 3, 1) := by decide +kernel
theorem d_D_place_12 : decode b_D_place 12 = .ok (.getfield 43, 3) := by decide +kernel
theorem d_D_place_15 : decode b_D_place 15 = .ok (.if_icmp .le 13, 3) := by decide +kernel
theorem d_D_place_18 : decode b_D_place 18 = .ok (.new 55, 3) := by decide +kernel
theorem d_D_place_21 : decode b_D_place 21 = .ok (.dup, 1) := by decide +kernel
theorem d_D_place_22 : decode b_D_place 22 = .ok (.ldc 99, 2) := by decide +kernel
theorem d_D_place_24 : decode b_D_place 24 = .ok (.invokespecial 59, 3) := by decide +kernel
theorem d_D_place_27 : decode b_D_place 27 = .ok (.athrow, 1) := by decide +kernel
theorem d_D_place_28 : decode b_D_place 28 = .ok (.aload_n 3, 1) := by decide +kernel
theorem d_D_place_29 : decode b_D_place 29 = .ok (.getfield 87, 3) := by decide +kernel
theorem d_D_place_32 : decode b_D_place 32 = .ok (.istore 4, 2) := by decide +kernel
theorem d_D_place_34 : decode b_D_place 34 = .ok (.aload_n 3, 1) := by decide +kernel
theorem d_D_place_35 : decode b_D_place 35 = .ok (.iload_n 2, 1) := by decide +kernel
theorem d_D_place_36 : decode b_D_place 36 = .ok (.putfield 87, 3) := by decide +kernel
theorem d_D_place_39 : decode b_D_place 39 = .ok (.iload 4, 2) := by decide +kernel
theorem d_D_place_41 : decode b_D_place 41 = .ok (.ireturn, 1) := by decide +kernel
theorem d_D_readFixed_0 : decode b_D_readFixed 0 = .ok (.aload_n 0, 1) := by decide +kernel
theorem d_D_readFixed_1 : decode b_D_readFixed 1 = .ok (.iload_n 1, 1) := by decide +kernel
theorem d_D_readFixed_2 : decode b_D_readFixed 2 = .ok (.invokevirtual 28, 3) := by decide +kernel
theorem d_D_readFixed_5 : decode b_D_readFixed 5 = .ok (.astore_n 3, 1) := by decide +kernel
theorem d_D_readFixed_6 : decode b_D_readFixed 6 = .ok (.iload_n 2, 1) := by decide +kernel
theorem d_D_readFixed_7 : decode b_D_readFixed 7 = .ok (.invokestatic 32, 3) := by decide +kernel
theorem d_D_readFixed_10 : decode b_D_readFixed 10 = .ok (.aload_n 3, 1) := by decide +kernel
theorem d_D_readFixed_11 : decode b_D_readFixed 11 = .ok (.iload_n 2, 1) := by decide +kernel
theorem d_D_readFixed_12 : decode b_D_readFixed 12 = .ok (.invokestatic 101, 3) := by decide +kernel
theorem d_D_readFixed_15 : decode b_D_readFixed 15 = .ok (.aload_n 3, 1) := by decide +kernel
theorem d_D_readFixed_16 : decode b_D_readFixed 16 = .ok (.aload_n 3, 1) := by decide +kernel
theorem d_D_readFixed_17 : decode b_D_readFixed 17 = .ok (.getfield 87, 3) := by decide +kernel
theorem d_D_readFixed_20 : decode b_D_readFixed 20 = .ok (.iload_n 2, 1) := by decide +kernel
theorem d_D_readFixed_21 : decode b_D_readFixed 21 = .ok (.invokestatic 104, 3) := by decide +kernel
theorem d_D_readFixed_24 : decode b_D_readFixed 24 = .ok (.lstore 4, 2) := by decide +kernel
theorem d_D_readFixed_26 : decode b_D_readFixed 26 = .ok (.aload_n 3, 1) := by decide +kernel
theorem d_D_readFixed_27 : decode b_D_readFixed 27 = .ok (.dup, 1) := by decide +kernel
theorem d_D_readFixed_28 : decode b_D_readFixed 28 = .ok (.getfield 87, 3) := by decide +kernel
theorem d_D_readFixed_31 : decode b_D_readFixed 31 = .ok (.iload_n 2, 1) := by decide +kernel
theorem d_D_readFixed_32 : decode b_D_readFixed 32 = .ok (.iadd, 1) := by decide +kernel
theorem d_D_readFixed_33 : decode b_D_readFixed 33 = .ok (.putfield 87, 3) := by decide +kernel
theorem d_D_readFixed_36 : decode b_D_readFixed 36 = .ok (.lload 4, 2) := by decide +kernel
theorem d_D_readFixed_38 : decode b_D_readFixed 38 = .ok (.lreturn, 1) := by decide +kernel
theorem d_D_readSevens_0 : decode b_D_readSevens 0 = .ok (.aload_n 0, 1) := by decide +kernel
theorem d_D_readSevens_1 : decode b_D_readSevens 1 = .ok (.iload_n 1, 1) := by decide +kernel
theorem d_D_readSevens_2 : decode b_D_readSevens 2 = .ok (.invokevirtual 28, 3) := by decide +kernel
theorem d_D_readSevens_5 : decode b_D_readSevens 5 = .ok (.invokestatic 108, 3) := by decide +kernel
theorem d_D_readSevens_8 : decode b_D_readSevens 8 = .ok (.lreturn, 1) := by decide +kernel
theorem d_D_readSigned_0 : decode b_D_readSigned 0 = .ok (.aload_n 0, 1) := by decide +kernel
theorem d_D_readSigned_1 : decode b_D_readSigned 1 = .ok (.iload_n 1, 1) := by decide +kernel
theorem d_D_readSigned_2 : decode b_D_readSigned 2 = .ok (.invokevirtual 28, 3) := by decide +kernel
theorem d_D_readSigned_5 : decode b_D_readSigned 5 = .ok (.invokestatic 108, 3) := by decide +kernel
theorem d_D_readSigned_8 : decode b_D_readSigned 8 = .ok (.lstore_n 2, 1) := by decide +kernel
theorem d_D_readSigned_9 : decode b_D_readSigned 9 = .ok (.lload_n 2, 1) := by decide +kernel
theorem d_D_readSigned_10 : decode b_D_readSigned 10 = .ok (.iconst 1, 1) := by decide +kernel
theorem d_D_readSigned_11 : decode b_D_readSigned 11 = .ok (.lushr, 1) := by decide +kernel
theorem d_D_readSigned_12 : decode b_D_readSigned 12 = .ok (.lload_n 2, 1) := by decide +kernel
theorem d_D_readSigned_13 : decode b_D_readSigned 13 = .ok (.lconst 1, 1) := by decide +kernel
theorem d_D_readSigned_14 : decode b_D_readSigned 14 = .ok (.land, 1) := by decide +kernel
theorem d_D_readSigned_15 : decode b_D_readSigned 15 = .ok (.lneg, 1) := by decide +kernel
theorem d_D_readSigned_16 : decode b_D_readSigned 16 = .ok (.lxor, 1) := by decide +kernel
theorem d_D_readSigned_17 : decode b_D_readSigned 17 = .ok (.lreturn, 1) := by decide +kernel
theorem d_D_readLetter_0 : decode b_D_readLetter 0 = .ok (.aload_n 0, 1) := by decide +kernel
theorem d_D_readLetter_1 : decode b_D_readLetter 1 = .ok (.iload_n 1, 1) := by decide +kernel
theorem d_D_readLetter_2 : decode b_D_readLetter 2 = .ok (.invokevirtual 28, 3) := by decide +kernel
theorem d_D_readLetter_5 : decode b_D_readLetter 5 = .ok (.astore_n 2, 1) := by decide +kernel
theorem d_D_readLetter_6 : decode b_D_readLetter 6 = .ok (.aload_n 2, 1) := by decide +kernel
theorem d_D_readLetter_7 : decode b_D_readLetter 7 = .ok (.aload_n 2, 1) := by decide +kernel
theorem d_D_readLetter_8 : decode b_D_readLetter 8 = .ok (.getfield 87, 3) := by decide +kernel
theorem d_D_readLetter_11 : decode b_D_readLetter 11 = .ok (.aload_n 2, 1) := by decide +kernel
theorem d_D_readLetter_12 : decode b_D_readLetter 12 = .ok (.getfield 43, 3) := by decide +kernel
theorem d_D_readLetter_15 : decode b_D_readLetter 15 = .ok (.invokestatic 112, 3) := by decide +kernel
theorem d_D_readLetter_18 : decode b_D_readLetter 18 = .ok (.istore_n 3, 1) := by decide +kernel
theorem d_D_readLetter_19 : decode b_D_readLetter 19 = .ok (.iload_n 3, 1) := by decide +kernel
theorem d_D_readLetter_20 : decode b_D_readLetter 20 = .ok (.iconst (-1), 1) := by decide +kernel
theorem d_D_readLetter_21 : decode b_D_readLetter 21 = .ok (.if_icmp .ne 13, 3) := by decide +kernel
theorem d_D_readLetter_24 : decode b_D_readLetter 24 = .ok (.new 55, 3) := by decide +kernel
theorem d_D_readLetter_27 : decode b_D_readLetter 27 = .ok (.dup, 1) := by decide +kernel
theorem d_D_readLetter_28 : decode b_D_readLetter 28 = .ok (.ldc 115, 2) := by decide +kernel
theorem d_D_readLetter_30 : decode b_D_readLetter 30 = .ok (.invokespecial 59, 3) := by decide +kernel
theorem d_D_readLetter_33 : decode b_D_readLetter 33 = .ok (.athrow, 1) := by decide +kernel
theorem d_D_readLetter_34 : decode b_D_readLetter 34 = .ok (.iload_n 3, 1) := by decide +kernel
theorem d_D_readLetter_35 : decode b_D_readLetter 35 = .ok (.bipush (-2), 2) := by decide +kernel
theorem d_D_readLetter_37 : decode b_D_readLetter 37 = .ok (.if_icmp .ne 13, 3) := by decide +kernel
theorem d_D_readLetter_40 : decode b_D_readLetter 40 = .ok (.new 117, 3) := by decide +kernel
theorem d_D_readLetter_43 : decode b_D_readLetter 43 = .ok (.dup, 1) := by decide +kernel
theorem d_D_readLetter_44 : decode b_D_readLetter 44 = .ok (.ldc 119, 2) := by decide +kernel
theorem d_D_readLetter_46 : decode b_D_readLetter 46 = .ok (.invokespecial 121, 3) := by decide +kernel
theorem d_D_readLetter_49 : decode b_D_readLetter 49 = .ok (.athrow, 1) := by decide +kernel
theorem d_D_readLetter_50 : decode b_D_readLetter 50 = .ok (.aload_n 2, 1) := by decide +kernel
theorem d_D_readLetter_51 : decode b_D_readLetter 51 = .ok (.dup, 1) := by decide +kernel
theorem d_D_readLetter_52 : decode b_D_readLetter 52 = .ok (.getfield 87, 3) := by decide +kernel
theorem d_D_readLetter_55 : decode b_D_readLetter 55 = .ok (.iload_n 3, 1) := by decide +kernel
theorem d_D_readLetter_56 : decode b_D_readLetter 56 = .ok (.invokestatic 51, 3) := by decide +kernel
theorem d_D_readLetter_59 : decode b_D_readLetter 59 = .ok (.iadd, 1) := by decide +kernel
theorem d_D_readLetter_60 : decode b_D_readLetter 60 = .ok (.putfield 87, 3) := by decide +kernel
theorem d_D_readLetter_63 : decode b_D_readLetter 63 = .ok (.iload_n 3, 1) := by decide +kernel
theorem d_D_readLetter_64 : decode b_D_readLetter 64 = .ok (.ireturn, 1) := by decide +kernel
theorem d_D_readBlock_0 : decode b_D_readBlock 0 = .ok (.aload_n 0, 1) := by decide +kernel
theorem d_D_readBlock_1 : decode b_D_readBlock 1 = .ok (.iload_n 1, 1) := by decide +kernel
theorem d_D_readBlock_2 : decode b_D_readBlock 2 = .ok (.invokevirtual 28, 3) := by decide +kernel
theorem d_D_readBlock_5 : decode b_D_readBlock 5 = .ok (.astore_n 3, 1) := by decide +kernel
theorem d_D_readBlock_6 : decode b_D_readBlock 6 = .ok (.aload_n 0, 1) := by decide +kernel
theorem d_D_readBlock_7 : decode b_D_readBlock 7 = .ok (.iload_n 2, 1) := by decide +kernel
theorem d_D_readBlock_8 : decode b_D_readBlock 8 = .ok (.invokevirtual 28, 3) := by decide +kernel
theorem d_D_readBlock_11 : decode b_D_readBlock 11 = .ok (.astore 4, 2) := by decide +kernel
theorem d_D_readBlock_13 : decode b_D_readBlock 13 = .ok (.iload_n 1, 1) := by decide +kernel
theorem d_D_readBlock_14 : decode b_D_readBlock 14 = .ok (.iload_n 2, 1) := by decide +kernel
theorem d_D_readBlock_15 : decode b_D_readBlock 15 = .ok (.invokestatic 122, 3) := by decide +kernel
theorem d_D_readBlock_18 : decode b_D_readBlock 18 = .ok (.aload_n 3, 1) := by decide +kernel
theorem d_D_readBlock_19 : decode b_D_readBlock 19 = .ok (.invokestatic 126, 3) := by decide +kernel
theorem d_D_readBlock_22 : decode b_D_readBlock 22 = .ok (.istore 5, 2) := by decide +kernel
theorem d_D_readBlock_24 : decode b_D_readBlock 24 = .ok (.aload_n 3, 1) := by decide +kernel
theorem d_D_readBlock_25 : decode b_D_readBlock 25 = .ok (.iload 5, 2) := by decide +kernel
theorem d_D_readBlock_27 : decode b_D_readBlock 27 = .ok (.invokestatic 130, 3) := by decide +kernel
theorem d_D_readBlock_30 : decode b_D_readBlock 30 = .ok (.istore 6, 2) := by decide +kernel
theorem d_D_readBlock_32 : decode b_D_readBlock 32 = .ok (.aload_n 3, 1) := by decide +kernel
theorem d_D_readBlock_33 : decode b_D_readBlock 33 = .ok (.iload 5, 2) := by decide +kernel
theorem d_D_readBlock_35 : decode b_D_readBlock 35 = .ok (.iload 6, 2) := by decide +kernel
theorem d_D_readBlock_37 : decode b_D_readBlock 37 = .ok (.iadd, 1) := by decide +kernel
theorem d_D_readBlock_38 : decode b_D_readBlock 38 = .ok (.invokestatic 101, 3) := by decide +kernel
theorem d_D_readBlock_41 : decode b_D_readBlock 41 = .ok (.aload_n 3, 1) := by decide +kernel
theorem d_D_readBlock_42 : decode b_D_readBlock 42 = .ok (.aload_n 3, 1) := by decide +kernel
theorem d_D_readBlock_43 : decode b_D_readBlock 43 = .ok (.getfield 87, 3) := by decide +kernel
theorem d_D_readBlock_46 : decode b_D_readBlock 46 = .ok (.iload 5, 2) := by decide +kernel
theorem d_D_readBlock_48 : decode b_D_readBlock 48 = .ok (.iadd, 1) := by decide +kernel
theorem d_D_readBlock_49 : decode b_D_readBlock 49 = .ok (.iload 6, 2) := by decide +kernel
theorem d_D_readBlock_51 : decode b_D_readBlock 51 = .ok (.aload 4, 2) := by decide +kernel
theorem d_D_readBlock_53 : decode b_D_readBlock 53 = .ok (.invokestatic 134, 3) := by decide +kernel
theorem d_D_readBlock_56 : decode b_D_readBlock 56 = .ok (.iload 6, 2) := by decide +kernel
theorem d_D_readBlock_58 : decode b_D_readBlock 58 = .ok (.ireturn, 1) := by decide +kernel
end
section
/-! decode rows -/
theorem d_D_readFrame_0 : decode b_D_readFrame 0 = .ok (.aload_n 0, 1) := by decide +kernel
theorem d_D_readFrame_1 : decode b_D_readFrame 1 = .ok (.iload_n 1, 1) := by decide +kernel
theorem d_D_readFrame_2 : decode b_D_readFrame 2 = .ok (.invokevirtual 28, 3) := by decide +kernel
theorem d_D_readFrame_5 : decode b_D_readFrame 5 = .ok (.astore_n 3, 1) := by decide +kernel
theorem d_D_readFrame_6 : decode b_D_readFrame 6 = .ok (.aload_n 0, 1) := by decide +kernel
theorem d_D_readFrame_7 : decode b_D_readFrame 7 = .ok (.iload_n 2, 1) := by decide +kernel
theorem d_D_readFrame_8 : decode b_D_readFrame 8 = .ok (.invokevirtual 28, 3) := by decide +kernel
theorem d_D_readFrame_11 : decode b_D_readFrame 11 = .ok (.astore 4, 2) := by decide +kernel
theorem d_D_readFrame_13 : decode b_D_readFrame 13 = .ok (.iload_n 1, 1) := by decide +kernel
theorem d_D_readFrame_14 : decode b_D_readFrame 14 = .ok (.iload_n 2, 1) := by decide +kernel
theorem d_D_readFrame_15 : decode b_D_readFrame 15 = .ok (.invokestatic 122, 3) := by decide +kernel
theorem d_D_readFrame_18 : decode b_D_readFrame 18 = .ok (.aload_n 3, 1) := by decide +kernel
theorem d_D_readFrame_19 : decode b_D_readFrame 19 = .ok (.invokestatic 126, 3) := by decide +kernel
theorem d_D_readFrame_22 : decode b_D_readFrame 22 = .ok (.istore 5, 2) := by decide +kernel
theorem d_D_readFrame_24 : decode b_D_readFrame 24 = .ok (.aload_n 3, 1) := by decide +kernel
theorem d_D_readFrame_25 : decode b_D_readFrame 25 = .ok (.iload 5, 2) := by decide +kernel
theorem d_D_readFrame_27 : decode b_D_readFrame 27 = .ok (.invokestatic 130, 3) := by decide +kernel
theorem d_D_readFrame_30 : decode b_D_readFrame 30 = .ok (.istore 6, 2) := by decide +kernel
theorem d_D_readFrame_32 : decode b_D_readFrame 32 = .ok (.iload 5, 2) := by decide +kernel
theorem d_D_readFrame_34 : decode b_D_readFrame 34 = .ok (.iconst 4, 1) := by decide +kernel
theorem d_D_readFrame_35 : decode b_D_readFrame 35 = .ok (.iadd, 1) := by decide +kernel
theorem d_D_readFrame_36 : decode b_D_readFrame 36 = .ok (.istore 7, 2) := by decide +kernel
theorem d_D_readFrame_38 : decode b_D_readFrame 38 = .ok (.aload_n 3, 1) := by decide +kernel
theorem d_D_readFrame_39 : decode b_D_readFrame 39 = .ok (.iload 7, 2) := by decide +kernel
theorem d_D_readFrame_41 : decode b_D_readFrame 41 = .ok (.iload 6, 2) := by decide +kernel
theorem d_D_readFrame_43 : decode b_D_readFrame 43 = .ok (.iadd, 1) := by decide +kernel
theorem d_D_readFrame_44 : decode b_D_readFrame 44 = .ok (.invokestatic 101, 3) := by decide +kernel
theorem d_D_readFrame_47 : decode b_D_readFrame 47 = .ok (.aload_n 3, 1) := by decide +kernel
theorem d_D_readFrame_48 : decode b_D_readFrame 48 = .ok (.aload_n 3, 1) := by decide +kernel
theorem d_D_readFrame_49 : decode b_D_readFrame 49 = .ok (.getfield 87, 3) := by decide +kernel
theorem d_D_readFrame_52 : decode b_D_readFrame 52 = .ok (.iload 5, 2) := by decide +kernel
theorem d_D_readFrame_54 : decode b_D_readFrame 54 = .ok (.iadd, 1) := by decide +kernel
theorem d_D_readFrame_55 : decode b_D_readFrame 55 = .ok (.iconst 4, 1) := by decide +kernel
theorem d_D_readFrame_56 : decode b_D_readFrame 56 = .ok (.invokestatic 104, 3) := by decide +kernel
theorem d_D_readFrame_59 : decode b_D_readFrame 59 = .ok (.l2i, 1) := by decide +kernel
theorem d_D_readFrame_60 : decode b_D_readFrame 60 = .ok (.istore 8, 2) := by decide +kernel
theorem d_D_readFrame_62 : decode b_D_readFrame 62 = .ok (.iload 8, 2) := by decide +kernel
theorem d_D_readFrame_64 : decode b_D_readFrame 64 = .ok (.aload_n 3, 1) := by decide +kernel
theorem d_D_readFrame_65 : decode b_D_readFrame 65 = .ok (.aload_n 3, 1) := by decide +kernel
theorem d_D_readFrame_66 : decode b_D_readFrame 66 = .ok (.getfield 87, 3) := by decide +kernel
theorem d_D_readFrame_69 : decode b_D_readFrame 69 = .ok (.iload 7, 2) := by decide +kernel
theorem d_D_readFrame_71 : decode b_D_readFrame 71 = .ok (.iadd, 1) := by decide +kernel
theorem d_D_readFrame_72 : decode b_D_readFrame 72 = .ok (.iload 6, 2) := by decide +kernel
theorem d_D_readFrame_74 : decode b_D_readFrame 74 = .ok (.invokestatic 81, 3) := by decide +kernel
theorem d_D_readFrame_77 : decode b_D_readFrame 77 = .ok (.if_icmp .eq 13, 3) := by decide +kernel
theorem d_D_readFrame_80 : decode b_D_readFrame 80 = .ok (.new 138, 3) := by decide +kernel
theorem d_D_readFrame_83 : decode b_D_readFrame 83 = .ok (.dup, 1) := by decide +kernel
theorem d_D_readFrame_84 : decode b_D_readFrame 84 = .ok (.ldc 140, 2) := by decide +kernel
theorem d_D_readFrame_86 : decode b_D_readFrame 86 = .ok (.invokespecial 142, 3) := by decide +kernel
theorem d_D_readFrame_89 : decode b_D_readFrame 89 = .ok (.athrow, 1) := by decide +kernel
theorem d_D_readFrame_90 : decode b_D_readFrame 90 = .ok (.aload_n 3, 1) := by decide +kernel
theorem d_D_readFrame_91 : decode b_D_readFrame 91 = .ok (.aload_n 3, 1) := by decide +kernel
theorem d_D_readFrame_92 : decode b_D_readFrame 92 = .ok (.getfield 87, 3) := by decide +kernel
theorem d_D_readFrame_95 : decode b_D_readFrame 95 = .ok (.iload 7, 2) := by decide +kernel
theorem d_D_readFrame_97 : decode b_D_readFrame 97 = .ok (.iadd, 1) := by decide +kernel
theorem d_D_readFrame_98 : decode b_D_readFrame 98 = .ok (.iload 6, 2) := by decide +kernel
theorem d_D_readFrame_100 : decode b_D_readFrame 100 = .ok (.aload 4, 2) := by decide +kernel
theorem d_D_readFrame_102 : decode b_D_readFrame 102 = .ok (.invokestatic 134, 3) := by decide +kernel
theorem d_D_readFrame_105 : decode b_D_readFrame 105 = .ok (.iload 6, 2) := by decide +kernel
theorem d_D_readFrame_107 : decode b_D_readFrame 107 = .ok (.ireturn, 1) := by decide +kernel
theorem d_D_letters_0 : decode b_D_letters 0 = .ok (.aload_n 0, 1) := by decide +kernel
theorem d_D_letters_1 : decode b_D_letters 1 = .ok (.iload_n 1, 1) := by decide +kernel
theorem d_D_letters_2 : decode b_D_letters 2 = .ok (.invokevirtual 28, 3) := by decide +kernel
theorem d_D_letters_5 : decode b_D_letters 5 = .ok (.astore 4, 2) := by decide +kernel
theorem d_D_letters_7 : decode b_D_letters 7 = .ok (.aload 4, 2) := by decide +kernel
theorem d_D_letters_9 : decode b_D_letters 9 = .ok (.iload_n 2, 1) := by decide +kernel
theorem d_D_letters_10 : decode b_D_letters 10 = .ok (.iload_n 3, 1) := by decide +kernel
theorem d_D_letters_11 : decode b_D_letters 11 = .ok (.invokestatic 66, 3) := by decide +kernel
theorem d_D_letters_14 : decode b_D_letters 14 = .ok (.iload_n 2, 1) := by decide +kernel
theorem d_D_letters_15 : decode b_D_letters 15 = .ok (.iload_n 3, 1) := by decide +kernel
theorem d_D_letters_16 : decode b_D_letters 16 = .ok (.iadd, 1) := by decide +kernel
theorem d_D_letters_17 : decode b_D_letters 17 = .ok (.istore 5, 2) := by decide +kernel
theorem d_D_letters_19 : decode b_D_letters 19 = .ok (.iload_n 2, 1) := by decide +kernel
theorem d_D_letters_20 : decode b_D_letters 20 = .ok (.istore 6, 2) := by decide +kernel
theorem d_D_letters_22 : decode b_D_letters 22 = .ok (.iconst 0, 1) := by decide +kernel
theorem d_D_letters_23 : decode b_D_letters 23 = .ok (.istore 7, 2) := by decide +kernel
theorem d_D_letters_25 : decode b_D_letters 25 = .ok (.iload 7, 2) := by decide +kernel
theorem d_D_letters_27 : decode b_D_letters 27 = .ok (.iload_n 3, 1) := by decide +kernel
theorem d_D_letters_28 : decode b_D_letters 28 = .ok (.if_icmp .ge 60, 3) := by decide +kernel
theorem d_D_letters_31 : decode b_D_letters 31 = .ok (.iload 6, 2) := by decide +kernel
theorem d_D_letters_33 : decode b_D_letters 33 = .ok (.iload 5, 2) := by decide +kernel
theorem d_D_letters_35 : decode b_D_letters 35 = .ok (.if_icmp .ge 53, 3) := by decide +kernel
theorem d_D_letters_38 : decode b_D_letters 38 = .ok (.aload 4, 2) := by decide +kernel
theorem d_D_letters_40 : decode b_D_letters 40 = .ok (.iload 6, 2) := by decide +kernel
theorem d_D_letters_42 : decode b_D_letters 42 = .ok (.iload 5, 2) := by decide +kernel
theorem d_D_letters_44 : decode b_D_letters 44 = .ok (.invokestatic 112, 3) := by decide +kernel
theorem d_D_letters_47 : decode b_D_letters 47 = .ok (.istore 8, 2) := by decide +kernel
theorem d_D_letters_49 : decode b_D_letters 49 = .ok (.iload 8, 2) := by decide +kernel
theorem d_D_letters_51 : decode b_D_letters 51 = .ok (.iconst (-1), 1) := by decide +kernel
theorem d_D_letters_52 : decode b_D_letters 52 = .ok (.if_icmp .eq 10, 3) := by decide +kernel
theorem d_D_letters_55 : decode b_D_letters 55 = .ok (.iload 8, 2) := by decide +kernel
theorem d_D_letters_57 : decode b_D_letters 57 = .ok (.bipush (-2), 2) := by decide +kernel
theorem d_D_letters_59 : decode b_D_letters 59 = .ok (.if_icmp .ne 13, 3) := by decide +kernel
theorem d_D_letters_62 : decode b_D_letters 62 = .ok (.new 55, 3) := by decide +kernel
theorem d_D_letters_65 : decode b_D_letters 65 = .ok (.dup, 1) := by decide +kernel
theorem d_D_letters_66 : decode b_D_letters 66 = .ok (.ldc 143, 2) := by decide +kernel
theorem d_D_letters_68 : decode b_D_letters 68 = .ok (.invokespecial 59, 3) := by decide +kernel
theorem d_D_letters_71 : decode b_D_letters 71 = .ok (.athrow, 1) := by decide +kernel
theorem d_D_letters_72 : decode b_D_letters 72 = .ok (.iload 6, 2) := by decide +kernel
theorem d_D_letters_74 : decode b_D_letters 74 = .ok (.iload 8, 2) := by decide +kernel
theorem d_D_letters_76 : decode b_D_letters 76 = .ok (.invokestatic 51, 3) := by decide +kernel
theorem d_D_letters_79 : decode b_D_letters 79 = .ok (.iadd, 1) := by decide +kernel
theorem d_D_letters_80 : decode b_D_letters 80 = .ok (.istore 6, 2) := by decide +kernel
theorem d_D_letters_82 : decode b_D_letters 82 = .ok (.iinc 7 1, 3) := by decide +kernel
theorem d_D_letters_85 : decode b_D_letters 85 = .ok (.goto (-60), 3) := by decide +kernel
theorem d_D_letters_88 : decode b_D_letters 88 = .ok (.iload 7, 2) := by decide +kernel
theorem d_D_letters_90 : decode b_D_letters 90 = .ok (.ireturn, 1) := by decide +kernel
theorem d_D_sum_0 : decode b_D_sum 0 = .ok (.aload_n 0, 1) := by decide +kernel
theorem d_D_sum_1 : decode b_D_sum 1 = .ok (.iload_n 1, 1) := by decide +kernel
theorem d_D_sum_2 : decode b_D_sum 2 = .ok (.invokevirtual 28, 3) := by decide +kernel
theorem d_D_sum_5 : decode b_D_sum 5 = .ok (.astore 4, 2) := by decide +kernel
theorem d_D_sum_7 : decode b_D_sum 7 = .ok (.aload 4, 2) := by decide +kernel
theorem d_D_sum_9 : decode b_D_sum 9 = .ok (.iload_n 2, 1) := by decide +kernel
theorem d_D_sum_10 : decode b_D_sum 10 = .ok (.iload_n 3, 1) := by decide +kernel
theorem d_D_sum_11 : decode b_D_sum 11 = .ok (.invokestatic 66, 3) := by decide +kernel
theorem d_D_sum_14 : decode b_D_sum 14 = .ok (.aload 4, 2) := by decide +kernel
theorem d_D_sum_16 : decode b_D_sum 16 = .ok (.iload_n 2, 1) := by decide +kernel
theorem d_D_sum_17 : decode b_D_sum 17 = .ok (.iload_n 3, 1) := by decide +kernel
theorem d_D_sum_18 : decode b_D_sum 18 = .ok (.invokestatic 81, 3) := by decide +kernel
theorem d_D_sum_21 : decode b_D_sum 21 = .ok (.ireturn, 1) := by decide +kernel
theorem d_D_same_0 : decode b_D_same 0 = .ok (.aload_n 0, 1) := by decide +kernel
theorem d_D_same_1 : decode b_D_same 1 = .ok (.iload_n 1, 1) := by decide +kernel
theorem d_D_same_2 : decode b_D_same 2 = .ok (.invokevirtual 28, 3) := by decide +kernel
theorem d_D_same_5 : decode b_D_same 5 = .ok (.astore_n 3, 1) := by decide +kernel
theorem d_D_same_6 : decode b_D_same 6 = .ok (.aload_n 0, 1) := by decide +kernel
theorem d_D_same_7 : decode b_D_same 7 = .ok (.iload_n 2, 1) := by decide +kernel
theorem d_D_same_8 : decode b_D_same 8 = .ok (.invokevirtual 28, 3) := by decide +kernel
theorem d_D_same_11 : decode b_D_same 11 = .ok (.astore 4, 2) := by decide +kernel
theorem d_D_same_13 : decode b_D_same 13 = .ok (.aload_n 3, 1) := by decide +kernel
theorem d_D_same_14 : decode b_D_same 14 = .ok (.getfield 43, 3) := by decide +kernel
theorem d_D_same_17 : decode b_D_same 17 = .ok (.aload 4, 2) := by decide +kernel
theorem d_D_same_19 : decode b_D_same 19 = .ok (.getfield 43, 3) := by decide +kernel
theorem d_D_same_22 : decode b_D_same 22 = .ok (.if_icmp .eq 5, 3) := by decide +kernel
theorem d_D_same_25 : decode b_D_same 25 = .ok (.iconst 0, 1) := by decide +kernel
theorem d_D_same_26 : decode b_D_same 26 = .ok (.ireturn, 1) := by decide +kernel
theorem d_D_same_27 : decode b_D_same 27 = .ok (.iconst 0, 1) := by decide +kernel
theorem d_D_same_28 : decode b_D_same 28 = .ok (.istore 5, 2) := by decide +kernel
theorem d_D_same_30 : decode b_D_same 30 = .ok (.iload 5, 2) := by decide +kernel
theorem d_D_same_32 : decode b_D_same 32 = .ok (.aload_n 3, 1) := by decide +kernel
theorem d_D_same_33 : decode b_D_same 33 = .ok (.getfield 43, 3) := by decide +kernel
theorem d_D_same_36 : decode b_D_same 36 = .ok (.if_icmp .ge 27, 3) := by decide +kernel
theorem d_D_same_39 : decode b_D_same 39 = .ok (.aload_n 3, 1) := by decide +kernel
theorem d_D_same_40 : decode b_D_same 40 = .ok (.iload 5, 2) := by decide +kernel
theorem d_D_same_42 : decode b_D_same 42 = .ok (.invokevirtual 92, 3) := by decide +kernel
theorem d_D_same_45 : decode b_D_same 45 = .ok (.aload 4, 2) := by decide +kernel
theorem d_D_same_47 : decode b_D_same 47 = .ok (.iload 5, 2) := by decide +kernel
theorem d_D_same_49 : decode b_D_same 49 = .ok (.invokevirtual 92, 3) := by decide +kernel
theorem d_D_same_52 : decode b_D_same 52 = .ok (.if_icmp .eq 5, 3) := by decide +kernel
theorem d_D_same_55 : decode b_D_same 55 = .ok (.iconst 0, 1) := by decide +kernel
theorem d_D_same_56 : decode b_D_same 56 = .ok (.ireturn, 1) := by decide +kernel
theorem d_D_same_57 : decode b_D_same 57 = .ok (.iinc 5 1, 3) := by decide +kernel
theorem d_D_same_60 : decode b_D_same 60 = .ok (.goto (-30), 3) := by decide +kernel
theorem d_D_same_63 : decode b_D_same 63 = .ok (.iconst 1, 1) := by decide +kernel
theorem d_D_same_64 : decode b_D_same 64 = .ok (.ireturn, 1) := by decide +kernel
theorem d_D_row_0 : decode b_D_row 0 = .ok (.aload_n 0, 1) := by decide +kernel
theorem d_D_row_1 : decode b_D_row 1 = .ok (.iload_n 1, 1) := by decide +kernel
theorem d_D_row_2 : decode b_D_row 2 = .ok (.invokevirtual 28, 3) := by decide +kernel
theorem d_D_row_5 : decode b_D_row 5 = .ok (.astore_n 3, 1) := by decide +kernel
theorem d_D_row_6 : decode b_D_row 6 = .ok (.iload_n 2, 1) := by decide +kernel
theorem d_D_row_7 : decode b_D_row 7 = .ok (.tableswitch 45 0 2 #[25, 30, 35], 25) := by decide +kernel
theorem d_D_row_32 : decode b_D_row 32 = .ok (.aload_n 3, 1) := by decide +kernel
theorem d_D_row_33 : decode b_D_row 33 = .ok (.getfield 43, 3) := by decide +kernel
theorem d_D_row_36 : decode b_D_row 36 = .ok (.ireturn, 1) := by decide +kernel
theorem d_D_row_37 : decode b_D_row 37 = .ok (.aload_n 3, 1) := by decide +kernel
theorem d_D_row_38 : decode b_D_row 38 = .ok (.getfield 87, 3) := by decide +kernel
theorem d_D_row_41 : decode b_D_row 41 = .ok (.ireturn, 1) := by decide +kernel
theorem d_D_row_42 : decode b_D_row 42 = .ok (.aload_n 3, 1) := by decide +kernel
theorem d_D_row_43 : decode b_D_row 43 = .ok (.getfield 43, 3) := by decide +kernel
theorem d_D_row_46 : decode b_D_row 46 = .ok (.aload_n 3, 1) := by decide +kernel
theorem d_D_row_47 : decode b_D_row 47 = .ok (.getfield 87, 3) := by decide +kernel
theorem d_D_row_50 : decode b_D_row 50 = .ok (.isub, 1) := by decide +kernel
theorem d_D_row_51 : decode b_D_row 51 = .ok (.ireturn, 1) := by decide +kernel
theorem d_D_row_52 : decode b_D_row 52 = .ok (.new 55, 3) := by decide +kernel
theorem d_D_row_55 : decode b_D_row 55 = .ok (.dup, 1) := by decide +kernel
theorem d_D_row_56 : decode b_D_row 56 = .ok (.ldc 145, 2) := by decide +kernel
theorem d_D_row_58 : decode b_D_row 58 = .ok (.invokespecial 59, 3) := by decide +kernel
theorem d_D_row_61 : decode b_D_row 61 = .ok (.athrow, 1) := by decide +kernel
theorem d_D_byteAt_0 : decode b_D_byteAt 0 = .ok (.aload_n 0, 1) := by decide +kernel
theorem d_D_byteAt_1 : decode b_D_byteAt 1 = .ok (.iload_n 1, 1) := by decide +kernel
theorem d_D_byteAt_2 : decode b_D_byteAt 2 = .ok (.invokevirtual 28, 3) := by decide +kernel
theorem d_D_byteAt_5 : decode b_D_byteAt 5 = .ok (.astore_n 3, 1) := by decide +kernel
theorem d_D_byteAt_6 : decode b_D_byteAt 6 = .ok (.iload_n 2, 1) := by decide +kernel
theorem d_D_byteAt_7 : decode b_D_byteAt 7 = .ok (.ifCond .lt 11, 3) := by decide +kernel
theorem d_D_byteAt_10 : decode b_D_byteAt 10 = .ok (.iload_n 2, 1) := by decide +kernel
theorem d_D_byteAt_11 : decode b_D_byteAt 11 = .ok (.aload_n 3, 1) := by decide +kernel
theorem d_D_byteAt_12 : decode b_D_byteAt 12 = .ok (.getfield 43, 3) := by decide +kernel
theorem d_D_byteAt_15 : decode b_D_byteAt 15 = .ok (.if_icmp .lt 13, 3) := by decide +kernel
theorem d_D_byteAt_18 : decode b_D_byteAt 18 = .ok (.new 55, 3) := by decide +kernel
theorem d_D_byteAt_21 : decode b_D_byteAt 21 = .ok (.dup, 1) := by decide +kernel
theorem d_D_byteAt_22 : decode b_D_byteAt 22 = .ok (.ldc 147, 2) := by decide +kernel
theorem d_D_byteAt_24 : decode b_D_byteAt 24 = .ok (.invokespecial 59, 3) := by decide +kernel
theorem d_D_byteAt_27 : decode b_D_byteAt 27 = .ok (.athrow, 1) := by decide +kernel
theorem d_D_byteAt_28 : decode b_D_byteAt 28 = .ok (.aload_n 3, 1) := by decide +kernel
theorem d_D_byteAt_29 : decode b_D_byteAt 29 = .ok (.iload_n 2, 1) := by decide +kernel
theorem d_D_byteAt_30 : decode b_D_byteAt 30 = .ok (.invokevirtual 92, 3) := by decide +kernel
theorem d_D_byteAt_33 : decode b_D_byteAt 33 = .ok (.ireturn, 1) := by decide +kernel
theorem d_D_rowOf_0 : decode b_D_rowOf 0 = .ok (.iload_n 1, 1) := by decide +kernel
theorem d_D_rowOf_1 : decode b_D_rowOf 1 = .ok (.ifCond .lt 8, 3) := by decide +kernel
theorem d_D_rowOf_4 : decode b_D_rowOf 4 = .ok (.iload_n 1, 1) := by decide +kernel
theorem d_D_rowOf_5 : decode b_D_rowOf 5 = .ok (.iconst 4, 1) := by decide +kernel
theorem d_D_rowOf_6 : decode b_D_rowOf 6 = .ok (.if_icmp .lt 13, 3) := by decide +kernel
theorem d_D_rowOf_9 : decode b_D_rowOf 9 = .ok (.new 149, 3) := by decide +kernel
theorem d_D_rowOf_12 : decode b_D_rowOf 12 = .ok (.dup, 1) := by decide +kernel
theorem d_D_rowOf_13 : decode b_D_rowOf 13 = .ok (.ldc 151, 2) := by decide +kernel
theorem d_D_rowOf_15 : decode b_D_rowOf 15 = .ok (.invokespecial 153, 3) := by decide +kernel
theorem d_D_rowOf_18 : decode b_D_rowOf 18 = .ok (.athrow, 1) := by decide +kernel
theorem d_D_rowOf_19 : decode b_D_rowOf 19 = .ok (.aload_n 0, 1) := by decide +kernel
theorem d_D_rowOf_20 : decode b_D_rowOf 20 = .ok (.getfield 21, 3) := by decide +kernel
theorem d_D_rowOf_23 : decode b_D_rowOf 23 = .ok (.iload_n 1, 1) := by decide +kernel
theorem d_D_rowOf_24 : decode b_D_rowOf 24 = .ok (.aaload, 1) := by decide +kernel
theorem d_D_rowOf_25 : decode b_D_rowOf 25 = .ok (.areturn, 1) := by decide +kernel
theorem d_D_needFixedWidth_0 : decode b_D_needFixedWidth 0 = .ok (.iload_n 0, 1) := by decide +kernel
theorem d_D_needFixedWidth_1 : decode b_D_needFixedWidth 1 = .ok (.iconst 1, 1) := by decide +kernel
theorem d_D_needFixedWidth_2 : decode b_D_needFixedWidth 2 = .ok (.if_icmp .lt 9, 3) := by decide +kernel
theorem d_D_needFixedWidth_5 : decode b_D_needFixedWidth 5 = .ok (.iload_n 0, 1) := by decide +kernel
theorem d_D_needFixedWidth_6 : decode b_D_needFixedWidth 6 = .ok (.bipush 8, 2) := by decide +kernel
theorem d_D_needFixedWidth_8 : decode b_D_needFixedWidth 8 = .ok (.if_icmp .le 13, 3) := by decide +kernel
theorem d_D_needFixedWidth_11 : decode b_D_needFixedWidth 11 = .ok (.new 55, 3) := by decide +kernel
theorem d_D_needFixedWidth_14 : decode b_D_needFixedWidth 14 = .ok (.dup, 1) := by decide +kernel
theorem d_D_needFixedWidth_15 : decode b_D_needFixedWidth 15 = .ok (.ldc 154, 2) := by decide +kernel
theorem d_D_needFixedWidth_17 : decode b_D_needFixedWidth 17 = .ok (.invokespecial 59, 3) := by decide +kernel
theorem d_D_needFixedWidth_20 : decode b_D_needFixedWidth 20 = .ok (.athrow, 1) := by decide +kernel
theorem d_D_needFixedWidth_21 : decode b_D_needFixedWidth 21 = .ok (.return_, 1) := by decide +kernel
theorem d_D_needTwoRows_0 : decode b_D_needTwoRows 0 = .ok (.iload_n 0, 1) := by decide +kernel
theorem d_D_needTwoRows_1 : decode b_D_needTwoRows 1 = .ok (.iload_n 1, 1) := by decide +kernel
theorem d_D_needTwoRows_2 : decode b_D_needTwoRows 2 = .ok (.if_icmp .ne 13, 3) := by decide +kernel
theorem d_D_needTwoRows_5 : decode b_D_needTwoRows 5 = .ok (.new 55, 3) := by decide +kernel
theorem d_D_needTwoRows_8 : decode b_D_needTwoRows 8 = .ok (.dup, 1) := by decide +kernel
theorem d_D_needTwoRows_9 : decode b_D_needTwoRows 9 = .ok (.ldc 156, 2) := by decide +kernel
theorem d_D_needTwoRows_11 : decode b_D_needTwoRows 11 = .ok (.invokespecial 59, 3) := by decide +kernel
theorem d_D_needTwoRows_14 : decode b_D_needTwoRows 14 = .ok (.athrow, 1) := by decide +kernel
theorem d_D_needTwoRows_15 : decode b_D_needTwoRows 15 = .ok (.return_, 1) := by decide +kernel
theorem d_D_needRange_0 : decode b_D_needRange 0 = .ok (.iload_n 1, 1) := by decide +kernel
theorem d_D_needRange_1 : decode b_D_needRange 1 = .ok (.ifCond .lt 25, 3) := by decide +kernel
theorem d_D_needRange_4 : decode b_D_needRange 4 = .ok (.iload_n 2, 1) := by decide +kernel
theorem d_D_needRange_5 : decode b_D_needRange 5 = .ok (.ifCond .lt 21, 3) := by decide +kernel
theorem d_D_needRange_8 : decode b_D_needRange 8 = .ok (.iload_n 1, 1) := by decide +kernel
theorem d_D_needRange_9 : decode b_D_needRange 9 = .ok (.aload_n 0, 1) := by decide +kernel
theorem d_D_needRange_10 : decode b_D_needRange 10 = .ok (.getfield 43, 3) := by decide +kernel
theorem d_D_needRange_13 : decode b_D_needRange 13 = .ok (.if_icmp .gt 13, 3) := by decide +kernel
theorem d_D_needRange_16 : decode b_D_needRange 16 = .ok (.iload_n 2, 1) := by decide +kernel
theorem d_D_needRange_17 : decode b_D_needRange 17 = .ok (.aload_n 0, 1) := by decide +kernel
theorem d_D_needRange_18 : decode b_D_needRange 18 = .ok (.getfield 43, 3) := by decide +kernel
theorem d_D_needRange_21 : decode b_D_needRange 21 = .ok (.iload_n 1, 1) := by decide +kernel
theorem d_D_needRange_22 : decode b_D_needRange 22 = .ok (.isub, 1) := by decide +kernel
theorem d_D_needRange_23 : decode b_D_needRange 23 = .ok (.if_icmp .le 13, 3) := by decide +kernel
theorem d_D_needRange_26 : decode b_D_needRange 26 = .ok (.new 55, 3) := by decide +kernel
theorem d_D_needRange_29 : decode b_D_needRange 29 = .ok (.dup, 1) := by decide +kernel
theorem d_D_needRange_30 : decode b_D_needRange 30 = .ok (.ldc 85, 2) := by decide +kernel
theorem d_D_needRange_32 : decode b_D_needRange 32 = .ok (.invokespecial 59, 3) := by decide +kernel
theorem d_D_needRange_35 : decode b_D_needRange 35 = .ok (.athrow, 1) := by decide +kernel
theorem d_D_needRange_36 : decode b_D_needRange 36 = .ok (.return_, 1) := by decide +kernel
theorem d_D_needRoom_0 : decode b_D_needRoom 0 = .ok (.iload_n 1, 1) := by decide +kernel
theorem d_D_needRoom_1 : decode b_D_needRoom 1 = .ok (.aload_n 0, 1) := by decide +kernel
theorem d_D_needRoom_2 : decode b_D_needRoom 2 = .ok (.getfield 95, 3) := by decide +kernel
theorem d_D_needRoom_5 : decode b_D_needRoom 5 = .ok (.arraylength, 1) := by decide +kernel
theorem d_D_needRoom_6 : decode b_D_needRoom 6 = .ok (.aload_n 0, 1) := by decide +kernel
theorem d_D_needRoom_7 : decode b_D_needRoom 7 = .ok (.getfield 43, 3) := by decide +kernel
theorem d_D_needRoom_10 : decode b_D_needRoom 10 = .ok (.isub, 1) := by decide +kernel
theorem d_D_needRoom_11 : decode b_D_needRoom 11 = .ok (.if_icmp .le 13, 3) := by decide +kernel
theorem d_D_needRoom_14 : decode b_D_needRoom 14 = .ok (.new 158, 3) := by decide +kernel
theorem d_D_needRoom_17 : decode b_D_needRoom 17 = .ok (.dup, 1) := by decide +kernel
theorem d_D_needRoom_18 : decode b_D_needRoom 18 = .ok (.ldc 160, 2) := by decide +kernel
theorem d_D_needRoom_20 : decode b_D_needRoom 20 = .ok (.invokespecial 162, 3) := by decide +kernel
theorem d_D_needRoom_23 : decode b_D_needRoom 23 = .ok (.athrow, 1) := by decide +kernel
theorem d_D_needRoom_24 : decode b_D_needRoom 24 = .ok (.return_, 1) := by decide +kernel
theorem d_D_needLeft_0 : decode b_D_needLeft 0 = .ok (.iload_n 1, 1) := by decide +kernel
theorem d_D_needLeft_1 : decode b_D_needLeft 1 = .ok (.aload_n 0, 1) := by decide +kernel
theorem d_D_needLeft_2 : decode b_D_needLeft 2 = .ok (.getfield 43, 3) := by decide +kernel
theorem d_D_needLeft_5 : decode b_D_needLeft 5 = .ok (.aload_n 0, 1) := by decide +kernel
theorem d_D_needLeft_6 : decode b_D_needLeft 6 = .ok (.getfield 87, 3) := by decide +kernel
theorem d_D_needLeft_9 : decode b_D_needLeft 9 = .ok (.isub, 1) := by decide +kernel
theorem d_D_needLeft_10 : decode b_D_needLeft 10 = .ok (.if_icmp .le 13, 3) := by decide +kernel
theorem d_D_needLeft_13 : decode b_D_needLeft 13 = .ok (.new 117, 3) := by decide +kernel
theorem d_D_needLeft_16 : decode b_D_needLeft 16 = .ok (.dup, 1) := by decide +kernel
theorem d_D_needLeft_17 : decode b_D_needLeft 17 = .ok (.ldc 163, 2) := by decide +kernel
theorem d_D_needLeft_19 : decode b_D_needLeft 19 = .ok (.invokespecial 121, 3) := by decide +kernel
theorem d_D_needLeft_22 : decode b_D_needLeft 22 = .ok (.athrow, 1) := by decide +kernel
theorem d_D_needLeft_23 : decode b_D_needLeft 23 = .ok (.return_, 1) := by decide +kernel
theorem d_D_addFixed_0 : decode b_D_addFixed 0 = .ok (.iconst 0, 1) := by decide +kernel
theorem d_D_addFixed_1 : decode b_D_addFixed 1 = .ok (.istore 4, 2) := by decide +kernel
theorem d_D_addFixed_3 : decode b_D_addFixed 3 = .ok (.iload 4, 2) := by decide +kernel
theorem d_D_addFixed_5 : decode b_D_addFixed 5 = .ok (.iload_n 3, 1) := by decide +kernel
theorem d_D_addFixed_6 : decode b_D_addFixed 6 = .ok (.if_icmp .ge 21, 3) := by decide +kernel
theorem d_D_addFixed_9 : decode b_D_addFixed 9 = .ok (.aload_n 0, 1) := by decide +kernel
theorem d_D_addFixed_10 : decode b_D_addFixed 10 = .ok (.lload_n 1, 1) := by decide +kernel
theorem d_D_addFixed_11 : decode b_D_addFixed 11 = .ok (.bipush 8, 2) := by decide +kernel
theorem d_D_addFixed_13 : decode b_D_addFixed 13 = .ok (.iload 4, 2) := by decide +kernel
theorem d_D_addFixed_15 : decode b_D_addFixed 15 = .ok (.imul, 1) := by decide +kernel
theorem d_D_addFixed_16 : decode b_D_addFixed 16 = .ok (.lushr, 1) := by decide +kernel
theorem d_D_addFixed_17 : decode b_D_addFixed 17 = .ok (.l2i, 1) := by decide +kernel
theorem d_D_addFixed_18 : decode b_D_addFixed 18 = .ok (.invokevirtual 165, 3) := by decide +kernel
theorem d_D_addFixed_21 : decode b_D_addFixed 21 = .ok (.iinc 4 1, 3) := by decide +kernel
theorem d_D_addFixed_24 : decode b_D_addFixed 24 = .ok (.goto (-21), 3) := by decide +kernel
theorem d_D_addFixed_27 : decode b_D_addFixed 27 = .ok (.return_, 1) := by decide +kernel
theorem d_D_fixedAt_0 : decode b_D_fixedAt 0 = .ok (.lconst 0, 1) := by decide +kernel
theorem d_D_fixedAt_1 : decode b_D_fixedAt 1 = .ok (.lstore_n 3, 1) := by decide +kernel
theorem d_D_fixedAt_2 : decode b_D_fixedAt 2 = .ok (.iconst 0, 1) := by decide +kernel
theorem d_D_fixedAt_3 : decode b_D_fixedAt 3 = .ok (.istore 5, 2) := by decide +kernel
theorem d_D_fixedAt_5 : decode b_D_fixedAt 5 = .ok (.iload 5, 2) := by decide +kernel
theorem d_D_fixedAt_7 : decode b_D_fixedAt 7 = .ok (.iload_n 2, 1) := by decide +kernel
theorem d_D_fixedAt_8 : decode b_D_fixedAt 8 = .ok (.if_icmp .ge 27, 3) := by decide +kernel
theorem d_D_fixedAt_11 : decode b_D_fixedAt 11 = .ok (.lload_n 3, 1) := by decide +kernel
theorem d_D_fixedAt_12 : decode b_D_fixedAt 12 = .ok (.aload_n 0, 1) := by decide +kernel
theorem d_D_fixedAt_13 : decode b_D_fixedAt 13 = .ok (.iload_n 1, 1) := by decide +kernel
theorem d_D_fixedAt_14 : decode b_D_fixedAt 14 = .ok (.iload 5, 2) := by decide +kernel
theorem d_D_fixedAt_16 : decode b_D_fixedAt 16 = .ok (.iadd, 1) := by decide +kernel
theorem d_D_fixedAt_17 : decode b_D_fixedAt 17 = .ok (.invokevirtual 92, 3) := by decide +kernel
theorem d_D_fixedAt_20 : decode b_D_fixedAt 20 = .ok (.i2l, 1) := by decide +kernel
theorem d_D_fixedAt_21 : decode b_D_fixedAt 21 = .ok (.bipush 8, 2) := by decide +kernel
theorem d_D_fixedAt_23 : decode b_D_fixedAt 23 = .ok (.iload 5, 2) := by decide +kernel
theorem d_D_fixedAt_25 : decode b_D_fixedAt 25 = .ok (.imul, 1) := by decide +kernel
theorem d_D_fixedAt_26 : decode b_D_fixedAt 26 = .ok (.lshl, 1) := by decide +kernel
theorem d_D_fixedAt_27 : decode b_D_fixedAt 27 = .ok (.lor, 1) := by decide +kernel
theorem d_D_fixedAt_28 : decode b_D_fixedAt 28 = .ok (.lstore_n 3, 1) := by decide +kernel
theorem d_D_fixedAt_29 : decode b_D_fixedAt 29 = .ok (.iinc 5 1, 3) := by decide +kernel
theorem d_D_fixedAt_32 : decode b_D_fixedAt 32 = .ok (.goto (-27), 3) := by decide +kernel
theorem d_D_fixedAt_35 : decode b_D_fixedAt 35 = .ok (.lload_n 3, 1) := by decide +kernel
theorem d_D_fixedAt_36 : decode b_D_fixedAt 36 = .ok (.lreturn, 1) := by decide +kernel
theorem d_D_sevensWidth_0 : decode b_D_sevensWidth 0 = .ok (.iconst 1, 1) := by decide +kernel
theorem d_D_sevensWidth_1 : decode b_D_sevensWidth 1 = .ok (.istore_n 2, 1) := by decide +kernel
theorem d_D_sevensWidth_2 : decode b_D_sevensWidth 2 = .ok (.iload_n 2, 1) := by decide +kernel
theorem d_D_sevensWidth_3 : decode b_D_sevensWidth 3 = .ok (.bipush 10, 2) := by decide +kernel
theorem d_D_sevensWidth_5 : decode b_D_sevensWidth 5 = .ok (.if_icmp .ge 22, 3) := by decide +kernel
theorem d_D_sevensWidth_8 : decode b_D_sevensWidth 8 = .ok (.lload_n 0, 1) := by decide +kernel
theorem d_D_sevensWidth_9 : decode b_D_sevensWidth 9 = .ok (.bipush 7, 2) := by decide +kernel
theorem d_D_sevensWidth_11 : decode b_D_sevensWidth 11 = .ok (.iload_n 2, 1) := by decide +kernel
theorem d_D_sevensWidth_12 : decode b_D_sevensWidth 12 = .ok (.imul, 1) := by decide +kernel
theorem d_D_sevensWidth_13 : decode b_D_sevensWidth 13 = .ok (.lushr, 1) := by decide +kernel
theorem d_D_sevensWidth_14 : decode b_D_sevensWidth 14 = .ok (.lconst 0, 1) := by decide +kernel
theorem d_D_sevensWidth_15 : decode b_D_sevensWidth 15 = .ok (.lcmp, 1) := by decide +kernel
theorem d_D_sevensWidth_16 : decode b_D_sevensWidth 16 = .ok (.ifCond .ne 5, 3) := by decide +kernel
theorem d_D_sevensWidth_19 : decode b_D_sevensWidth 19 = .ok (.iload_n 2, 1) := by decide +kernel
theorem d_D_sevensWidth_20 : decode b_D_sevensWidth 20 = .ok (.ireturn, 1) := by decide +kernel
theorem d_D_sevensWidth_21 : decode b_D_sevensWidth 21 = .ok (.iinc 2 1, 3) := by decide +kernel
theorem d_D_sevensWidth_24 : decode b_D_sevensWidth 24 = .ok (.goto (-22), 3) := by decide +kernel
theorem d_D_sevensWidth_27 : decode b_D_sevensWidth 27 = .ok (.bipush 10, 2) := by decide +kernel
theorem d_D_sevensWidth_29 : decode b_D_sevensWidth 29 = .ok (.ireturn, 1) := by decide +kernel
theorem d_D_writeSevens_0 : decode b_D_writeSevens 0 = .ok (.lload_n 1, 1) := by decide +kernel
theorem d_D_writeSevens_1 : decode b_D_writeSevens 1 = .ok (.invokestatic 73, 3) := by decide +kernel
theorem d_D_writeSevens_4 : decode b_D_writeSevens 4 = .ok (.istore_n 3, 1) := by decide +kernel
theorem d_D_writeSevens_5 : decode b_D_writeSevens 5 = .ok (.aload_n 0, 1) := by decide +kernel
theorem d_D_writeSevens_6 : decode b_D_writeSevens 6 = .ok (.iload_n 3, 1) := by decide +kernel
theorem d_D_writeSevens_7 : decode b_D_writeSevens 7 = .ok (.invokestatic 35, 3) := by decide +kernel
theorem d_D_writeSevens_10 : decode b_D_writeSevens 10 = .ok (.aload_n 0, 1) := by decide +kernel
theorem d_D_writeSevens_11 : decode b_D_writeSevens 11 = .ok (.lload_n 1, 1) := by decide +kernel
theorem d_D_writeSevens_12 : decode b_D_writeSevens 12 = .ok (.invokestatic 77, 3) := by decide +kernel
theorem d_D_writeSevens_15 : decode b_D_writeSevens 15 = .ok (.iload_n 3, 1) := by decide +kernel
theorem d_D_writeSevens_16 : decode b_D_writeSevens 16 = .ok (.ireturn, 1) := by decide +kernel
theorem d_D_addSevens_0 : decode b_D_addSevens 0 = .ok (.lload_n 1, 1) := by decide +kernel
theorem d_D_addSevens_1 : decode b_D_addSevens 1 = .ok (.invokestatic 73, 3) := by decide +kernel
theorem d_D_addSevens_4 : decode b_D_addSevens 4 = .ok (.iconst 1, 1) := by decide +kernel
theorem d_D_addSevens_5 : decode b_D_addSevens 5 = .ok (.isub, 1) := by decide +kernel
theorem d_D_addSevens_6 : decode b_D_addSevens 6 = .ok (.istore_n 3, 1) := by decide +kernel
theorem d_D_addSevens_7 : decode b_D_addSevens 7 = .ok (.iconst 0, 1) := by decide +kernel
theorem d_D_addSevens_8 : decode b_D_addSevens 8 = .ok (.istore 4, 2) := by decide +kernel
theorem d_D_addSevens_10 : decode b_D_addSevens 10 = .ok (.iload 4, 2) := by decide +kernel
theorem d_D_addSevens_12 : decode b_D_addSevens 12 = .ok (.iload_n 3, 1) := by decide +kernel
theorem d_D_addSevens_13 : decode b_D_addSevens 13 = .ok (.if_icmp .ge 28, 3) := by decide +kernel
theorem d_D_addSevens_16 : decode b_D_addSevens 16 = .ok (.aload_n 0, 1) := by decide +kernel
theorem d_D_addSevens_17 : decode b_D_addSevens 17 = .ok (.sipush 128, 3) := by decide +kernel
theorem d_D_addSevens_20 : decode b_D_addSevens 20 = .ok (.lload_n 1, 1) := by decide +kernel
theorem d_D_addSevens_21 : decode b_D_addSevens 21 = .ok (.bipush 7, 2) := by decide +kernel
theorem d_D_addSevens_23 : decode b_D_addSevens 23 = .ok (.iload 4, 2) := by decide +kernel
theorem d_D_addSevens_25 : decode b_D_addSevens 25 = .ok (.imul, 1) := by decide +kernel
theorem d_D_addSevens_26 : decode b_D_addSevens 26 = .ok (.lushr, 1) := by decide +kernel
theorem d_D_addSevens_27 : decode b_D_addSevens 27 = .ok (.l2i, 1) := by decide +kernel
theorem d_D_addSevens_28 : decode b_D_addSevens 28 = .ok (.bipush 127, 2) := by decide +kernel
theorem d_D_addSevens_30 : decode b_D_addSevens 30 = .ok (.iand, 1) := by decide +kernel
theorem d_D_addSevens_31 : decode b_D_addSevens 31 = .ok (.ior, 1) := by decide +kernel
theorem d_D_addSevens_32 : decode b_D_addSevens 32 = .ok (.invokevirtual 165, 3) := by decide +kernel
theorem d_D_addSevens_35 : decode b_D_addSevens 35 = .ok (.iinc 4 1, 3) := by decide +kernel
theorem d_D_addSevens_38 : decode b_D_addSevens 38 = .ok (.goto (-28), 3) := by decide +kernel
theorem d_D_addSevens_41 : decode b_D_addSevens 41 = .ok (.aload_n 0, 1) := by decide +kernel
theorem d_D_addSevens_42 : decode b_D_addSevens 42 = .ok (.lload_n 1, 1) := by decide +kernel
theorem d_D_addSevens_43 : decode b_D_addSevens 43 = .ok (.bipush 7, 2) := by decide +kernel
theorem d_D_addSevens_45 : decode b_D_addSevens 45 = .ok (.iload_n 3, 1) := by decide +kernel
theorem d_D_addSevens_46 : decode b_D_addSevens 46 = .ok (.imul, 1) := by decide +kernel
theorem d_D_addSevens_47 : decode b_D_addSevens 47 = .ok (.lushr, 1) := by decide +kernel
theorem d_D_addSevens_48 : decode b_D_addSevens 48 = .ok (.l2i, 1) := by decide +kernel
theorem d_D_addSevens_49 : decode b_D_addSevens 49 = .ok (.invokevirtual 165, 3) := by decide +kernel
theorem d_D_addSevens_52 : decode b_D_addSevens 52 = .ok (.return_, 1) := by decide +kernel
theorem d_D_sevensWidthAtPlace_0 : decode b_D_sevensWidthAtPlace 0 = .ok (.iconst 0, 1) := by decide +kernel
theorem d_D_sevensWidthAtPlace_1 : decode b_D_sevensWidthAtPlace 1 = .ok (.istore_n 1, 1) := by decide +kernel
theorem d_D_sevensWidthAtPlace_2 : decode b_D_sevensWidthAtPlace 2 = .ok (.iload_n 1, 1) := by decide +kernel
theorem d_D_sevensWidthAtPlace_3 : decode b_D_sevensWidthAtPlace 3 = .ok (.bipush 10, 2) := by decide +kernel
theorem d_D_sevensWidthAtPlace_5 : decode b_D_sevensWidthAtPlace 5 = .ok (.if_icmp .ge 45, 3) := by decide +kernel
theorem d_D_sevensWidthAtPlace_8 : decode b_D_sevensWidthAtPlace 8 = .ok (.aload_n 0, 1) := by decide +kernel
theorem d_D_sevensWidthAtPlace_9 : decode b_D_sevensWidthAtPlace 9 = .ok (.iload_n 1, 1) := by decide +kernel
theorem d_D_sevensWidthAtPlace_10 : decode b_D_sevensWidthAtPlace 10 = .ok (.iconst 1, 1) := by decide +kernel
theorem d_D_sevensWidthAtPlace_11 : decode b_D_sevensWidthAtPlace 11 = .ok (.iadd, 1) := by decide +kernel
theorem d_D_sevensWidthAtPlace_12 : decode b_D_sevensWidthAtPlace 12 = .ok (.invokestatic 101, 3) := by decide +kernel
theorem d_D_sevensWidthAtPlace_15 : decode b_D_sevensWidthAtPlace 15 = .ok (.aload_n 0, 1) := by decide +kernel
theorem d_D_sevensWidthAtPlace_16 : decode b_D_sevensWidthAtPlace 16 = .ok (.aload_n 0, 1) := by decide +kernel
theorem d_D_sevensWidthAtPlace_17 : decode b_D_sevensWidthAtPlace 17 = .ok (.getfield 87, 3) := by decide +kernel
theorem d_D_sevensWidthAtPlace_20 : decode b_D_sevensWidthAtPlace 20 = .ok (.iload_n 1, 1) := by decide +kernel
theorem d_D_sevensWidthAtPlace_21 : decode b_D_sevensWidthAtPlace 21 = .ok (.iadd, 1) := by decide +kernel
theorem d_D_sevensWidthAtPlace_22 : decode b_D_sevensWidthAtPlace 22 = .ok (.invokevirtual 92, 3) := by decide +kernel
theorem d_D_sevensWidthAtPlace_25 : decode b_D_sevensWidthAtPlace 25 = .ok (.istore_n 2, 1) := by decide +kernel
theorem d_D_sevensWidthAtPlace_26 : decode b_D_sevensWidthAtPlace 26 = .ok (.iload_n 2, 1) := by decide +kernel
theorem d_D_sevensWidthAtPlace_27 : decode b_D_sevensWidthAtPlace 27 = .ok (.sipush 128, 3) := by decide +kernel
theorem d_D_sevensWidthAtPlace_30 : decode b_D_sevensWidthAtPlace 30 = .ok (.if_icmp .ge 14, 3) := by decide +kernel
theorem d_D_sevensWidthAtPlace_33 : decode b_D_sevensWidthAtPlace 33 = .ok (.iload_n 2, 1) := by decide +kernel
theorem d_D_sevensWidthAtPlace_34 : decode b_D_sevensWidthAtPlace 34 = .ok (.iload_n 1, 1) := by decide +kernel
theorem d_D_sevensWidthAtPlace_35 : decode b_D_sevensWidthAtPlace 35 = .ok (.iconst 1, 1) := by decide +kernel
theorem d_D_sevensWidthAtPlace_36 : decode b_D_sevensWidthAtPlace 36 = .ok (.iadd, 1) := by decide +kernel
theorem d_D_sevensWidthAtPlace_37 : decode b_D_sevensWidthAtPlace 37 = .ok (.invokestatic 168, 3) := by decide +kernel
theorem d_D_sevensWidthAtPlace_40 : decode b_D_sevensWidthAtPlace 40 = .ok (.iload_n 1, 1) := by decide +kernel
theorem d_D_sevensWidthAtPlace_41 : decode b_D_sevensWidthAtPlace 41 = .ok (.iconst 1, 1) := by decide +kernel
theorem d_D_sevensWidthAtPlace_42 : decode b_D_sevensWidthAtPlace 42 = .ok (.iadd, 1) := by decide +kernel
theorem d_D_sevensWidthAtPlace_43 : decode b_D_sevensWidthAtPlace 43 = .ok (.ireturn, 1) := by decide +kernel
theorem d_D_sevensWidthAtPlace_44 : decode b_D_sevensWidthAtPlace 44 = .ok (.iinc 1 1, 3) := by decide +kernel
theorem d_D_sevensWidthAtPlace_47 : decode b_D_sevensWidthAtPlace 47 = .ok (.goto (-45), 3) := by decide +kernel
theorem d_D_sevensWidthAtPlace_50 : decode b_D_sevensWidthAtPlace 50 = .ok (.new 55, 3) := by decide +kernel
theorem d_D_sevensWidthAtPlace_53 : decode b_D_sevensWidthAtPlace 53 = .ok (.dup, 1) := by decide +kernel
theorem d_D_sevensWidthAtPlace_54 : decode b_D_sevensWidthAtPlace 54 = .ok (.ldc 171, 2) := by decide +kernel
theorem d_D_sevensWidthAtPlace_56 : decode b_D_sevensWidthAtPlace 56 = .ok (.invokespecial 59, 3) := by decide +kernel
theorem d_D_sevensWidthAtPlace_59 : decode b_D_sevensWidthAtPlace 59 = .ok (.athrow, 1) := by decide +kernel
theorem d_D_needRightLast_0 : decode b_D_needRightLast 0 = .ok (.iload_n 1, 1) := by decide +kernel
theorem d_D_needRightLast_1 : decode b_D_needRightLast 1 = .ok (.iconst 1, 1) := by decide +kernel
theorem d_D_needRightLast_2 : decode b_D_needRightLast 2 = .ok (.if_icmp .le 17, 3) := by decide +kernel
theorem d_D_needRightLast_5 : decode b_D_needRightLast 5 = .ok (.iload_n 0, 1) := by decide +kernel
theorem d_D_needRightLast_6 : decode b_D_needRightLast 6 = .ok (.ifCond .ne 13, 3) := by decide +kernel
theorem d_D_needRightLast_9 : decode b_D_needRightLast 9 = .ok (.new 55, 3) := by decide +kernel
theorem d_D_needRightLast_12 : decode b_D_needRightLast 12 = .ok (.dup, 1) := by decide +kernel
theorem d_D_needRightLast_13 : decode b_D_needRightLast 13 = .ok (.ldc 173, 2) := by decide +kernel
theorem d_D_needRightLast_15 : decode b_D_needRightLast 15 = .ok (.invokespecial 59, 3) := by decide +kernel
theorem d_D_needRightLast_18 : decode b_D_needRightLast 18 = .ok (.athrow, 1) := by decide +kernel
theorem d_D_needRightLast_19 : decode b_D_needRightLast 19 = .ok (.iload_n 1, 1) := by decide +kernel
theorem d_D_needRightLast_20 : decode b_D_needRightLast 20 = .ok (.bipush 10, 2) := by decide +kernel
theorem d_D_needRightLast_22 : decode b_D_needRightLast 22 = .ok (.if_icmp .ne 18, 3) := by decide +kernel
theorem d_D_needRightLast_25 : decode b_D_needRightLast 25 = .ok (.iload_n 0, 1) := by decide +kernel
theorem d_D_needRightLast_26 : decode b_D_needRightLast 26 = .ok (.iconst 1, 1) := by decide +kernel
theorem d_D_needRightLast_27 : decode b_D_needRightLast 27 = .ok (.if_icmp .le 13, 3) := by decide +kernel
theorem d_D_needRightLast_30 : decode b_D_needRightLast 30 = .ok (.new 55, 3) := by decide +kernel
theorem d_D_needRightLast_33 : decode b_D_needRightLast 33 = .ok (.dup, 1) := by decide +kernel
theorem d_D_needRightLast_34 : decode b_D_needRightLast 34 = .ok (.ldc 175, 2) := by decide +kernel
theorem d_D_needRightLast_36 : decode b_D_needRightLast 36 = .ok (.invokespecial 59, 3) := by decide +kernel
theorem d_D_needRightLast_39 : decode b_D_needRightLast 39 = .ok (.athrow, 1) := by decide +kernel
theorem d_D_needRightLast_40 : decode b_D_needRightLast 40 = .ok (.return_, 1) := by decide +kernel
end
section
/-! decode rows -/
theorem d_D_sevensAtPlace_0 : decode b_D_sevensAtPlace 0 = .ok (.lconst 0, 1) := by decide +kernel
theorem d_D_sevensAtPlace_1 : decode b_D_sevensAtPlace 1 = .ok (.lstore_n 2, 1) := by decide +kernel
theorem d_D_sevensAtPlace_2 : decode b_D_sevensAtPlace 2 = .ok (.iconst 0, 1) := by decide +kernel
theorem d_D_sevensAtPlace_3 : decode b_D_sevensAtPlace 3 = .ok (.istore 4, 2) := by decide +kernel
theorem d_D_sevensAtPlace_5 : decode b_D_sevensAtPlace 5 = .ok (.iload 4, 2) := by decide +kernel
theorem d_D_sevensAtPlace_7 : decode b_D_sevensAtPlace 7 = .ok (.iload_n 1, 1) := by decide +kernel
theorem d_D_sevensAtPlace_8 : decode b_D_sevensAtPlace 8 = .ok (.if_icmp .ge 33, 3) := by decide +kernel
theorem d_D_sevensAtPlace_11 : decode b_D_sevensAtPlace 11 = .ok (.lload_n 2, 1) := by decide +kernel
theorem d_D_sevensAtPlace_12 : decode b_D_sevensAtPlace 12 = .ok (.aload_n 0, 1) := by decide +kernel
theorem d_D_sevensAtPlace_13 : decode b_D_sevensAtPlace 13 = .ok (.aload_n 0, 1) := by decide +kernel
theorem d_D_sevensAtPlace_14 : decode b_D_sevensAtPlace 14 = .ok (.getfield 87, 3) := by decide +kernel
theorem d_D_sevensAtPlace_17 : decode b_D_sevensAtPlace 17 = .ok (.iload 4, 2) := by decide +kernel
theorem d_D_sevensAtPlace_19 : decode b_D_sevensAtPlace 19 = .ok (.iadd, 1) := by decide +kernel
theorem d_D_sevensAtPlace_20 : decode b_D_sevensAtPlace 20 = .ok (.invokevirtual 92, 3) := by decide +kernel
theorem d_D_sevensAtPlace_23 : decode b_D_sevensAtPlace 23 = .ok (.bipush 127, 2) := by decide +kernel
theorem d_D_sevensAtPlace_25 : decode b_D_sevensAtPlace 25 = .ok (.iand, 1) := by decide +kernel
theorem d_D_sevensAtPlace_26 : decode b_D_sevensAtPlace 26 = .ok (.i2l, 1) := by decide +kernel
theorem d_D_sevensAtPlace_27 : decode b_D_sevensAtPlace 27 = .ok (.bipush 7, 2) := by decide +kernel
theorem d_D_sevensAtPlace_29 : decode b_D_sevensAtPlace 29 = .ok (.iload 4, 2) := by decide +kernel
theorem d_D_sevensAtPlace_31 : decode b_D_sevensAtPlace 31 = .ok (.imul, 1) := by decide +kernel
theorem d_D_sevensAtPlace_32 : decode b_D_sevensAtPlace 32 = .ok (.lshl, 1) := by decide +kernel
theorem d_D_sevensAtPlace_33 : decode b_D_sevensAtPlace 33 = .ok (.lor, 1) := by decide +kernel
theorem d_D_sevensAtPlace_34 : decode b_D_sevensAtPlace 34 = .ok (.lstore_n 2, 1) := by decide +kernel
theorem d_D_sevensAtPlace_35 : decode b_D_sevensAtPlace 35 = .ok (.iinc 4 1, 3) := by decide +kernel
theorem d_D_sevensAtPlace_38 : decode b_D_sevensAtPlace 38 = .ok (.goto (-33), 3) := by decide +kernel
theorem d_D_sevensAtPlace_41 : decode b_D_sevensAtPlace 41 = .ok (.lload_n 2, 1) := by decide +kernel
theorem d_D_sevensAtPlace_42 : decode b_D_sevensAtPlace 42 = .ok (.lreturn, 1) := by decide +kernel
theorem d_D_takeSevens_0 : decode b_D_takeSevens 0 = .ok (.aload_n 0, 1) := by decide +kernel
theorem d_D_takeSevens_1 : decode b_D_takeSevens 1 = .ok (.invokestatic 126, 3) := by decide +kernel
theorem d_D_takeSevens_4 : decode b_D_takeSevens 4 = .ok (.istore_n 1, 1) := by decide +kernel
theorem d_D_takeSevens_5 : decode b_D_takeSevens 5 = .ok (.aload_n 0, 1) := by decide +kernel
theorem d_D_takeSevens_6 : decode b_D_takeSevens 6 = .ok (.iload_n 1, 1) := by decide +kernel
theorem d_D_takeSevens_7 : decode b_D_takeSevens 7 = .ok (.invokestatic 177, 3) := by decide +kernel
theorem d_D_takeSevens_10 : decode b_D_takeSevens 10 = .ok (.lstore_n 2, 1) := by decide +kernel
theorem d_D_takeSevens_11 : decode b_D_takeSevens 11 = .ok (.aload_n 0, 1) := by decide +kernel
theorem d_D_takeSevens_12 : decode b_D_takeSevens 12 = .ok (.dup, 1) := by decide +kernel
theorem d_D_takeSevens_13 : decode b_D_takeSevens 13 = .ok (.getfield 87, 3) := by decide +kernel
theorem d_D_takeSevens_16 : decode b_D_takeSevens 16 = .ok (.iload_n 1, 1) := by decide +kernel
theorem d_D_takeSevens_17 : decode b_D_takeSevens 17 = .ok (.iadd, 1) := by decide +kernel
theorem d_D_takeSevens_18 : decode b_D_takeSevens 18 = .ok (.putfield 87, 3) := by decide +kernel
theorem d_D_takeSevens_21 : decode b_D_takeSevens 21 = .ok (.lload_n 2, 1) := by decide +kernel
theorem d_D_takeSevens_22 : decode b_D_takeSevens 22 = .ok (.lreturn, 1) := by decide +kernel
theorem d_D_howManyAtPlace_0 : decode b_D_howManyAtPlace 0 = .ok (.aload_n 0, 1) := by decide +kernel
theorem d_D_howManyAtPlace_1 : decode b_D_howManyAtPlace 1 = .ok (.iload_n 1, 1) := by decide +kernel
theorem d_D_howManyAtPlace_2 : decode b_D_howManyAtPlace 2 = .ok (.invokestatic 177, 3) := by decide +kernel
theorem d_D_howManyAtPlace_5 : decode b_D_howManyAtPlace 5 = .ok (.lstore_n 2, 1) := by decide +kernel
theorem d_D_howManyAtPlace_6 : decode b_D_howManyAtPlace 6 = .ok (.lload_n 2, 1) := by decide +kernel
theorem d_D_howManyAtPlace_7 : decode b_D_howManyAtPlace 7 = .ok (.lconst 0, 1) := by decide +kernel
theorem d_D_howManyAtPlace_8 : decode b_D_howManyAtPlace 8 = .ok (.lcmp, 1) := by decide +kernel
theorem d_D_howManyAtPlace_9 : decode b_D_howManyAtPlace 9 = .ok (.ifCond .lt 11, 3) := by decide +kernel
theorem d_D_howManyAtPlace_12 : decode b_D_howManyAtPlace 12 = .ok (.lload_n 2, 1) := by decide +kernel
theorem d_D_howManyAtPlace_13 : decode b_D_howManyAtPlace 13 = .ok (.ldc2_w 181, 3) := by decide +kernel
theorem d_D_howManyAtPlace_16 : decode b_D_howManyAtPlace 16 = .ok (.lcmp, 1) := by decide +kernel
theorem d_D_howManyAtPlace_17 : decode b_D_howManyAtPlace 17 = .ok (.ifCond .le 13, 3) := by decide +kernel
theorem d_D_howManyAtPlace_20 : decode b_D_howManyAtPlace 20 = .ok (.new 55, 3) := by decide +kernel
theorem d_D_howManyAtPlace_23 : decode b_D_howManyAtPlace 23 = .ok (.dup, 1) := by decide +kernel
theorem d_D_howManyAtPlace_24 : decode b_D_howManyAtPlace 24 = .ok (.ldc 183, 2) := by decide +kernel
theorem d_D_howManyAtPlace_26 : decode b_D_howManyAtPlace 26 = .ok (.invokespecial 59, 3) := by decide +kernel
theorem d_D_howManyAtPlace_29 : decode b_D_howManyAtPlace 29 = .ok (.athrow, 1) := by decide +kernel
theorem d_D_howManyAtPlace_30 : decode b_D_howManyAtPlace 30 = .ok (.lload_n 2, 1) := by decide +kernel
theorem d_D_howManyAtPlace_31 : decode b_D_howManyAtPlace 31 = .ok (.l2i, 1) := by decide +kernel
theorem d_D_howManyAtPlace_32 : decode b_D_howManyAtPlace 32 = .ok (.ireturn, 1) := by decide +kernel
theorem d_D_letterWidth_0 : decode b_D_letterWidth 0 = .ok (.iload_n 0, 1) := by decide +kernel
theorem d_D_letterWidth_1 : decode b_D_letterWidth 1 = .ok (.ifCond .lt 21, 3) := by decide +kernel
theorem d_D_letterWidth_4 : decode b_D_letterWidth 4 = .ok (.iload_n 0, 1) := by decide +kernel
theorem d_D_letterWidth_5 : decode b_D_letterWidth 5 = .ok (.ldc 185, 2) := by decide +kernel
theorem d_D_letterWidth_7 : decode b_D_letterWidth 7 = .ok (.if_icmp .gt 15, 3) := by decide +kernel
theorem d_D_letterWidth_10 : decode b_D_letterWidth 10 = .ok (.iload_n 0, 1) := by decide +kernel
theorem d_D_letterWidth_11 : decode b_D_letterWidth 11 = .ok (.ldc 186, 2) := by decide +kernel
theorem d_D_letterWidth_13 : decode b_D_letterWidth 13 = .ok (.if_icmp .lt 11, 3) := by decide +kernel
theorem d_D_letterWidth_16 : decode b_D_letterWidth 16 = .ok (.iload_n 0, 1) := by decide +kernel
theorem d_D_letterWidth_17 : decode b_D_letterWidth 17 = .ok (.ldc 187, 2) := by decide +kernel
theorem d_D_letterWidth_19 : decode b_D_letterWidth 19 = .ok (.if_icmp .gt 5, 3) := by decide +kernel
theorem d_D_letterWidth_22 : decode b_D_letterWidth 22 = .ok (.iconst 0, 1) := by decide +kernel
theorem d_D_letterWidth_23 : decode b_D_letterWidth 23 = .ok (.ireturn, 1) := by decide +kernel
theorem d_D_letterWidth_24 : decode b_D_letterWidth 24 = .ok (.iload_n 0, 1) := by decide +kernel
theorem d_D_letterWidth_25 : decode b_D_letterWidth 25 = .ok (.sipush 128, 3) := by decide +kernel
theorem d_D_letterWidth_28 : decode b_D_letterWidth 28 = .ok (.if_icmp .ge 5, 3) := by decide +kernel
theorem d_D_letterWidth_31 : decode b_D_letterWidth 31 = .ok (.iconst 1, 1) := by decide +kernel
theorem d_D_letterWidth_32 : decode b_D_letterWidth 32 = .ok (.ireturn, 1) := by decide +kernel
theorem d_D_letterWidth_33 : decode b_D_letterWidth 33 = .ok (.iload_n 0, 1) := by decide +kernel
theorem d_D_letterWidth_34 : decode b_D_letterWidth 34 = .ok (.sipush 2048, 3) := by decide +kernel
theorem d_D_letterWidth_37 : decode b_D_letterWidth 37 = .ok (.if_icmp .ge 5, 3) := by decide +kernel
theorem d_D_letterWidth_40 : decode b_D_letterWidth 40 = .ok (.iconst 2, 1) := by decide +kernel
theorem d_D_letterWidth_41 : decode b_D_letterWidth 41 = .ok (.ireturn, 1) := by decide +kernel
theorem d_D_letterWidth_42 : decode b_D_letterWidth 42 = .ok (.iload_n 0, 1) := by decide +kernel
theorem d_D_letterWidth_43 : decode b_D_letterWidth 43 = .ok (.ldc 9, 2) := by decide +kernel
theorem d_D_letterWidth_45 : decode b_D_letterWidth 45 = .ok (.if_icmp .ge 7, 3) := by decide +kernel
theorem d_D_letterWidth_48 : decode b_D_letterWidth 48 = .ok (.iconst 3, 1) := by decide +kernel
theorem d_D_letterWidth_49 : decode b_D_letterWidth 49 = .ok (.goto 4, 3) := by decide +kernel
theorem d_D_letterWidth_52 : decode b_D_letterWidth 52 = .ok (.iconst 4, 1) := by decide +kernel
theorem d_D_letterWidth_53 : decode b_D_letterWidth 53 = .ok (.ireturn, 1) := by decide +kernel
theorem d_D_addLetter_0 : decode b_D_addLetter 0 = .ok (.bipush 6, 2) := by decide +kernel
theorem d_D_addLetter_2 : decode b_D_addLetter 2 = .ok (.iload_n 2, 1) := by decide +kernel
theorem d_D_addLetter_3 : decode b_D_addLetter 3 = .ok (.iconst 1, 1) := by decide +kernel
theorem d_D_addLetter_4 : decode b_D_addLetter 4 = .ok (.isub, 1) := by decide +kernel
theorem d_D_addLetter_5 : decode b_D_addLetter 5 = .ok (.imul, 1) := by decide +kernel
theorem d_D_addLetter_6 : decode b_D_addLetter 6 = .ok (.istore_n 3, 1) := by decide +kernel
theorem d_D_addLetter_7 : decode b_D_addLetter 7 = .ok (.aload_n 0, 1) := by decide +kernel
theorem d_D_addLetter_8 : decode b_D_addLetter 8 = .ok (.iload_n 2, 1) := by decide +kernel
theorem d_D_addLetter_9 : decode b_D_addLetter 9 = .ok (.invokestatic 188, 3) := by decide +kernel
theorem d_D_addLetter_12 : decode b_D_addLetter 12 = .ok (.iload_n 1, 1) := by decide +kernel
theorem d_D_addLetter_13 : decode b_D_addLetter 13 = .ok (.iload_n 3, 1) := by decide +kernel
theorem d_D_addLetter_14 : decode b_D_addLetter 14 = .ok (.iushr, 1) := by decide +kernel
theorem d_D_addLetter_15 : decode b_D_addLetter 15 = .ok (.ior, 1) := by decide +kernel
theorem d_D_addLetter_16 : decode b_D_addLetter 16 = .ok (.invokevirtual 165, 3) := by decide +kernel
theorem d_D_addLetter_19 : decode b_D_addLetter 19 = .ok (.iconst 1, 1) := by decide +kernel
theorem d_D_addLetter_20 : decode b_D_addLetter 20 = .ok (.istore 4, 2) := by decide +kernel
theorem d_D_addLetter_22 : decode b_D_addLetter 22 = .ok (.iload 4, 2) := by decide +kernel
theorem d_D_addLetter_24 : decode b_D_addLetter 24 = .ok (.iload_n 2, 1) := by decide +kernel
theorem d_D_addLetter_25 : decode b_D_addLetter 25 = .ok (.if_icmp .ge 29, 3) := by decide +kernel
theorem d_D_addLetter_28 : decode b_D_addLetter 28 = .ok (.aload_n 0, 1) := by decide +kernel
theorem d_D_addLetter_29 : decode b_D_addLetter 29 = .ok (.sipush 128, 3) := by decide +kernel
theorem d_D_addLetter_32 : decode b_D_addLetter 32 = .ok (.iload_n 1, 1) := by decide +kernel
theorem d_D_addLetter_33 : decode b_D_addLetter 33 = .ok (.iload_n 3, 1) := by decide +kernel
theorem d_D_addLetter_34 : decode b_D_addLetter 34 = .ok (.bipush 6, 2) := by decide +kernel
theorem d_D_addLetter_36 : decode b_D_addLetter 36 = .ok (.iload 4, 2) := by decide +kernel
theorem d_D_addLetter_38 : decode b_D_addLetter 38 = .ok (.imul, 1) := by decide +kernel
theorem d_D_addLetter_39 : decode b_D_addLetter 39 = .ok (.isub, 1) := by decide +kernel
theorem d_D_addLetter_40 : decode b_D_addLetter 40 = .ok (.iushr, 1) := by decide +kernel
theorem d_D_addLetter_41 : decode b_D_addLetter 41 = .ok (.bipush 63, 2) := by decide +kernel
theorem d_D_addLetter_43 : decode b_D_addLetter 43 = .ok (.iand, 1) := by decide +kernel
theorem d_D_addLetter_44 : decode b_D_addLetter 44 = .ok (.ior, 1) := by decide +kernel
theorem d_D_addLetter_45 : decode b_D_addLetter 45 = .ok (.invokevirtual 165, 3) := by decide +kernel
theorem d_D_addLetter_48 : decode b_D_addLetter 48 = .ok (.iinc 4 1, 3) := by decide +kernel
theorem d_D_addLetter_51 : decode b_D_addLetter 51 = .ok (.goto (-29), 3) := by decide +kernel
theorem d_D_addLetter_54 : decode b_D_addLetter 54 = .ok (.return_, 1) := by decide +kernel
theorem d_D_firstMark_0 : decode b_D_firstMark 0 = .ok (.iload_n 0, 1) := by decide +kernel
theorem d_D_firstMark_1 : decode b_D_firstMark 1 = .ok (.tableswitch 39 2 4 #[27, 31, 35], 27) := by decide +kernel
theorem d_D_firstMark_28 : decode b_D_firstMark 28 = .ok (.sipush 192, 3) := by decide +kernel
theorem d_D_firstMark_31 : decode b_D_firstMark 31 = .ok (.ireturn, 1) := by decide +kernel
theorem d_D_firstMark_32 : decode b_D_firstMark 32 = .ok (.sipush 224, 3) := by decide +kernel
theorem d_D_firstMark_35 : decode b_D_firstMark 35 = .ok (.ireturn, 1) := by decide +kernel
theorem d_D_firstMark_36 : decode b_D_firstMark 36 = .ok (.sipush 240, 3) := by decide +kernel
theorem d_D_firstMark_39 : decode b_D_firstMark 39 = .ok (.ireturn, 1) := by decide +kernel
theorem d_D_firstMark_40 : decode b_D_firstMark 40 = .ok (.iconst 0, 1) := by decide +kernel
theorem d_D_firstMark_41 : decode b_D_firstMark 41 = .ok (.ireturn, 1) := by decide +kernel
theorem d_D_widthByFirst_0 : decode b_D_widthByFirst 0 = .ok (.iload_n 0, 1) := by decide +kernel
theorem d_D_widthByFirst_1 : decode b_D_widthByFirst 1 = .ok (.sipush 128, 3) := by decide +kernel
theorem d_D_widthByFirst_4 : decode b_D_widthByFirst 4 = .ok (.if_icmp .ge 5, 3) := by decide +kernel
theorem d_D_widthByFirst_7 : decode b_D_widthByFirst 7 = .ok (.iconst 1, 1) := by decide +kernel
theorem d_D_widthByFirst_8 : decode b_D_widthByFirst 8 = .ok (.ireturn, 1) := by decide +kernel
theorem d_D_widthByFirst_9 : decode b_D_widthByFirst 9 = .ok (.iload_n 0, 1) := by decide +kernel
theorem d_D_widthByFirst_10 : decode b_D_widthByFirst 10 = .ok (.sipush 194, 3) := by decide +kernel
theorem d_D_widthByFirst_13 : decode b_D_widthByFirst 13 = .ok (.if_icmp .lt 10, 3) := by decide +kernel
theorem d_D_widthByFirst_16 : decode b_D_widthByFirst 16 = .ok (.iload_n 0, 1) := by decide +kernel
theorem d_D_widthByFirst_17 : decode b_D_widthByFirst 17 = .ok (.sipush 244, 3) := by decide +kernel
theorem d_D_widthByFirst_20 : decode b_D_widthByFirst 20 = .ok (.if_icmp .le 5, 3) := by decide +kernel
theorem d_D_widthByFirst_23 : decode b_D_widthByFirst 23 = .ok (.iconst 0, 1) := by decide +kernel
theorem d_D_widthByFirst_24 : decode b_D_widthByFirst 24 = .ok (.ireturn, 1) := by decide +kernel
theorem d_D_widthByFirst_25 : decode b_D_widthByFirst 25 = .ok (.iload_n 0, 1) := by decide +kernel
theorem d_D_widthByFirst_26 : decode b_D_widthByFirst 26 = .ok (.sipush 224, 3) := by decide +kernel
theorem d_D_widthByFirst_29 : decode b_D_widthByFirst 29 = .ok (.if_icmp .ge 5, 3) := by decide +kernel
theorem d_D_widthByFirst_32 : decode b_D_widthByFirst 32 = .ok (.iconst 2, 1) := by decide +kernel
theorem d_D_widthByFirst_33 : decode b_D_widthByFirst 33 = .ok (.ireturn, 1) := by decide +kernel
theorem d_D_widthByFirst_34 : decode b_D_widthByFirst 34 = .ok (.iload_n 0, 1) := by decide +kernel
theorem d_D_widthByFirst_35 : decode b_D_widthByFirst 35 = .ok (.sipush 240, 3) := by decide +kernel
theorem d_D_widthByFirst_38 : decode b_D_widthByFirst 38 = .ok (.if_icmp .ge 7, 3) := by decide +kernel
theorem d_D_widthByFirst_41 : decode b_D_widthByFirst 41 = .ok (.iconst 3, 1) := by decide +kernel
theorem d_D_widthByFirst_42 : decode b_D_widthByFirst 42 = .ok (.goto 4, 3) := by decide +kernel
theorem d_D_widthByFirst_45 : decode b_D_widthByFirst 45 = .ok (.iconst 4, 1) := by decide +kernel
theorem d_D_widthByFirst_46 : decode b_D_widthByFirst 46 = .ok (.ireturn, 1) := by decide +kernel
theorem d_D_letterAt_0 : decode b_D_letterAt 0 = .ok (.iload_n 1, 1) := by decide +kernel
theorem d_D_letterAt_1 : decode b_D_letterAt 1 = .ok (.iload_n 2, 1) := by decide +kernel
theorem d_D_letterAt_2 : decode b_D_letterAt 2 = .ok (.if_icmp .lt 6, 3) := by decide +kernel
theorem d_D_letterAt_5 : decode b_D_letterAt 5 = .ok (.bipush (-2), 2) := by decide +kernel
theorem d_D_letterAt_7 : decode b_D_letterAt 7 = .ok (.ireturn, 1) := by decide +kernel
theorem d_D_letterAt_8 : decode b_D_letterAt 8 = .ok (.aload_n 0, 1) := by decide +kernel
theorem d_D_letterAt_9 : decode b_D_letterAt 9 = .ok (.iload_n 1, 1) := by decide +kernel
theorem d_D_letterAt_10 : decode b_D_letterAt 10 = .ok (.invokevirtual 92, 3) := by decide +kernel
theorem d_D_letterAt_13 : decode b_D_letterAt 13 = .ok (.istore_n 3, 1) := by decide +kernel
theorem d_D_letterAt_14 : decode b_D_letterAt 14 = .ok (.iload_n 3, 1) := by decide +kernel
theorem d_D_letterAt_15 : decode b_D_letterAt 15 = .ok (.invokestatic 191, 3) := by decide +kernel
theorem d_D_letterAt_18 : decode b_D_letterAt 18 = .ok (.istore 4, 2) := by decide +kernel
theorem d_D_letterAt_20 : decode b_D_letterAt 20 = .ok (.iload 4, 2) := by decide +kernel
theorem d_D_letterAt_22 : decode b_D_letterAt 22 = .ok (.ifCond .ne 5, 3) := by decide +kernel
theorem d_D_letterAt_25 : decode b_D_letterAt 25 = .ok (.iconst (-1), 1) := by decide +kernel
theorem d_D_letterAt_26 : decode b_D_letterAt 26 = .ok (.ireturn, 1) := by decide +kernel
theorem d_D_letterAt_27 : decode b_D_letterAt 27 = .ok (.iload_n 3, 1) := by decide +kernel
theorem d_D_letterAt_28 : decode b_D_letterAt 28 = .ok (.iload 4, 2) := by decide +kernel
theorem d_D_letterAt_30 : decode b_D_letterAt 30 = .ok (.invokestatic 188, 3) := by decide +kernel
theorem d_D_letterAt_33 : decode b_D_letterAt 33 = .ok (.isub, 1) := by decide +kernel
theorem d_D_letterAt_34 : decode b_D_letterAt 34 = .ok (.istore 5, 2) := by decide +kernel
theorem d_D_letterAt_36 : decode b_D_letterAt 36 = .ok (.iconst 1, 1) := by decide +kernel
theorem d_D_letterAt_37 : decode b_D_letterAt 37 = .ok (.istore 6, 2) := by decide +kernel
theorem d_D_letterAt_39 : decode b_D_letterAt 39 = .ok (.iload 6, 2) := by decide +kernel
theorem d_D_letterAt_41 : decode b_D_letterAt 41 = .ok (.iload 4, 2) := by decide +kernel
theorem d_D_letterAt_43 : decode b_D_letterAt 43 = .ok (.if_icmp .ge 84, 3) := by decide +kernel
theorem d_D_letterAt_46 : decode b_D_letterAt 46 = .ok (.iload_n 1, 1) := by decide +kernel
theorem d_D_letterAt_47 : decode b_D_letterAt 47 = .ok (.iload 6, 2) := by decide +kernel
theorem d_D_letterAt_49 : decode b_D_letterAt 49 = .ok (.iadd, 1) := by decide +kernel
theorem d_D_letterAt_50 : decode b_D_letterAt 50 = .ok (.iload_n 2, 1) := by decide +kernel
theorem d_D_letterAt_51 : decode b_D_letterAt 51 = .ok (.if_icmp .lt 6, 3) := by decide +kernel
theorem d_D_letterAt_54 : decode b_D_letterAt 54 = .ok (.bipush (-2), 2) := by decide +kernel
theorem d_D_letterAt_56 : decode b_D_letterAt 56 = .ok (.ireturn, 1) := by decide +kernel
theorem d_D_letterAt_57 : decode b_D_letterAt 57 = .ok (.aload_n 0, 1) := by decide +kernel
theorem d_D_letterAt_58 : decode b_D_letterAt 58 = .ok (.iload_n 1, 1) := by decide +kernel
theorem d_D_letterAt_59 : decode b_D_letterAt 59 = .ok (.iload 6, 2) := by decide +kernel
theorem d_D_letterAt_61 : decode b_D_letterAt 61 = .ok (.iadd, 1) := by decide +kernel
theorem d_D_letterAt_62 : decode b_D_letterAt 62 = .ok (.invokevirtual 92, 3) := by decide +kernel
theorem d_D_letterAt_65 : decode b_D_letterAt 65 = .ok (.istore 7, 2) := by decide +kernel
theorem d_D_letterAt_67 : decode b_D_letterAt 67 = .ok (.iload 7, 2) := by decide +kernel
theorem d_D_letterAt_69 : decode b_D_letterAt 69 = .ok (.sipush 128, 3) := by decide +kernel
theorem d_D_letterAt_72 : decode b_D_letterAt 72 = .ok (.if_icmp .lt 11, 3) := by decide +kernel
theorem d_D_letterAt_75 : decode b_D_letterAt 75 = .ok (.iload 7, 2) := by decide +kernel
theorem d_D_letterAt_77 : decode b_D_letterAt 77 = .ok (.sipush 191, 3) := by decide +kernel
theorem d_D_letterAt_80 : decode b_D_letterAt 80 = .ok (.if_icmp .le 5, 3) := by decide +kernel
theorem d_D_letterAt_83 : decode b_D_letterAt 83 = .ok (.iconst (-1), 1) := by decide +kernel
theorem d_D_letterAt_84 : decode b_D_letterAt 84 = .ok (.ireturn, 1) := by decide +kernel
theorem d_D_letterAt_85 : decode b_D_letterAt 85 = .ok (.iload 5, 2) := by decide +kernel
theorem d_D_letterAt_87 : decode b_D_letterAt 87 = .ok (.bipush 6, 2) := by decide +kernel
theorem d_D_letterAt_89 : decode b_D_letterAt 89 = .ok (.ishl, 1) := by decide +kernel
theorem d_D_letterAt_90 : decode b_D_letterAt 90 = .ok (.iload 7, 2) := by decide +kernel
theorem d_D_letterAt_92 : decode b_D_letterAt 92 = .ok (.bipush 63, 2) := by decide +kernel
theorem d_D_letterAt_94 : decode b_D_letterAt 94 = .ok (.iand, 1) := by decide +kernel
theorem d_D_letterAt_95 : decode b_D_letterAt 95 = .ok (.ior, 1) := by decide +kernel
theorem d_D_letterAt_96 : decode b_D_letterAt 96 = .ok (.istore 5, 2) := by decide +kernel
theorem d_D_letterAt_98 : decode b_D_letterAt 98 = .ok (.iload 5, 2) := by decide +kernel
theorem d_D_letterAt_100 : decode b_D_letterAt 100 = .ok (.bipush 6, 2) := by decide +kernel
theorem d_D_letterAt_102 : decode b_D_letterAt 102 = .ok (.iload 4, 2) := by decide +kernel
theorem d_D_letterAt_104 : decode b_D_letterAt 104 = .ok (.iconst 1, 1) := by decide +kernel
theorem d_D_letterAt_105 : decode b_D_letterAt 105 = .ok (.isub, 1) := by decide +kernel
theorem d_D_letterAt_106 : decode b_D_letterAt 106 = .ok (.iload 6, 2) := by decide +kernel
theorem d_D_letterAt_108 : decode b_D_letterAt 108 = .ok (.isub, 1) := by decide +kernel
theorem d_D_letterAt_109 : decode b_D_letterAt 109 = .ok (.imul, 1) := by decide +kernel
theorem d_D_letterAt_110 : decode b_D_letterAt 110 = .ok (.ishl, 1) := by decide +kernel
theorem d_D_letterAt_111 : decode b_D_letterAt 111 = .ok (.invokestatic 51, 3) := by decide +kernel
theorem d_D_letterAt_114 : decode b_D_letterAt 114 = .ok (.iload 4, 2) := by decide +kernel
theorem d_D_letterAt_116 : decode b_D_letterAt 116 = .ok (.if_icmp .eq 5, 3) := by decide +kernel
theorem d_D_letterAt_119 : decode b_D_letterAt 119 = .ok (.iconst (-1), 1) := by decide +kernel
theorem d_D_letterAt_120 : decode b_D_letterAt 120 = .ok (.ireturn, 1) := by decide +kernel
theorem d_D_letterAt_121 : decode b_D_letterAt 121 = .ok (.iinc 6 1, 3) := by decide +kernel
theorem d_D_letterAt_124 : decode b_D_letterAt 124 = .ok (.goto (-85), 3) := by decide +kernel
theorem d_D_letterAt_127 : decode b_D_letterAt 127 = .ok (.iload 5, 2) := by decide +kernel
theorem d_D_letterAt_129 : decode b_D_letterAt 129 = .ok (.ireturn, 1) := by decide +kernel
theorem d_D_sumOf_0 : decode b_D_sumOf 0 = .ok (.iconst (-1), 1) := by decide +kernel
theorem d_D_sumOf_1 : decode b_D_sumOf 1 = .ok (.istore_n 3, 1) := by decide +kernel
theorem d_D_sumOf_2 : decode b_D_sumOf 2 = .ok (.iconst 0, 1) := by decide +kernel
theorem d_D_sumOf_3 : decode b_D_sumOf 3 = .ok (.istore 4, 2) := by decide +kernel
theorem d_D_sumOf_5 : decode b_D_sumOf 5 = .ok (.iload 4, 2) := by decide +kernel
theorem d_D_sumOf_7 : decode b_D_sumOf 7 = .ok (.iload_n 2, 1) := by decide +kernel
theorem d_D_sumOf_8 : decode b_D_sumOf 8 = .ok (.if_icmp .ge 55, 3) := by decide +kernel
theorem d_D_sumOf_11 : decode b_D_sumOf 11 = .ok (.iload_n 3, 1) := by decide +kernel
theorem d_D_sumOf_12 : decode b_D_sumOf 12 = .ok (.aload_n 0, 1) := by decide +kernel
theorem d_D_sumOf_13 : decode b_D_sumOf 13 = .ok (.iload_n 1, 1) := by decide +kernel
theorem d_D_sumOf_14 : decode b_D_sumOf 14 = .ok (.iload 4, 2) := by decide +kernel
theorem d_D_sumOf_16 : decode b_D_sumOf 16 = .ok (.iadd, 1) := by decide +kernel
theorem d_D_sumOf_17 : decode b_D_sumOf 17 = .ok (.invokevirtual 92, 3) := by decide +kernel
theorem d_D_sumOf_20 : decode b_D_sumOf 20 = .ok (.ixor, 1) := by decide +kernel
theorem d_D_sumOf_21 : decode b_D_sumOf 21 = .ok (.istore_n 3, 1) := by decide +kernel
theorem d_D_sumOf_22 : decode b_D_sumOf 22 = .ok (.iconst 0, 1) := by decide +kernel
theorem d_D_sumOf_23 : decode b_D_sumOf 23 = .ok (.istore 5, 2) := by decide +kernel
theorem d_D_sumOf_25 : decode b_D_sumOf 25 = .ok (.iload 5, 2) := by decide +kernel
theorem d_D_sumOf_27 : decode b_D_sumOf 27 = .ok (.bipush 8, 2) := by decide +kernel
theorem d_D_sumOf_29 : decode b_D_sumOf 29 = .ok (.if_icmp .ge 28, 3) := by decide +kernel
theorem d_D_sumOf_32 : decode b_D_sumOf 32 = .ok (.iload_n 3, 1) := by decide +kernel
theorem d_D_sumOf_33 : decode b_D_sumOf 33 = .ok (.iconst 1, 1) := by decide +kernel
theorem d_D_sumOf_34 : decode b_D_sumOf 34 = .ok (.iand, 1) := by decide +kernel
theorem d_D_sumOf_35 : decode b_D_sumOf 35 = .ok (.ifCond .eq 12, 3) := by decide +kernel
theorem d_D_sumOf_38 : decode b_D_sumOf 38 = .ok (.iload_n 3, 1) := by decide +kernel
theorem d_D_sumOf_39 : decode b_D_sumOf 39 = .ok (.iconst 1, 1) := by decide +kernel
theorem d_D_sumOf_40 : decode b_D_sumOf 40 = .ok (.iushr, 1) := by decide +kernel
theorem d_D_sumOf_41 : decode b_D_sumOf 41 = .ok (.ldc 194, 2) := by decide +kernel
theorem d_D_sumOf_43 : decode b_D_sumOf 43 = .ok (.ixor, 1) := by decide +kernel
theorem d_D_sumOf_44 : decode b_D_sumOf 44 = .ok (.goto 6, 3) := by decide +kernel
theorem d_D_sumOf_47 : decode b_D_sumOf 47 = .ok (.iload_n 3, 1) := by decide +kernel
theorem d_D_sumOf_48 : decode b_D_sumOf 48 = .ok (.iconst 1, 1) := by decide +kernel
theorem d_D_sumOf_49 : decode b_D_sumOf 49 = .ok (.iushr, 1) := by decide +kernel
theorem d_D_sumOf_50 : decode b_D_sumOf 50 = .ok (.istore_n 3, 1) := by decide +kernel
theorem d_D_sumOf_51 : decode b_D_sumOf 51 = .ok (.iinc 5 1, 3) := by decide +kernel
theorem d_D_sumOf_54 : decode b_D_sumOf 54 = .ok (.goto (-29), 3) := by decide +kernel
theorem d_D_sumOf_57 : decode b_D_sumOf 57 = .ok (.iinc 4 1, 3) := by decide +kernel
theorem d_D_sumOf_60 : decode b_D_sumOf 60 = .ok (.goto (-55), 3) := by decide +kernel
theorem d_D_sumOf_63 : decode b_D_sumOf 63 = .ok (.iload_n 3, 1) := by decide +kernel
theorem d_D_sumOf_64 : decode b_D_sumOf 64 = .ok (.iconst (-1), 1) := by decide +kernel
theorem d_D_sumOf_65 : decode b_D_sumOf 65 = .ok (.ixor, 1) := by decide +kernel
theorem d_D_sumOf_66 : decode b_D_sumOf 66 = .ok (.ireturn, 1) := by decide +kernel
theorem d_D_addBytes_0 : decode b_D_addBytes 0 = .ok (.aload_n 1, 1) := by decide +kernel
theorem d_D_addBytes_1 : decode b_D_addBytes 1 = .ok (.getfield 95, 3) := by decide +kernel
theorem d_D_addBytes_4 : decode b_D_addBytes 4 = .ok (.iload_n 2, 1) := by decide +kernel
theorem d_D_addBytes_5 : decode b_D_addBytes 5 = .ok (.aload_n 0, 1) := by decide +kernel
theorem d_D_addBytes_6 : decode b_D_addBytes 6 = .ok (.getfield 95, 3) := by decide +kernel
theorem d_D_addBytes_9 : decode b_D_addBytes 9 = .ok (.aload_n 0, 1) := by decide +kernel
theorem d_D_addBytes_10 : decode b_D_addBytes 10 = .ok (.getfield 43, 3) := by decide +kernel
theorem d_D_addBytes_13 : decode b_D_addBytes 13 = .ok (.iload_n 3, 1) := by decide +kernel
theorem d_D_addBytes_14 : decode b_D_addBytes 14 = .ok (.invokestatic 195, 3) := by decide +kernel
theorem d_D_addBytes_17 : decode b_D_addBytes 17 = .ok (.aload_n 0, 1) := by decide +kernel
theorem d_D_addBytes_18 : decode b_D_addBytes 18 = .ok (.dup, 1) := by decide +kernel
theorem d_D_addBytes_19 : decode b_D_addBytes 19 = .ok (.getfield 43, 3) := by decide +kernel
theorem d_D_addBytes_22 : decode b_D_addBytes 22 = .ok (.iload_n 3, 1) := by decide +kernel
theorem d_D_addBytes_23 : decode b_D_addBytes 23 = .ok (.iadd, 1) := by decide +kernel
theorem d_D_addBytes_24 : decode b_D_addBytes 24 = .ok (.putfield 43, 3) := by decide +kernel
theorem d_D_addBytes_27 : decode b_D_addBytes 27 = .ok (.return_, 1) := by decide +kernel
theorem d_D_moveBytes_0 : decode b_D_moveBytes 0 = .ok (.aload_n 0, 1) := by decide +kernel
theorem d_D_moveBytes_1 : decode b_D_moveBytes 1 = .ok (.getfield 95, 3) := by decide +kernel
theorem d_D_moveBytes_4 : decode b_D_moveBytes 4 = .ok (.iload_n 1, 1) := by decide +kernel
theorem d_D_moveBytes_5 : decode b_D_moveBytes 5 = .ok (.aload_n 3, 1) := by decide +kernel
theorem d_D_moveBytes_6 : decode b_D_moveBytes 6 = .ok (.getfield 95, 3) := by decide +kernel
theorem d_D_moveBytes_9 : decode b_D_moveBytes 9 = .ok (.iconst 0, 1) := by decide +kernel
theorem d_D_moveBytes_10 : decode b_D_moveBytes 10 = .ok (.iload_n 2, 1) := by decide +kernel
theorem d_D_moveBytes_11 : decode b_D_moveBytes 11 = .ok (.invokestatic 195, 3) := by decide +kernel
theorem d_D_moveBytes_14 : decode b_D_moveBytes 14 = .ok (.aload_n 3, 1) := by decide +kernel
theorem d_D_moveBytes_15 : decode b_D_moveBytes 15 = .ok (.iload_n 2, 1) := by decide +kernel
theorem d_D_moveBytes_16 : decode b_D_moveBytes 16 = .ok (.putfield 43, 3) := by decide +kernel
theorem d_D_moveBytes_19 : decode b_D_moveBytes 19 = .ok (.aload_n 3, 1) := by decide +kernel
theorem d_D_moveBytes_20 : decode b_D_moveBytes 20 = .ok (.iconst 0, 1) := by decide +kernel
theorem d_D_moveBytes_21 : decode b_D_moveBytes 21 = .ok (.putfield 87, 3) := by decide +kernel
theorem d_D_moveBytes_24 : decode b_D_moveBytes 24 = .ok (.aload_n 0, 1) := by decide +kernel
theorem d_D_moveBytes_25 : decode b_D_moveBytes 25 = .ok (.iload_n 1, 1) := by decide +kernel
theorem d_D_moveBytes_26 : decode b_D_moveBytes 26 = .ok (.iload_n 2, 1) := by decide +kernel
theorem d_D_moveBytes_27 : decode b_D_moveBytes 27 = .ok (.iadd, 1) := by decide +kernel
theorem d_D_moveBytes_28 : decode b_D_moveBytes 28 = .ok (.putfield 87, 3) := by decide +kernel
theorem d_D_moveBytes_31 : decode b_D_moveBytes 31 = .ok (.return_, 1) := by decide +kernel
end
section
/-! THE START AS THROWS NEED IT: Throwable's two statics, the texts -/
def tx_strs : List (Nat × String) := [(151, "no such row"), (154, "a number has 1 to 8 bytes"), (160, "the row would be too long"), (57, "no such letter"), (85, "the row has not so many bytes"), (90, "no such bit"), (99, "no such place"), (163, "the row ends before it is whole"), (173, "the last of several sevens is 0"), (175, "sevens of more than 64 bits"), (171, "sevens of more than ten bytes"), (115, "the bytes of no letter"), (119, "the row ends within a letter"), (156, "a row is not read into itself"), (183, "more bytes than a block can have"), (140, "the sum is another one"), (143, "not whole letters"), (145, "what is 0, 1 or 2"), (147, "no such byte")]
def tx_st4 : List Cond := [.laysStatic Bundle.tN "UNASSIGNED_STACK" Bundle.steD, .laysStatic Bundle.tN "SUPPRESSED_SENTINEL" Bundle.listD, .isRef (.static Bundle.tN "UNASSIGNED_STACK" Bundle.steD), .isRef (.static Bundle.tN "SUPPRESSED_SENTINEL" Bundle.listD)]
def tx_G (U : State) : Prop := (Cond.initialized Bundle.tN).before #[] U = true ∧ (∀ w ∈ tx_st4, w.before #[] U = true) ∧ ∀ z ∈ tx_strs, ∃ a : Nat, vk_R "PacketDesk" z.1 z.2 a U
theorem tx_ls {C n d : String} {s U : State} {a' : Array Value} (hW : s.WarmedH U.vm) (hh : ∀ q : Nat, q < s.heap.size → U.heap[q]? = s.heap[q]?) (h : (Cond.laysStatic C n d).before #[] s = true) : (Cond.laysStatic C n d).before a' U = true := by
  obtain ⟨c, k, i, f, a, cell, h1, h2, h3, h4, h5, h6, h7, h8, h9⟩ := Cond.laysStatic_spec h
  obtain ⟨k', hi', he⟩ := State.fieldFound?_setVm hW.alike h2
  show (Cond.laysStatic C n d).holds a' U none U [] = true
  exact Cond.laysStatic_of (by rw [hW.alike.findClass]; exact h1) hi' h3 (by rw [he]; exact h4) (by rw [hh a (Array.getElem?_eq_some_iff.mp h5).1]; exact h5) h6 h7 h8 (by rw [he]; exact h9)
theorem tx_ir {C n d : String} {s U : State} {a' : Array Value} (hW : s.WarmedH U.vm) (hh : ∀ q : Nat, q < s.heap.size → U.heap[q]? = s.heap[q]?) (hi : (Cond.initialized C).before #[] s = true) (hl : (Cond.laysStatic C n d).before #[] s = true) (h : (Cond.isRef (.static C n d)).before #[] s = true) : (Cond.isRef (.static C n d)).before a' U = true := by
  have hz : va_Zq C n d (fun _ => False) U U.heap := va_Zq.kept (va_Zq.moved hW.alike (va_Zqof (A := fun _ => False) hl hi h (fun _ _ h => h))) (fun q hq _ => hh q hq)
  have key : ∀ v : Value, v.isRef = true → va_Z C n d v (fun _ => False) U U.heap → (Cond.isRef (.static C n d)).before a' U = true := by
    intro v hv hz
    obtain ⟨cf, kf, fi, f, a, cell, h1, h2, h3, h4, h5, h6, h7, -⟩ := hz
    have he : (Term.static C n d).eval a' U none [] U = some v := by
      simp [Term.eval, State.fieldNamed?, h1, h2, h4, h5, h6, h7]
    simp only [Cond.before, Cond.holds, Cond.value, he]
    cases v <;> simp_all [Value.isRef]
  rcases hz with h | ⟨t, h⟩
  · exact key _ rfl h
  · exact key _ rfl h
theorem tx_G.go {s U : State} (hG : tx_G s) (hW : s.WarmedH U.vm) (hh : ∀ q : Nat, q < s.heap.size → U.heap[q]? = s.heap[q]?) : tx_G U := by
  obtain ⟨h1, h2, h3⟩ := hG
  refine ⟨word_at hW (Or.inl (by first | rfl | simp [Cond.onTables, Cond.keeps, Cond.steady])) h1, ?_, fun z hz => ?_⟩
  · have l1 := h2 _ (by simp [tx_st4] : Cond.laysStatic Bundle.tN "UNASSIGNED_STACK" Bundle.steD ∈ tx_st4)
    have l2 := h2 _ (by simp [tx_st4] : Cond.laysStatic Bundle.tN "SUPPRESSED_SENTINEL" Bundle.listD ∈ tx_st4)
    have r1 := h2 _ (by simp [tx_st4] : Cond.isRef (.static Bundle.tN "UNASSIGNED_STACK" Bundle.steD) ∈ tx_st4)
    have r2 := h2 _ (by simp [tx_st4] : Cond.isRef (.static Bundle.tN "SUPPRESSED_SENTINEL" Bundle.listD) ∈ tx_st4)
    intro w hw
    simp only [tx_st4, List.mem_cons, List.not_mem_nil, or_false] at hw
    rcases hw with rfl | rfl | rfl | rfl
    · exact tx_ls hW hh l1
    · exact tx_ls hW hh l2
    · exact tx_ir hW hh h1 l1 r1
    · exact tx_ir hW hh h1 l2 r2
  · obtain ⟨a, ha⟩ := h3 z hz
    exact ⟨a, vk_R.warm hW ha⟩
theorem tx_ok {args : Array Value} {s : State} (hA : ∀ w ∈ wsA, w.before args s = true) (hG : tx_G s) {L : List Cond} (hL : ∀ w ∈ L, w ∈ wsA ∨ w ∈ tx_st4) : ∀ w ∈ L, w.before args s = true := by
  intro w hw
  rcases hL w hw with h | h
  · exact hA w h
  · have h2 := hG.2.1 w h
    simp only [tx_st4, List.mem_cons, List.not_mem_nil, or_false] at h
    rcases h with rfl | rfl | rfl | rfl
    · exact h2
    · exact h2
    · exact h2
    · exact h2
def tx_six : ByteArray := ⟨#[0x2a, 0x2b, 0xb7, 0x00, 0x07, 0xb1]⟩
def tx_13 : ByteArray := ⟨#[0x2a, 0x2b, 0xb7, 0x00, 0x0d, 0xb1]⟩
abbrev X_IOOBE : String := "java/lang/IndexOutOfBoundsException"
theorem at_IOOBE : ∀ w ∈ tx_atoms R_D 153 X_IOOBE "java/lang/RuntimeException" 7 tx_six ["java/lang/Exception"], w ∈ wsA ∨ w ∈ tx_st4 := by decide +kernel
theorem th_IOOBE {p : Program} {l : Launch} {e : Env} {R : Room} {s : State} {m : MethodId} {args : Array Value} {below : List Frame} {meth : Method} {c : Code} {H : Heap} {cells slots : Nat} {pc nL is : Nat} {ls : Array Slot} {cc : ByteArray} {tx : String} {free : Addr → Prop} {thr : String → Prop} {Qr : Array Value → State → Outcome → State → Prop}
    (hx : p.tables.exec = Jvm.exec) (hb : c.code = cc) (hml : c.maxLocals = nL) (hlocks : meth.locks = false) (hce : c.exceptionTable.isEmpty = true) (htr : e.platform.stackTraces = false) (hown : s.vm.findClass R_D = some m.cls) (hA : ∀ w ∈ wsA, w.before args s = true) (hG : tx_G s) (hls : ls.size = nL) {st : List Value} (hst : (st.map fun v => v.category).sum ≤ 8) (hs : (is, tx) ∈ tx_strs)
    (d0 : decode cc pc = .ok (.new 149, 3)) (d3 : decode cc (pc + 3) = .ok (.dup, 1)) (d4 : decode cc (pc + 4) = .ok (.ldc is, 2)) (d6 : decode cc (pc + 6) = .ok (.invokespecial 153, 3)) (d9 : decode cc (pc + 9) = .ok (.athrow, 1))
    (hRf : 6 ≤ R.frames) (hRl : 90 ≤ R.locals) (hRc : cells + 1 ≤ R.cells) (hRs : slots + 6 ≤ R.slots) (ht : thr X_IOOBE) : W p l e R s m args below meth c H [] cells slots (tx_MQ below (tx_Q thr Qr) args s cells slots free) (F0 m pc ls st) := by
  obtain ⟨q, hZ⟩ := hG.2.2 _ hs
  exact tx_throw hx hb hml hlocks hce htr hown (by decide +kernel) (by decide +kernel) (by decide +kernel) (by decide +kernel) (by decide +kernel) (by decide +kernel) (by decide +kernel) (tx_ok hA hG at_IOOBE) (hA _ (by decide +kernel)) (hA _ (by decide +kernel)) hZ hls hst d0 d3 d4 d6 d9 (by show 1 + 4 < _; omega) (by show 13 * (1 + 2) + 51 ≤ _; omega) hRc hRs (fun x t hE => Or.inr ⟨x, _, rfl, ht, hE⟩)
abbrev X_IAE : String := "java/lang/IllegalArgumentException"
theorem at_IAE : ∀ w ∈ tx_atoms R_D 59 X_IAE "java/lang/RuntimeException" 7 tx_six ["java/lang/Exception"], w ∈ wsA ∨ w ∈ tx_st4 := by decide +kernel
theorem th_IAE {p : Program} {l : Launch} {e : Env} {R : Room} {s : State} {m : MethodId} {args : Array Value} {below : List Frame} {meth : Method} {c : Code} {H : Heap} {cells slots : Nat} {pc nL is : Nat} {ls : Array Slot} {cc : ByteArray} {tx : String} {free : Addr → Prop} {thr : String → Prop} {Qr : Array Value → State → Outcome → State → Prop}
    (hx : p.tables.exec = Jvm.exec) (hb : c.code = cc) (hml : c.maxLocals = nL) (hlocks : meth.locks = false) (hce : c.exceptionTable.isEmpty = true) (htr : e.platform.stackTraces = false) (hown : s.vm.findClass R_D = some m.cls) (hA : ∀ w ∈ wsA, w.before args s = true) (hG : tx_G s) (hls : ls.size = nL) {st : List Value} (hst : (st.map fun v => v.category).sum ≤ 8) (hs : (is, tx) ∈ tx_strs)
    (d0 : decode cc pc = .ok (.new 55, 3)) (d3 : decode cc (pc + 3) = .ok (.dup, 1)) (d4 : decode cc (pc + 4) = .ok (.ldc is, 2)) (d6 : decode cc (pc + 6) = .ok (.invokespecial 59, 3)) (d9 : decode cc (pc + 9) = .ok (.athrow, 1))
    (hRf : 6 ≤ R.frames) (hRl : 90 ≤ R.locals) (hRc : cells + 1 ≤ R.cells) (hRs : slots + 6 ≤ R.slots) (ht : thr X_IAE) : W p l e R s m args below meth c H [] cells slots (tx_MQ below (tx_Q thr Qr) args s cells slots free) (F0 m pc ls st) := by
  obtain ⟨q, hZ⟩ := hG.2.2 _ hs
  exact tx_throw hx hb hml hlocks hce htr hown (by decide +kernel) (by decide +kernel) (by decide +kernel) (by decide +kernel) (by decide +kernel) (by decide +kernel) (by decide +kernel) (tx_ok hA hG at_IAE) (hA _ (by decide +kernel)) (hA _ (by decide +kernel)) hZ hls hst d0 d3 d4 d6 d9 (by show 1 + 4 < _; omega) (by show 13 * (1 + 2) + 51 ≤ _; omega) hRc hRs (fun x t hE => Or.inr ⟨x, _, rfl, ht, hE⟩)
abbrev X_ISE : String := "java/lang/IllegalStateException"
theorem at_ISE : ∀ w ∈ tx_atoms R_D 162 X_ISE "java/lang/RuntimeException" 7 tx_six ["java/lang/Exception"], w ∈ wsA ∨ w ∈ tx_st4 := by decide +kernel
theorem th_ISE {p : Program} {l : Launch} {e : Env} {R : Room} {s : State} {m : MethodId} {args : Array Value} {below : List Frame} {meth : Method} {c : Code} {H : Heap} {cells slots : Nat} {pc nL is : Nat} {ls : Array Slot} {cc : ByteArray} {tx : String} {free : Addr → Prop} {thr : String → Prop} {Qr : Array Value → State → Outcome → State → Prop}
    (hx : p.tables.exec = Jvm.exec) (hb : c.code = cc) (hml : c.maxLocals = nL) (hlocks : meth.locks = false) (hce : c.exceptionTable.isEmpty = true) (htr : e.platform.stackTraces = false) (hown : s.vm.findClass R_D = some m.cls) (hA : ∀ w ∈ wsA, w.before args s = true) (hG : tx_G s) (hls : ls.size = nL) {st : List Value} (hst : (st.map fun v => v.category).sum ≤ 8) (hs : (is, tx) ∈ tx_strs)
    (d0 : decode cc pc = .ok (.new 158, 3)) (d3 : decode cc (pc + 3) = .ok (.dup, 1)) (d4 : decode cc (pc + 4) = .ok (.ldc is, 2)) (d6 : decode cc (pc + 6) = .ok (.invokespecial 162, 3)) (d9 : decode cc (pc + 9) = .ok (.athrow, 1))
    (hRf : 6 ≤ R.frames) (hRl : 90 ≤ R.locals) (hRc : cells + 1 ≤ R.cells) (hRs : slots + 6 ≤ R.slots) (ht : thr X_ISE) : W p l e R s m args below meth c H [] cells slots (tx_MQ below (tx_Q thr Qr) args s cells slots free) (F0 m pc ls st) := by
  obtain ⟨q, hZ⟩ := hG.2.2 _ hs
  exact tx_throw hx hb hml hlocks hce htr hown (by decide +kernel) (by decide +kernel) (by decide +kernel) (by decide +kernel) (by decide +kernel) (by decide +kernel) (by decide +kernel) (tx_ok hA hG at_ISE) (hA _ (by decide +kernel)) (hA _ (by decide +kernel)) hZ hls hst d0 d3 d4 d6 d9 (by show 1 + 4 < _; omega) (by show 13 * (1 + 2) + 51 ≤ _; omega) hRc hRs (fun x t hE => Or.inr ⟨x, _, rfl, ht, hE⟩)
abbrev X_NSEE : String := "java/util/NoSuchElementException"
theorem at_NSEE : ∀ w ∈ tx_atoms R_D 121 X_NSEE "java/lang/RuntimeException" 13 tx_13 ["java/lang/Exception"], w ∈ wsA ∨ w ∈ tx_st4 := by decide +kernel
theorem th_NSEE {p : Program} {l : Launch} {e : Env} {R : Room} {s : State} {m : MethodId} {args : Array Value} {below : List Frame} {meth : Method} {c : Code} {H : Heap} {cells slots : Nat} {pc nL is : Nat} {ls : Array Slot} {cc : ByteArray} {tx : String} {free : Addr → Prop} {thr : String → Prop} {Qr : Array Value → State → Outcome → State → Prop}
    (hx : p.tables.exec = Jvm.exec) (hb : c.code = cc) (hml : c.maxLocals = nL) (hlocks : meth.locks = false) (hce : c.exceptionTable.isEmpty = true) (htr : e.platform.stackTraces = false) (hown : s.vm.findClass R_D = some m.cls) (hA : ∀ w ∈ wsA, w.before args s = true) (hG : tx_G s) (hls : ls.size = nL) {st : List Value} (hst : (st.map fun v => v.category).sum ≤ 8) (hs : (is, tx) ∈ tx_strs)
    (d0 : decode cc pc = .ok (.new 117, 3)) (d3 : decode cc (pc + 3) = .ok (.dup, 1)) (d4 : decode cc (pc + 4) = .ok (.ldc is, 2)) (d6 : decode cc (pc + 6) = .ok (.invokespecial 121, 3)) (d9 : decode cc (pc + 9) = .ok (.athrow, 1))
    (hRf : 6 ≤ R.frames) (hRl : 90 ≤ R.locals) (hRc : cells + 1 ≤ R.cells) (hRs : slots + 6 ≤ R.slots) (ht : thr X_NSEE) : W p l e R s m args below meth c H [] cells slots (tx_MQ below (tx_Q thr Qr) args s cells slots free) (F0 m pc ls st) := by
  obtain ⟨q, hZ⟩ := hG.2.2 _ hs
  exact tx_throw hx hb hml hlocks hce htr hown (by decide +kernel) (by decide +kernel) (by decide +kernel) (by decide +kernel) (by decide +kernel) (by decide +kernel) (by decide +kernel) (tx_ok hA hG at_NSEE) (hA _ (by decide +kernel)) (hA _ (by decide +kernel)) hZ hls hst d0 d3 d4 d6 d9 (by show 1 + 4 < _; omega) (by show 13 * (1 + 2) + 51 ≤ _; omega) hRc hRs (fun x t hE => Or.inr ⟨x, _, rfl, ht, hE⟩)
abbrev X_UOE : String := "java/lang/UnsupportedOperationException"
theorem at_UOE : ∀ w ∈ tx_atoms R_D 142 X_UOE "java/lang/RuntimeException" 7 tx_six ["java/lang/Exception"], w ∈ wsA ∨ w ∈ tx_st4 := by decide +kernel
theorem th_UOE {p : Program} {l : Launch} {e : Env} {R : Room} {s : State} {m : MethodId} {args : Array Value} {below : List Frame} {meth : Method} {c : Code} {H : Heap} {cells slots : Nat} {pc nL is : Nat} {ls : Array Slot} {cc : ByteArray} {tx : String} {free : Addr → Prop} {thr : String → Prop} {Qr : Array Value → State → Outcome → State → Prop}
    (hx : p.tables.exec = Jvm.exec) (hb : c.code = cc) (hml : c.maxLocals = nL) (hlocks : meth.locks = false) (hce : c.exceptionTable.isEmpty = true) (htr : e.platform.stackTraces = false) (hown : s.vm.findClass R_D = some m.cls) (hA : ∀ w ∈ wsA, w.before args s = true) (hG : tx_G s) (hls : ls.size = nL) {st : List Value} (hst : (st.map fun v => v.category).sum ≤ 8) (hs : (is, tx) ∈ tx_strs)
    (d0 : decode cc pc = .ok (.new 138, 3)) (d3 : decode cc (pc + 3) = .ok (.dup, 1)) (d4 : decode cc (pc + 4) = .ok (.ldc is, 2)) (d6 : decode cc (pc + 6) = .ok (.invokespecial 142, 3)) (d9 : decode cc (pc + 9) = .ok (.athrow, 1))
    (hRf : 6 ≤ R.frames) (hRl : 90 ≤ R.locals) (hRc : cells + 1 ≤ R.cells) (hRs : slots + 6 ≤ R.slots) (ht : thr X_UOE) : W p l e R s m args below meth c H [] cells slots (tx_MQ below (tx_Q thr Qr) args s cells slots free) (F0 m pc ls st) := by
  obtain ⟨q, hZ⟩ := hG.2.2 _ hs
  exact tx_throw hx hb hml hlocks hce htr hown (by decide +kernel) (by decide +kernel) (by decide +kernel) (by decide +kernel) (by decide +kernel) (by decide +kernel) (by decide +kernel) (tx_ok hA hG at_UOE) (hA _ (by decide +kernel)) (hA _ (by decide +kernel)) hZ hls hst d0 d3 d4 d6 d9 (by show 1 + 4 < _; omega) (by show 13 * (1 + 2) + 51 ≤ _; omega) hRc hRs (fun x t hE => Or.inr ⟨x, _, rfl, ht, hE⟩)
end
section
/-! ===== lN n to 2^64: shifts, and, or, masks, one bit ===== -/
theorem wb_tb (n : Nat) : (lN n).toBitVec = BitVec.ofNat 64 n := rfl
theorem wb_inj {a b : Int64} (h : a.toBitVec = b.toBitVec) : a = b := Int64.toBitVec_inj.mp h
theorem wb_tn {n : Nat} (h : n < 2 ^ 64) : (lN n).toBitVec.toNat = n := by rw [wb_tb, BitVec.toNat_ofNat, Nat.mod_eq_of_lt h]
theorem wb_of (x : Int64) : ∃ n, n < 2 ^ 64 ∧ x = lN n := ⟨x.toBitVec.toNat, x.toBitVec.isLt, wb_inj (by rw [wb_tb]; simp)⟩
theorem wb_of32 (x : Int32) : ∃ n, n < 2 ^ 32 ∧ x = nI n := ⟨x.toBitVec.toNat, x.toBitVec.isLt, Int32.toBitVec_inj.mp (by show _ = BitVec.ofNat 32 _; simp)⟩
theorem wb_c : ∀ k, k < 64 → ((nI k).toInt64 &&& 63) = lN k := by decide +kernel
theorem wb_cu : ∀ k, k < 64 → ((nI k).toInt64.toUInt64 &&& Int64.toUInt64 63) = UInt64.ofNat k := by decide +kernel
theorem wb_sm : ∀ k, k < 64 → (BitVec.ofNat 64 k).smod 64 = BitVec.ofNat 64 k := by decide +kernel
theorem wb_pw {a b : Nat} (h : a ≤ b) : 2 ^ b = 2 ^ a * 2 ^ (b - a) := by rw [← Nat.pow_add]; congr 1; omega
theorem wb_lt2 {a b : Nat} (h : a < b) : 2 ^ a < 2 ^ b := Nat.pow_lt_pow_right (by decide) h
theorem wb_mod (n : Nat) : lN n = lN (n % 2 ^ 64) := wb_inj (by rw [wb_tb, wb_tb]; apply BitVec.eq_of_toNat_eq; rw [BitVec.toNat_ofNat, BitVec.toNat_ofNat, Nat.mod_mod])
theorem wb_shr {n k : Nat} (hn : n < 2 ^ 64) (hk : k < 64) : ((lN n).toUInt64 >>> ((nI k).toInt64.toUInt64 &&& Int64.toUInt64 63)).toInt64 = lN (n / 2 ^ k) := by
  rw [wb_cu k hk]
  apply wb_inj
  apply BitVec.eq_of_toNat_eq
  show ((lN n).toUInt64 >>> UInt64.ofNat k).toNat = (BitVec.ofNat 64 _).toNat
  have h1 : (UInt64.ofNat k).toNat = k := by
    show (BitVec.ofNat 64 k).toNat = k
    rw [BitVec.toNat_ofNat, Nat.mod_eq_of_lt (by omega)]
  have h2 : (lN n).toUInt64.toNat = n := wb_tn hn
  rw [UInt64.toNat_shiftRight, h1, h2, Nat.mod_eq_of_lt hk, Nat.shiftRight_eq_div_pow, BitVec.toNat_ofNat, Nat.mod_eq_of_lt (Nat.lt_of_le_of_lt (Nat.div_le_self _ _) hn)]
theorem wb_shl (n : Nat) {k : Nat} (hk : k < 64) : lN n <<< ((nI k).toInt64 &&& 63) = lN (n * 2 ^ k) := by
  rw [wb_c k hk]
  apply wb_inj
  rw [Int64.toBitVec_shiftLeft, wb_tb, wb_tb, wb_tb, wb_sm k hk]
  apply BitVec.eq_of_toNat_eq
  rw [BitVec.shiftLeft_eq', BitVec.toNat_shiftLeft, BitVec.toNat_ofNat, BitVec.toNat_ofNat, BitVec.toNat_ofNat, Nat.mod_eq_of_lt (show k < 2 ^ 64 by omega), Nat.shiftLeft_eq, Nat.mul_mod, Nat.mod_mod, ← Nat.mul_mod]
theorem wb_and {a b : Nat} (ha : a < 2 ^ 64) (hb : b < 2 ^ 64) : lN a &&& lN b = lN (a &&& b) := by
  apply wb_inj
  rw [Int64.toBitVec_and, wb_tb, wb_tb, wb_tb]
  apply BitVec.eq_of_toNat_eq
  rw [BitVec.toNat_and, BitVec.toNat_ofNat, BitVec.toNat_ofNat, BitVec.toNat_ofNat, Nat.mod_eq_of_lt ha, Nat.mod_eq_of_lt hb, Nat.mod_eq_of_lt (Nat.and_lt_two_pow _ hb)]
theorem wb_or {a b : Nat} (ha : a < 2 ^ 64) (hb : b < 2 ^ 64) : lN a ||| lN b = lN (a ||| b) := by
  apply wb_inj
  rw [Int64.toBitVec_or, wb_tb, wb_tb, wb_tb]
  apply BitVec.eq_of_toNat_eq
  rw [BitVec.toNat_or, BitVec.toNat_ofNat, BitVec.toNat_ofNat, BitVec.toNat_ofNat, Nat.mod_eq_of_lt ha, Nat.mod_eq_of_lt hb, Nat.mod_eq_of_lt (Nat.or_lt_two_pow ha hb)]
theorem wb_mask {n k : Nat} (hn : n < 2 ^ 64) (hk : k < 64) : lN n &&& lN (2 ^ k - 1) = lN (n % 2 ^ k) := by
  rw [wb_and hn (by have := wb_lt2 hk; omega), Nat.and_two_pow_sub_one_eq_mod]
theorem wb_a1 {n : Nat} (hn : n < 2 ^ 64) : lN n &&& 1 = lN (n % 2) := wb_mask (k := 1) hn (by decide)
theorem wb_bit {n k : Nat} (hn : n < 2 ^ 64) (hk : k < 64) : ((lN n).toUInt64 >>> ((nI k).toInt64.toUInt64 &&& Int64.toUInt64 63)).toInt64 &&& 1 = lN (n / 2 ^ k % 2) := by
  rw [wb_shr hn hk, wb_a1 (Nat.lt_of_le_of_lt (Nat.div_le_self _ _) hn)]
theorem wb_xor {q k : Nat} (hk : k < 63) (h : 2 ^ k ≤ q) (h2 : q < 2 ^ (k + 1)) : lN q ^^^ lN (2 ^ k) = lN (q - 2 ^ k) := by
  obtain ⟨r, rfl⟩ : ∃ r, q = 2 ^ k + r := ⟨q - 2 ^ k, by omega⟩
  have hr : r < 2 ^ k := by rw [Nat.pow_succ] at h2; omega
  have hx : (2 ^ k + r) ^^^ 2 ^ k = r := by
    apply Nat.eq_of_testBit_eq
    intro i
    rw [Nat.testBit_xor, Nat.testBit_two_pow]
    rcases Nat.lt_trichotomy i k with h | h | h
    · rw [Nat.testBit_two_pow_add_gt h]
      simp [show ¬ k = i by omega]
    · subst h
      rw [Nat.testBit_two_pow_add_eq]
      simp
    · have a1 : 2 ^ (k + 1) ≤ 2 ^ i := Nat.pow_le_pow_right (by decide) h
      rw [Nat.testBit_lt_two_pow (show 2 ^ k + r < 2 ^ i by omega), Nat.testBit_lt_two_pow (show r < 2 ^ i by omega)]
      simp [show ¬ k = i by omega]
  have b1 := wb_lt2 (show k + 1 < 64 by omega)
  have b2 := wb_lt2 (show k < 64 by omega)
  apply wb_inj
  rw [Int64.toBitVec_xor, wb_tb, wb_tb, wb_tb]
  apply BitVec.eq_of_toNat_eq
  rw [BitVec.toNat_xor, BitVec.toNat_ofNat, BitVec.toNat_ofNat, BitVec.toNat_ofNat, Nat.mod_eq_of_lt (by omega : 2 ^ k + r < 2 ^ 64), Nat.mod_eq_of_lt b2, hx, Nat.add_sub_cancel_left, Nat.mod_eq_of_lt (by omega)]
/-! ===== lN: masks, 'or' of parts that don't overlap is a sum ===== -/
theorem u_tn {n : Nat} (h : n < 2 ^ 64) : (UInt64.ofNat n).toNat = n := Nat.mod_eq_of_lt h
theorem g_and {a b c : Nat} (ha : a < 2 ^ 64) (hb : b < 2 ^ 64) (hc : a &&& b = c) : lN a &&& lN b = lN c := by
  subst hc
  have h : UInt64.ofNat a &&& UInt64.ofNat b = UInt64.ofNat (a &&& b) := UInt64.toNat_inj.mp (by rw [UInt64.toNat_and, u_tn ha, u_tn hb, u_tn (Nat.and_lt_two_pow a hb)])
  have h2 := congrArg UInt64.toInt64 h
  exact h2
theorem g_and1 {a : Nat} (ha : a < 2 ^ 64) : lN a &&& 1 = lN (a % 2) := g_and (b := 1) ha (by decide) (Nat.and_two_pow_sub_one_eq_mod a 1)
theorem g_mask {a s p : Nat} (hp : 2 ^ s = p) (hs : s < 64) (ha : a < 2 ^ 64) : lN a &&& lN (p - 1) = lN (a % p) := by
  subst hp
  have := Nat.pow_lt_pow_right (show 1 < 2 by decide) hs
  exact g_and ha (by omega) (Nat.and_two_pow_sub_one_eq_mod a s)
theorem g_or {k p a b : Nat} (hp : 2 ^ k = p) (ha : a < p) (h : b * p + a < 2 ^ 64) : lN (b * p) ||| lN a = lN (b * p + a) := by
  subst hp
  have h1 : b * 2 ^ k ||| a = b * 2 ^ k + a := by rw [← Nat.shiftLeft_eq, Nat.shiftLeft_add_eq_or_of_lt ha]
  have h3 : UInt64.ofNat (b * 2 ^ k) ||| UInt64.ofNat a = UInt64.ofNat (b * 2 ^ k + a) := UInt64.toNat_inj.mp (by rw [UInt64.toNat_or, u_tn (by omega), u_tn (by omega), u_tn h, h1])
  have h2 := congrArg UInt64.toInt64 h3
  exact h2
theorem g_or' {k p a b : Nat} (hp : 2 ^ k = p) (ha : a < p) (h : a + b * p < 2 ^ 64) : lN a ||| lN (b * p) = lN (a + b * p) := by
  rw [Int64.or_comm, g_or hp ha (by omega), Nat.add_comm]
theorem g_ushr {a k p : Nat} {y : UInt64} (hy : y = UInt64.ofNat k) (hk : k < 64) (hp : 2 ^ k = p) (ha : a < 2 ^ 64) : ((lN a).toUInt64 >>> y).toInt64 = lN (a / p) := by
  subst hy hp
  have h : UInt64.ofNat a >>> UInt64.ofNat k = UInt64.ofNat (a / 2 ^ k) := UInt64.toNat_inj.mp (by rw [UInt64.toNat_shiftRight, u_tn ha, u_tn (by omega), u_tn (Nat.lt_of_le_of_lt (Nat.div_le_self _ _) ha), Nat.mod_eq_of_lt hk, Nat.shiftRight_eq_div_pow])
  have h2 := congrArg UInt64.toInt64 h
  exact h2
theorem g_shl {a k p : Nat} {y : Int64} (hy : y.toBitVec.smod 64 = BitVec.ofNat 64 k) (hk : k < 64) (hp : 2 ^ k = p) (ha : a < 2 ^ 64) : lN a <<< y = lN (a * p) := by
  subst hp
  apply Int64.toBitVec_inj.mp
  rw [Int64.toBitVec_shiftLeft, hy]
  apply BitVec.eq_of_toNat_eq
  have hb : (lN a).toBitVec.toNat = a := Nat.mod_eq_of_lt ha
  have hk' : (BitVec.ofNat 64 k).toNat = k := Nat.mod_eq_of_lt (by omega)
  have h : ((lN a).toBitVec <<< BitVec.ofNat 64 k).toNat = (a * 2 ^ k) % 2 ^ 64 := by simp only [BitVec.shiftLeft_eq', BitVec.toNat_shiftLeft, hb, hk', Nat.shiftLeft_eq]
  exact h
end
section
/-! BYTES -/
theorem by_b (x : Int32) : x.toInt8.toInt32 = sb_b (x.toBitVec.toNat % 256) := by
  unfold sb_b
  congr 1
  apply Int8.toBitVec_inj.mp
  rw [Int32.toBitVec_toInt8, Int32.toBitVec_toInt8, BitVec.signExtend_eq_setWidth_of_le _ (by decide), BitVec.signExtend_eq_setWidth_of_le _ (by decide)]
  show x.toBitVec.setWidth 8 = (BitVec.ofNat 32 (x.toBitVec.toNat % 256)).setWidth 8
  apply BitVec.eq_of_toNat_eq
  simp only [BitVec.toNat_setWidth, BitVec.toNat_ofNat]
  omega
theorem by_up (B : Nat → Nat) {n : Nat} (hn : n < 2 ^ 31) (x : Int32) : upd (fun j => sb_b (B j)) (nI n).toNatClampNeg (vp_nar .byte x.toInt8.toInt32) = fun j => sb_b (va_up B n (x.toBitVec.toNat % 256) j) := by
  rw [pk_vb, nI_clamp hn, by_b]
  funext j
  simp only [upd, va_up]
  split <;> rfl
theorem by_lt {B : Nat → Nat} (h : ∀ j, B j < 256) {n v : Nat} (hv : v < 256) : ∀ j, va_up B n v j < 256 := by
  intro j
  unfold va_up
  split
  · exact hv
  · exact h j
theorem by_get {B : Nat → Nat} (h : ∀ j, B j < 256) {i : Nat} (hi : i < 2 ^ 31) : (fun j => sb_b (B j)) (nI i).toNatClampNeg &&& 255 = nI (B i) := by
  show sb_b (B (nI i).toNatClampNeg) &&& 255 = nI (B i)
  rw [nI_clamp hi]
  exact (sb_byte _ (h i)).1
/-! WHAT A METHOD STARTS FROM -/
def ox (D : va_G) (tys : List (ClassId × FieldType)) (ws : va_W) (U : State) : Prop := va_P D vCl ws U.heap ∧ va_K D vCl tys U
def oxg (D : va_G) (tys : List (ClassId × FieldType)) (ws : va_W) (U : State) : Prop := va_P D vCl ws U.heap ∧ va_K D vCl tys U ∧ tx_G U
def oxw (sz : Nat) (D : va_G) (tys : List (ClassId × FieldType)) (ws : va_W) (U : State) : Prop := U.heap.size = sz ∧ va_P D vCl ws U.heap ∧ va_K D vCl tys U ∧ va_D (fun _ => True) ws
def oxv (sz : Nat) (D : va_G) (tys : List (ClassId × FieldType)) (ws : va_W) (U : State) : Prop := U.heap.size = sz ∧ va_P D vCl ws U.heap ∧ va_K D vCl tys U ∧ va_D (fun _ => True) ws ∧ tx_G U
theorem tx_G.call {U : State} (h : tx_G U) (g : JFrame) (mk : MethodId) (a : Array Value) : tx_G (U.calling g mk a) := h.go (State.WarmedH.refl U) (fun _ _ => rfl)
section OX
variable {s : State} {H : Heap} {D : va_G} {tys : List (ClassId × FieldType)} {ws : va_W} {av As : List Value} {A : Nat → Prop} {C : String} {b : Nat}
theorem ox_b : FrameBlind (va_Pc av (ox D tys ws)) := fun a U g mk q => ⟨q.1, q.2.1, va_K.moved (u := U) (U := U.calling g mk a) (Vm.Alike.refl U.vm) q.2.2⟩
theorem oxg_b : FrameBlind (va_Pc av (oxg D tys ws)) := fun a U g mk q => ⟨q.1, q.2.1, va_K.moved (u := U) (U := U.calling g mk a) (Vm.Alike.refl U.vm) q.2.2.1, q.2.2.2.call g mk a⟩
theorem oxw_b {sz : Nat} : FrameBlind (va_Pc av (oxw sz D tys ws)) := fun a U g mk q => ⟨q.1, q.2.1, q.2.2.1, va_K.moved (u := U) (U := U.calling g mk a) (Vm.Alike.refl U.vm) q.2.2.2.1, q.2.2.2.2⟩
theorem oxv_b {sz : Nat} : FrameBlind (va_Pc av (oxv sz D tys ws)) := fun a U g mk q => ⟨q.1, q.2.1, q.2.2.1, va_K.moved (u := U) (U := U.calling g mk a) (Vm.Alike.refl U.vm) q.2.2.2.1, q.2.2.2.2.1, q.2.2.2.2.2.call g mk a⟩
theorem ox_S (hP : va_P D vCl ws H) (hK : va_K D vCl tys s) : PreS s H (va_Pc av (ox D tys ws)) av := ⟨ox_b, fun U hU hW => ⟨rfl, by rw [hU]; exact hP, va_K.moved hW.alike hK⟩⟩
theorem oxg_S (hP : va_P D vCl ws H) (hK : va_K D vCl tys s) (hG : tx_G s) (hh : ∀ q : Nat, q < s.heap.size → H[q]? = s.heap[q]?) : PreS s H (va_Pc av (oxg D tys ws)) av := ⟨oxg_b, fun U hU hW => ⟨rfl, by rw [hU]; exact hP, va_K.moved hW.alike hK, hG.go hW (by rw [hU]; exact hh)⟩⟩
theorem oxw_S (hP : va_P D vCl ws H) (hK : va_K D vCl tys s) (hD : va_D A ws) : PreS s H (va_Pc av (oxw H.size D tys ws)) av := ⟨oxw_b, fun U hU hW => ⟨rfl, by rw [hU], by rw [hU]; exact hP, va_K.moved hW.alike hK, hD.weaken (fun _ _ _ _ => trivial)⟩⟩
theorem oxv_S (hP : va_P D vCl ws H) (hK : va_K D vCl tys s) (hD : va_D A ws) (hG : tx_G s) (hh : ∀ q : Nat, q < s.heap.size → H[q]? = s.heap[q]?) : PreS s H (va_Pc av (oxv H.size D tys ws)) av := ⟨oxv_b, fun U hU hW => ⟨rfl, by rw [hU], by rw [hU]; exact hP, va_K.moved hW.alike hK, hD.weaken (fun _ _ _ _ => trivial), hG.go hW (by rw [hU]; exact hh)⟩⟩
theorem ox_V {Pc : Array Value → State → Prop} (hr : ∃ cellB : Cell, H[b]? = some cellB ∧ cellB.vm.isStatics = false ∧ s.vm.findClass C = some cellB.cls) (h : PreS s H Pc (.ref b :: As)) : PreV s H C b Pc As := ⟨h.1, hr, h.2⟩
end OX
end
section
/-! THE DESK'S WORLD -/
abbrev dkS : Type := Nat → (Nat → Nat) × Nat × Nat
abbrev dkR (cB : ClassId) (M y b : Nat) (B : Nat → Nat) (n p : Nat) : va_W := [(y, .inr (1, [.ref b, .int (nI n), .int (nI p)])), (b, .inl (cB, M, .inl (fun j => sb_b (B j))))]
abbrev dkr (cB : ClassId) (M : Nat) (y b : Nat → Nat) (σ : dkS) (i : Nat) : Nat × va_E := (y i, .inr (1, [.ref (b i), .int (nI (σ i).2.1), .int (nI (σ i).2.2)]))
abbrev dkb (cB : ClassId) (M : Nat) (y b : Nat → Nat) (σ : dkS) (i : Nat) : Nat × va_E := (b i, .inl (cB, M, .inl (fun j => sb_b ((σ i).1 j))))
abbrev dk (cR cB : ClassId) (h ra : Nat) (g : Nat → Option Nat) (M : Nat) (y b : Nat → Nat) (σ : dkS) : va_W := [(h, .inr (0, [.ref ra])), (ra, .inl (cR, 4, .inr (.inr (.inr (.inr g))))), dkr cB M y b σ 0, dkb cB M y b σ 0, dkr cB M y b σ 1, dkb cB M y b σ 1, dkr cB M y b σ 2, dkb cB M y b σ 2, dkr cB M y b σ 3, dkb cB M y b σ 3]
theorem dk_1 (D : va_G) (cl : List vw_C) (cR cB : ClassId) (h ra : Nat) (g : Nat → Option Nat) (M : Nat) (y b : Nat → Nat) (σ : dkS) {k : Nat} (hk : k < 4) : ∃ c2 c3 c4 c5 c6 c7 c8 c9 : Nat × va_E, (∀ H, va_P D cl (dk cR cB h ra g M y b σ) H → va_P D cl [dkr cB M y b σ k, dkb cB M y b σ k, c2, c3, c4, c5, c6, c7, c8, c9] H) ∧ (∀ A, va_D A (dk cR cB h ra g M y b σ) → va_D A [dkr cB M y b σ k, dkb cB M y b σ k, c2, c3, c4, c5, c6, c7, c8, c9]) ∧ (∀ (r : (Nat → Nat) × Nat × Nat) H, va_P D cl [(y k, .inr (1, [.ref (b k), .int (nI r.2.1), .int (nI r.2.2)])), (b k, .inl (cB, M, .inl (fun j => sb_b (r.1 j)))), c2, c3, c4, c5, c6, c7, c8, c9] H → va_P D cl (dk cR cB h ra g M y b (va_up σ k r)) H) ∧ (∀ (r : (Nat → Nat) × Nat × Nat) A, va_D A [(y k, .inr (1, [.ref (b k), .int (nI r.2.1), .int (nI r.2.2)])), (b k, .inl (cB, M, .inl (fun j => sb_b (r.1 j)))), c2, c3, c4, c5, c6, c7, c8, c9] → va_D A (dk cR cB h ra g M y b (va_up σ k r))) := by
  rcases (show k = 0 ∨ k = 1 ∨ k = 2 ∨ k = 3 by omega) with rfl | rfl | rfl | rfl
  · exact ⟨_, _, _, _, _, _, _, _, fun H hP => hP.sub [2, 3, 0, 1, 4, 5, 6, 7, 8, 9] rfl, fun A hD => hD.sub [2, 3, 0, 1, 4, 5, 6, 7, 8, 9] (by decide) rfl, fun r H hP => hP.sub [2, 3, 0, 1, 4, 5, 6, 7, 8, 9] rfl, fun r A hD => hD.sub [2, 3, 0, 1, 4, 5, 6, 7, 8, 9] (by decide) rfl⟩
  · exact ⟨_, _, _, _, _, _, _, _, fun H hP => hP.sub [4, 5, 0, 1, 2, 3, 6, 7, 8, 9] rfl, fun A hD => hD.sub [4, 5, 0, 1, 2, 3, 6, 7, 8, 9] (by decide) rfl, fun r H hP => hP.sub [2, 3, 4, 5, 0, 1, 6, 7, 8, 9] rfl, fun r A hD => hD.sub [2, 3, 4, 5, 0, 1, 6, 7, 8, 9] (by decide) rfl⟩
  · exact ⟨_, _, _, _, _, _, _, _, fun H hP => hP.sub [6, 7, 0, 1, 2, 3, 4, 5, 8, 9] rfl, fun A hD => hD.sub [6, 7, 0, 1, 2, 3, 4, 5, 8, 9] (by decide) rfl, fun r H hP => hP.sub [2, 3, 4, 5, 6, 7, 0, 1, 8, 9] rfl, fun r A hD => hD.sub [2, 3, 4, 5, 6, 7, 0, 1, 8, 9] (by decide) rfl⟩
  · exact ⟨_, _, _, _, _, _, _, _, fun H hP => hP.sub [8, 9, 0, 1, 2, 3, 4, 5, 6, 7] rfl, fun A hD => hD.sub [8, 9, 0, 1, 2, 3, 4, 5, 6, 7] (by decide) rfl, fun r H hP => hP.sub [2, 3, 4, 5, 6, 7, 8, 9, 0, 1] rfl, fun r A hD => hD.sub [2, 3, 4, 5, 6, 7, 8, 9, 0, 1] (by decide) rfl⟩
theorem dk_2 (D : va_G) (cl : List vw_C) (cR cB : ClassId) (h ra : Nat) (g : Nat → Option Nat) (M : Nat) (y b : Nat → Nat) (σ : dkS) {k i : Nat} (hk : k < 4) (hi : i < 4) (hki : k ≠ i) : ∃ c4 c5 c6 c7 c8 c9 : Nat × va_E, (∀ H, va_P D cl (dk cR cB h ra g M y b σ) H → va_P D cl [dkr cB M y b σ k, dkb cB M y b σ k, dkr cB M y b σ i, dkb cB M y b σ i, c4, c5, c6, c7, c8, c9] H) ∧ (∀ A, va_D A (dk cR cB h ra g M y b σ) → va_D A [dkr cB M y b σ k, dkb cB M y b σ k, dkr cB M y b σ i, dkb cB M y b σ i, c4, c5, c6, c7, c8, c9]) ∧ (∀ (r q : (Nat → Nat) × Nat × Nat) H, va_P D cl [(y k, .inr (1, [.ref (b k), .int (nI r.2.1), .int (nI r.2.2)])), (b k, .inl (cB, M, .inl (fun j => sb_b (r.1 j)))), (y i, .inr (1, [.ref (b i), .int (nI q.2.1), .int (nI q.2.2)])), (b i, .inl (cB, M, .inl (fun j => sb_b (q.1 j)))), c4, c5, c6, c7, c8, c9] H → va_P D cl (dk cR cB h ra g M y b (va_up (va_up σ k r) i q)) H) ∧ (∀ (r q : (Nat → Nat) × Nat × Nat) A, va_D A [(y k, .inr (1, [.ref (b k), .int (nI r.2.1), .int (nI r.2.2)])), (b k, .inl (cB, M, .inl (fun j => sb_b (r.1 j)))), (y i, .inr (1, [.ref (b i), .int (nI q.2.1), .int (nI q.2.2)])), (b i, .inl (cB, M, .inl (fun j => sb_b (q.1 j)))), c4, c5, c6, c7, c8, c9] → va_D A (dk cR cB h ra g M y b (va_up (va_up σ k r) i q))) := by
  rcases (show k = 0 ∨ k = 1 ∨ k = 2 ∨ k = 3 by omega) with rfl | rfl | rfl | rfl <;> rcases (show i = 0 ∨ i = 1 ∨ i = 2 ∨ i = 3 by omega) with rfl | rfl | rfl | rfl
  · exact absurd rfl hki
  · exact ⟨_, _, _, _, _, _, fun H hP => hP.sub [2, 3, 4, 5, 0, 1, 6, 7, 8, 9] rfl, fun A hD => hD.sub [2, 3, 4, 5, 0, 1, 6, 7, 8, 9] (by decide) rfl, fun r q H hP => hP.sub [4, 5, 0, 1, 2, 3, 6, 7, 8, 9] rfl, fun r q A hD => hD.sub [4, 5, 0, 1, 2, 3, 6, 7, 8, 9] (by decide) rfl⟩
  · exact ⟨_, _, _, _, _, _, fun H hP => hP.sub [2, 3, 6, 7, 0, 1, 4, 5, 8, 9] rfl, fun A hD => hD.sub [2, 3, 6, 7, 0, 1, 4, 5, 8, 9] (by decide) rfl, fun r q H hP => hP.sub [4, 5, 0, 1, 6, 7, 2, 3, 8, 9] rfl, fun r q A hD => hD.sub [4, 5, 0, 1, 6, 7, 2, 3, 8, 9] (by decide) rfl⟩
  · exact ⟨_, _, _, _, _, _, fun H hP => hP.sub [2, 3, 8, 9, 0, 1, 4, 5, 6, 7] rfl, fun A hD => hD.sub [2, 3, 8, 9, 0, 1, 4, 5, 6, 7] (by decide) rfl, fun r q H hP => hP.sub [4, 5, 0, 1, 6, 7, 8, 9, 2, 3] rfl, fun r q A hD => hD.sub [4, 5, 0, 1, 6, 7, 8, 9, 2, 3] (by decide) rfl⟩
  · exact ⟨_, _, _, _, _, _, fun H hP => hP.sub [4, 5, 2, 3, 0, 1, 6, 7, 8, 9] rfl, fun A hD => hD.sub [4, 5, 2, 3, 0, 1, 6, 7, 8, 9] (by decide) rfl, fun r q H hP => hP.sub [4, 5, 2, 3, 0, 1, 6, 7, 8, 9] rfl, fun r q A hD => hD.sub [4, 5, 2, 3, 0, 1, 6, 7, 8, 9] (by decide) rfl⟩
  · exact absurd rfl hki
  · exact ⟨_, _, _, _, _, _, fun H hP => hP.sub [4, 5, 6, 7, 0, 1, 2, 3, 8, 9] rfl, fun A hD => hD.sub [4, 5, 6, 7, 0, 1, 2, 3, 8, 9] (by decide) rfl, fun r q H hP => hP.sub [4, 5, 6, 7, 0, 1, 2, 3, 8, 9] rfl, fun r q A hD => hD.sub [4, 5, 6, 7, 0, 1, 2, 3, 8, 9] (by decide) rfl⟩
  · exact ⟨_, _, _, _, _, _, fun H hP => hP.sub [4, 5, 8, 9, 0, 1, 2, 3, 6, 7] rfl, fun A hD => hD.sub [4, 5, 8, 9, 0, 1, 2, 3, 6, 7] (by decide) rfl, fun r q H hP => hP.sub [4, 5, 6, 7, 0, 1, 8, 9, 2, 3] rfl, fun r q A hD => hD.sub [4, 5, 6, 7, 0, 1, 8, 9, 2, 3] (by decide) rfl⟩
  · exact ⟨_, _, _, _, _, _, fun H hP => hP.sub [6, 7, 2, 3, 0, 1, 4, 5, 8, 9] rfl, fun A hD => hD.sub [6, 7, 2, 3, 0, 1, 4, 5, 8, 9] (by decide) rfl, fun r q H hP => hP.sub [4, 5, 2, 3, 6, 7, 0, 1, 8, 9] rfl, fun r q A hD => hD.sub [4, 5, 2, 3, 6, 7, 0, 1, 8, 9] (by decide) rfl⟩
  · exact ⟨_, _, _, _, _, _, fun H hP => hP.sub [6, 7, 4, 5, 0, 1, 2, 3, 8, 9] rfl, fun A hD => hD.sub [6, 7, 4, 5, 0, 1, 2, 3, 8, 9] (by decide) rfl, fun r q H hP => hP.sub [4, 5, 6, 7, 2, 3, 0, 1, 8, 9] rfl, fun r q A hD => hD.sub [4, 5, 6, 7, 2, 3, 0, 1, 8, 9] (by decide) rfl⟩
  · exact absurd rfl hki
  · exact ⟨_, _, _, _, _, _, fun H hP => hP.sub [6, 7, 8, 9, 0, 1, 2, 3, 4, 5] rfl, fun A hD => hD.sub [6, 7, 8, 9, 0, 1, 2, 3, 4, 5] (by decide) rfl, fun r q H hP => hP.sub [4, 5, 6, 7, 8, 9, 0, 1, 2, 3] rfl, fun r q A hD => hD.sub [4, 5, 6, 7, 8, 9, 0, 1, 2, 3] (by decide) rfl⟩
  · exact ⟨_, _, _, _, _, _, fun H hP => hP.sub [8, 9, 2, 3, 0, 1, 4, 5, 6, 7] rfl, fun A hD => hD.sub [8, 9, 2, 3, 0, 1, 4, 5, 6, 7] (by decide) rfl, fun r q H hP => hP.sub [4, 5, 2, 3, 6, 7, 8, 9, 0, 1] rfl, fun r q A hD => hD.sub [4, 5, 2, 3, 6, 7, 8, 9, 0, 1] (by decide) rfl⟩
  · exact ⟨_, _, _, _, _, _, fun H hP => hP.sub [8, 9, 4, 5, 0, 1, 2, 3, 6, 7] rfl, fun A hD => hD.sub [8, 9, 4, 5, 0, 1, 2, 3, 6, 7] (by decide) rfl, fun r q H hP => hP.sub [4, 5, 6, 7, 2, 3, 8, 9, 0, 1] rfl, fun r q A hD => hD.sub [4, 5, 6, 7, 2, 3, 8, 9, 0, 1] (by decide) rfl⟩
  · exact ⟨_, _, _, _, _, _, fun H hP => hP.sub [8, 9, 6, 7, 0, 1, 2, 3, 4, 5] rfl, fun A hD => hD.sub [8, 9, 6, 7, 0, 1, 2, 3, 4, 5] (by decide) rfl, fun r q H hP => hP.sub [4, 5, 6, 7, 8, 9, 2, 3, 0, 1] rfl, fun r q A hD => hD.sub [4, 5, 6, 7, 8, 9, 2, 3, 0, 1] (by decide) rfl⟩
  · exact absurd rfl hki
end
section
/-! the tables' words, by their places -/
theorem k1_0 : (Cond.initialized R_L) ∈ wsA := wa_mem (List.mem_append_right _ (List.mem_append_left _ (List.mem_of_getElem? (i := 0) rfl))) rfl
theorem k1_1 : (Cond.initialized R_D) ∈ wsA := wa_mem (List.mem_append_right _ (List.mem_append_left _ (List.mem_of_getElem? (i := 1) rfl))) rfl
theorem k1_2 : (Cond.initialized "java/lang/Math") ∈ wsA := wa_mem (List.mem_append_right _ (List.mem_append_left _ (List.mem_of_getElem? (i := 2) rfl))) rfl
theorem k1_3 : (Cond.initialized R_R) ∈ wsA := wa_mem (List.mem_append_right _ (List.mem_append_left _ (List.mem_of_getElem? (i := 3) rfl))) rfl
theorem k1_4 : (Cond.initialized R_M) ∈ wsA := wa_mem (List.mem_append_right _ (List.mem_append_left _ (List.mem_of_getElem? (i := 4) rfl))) rfl
theorem k1_5 : (Cond.initialized "java/lang/Throwable") ∈ wsA := wa_mem (List.mem_append_right _ (List.mem_append_left _ (List.mem_of_getElem? (i := 5) rfl))) rfl
theorem k1_6 : (Cond.initialized "java/lang/Exception") ∈ wsA := wa_mem (List.mem_append_right _ (List.mem_append_left _ (List.mem_of_getElem? (i := 6) rfl))) rfl
theorem k1_7 : (Cond.initialized "java/lang/RuntimeException") ∈ wsA := wa_mem (List.mem_append_right _ (List.mem_append_left _ (List.mem_of_getElem? (i := 7) rfl))) rfl
theorem k1_8 : (Cond.initialized "java/lang/IndexOutOfBoundsException") ∈ wsA := wa_mem (List.mem_append_right _ (List.mem_append_left _ (List.mem_of_getElem? (i := 8) rfl))) rfl
theorem k1_9 : (Cond.initialized "java/lang/IllegalArgumentException") ∈ wsA := wa_mem (List.mem_append_right _ (List.mem_append_left _ (List.mem_of_getElem? (i := 9) rfl))) rfl
theorem k1_10 : (Cond.initialized "java/lang/IllegalStateException") ∈ wsA := wa_mem (List.mem_append_right _ (List.mem_append_left _ (List.mem_of_getElem? (i := 10) rfl))) rfl
theorem k1_11 : (Cond.initialized "java/lang/System") ∈ wsA := wa_mem (List.mem_append_right _ (List.mem_append_left _ (List.mem_of_getElem? (i := 11) rfl))) rfl
theorem k1_12 : (Cond.initialized "java/util/NoSuchElementException") ∈ wsA := wa_mem (List.mem_append_right _ (List.mem_append_left _ (List.mem_of_getElem? (i := 12) rfl))) rfl
theorem k1_13 : (Cond.initialized "java/lang/UnsupportedOperationException") ∈ wsA := wa_mem (List.mem_append_right _ (List.mem_append_left _ (List.mem_of_getElem? (i := 13) rfl))) rfl
theorem k1_14 : (Cond.classLink R_L 8 R_D) ∈ wsA := wa_mem (List.mem_append_right _ (List.mem_append_left _ (List.mem_of_getElem? (i := 14) rfl))) rfl
theorem k1_15 : (Cond.instantiable R_D 1) ∈ wsA := wa_mem (List.mem_append_right _ (List.mem_append_left _ (List.mem_of_getElem? (i := 15) rfl))) rfl
theorem k1_16 : (Cond.methodLink R_L 97 y_D_init) ∈ wsA := wa_mem (List.mem_append_right _ (List.mem_append_left _ (List.mem_of_getElem? (i := 16) rfl))) rfl
theorem k1_17 : (Cond.instanceMethod y_D_init) ∈ wsA := wa_mem (List.mem_append_right _ (List.mem_append_left _ (List.mem_of_getElem? (i := 17) rfl))) rfl
theorem k1_18 : (Cond.code y_D_init b_D_init 4 none) ∈ wsA := wa_mem (List.mem_append_right _ (List.mem_append_left _ (List.mem_of_getElem? (i := 18) rfl))) rfl
theorem k1_19 : (Cond.methodLink R_D 1 objectInit) ∈ wsA := wa_mem (List.mem_append_right _ (List.mem_append_left _ (List.mem_of_getElem? (i := 19) rfl))) rfl
theorem k1_20 : (Cond.instanceMethod objectInit) ∈ wsA := wa_mem (List.mem_append_right _ (List.mem_append_left _ (List.mem_of_getElem? (i := 20) rfl))) rfl
theorem k1_21 : (Cond.code objectInit object_method_1_code 1 none) ∈ wsA := wa_mem (List.mem_append_right _ (List.mem_append_left _ (List.mem_of_getElem? (i := 21) rfl))) rfl
theorem k1_22 : (Cond.constant R_D 9 65536) ∈ wsA := wa_mem (List.mem_append_right _ (List.mem_append_left _ (List.mem_of_getElem? (i := 22) rfl))) rfl
theorem k1_23 : (Cond.methodLink R_D 10 Lib.Math.min.name) ∈ wsA := wa_mem (List.mem_append_right _ (List.mem_append_left _ (List.mem_of_getElem? (i := 23) rfl))) rfl
theorem k1_24 : (Cond.static Lib.Math.min.name) ∈ wsA := wa_mem (List.mem_append_right _ (List.mem_append_left _ (List.mem_of_getElem? (i := 24) rfl))) rfl
theorem k1_25 : (Cond.code Lib.Math.min.name prog_9_method_69_code 2 (some .int)) ∈ wsA := wa_mem (List.mem_append_right _ (List.mem_append_left _ (List.mem_of_getElem? (i := 25) rfl))) rfl
theorem k1_26 : (Cond.methodLink R_D 16 Lib.Math.max.name) ∈ wsA := wa_mem (List.mem_append_right _ (List.mem_append_left _ (List.mem_of_getElem? (i := 26) rfl))) rfl
theorem k1_27 : (Cond.static Lib.Math.max.name) ∈ wsA := wa_mem (List.mem_append_right _ (List.mem_append_left _ (List.mem_of_getElem? (i := 27) rfl))) rfl
theorem k1_28 : (Cond.code Lib.Math.max.name prog_9_method_65_code 2 (some .int)) ∈ wsA := wa_mem (List.mem_append_right _ (List.mem_append_left _ (List.mem_of_getElem? (i := 28) rfl))) rfl
theorem k1_29 : (Cond.classLink R_D 19 R_R) ∈ wsA := wa_mem (List.mem_append_right _ (List.mem_append_left _ (List.mem_of_getElem? (i := 29) rfl))) rfl
theorem k1_31 : (Cond.instantiable R_R 3) ∈ wsA := wa_mem (List.mem_append_right _ (List.mem_append_left _ (List.mem_of_getElem? (i := 31) rfl))) rfl
theorem k1_32 : (Cond.methodLink R_D 25 y_R_init) ∈ wsA := wa_mem (List.mem_append_right _ (List.mem_append_left _ (List.mem_of_getElem? (i := 32) rfl))) rfl
theorem k1_33 : (Cond.instanceMethod y_R_init) ∈ wsA := wa_mem (List.mem_append_right _ (List.mem_append_left _ (List.mem_of_getElem? (i := 33) rfl))) rfl
theorem k1_34 : (Cond.code y_R_init b_R_init 2 none) ∈ wsA := wa_mem (List.mem_append_right _ (List.mem_append_left _ (List.mem_of_getElem? (i := 34) rfl))) rfl
theorem k1_35 : (Cond.methodLink R_R 1 objectInit) ∈ wsA := wa_mem (List.mem_append_right _ (List.mem_append_left _ (List.mem_of_getElem? (i := 35) rfl))) rfl
theorem k1_36 : (Cond.fieldLink R_R 7 R_R "bytes" "[B") ∈ wsA := wa_mem (List.mem_append_right _ (List.mem_append_left _ (List.mem_of_getElem? (i := 36) rfl))) rfl
theorem k1_37 : (Cond.fieldLink R_D 95 R_R "bytes" "[B") ∈ wsA := wa_mem (List.mem_append_right _ (List.mem_append_left _ (List.mem_of_getElem? (i := 37) rfl))) rfl
theorem k1_38 : (Cond.fieldLink R_D 43 R_R "size" "I") ∈ wsA := wa_mem (List.mem_append_right _ (List.mem_append_left _ (List.mem_of_getElem? (i := 38) rfl))) rfl
theorem k1_39 : (Cond.fieldLink R_R 13 R_R "size" "I") ∈ wsA := wa_mem (List.mem_append_right _ (List.mem_append_left _ (List.mem_of_getElem? (i := 39) rfl))) rfl
theorem k1_40 : (Cond.fieldLink R_D 87 R_R "place" "I") ∈ wsA := wa_mem (List.mem_append_right _ (List.mem_append_left _ (List.mem_of_getElem? (i := 40) rfl))) rfl
theorem k1_48 : (Cond.arrayClass .byte) ∈ wsA := wa_mem (List.mem_append_right _ (List.mem_append_left _ (List.mem_of_getElem? (i := 48) rfl))) rfl
theorem k1_49 : (Cond.fieldLink R_D 21 R_D "rows" "[LPacketDesk$Row;") ∈ wsA := wa_mem (List.mem_append_right _ (List.mem_append_left _ (List.mem_of_getElem? (i := 49) rfl))) rfl
theorem k1_53 : (Cond.methodLink R_L 91 y_L_cell) ∈ wsA := wa_mem (List.mem_append_right _ (List.mem_append_left _ (List.mem_of_getElem? (i := 53) rfl))) rfl
theorem k1_54 : (Cond.static y_L_cell) ∈ wsA := wa_mem (List.mem_append_right _ (List.mem_append_left _ (List.mem_of_getElem? (i := 54) rfl))) rfl
theorem k1_55 : (Cond.code y_L_cell b_L_cell 2 (some .int)) ∈ wsA := wa_mem (List.mem_append_right _ (List.mem_append_left _ (List.mem_of_getElem? (i := 55) rfl))) rfl
theorem k1_56 : (Cond.methodLink R_L 105 y_L_fixed) ∈ wsA := wa_mem (List.mem_append_right _ (List.mem_append_left _ (List.mem_of_getElem? (i := 56) rfl))) rfl
theorem k1_57 : (Cond.static y_L_fixed) ∈ wsA := wa_mem (List.mem_append_right _ (List.mem_append_left _ (List.mem_of_getElem? (i := 57) rfl))) rfl
theorem k1_58 : (Cond.codeWith y_L_fixed b_L_fixed 7 (some .int) [(0, 13, 16, 13), (0, 13, 20, 15), (0, 13, 24, 17)]) ∈ wsA := wa_mem (List.mem_append_right _ (List.mem_append_left _ (List.mem_of_getElem? (i := 58) rfl))) rfl
theorem k1_59 : (Cond.classLink R_L 13 "java/lang/IndexOutOfBoundsException") ∈ wsA := wa_mem (List.mem_append_right _ (List.mem_append_left _ (List.mem_of_getElem? (i := 59) rfl))) rfl
theorem k1_60 : (Cond.classLink R_L 15 "java/lang/IllegalArgumentException") ∈ wsA := wa_mem (List.mem_append_right _ (List.mem_append_left _ (List.mem_of_getElem? (i := 60) rfl))) rfl
theorem k1_61 : (Cond.classLink R_L 17 "java/lang/IllegalStateException") ∈ wsA := wa_mem (List.mem_append_right _ (List.mem_append_left _ (List.mem_of_getElem? (i := 61) rfl))) rfl
theorem k1_62 : (Cond.methodLink R_L 7 y_D_fixed) ∈ wsA := wa_mem (List.mem_append_right _ (List.mem_append_left _ (List.mem_of_getElem? (i := 62) rfl))) rfl
theorem k1_63 : (Cond.instanceMethod y_D_fixed) ∈ wsA := wa_mem (List.mem_append_right _ (List.mem_append_left _ (List.mem_of_getElem? (i := 63) rfl))) rfl
theorem k1_64 : (Cond.selects R_D y_D_fixed y_D_fixed) ∈ wsA := wa_mem (List.mem_append_right _ (List.mem_append_left _ (List.mem_of_getElem? (i := 64) rfl))) rfl
theorem k1_65 : (Cond.code y_D_fixed b_D_fixed 6 (some .int)) ∈ wsA := wa_mem (List.mem_append_right _ (List.mem_append_left _ (List.mem_of_getElem? (i := 65) rfl))) rfl
theorem k1_66 : (Cond.methodLink R_D 28 y_D_rowOf) ∈ wsA := wa_mem (List.mem_append_right _ (List.mem_append_left _ (List.mem_of_getElem? (i := 66) rfl))) rfl
theorem k1_68 : (Cond.instanceMethod y_D_rowOf) ∈ wsA := wa_mem (List.mem_append_right _ (List.mem_append_left _ (List.mem_of_getElem? (i := 68) rfl))) rfl
theorem k1_69 : (Cond.code y_D_rowOf b_D_rowOf 2 (some (.object "PacketDesk$Row"))) ∈ wsA := wa_mem (List.mem_append_right _ (List.mem_append_left _ (List.mem_of_getElem? (i := 69) rfl))) rfl
theorem k1_70 : (Cond.classLink R_D 149 "java/lang/IndexOutOfBoundsException") ∈ wsA := wa_mem (List.mem_append_right _ (List.mem_append_left _ (List.mem_of_getElem? (i := 70) rfl))) rfl
theorem k1_71 : (Cond.instantiable "java/lang/IndexOutOfBoundsException" 6) ∈ wsA := wa_mem (List.mem_append_right _ (List.mem_append_left _ (List.mem_of_getElem? (i := 71) rfl))) rfl
theorem k1_91 : (Cond.fieldLink "java/lang/Throwable" 198 "java/lang/Throwable" "backtrace" "Ljava/lang/Object;") ∈ wsA := wa_mem (List.mem_append_right _ (List.mem_append_left _ (List.mem_of_getElem? (i := 91) rfl))) rfl
theorem k1_95 : (Cond.methodLink "java/lang/Throwable" 1 objectInit) ∈ wsA := wa_mem (List.mem_append_right _ (List.mem_append_left _ (List.mem_of_getElem? (i := 95) rfl))) rfl
theorem k1_96 : (Cond.fieldLink "java/lang/Throwable" 13 "java/lang/Throwable" "UNASSIGNED_STACK" "[Ljava/lang/StackTraceElement;") ∈ wsA := wa_mem (List.mem_append_right _ (List.mem_append_left _ (List.mem_of_getElem? (i := 96) rfl))) rfl
theorem k1_98 : (Cond.fieldLink "java/lang/Throwable" 20 "java/lang/Throwable" "SUPPRESSED_SENTINEL" "Ljava/util/List;") ∈ wsA := wa_mem (List.mem_append_right _ (List.mem_append_left _ (List.mem_of_getElem? (i := 98) rfl))) rfl
theorem k1_111 : (Cond.instantiable "java/lang/Throwable" 6) ∈ wsA := wa_mem (List.mem_append_right _ (List.mem_append_left _ (List.mem_of_getElem? (i := 111) rfl))) rfl
theorem k1_127 : (Cond.fieldLink "java/lang/Throwable" 31 "java/lang/Throwable" "detailMessage" "Ljava/lang/String;") ∈ wsA := wa_mem (List.mem_append_right _ (List.mem_append_left _ (List.mem_of_getElem? (i := 127) rfl))) rfl
theorem k1_128 : (Cond.fieldLink "java/lang/Throwable" 7 "java/lang/Throwable" "cause" "Ljava/lang/Throwable;") ∈ wsA := wa_mem (List.mem_append_right _ (List.mem_append_left _ (List.mem_of_getElem? (i := 128) rfl))) rfl
theorem k1_129 : (Cond.fieldLink "java/lang/Throwable" 17 "java/lang/Throwable" "stackTrace" "[Ljava/lang/StackTraceElement;") ∈ wsA := wa_mem (List.mem_append_right _ (List.mem_append_left _ (List.mem_of_getElem? (i := 129) rfl))) rfl
theorem k1_130 : (Cond.fieldLink "java/lang/Throwable" 24 "java/lang/Throwable" "suppressedExceptions" "Ljava/util/List;") ∈ wsA := wa_mem (List.mem_append_right _ (List.mem_append_left _ (List.mem_of_getElem? (i := 130) rfl))) rfl
theorem k1_139 : (Cond.methodLink R_D 32 y_D_needFixedWidth) ∈ wsA := wa_mem (List.mem_append_right _ (List.mem_append_left _ (List.mem_of_getElem? (i := 139) rfl))) rfl
theorem k1_140 : (Cond.static y_D_needFixedWidth) ∈ wsA := wa_mem (List.mem_append_right _ (List.mem_append_left _ (List.mem_of_getElem? (i := 140) rfl))) rfl
theorem k1_141 : (Cond.code y_D_needFixedWidth b_D_needFixedWidth 1 none) ∈ wsA := wa_mem (List.mem_append_right _ (List.mem_append_left _ (List.mem_of_getElem? (i := 141) rfl))) rfl
theorem k1_142 : (Cond.classLink R_D 55 "java/lang/IllegalArgumentException") ∈ wsA := wa_mem (List.mem_append_right _ (List.mem_append_left _ (List.mem_of_getElem? (i := 142) rfl))) rfl
theorem k1_143 : (Cond.instantiable "java/lang/IllegalArgumentException" 6) ∈ wsA := wa_mem (List.mem_append_right _ (List.mem_append_left _ (List.mem_of_getElem? (i := 143) rfl))) rfl
theorem k1_158 : (Cond.methodLink R_D 35 y_D_needRoom) ∈ wsA := wa_mem (List.mem_append_right _ (List.mem_append_left _ (List.mem_of_getElem? (i := 158) rfl))) rfl
theorem k1_159 : (Cond.static y_D_needRoom) ∈ wsA := wa_mem (List.mem_append_right _ (List.mem_append_left _ (List.mem_of_getElem? (i := 159) rfl))) rfl
theorem k1_160 : (Cond.code y_D_needRoom b_D_needRoom 2 none) ∈ wsA := wa_mem (List.mem_append_right _ (List.mem_append_left _ (List.mem_of_getElem? (i := 160) rfl))) rfl
theorem k1_161 : (Cond.classLink R_D 158 "java/lang/IllegalStateException") ∈ wsA := wa_mem (List.mem_append_right _ (List.mem_append_left _ (List.mem_of_getElem? (i := 161) rfl))) rfl
theorem k1_162 : (Cond.instantiable "java/lang/IllegalStateException" 6) ∈ wsA := wa_mem (List.mem_append_right _ (List.mem_append_left _ (List.mem_of_getElem? (i := 162) rfl))) rfl
theorem k1_177 : (Cond.methodLink R_D 39 y_D_addFixed) ∈ wsA := wa_mem (List.mem_append_right _ (List.mem_append_left _ (List.mem_of_getElem? (i := 177) rfl))) rfl
theorem k1_178 : (Cond.static y_D_addFixed) ∈ wsA := wa_mem (List.mem_append_right _ (List.mem_append_left _ (List.mem_of_getElem? (i := 178) rfl))) rfl
theorem k1_179 : (Cond.code y_D_addFixed b_D_addFixed 5 none) ∈ wsA := wa_mem (List.mem_append_right _ (List.mem_append_left _ (List.mem_of_getElem? (i := 179) rfl))) rfl
theorem k1_180 : (Cond.methodLink R_D 165 y_R_add) ∈ wsA := wa_mem (List.mem_append_right _ (List.mem_append_left _ (List.mem_of_getElem? (i := 180) rfl))) rfl
theorem k1_181 : (Cond.instanceMethod y_R_add) ∈ wsA := wa_mem (List.mem_append_right _ (List.mem_append_left _ (List.mem_of_getElem? (i := 181) rfl))) rfl
theorem k1_182 : (Cond.selects R_R y_R_add y_R_add) ∈ wsA := wa_mem (List.mem_append_right _ (List.mem_append_left _ (List.mem_of_getElem? (i := 182) rfl))) rfl
theorem k1_183 : (Cond.code y_R_add b_R_add 2 none) ∈ wsA := wa_mem (List.mem_append_right _ (List.mem_append_left _ (List.mem_of_getElem? (i := 183) rfl))) rfl
theorem k1_184 : (Cond.methodLink R_L 113 y_L_sevens) ∈ wsA := wa_mem (List.mem_append_right _ (List.mem_append_left _ (List.mem_of_getElem? (i := 184) rfl))) rfl
theorem k1_185 : (Cond.static y_L_sevens) ∈ wsA := wa_mem (List.mem_append_right _ (List.mem_append_left _ (List.mem_of_getElem? (i := 185) rfl))) rfl
theorem k1_186 : (Cond.codeWith y_L_sevens b_L_sevens 6 (some .int) [(0, 11, 14, 13), (0, 11, 18, 17)]) ∈ wsA := wa_mem (List.mem_append_right _ (List.mem_append_left _ (List.mem_of_getElem? (i := 186) rfl))) rfl
theorem k1_187 : (Cond.methodLink R_L 19 y_D_sevens) ∈ wsA := wa_mem (List.mem_append_right _ (List.mem_append_left _ (List.mem_of_getElem? (i := 187) rfl))) rfl
theorem k1_188 : (Cond.instanceMethod y_D_sevens) ∈ wsA := wa_mem (List.mem_append_right _ (List.mem_append_left _ (List.mem_of_getElem? (i := 188) rfl))) rfl
theorem k1_189 : (Cond.selects R_D y_D_sevens y_D_sevens) ∈ wsA := wa_mem (List.mem_append_right _ (List.mem_append_left _ (List.mem_of_getElem? (i := 189) rfl))) rfl
theorem k1_190 : (Cond.code y_D_sevens b_D_sevens 4 (some .int)) ∈ wsA := wa_mem (List.mem_append_right _ (List.mem_append_left _ (List.mem_of_getElem? (i := 190) rfl))) rfl
theorem k1_191 : (Cond.methodLink R_D 47 y_D_writeSevens) ∈ wsA := wa_mem (List.mem_append_right _ (List.mem_append_left _ (List.mem_of_getElem? (i := 191) rfl))) rfl
theorem k1_192 : (Cond.static y_D_writeSevens) ∈ wsA := wa_mem (List.mem_append_right _ (List.mem_append_left _ (List.mem_of_getElem? (i := 192) rfl))) rfl
theorem k1_193 : (Cond.code y_D_writeSevens b_D_writeSevens 4 (some .int)) ∈ wsA := wa_mem (List.mem_append_right _ (List.mem_append_left _ (List.mem_of_getElem? (i := 193) rfl))) rfl
theorem k1_194 : (Cond.methodLink R_D 73 y_D_sevensWidth) ∈ wsA := wa_mem (List.mem_append_right _ (List.mem_append_left _ (List.mem_of_getElem? (i := 194) rfl))) rfl
theorem k1_195 : (Cond.static y_D_sevensWidth) ∈ wsA := wa_mem (List.mem_append_right _ (List.mem_append_left _ (List.mem_of_getElem? (i := 195) rfl))) rfl
theorem k1_196 : (Cond.code y_D_sevensWidth b_D_sevensWidth 3 (some .int)) ∈ wsA := wa_mem (List.mem_append_right _ (List.mem_append_left _ (List.mem_of_getElem? (i := 196) rfl))) rfl
theorem k1_197 : (Cond.methodLink R_D 77 y_D_addSevens) ∈ wsA := wa_mem (List.mem_append_right _ (List.mem_append_left _ (List.mem_of_getElem? (i := 197) rfl))) rfl
theorem k1_198 : (Cond.static y_D_addSevens) ∈ wsA := wa_mem (List.mem_append_right _ (List.mem_append_left _ (List.mem_of_getElem? (i := 198) rfl))) rfl
theorem k1_199 : (Cond.code y_D_addSevens b_D_addSevens 5 none) ∈ wsA := wa_mem (List.mem_append_right _ (List.mem_append_left _ (List.mem_of_getElem? (i := 199) rfl))) rfl
theorem k1_200 : (Cond.methodLink R_L 117 y_L_signed) ∈ wsA := wa_mem (List.mem_append_right _ (List.mem_append_left _ (List.mem_of_getElem? (i := 200) rfl))) rfl
theorem k1_201 : (Cond.static y_L_signed) ∈ wsA := wa_mem (List.mem_append_right _ (List.mem_append_left _ (List.mem_of_getElem? (i := 201) rfl))) rfl
theorem k1_202 : (Cond.codeWith y_L_signed b_L_signed 6 (some .int) [(0, 11, 14, 13), (0, 11, 18, 17)]) ∈ wsA := wa_mem (List.mem_append_right _ (List.mem_append_left _ (List.mem_of_getElem? (i := 202) rfl))) rfl
theorem k1_203 : (Cond.methodLink R_L 23 y_D_signed) ∈ wsA := wa_mem (List.mem_append_right _ (List.mem_append_left _ (List.mem_of_getElem? (i := 203) rfl))) rfl
theorem k1_204 : (Cond.instanceMethod y_D_signed) ∈ wsA := wa_mem (List.mem_append_right _ (List.mem_append_left _ (List.mem_of_getElem? (i := 204) rfl))) rfl
theorem k1_205 : (Cond.selects R_D y_D_signed y_D_signed) ∈ wsA := wa_mem (List.mem_append_right _ (List.mem_append_left _ (List.mem_of_getElem? (i := 205) rfl))) rfl
theorem k1_206 : (Cond.code y_D_signed b_D_signed 4 (some .int)) ∈ wsA := wa_mem (List.mem_append_right _ (List.mem_append_left _ (List.mem_of_getElem? (i := 206) rfl))) rfl
theorem k1_207 : (Cond.methodLink R_L 120 y_L_letter) ∈ wsA := wa_mem (List.mem_append_right _ (List.mem_append_left _ (List.mem_of_getElem? (i := 207) rfl))) rfl
theorem k1_208 : (Cond.static y_L_letter) ∈ wsA := wa_mem (List.mem_append_right _ (List.mem_append_left _ (List.mem_of_getElem? (i := 208) rfl))) rfl
theorem k1_209 : (Cond.codeWith y_L_letter b_L_letter 5 (some .int) [(0, 10, 13, 13), (0, 10, 17, 15), (0, 10, 21, 17)]) ∈ wsA := wa_mem (List.mem_append_right _ (List.mem_append_left _ (List.mem_of_getElem? (i := 209) rfl))) rfl
theorem k1_210 : (Cond.methodLink R_L 26 y_D_letter) ∈ wsA := wa_mem (List.mem_append_right _ (List.mem_append_left _ (List.mem_of_getElem? (i := 210) rfl))) rfl
theorem k1_211 : (Cond.instanceMethod y_D_letter) ∈ wsA := wa_mem (List.mem_append_right _ (List.mem_append_left _ (List.mem_of_getElem? (i := 211) rfl))) rfl
theorem k1_212 : (Cond.selects R_D y_D_letter y_D_letter) ∈ wsA := wa_mem (List.mem_append_right _ (List.mem_append_left _ (List.mem_of_getElem? (i := 212) rfl))) rfl
theorem k1_213 : (Cond.code y_D_letter b_D_letter 5 (some .int)) ∈ wsA := wa_mem (List.mem_append_right _ (List.mem_append_left _ (List.mem_of_getElem? (i := 213) rfl))) rfl
theorem k1_214 : (Cond.methodLink R_D 51 y_D_letterWidth) ∈ wsA := wa_mem (List.mem_append_right _ (List.mem_append_left _ (List.mem_of_getElem? (i := 214) rfl))) rfl
theorem k1_215 : (Cond.static y_D_letterWidth) ∈ wsA := wa_mem (List.mem_append_right _ (List.mem_append_left _ (List.mem_of_getElem? (i := 215) rfl))) rfl
theorem k1_216 : (Cond.code y_D_letterWidth b_D_letterWidth 1 (some .int)) ∈ wsA := wa_mem (List.mem_append_right _ (List.mem_append_left _ (List.mem_of_getElem? (i := 216) rfl))) rfl
theorem k1_217 : (Cond.constant R_D 185 1114111) ∈ wsA := wa_mem (List.mem_append_right _ (List.mem_append_left _ (List.mem_of_getElem? (i := 217) rfl))) rfl
theorem k1_218 : (Cond.constant R_D 186 55296) ∈ wsA := wa_mem (List.mem_append_right _ (List.mem_append_left _ (List.mem_of_getElem? (i := 218) rfl))) rfl
theorem k1_219 : (Cond.constant R_D 187 57343) ∈ wsA := wa_mem (List.mem_append_right _ (List.mem_append_left _ (List.mem_of_getElem? (i := 219) rfl))) rfl
theorem k1_221 : (Cond.methodLink R_D 62 y_D_addLetter) ∈ wsA := wa_mem (List.mem_append_right _ (List.mem_append_left _ (List.mem_of_getElem? (i := 221) rfl))) rfl
theorem k1_222 : (Cond.static y_D_addLetter) ∈ wsA := wa_mem (List.mem_append_right _ (List.mem_append_left _ (List.mem_of_getElem? (i := 222) rfl))) rfl
theorem k1_223 : (Cond.code y_D_addLetter b_D_addLetter 5 none) ∈ wsA := wa_mem (List.mem_append_right _ (List.mem_append_left _ (List.mem_of_getElem? (i := 223) rfl))) rfl
theorem k1_224 : (Cond.methodLink R_D 188 y_D_firstMark) ∈ wsA := wa_mem (List.mem_append_right _ (List.mem_append_left _ (List.mem_of_getElem? (i := 224) rfl))) rfl
theorem k1_225 : (Cond.static y_D_firstMark) ∈ wsA := wa_mem (List.mem_append_right _ (List.mem_append_left _ (List.mem_of_getElem? (i := 225) rfl))) rfl
theorem k1_226 : (Cond.code y_D_firstMark b_D_firstMark 1 (some .int)) ∈ wsA := wa_mem (List.mem_append_right _ (List.mem_append_left _ (List.mem_of_getElem? (i := 226) rfl))) rfl
theorem k1_227 : (Cond.methodLink R_L 124 y_L_copy) ∈ wsA := wa_mem (List.mem_append_right _ (List.mem_append_left _ (List.mem_of_getElem? (i := 227) rfl))) rfl
theorem k1_228 : (Cond.static y_L_copy) ∈ wsA := wa_mem (List.mem_append_right _ (List.mem_append_left _ (List.mem_of_getElem? (i := 228) rfl))) rfl
theorem k1_229 : (Cond.codeWith y_L_copy b_L_copy 7 (some .int) [(0, 14, 17, 13), (0, 14, 21, 15), (0, 14, 25, 17)]) ∈ wsA := wa_mem (List.mem_append_right _ (List.mem_append_left _ (List.mem_of_getElem? (i := 229) rfl))) rfl
theorem k1_230 : (Cond.methodLink R_L 30 y_D_copy) ∈ wsA := wa_mem (List.mem_append_right _ (List.mem_append_left _ (List.mem_of_getElem? (i := 230) rfl))) rfl
theorem k1_231 : (Cond.instanceMethod y_D_copy) ∈ wsA := wa_mem (List.mem_append_right _ (List.mem_append_left _ (List.mem_of_getElem? (i := 231) rfl))) rfl
theorem k1_232 : (Cond.selects R_D y_D_copy y_D_copy) ∈ wsA := wa_mem (List.mem_append_right _ (List.mem_append_left _ (List.mem_of_getElem? (i := 232) rfl))) rfl
theorem k1_233 : (Cond.code y_D_copy b_D_copy 7 (some .int)) ∈ wsA := wa_mem (List.mem_append_right _ (List.mem_append_left _ (List.mem_of_getElem? (i := 233) rfl))) rfl
theorem k1_234 : (Cond.methodLink R_D 66 y_D_needRange) ∈ wsA := wa_mem (List.mem_append_right _ (List.mem_append_left _ (List.mem_of_getElem? (i := 234) rfl))) rfl
theorem k1_235 : (Cond.static y_D_needRange) ∈ wsA := wa_mem (List.mem_append_right _ (List.mem_append_left _ (List.mem_of_getElem? (i := 235) rfl))) rfl
theorem k1_236 : (Cond.code y_D_needRange b_D_needRange 3 none) ∈ wsA := wa_mem (List.mem_append_right _ (List.mem_append_left _ (List.mem_of_getElem? (i := 236) rfl))) rfl
theorem k1_238 : (Cond.methodLink R_D 69 y_D_addBytes) ∈ wsA := wa_mem (List.mem_append_right _ (List.mem_append_left _ (List.mem_of_getElem? (i := 238) rfl))) rfl
theorem k1_239 : (Cond.static y_D_addBytes) ∈ wsA := wa_mem (List.mem_append_right _ (List.mem_append_left _ (List.mem_of_getElem? (i := 239) rfl))) rfl
theorem k2_0 : (Cond.code y_D_addBytes b_D_addBytes 4 none) ∈ wsA := wa_mem (List.mem_append_right _ (List.mem_append_right _ (List.mem_append_left _ (List.mem_of_getElem? (i := 0) rfl)))) rfl
theorem k2_1 : (Cond.methodLink R_D 195 arraycopyName) ∈ wsA := wa_mem (List.mem_append_right _ (List.mem_append_right _ (List.mem_append_left _ (List.mem_of_getElem? (i := 1) rfl)))) rfl
theorem k2_2 : (Cond.static arraycopyName) ∈ wsA := wa_mem (List.mem_append_right _ (List.mem_append_right _ (List.mem_append_left _ (List.mem_of_getElem? (i := 2) rfl)))) rfl
theorem k2_3 : (Cond.native arraycopyName) ∈ wsA := wa_mem (List.mem_append_right _ (List.mem_append_right _ (List.mem_append_left _ (List.mem_of_getElem? (i := 3) rfl)))) rfl
theorem k2_4 : (Cond.methodLink R_L 128 y_L_block) ∈ wsA := wa_mem (List.mem_append_right _ (List.mem_append_right _ (List.mem_append_left _ (List.mem_of_getElem? (i := 4) rfl)))) rfl
theorem k2_5 : (Cond.static y_L_block) ∈ wsA := wa_mem (List.mem_append_right _ (List.mem_append_right _ (List.mem_append_left _ (List.mem_of_getElem? (i := 5) rfl)))) rfl
theorem k2_6 : (Cond.codeWith y_L_block b_L_block 5 (some .int) [(0, 10, 13, 13), (0, 10, 17, 17)]) ∈ wsA := wa_mem (List.mem_append_right _ (List.mem_append_right _ (List.mem_append_left _ (List.mem_of_getElem? (i := 6) rfl)))) rfl
theorem k2_7 : (Cond.methodLink R_L 34 y_D_block) ∈ wsA := wa_mem (List.mem_append_right _ (List.mem_append_right _ (List.mem_append_left _ (List.mem_of_getElem? (i := 7) rfl)))) rfl
theorem k2_8 : (Cond.instanceMethod y_D_block) ∈ wsA := wa_mem (List.mem_append_right _ (List.mem_append_right _ (List.mem_append_left _ (List.mem_of_getElem? (i := 8) rfl)))) rfl
theorem k2_9 : (Cond.selects R_D y_D_block y_D_block) ∈ wsA := wa_mem (List.mem_append_right _ (List.mem_append_right _ (List.mem_append_left _ (List.mem_of_getElem? (i := 9) rfl)))) rfl
theorem k2_10 : (Cond.code y_D_block b_D_block 7 (some .int)) ∈ wsA := wa_mem (List.mem_append_right _ (List.mem_append_right _ (List.mem_append_left _ (List.mem_of_getElem? (i := 10) rfl)))) rfl
theorem k2_11 : (Cond.methodLink R_L 131 y_L_frame) ∈ wsA := wa_mem (List.mem_append_right _ (List.mem_append_right _ (List.mem_append_left _ (List.mem_of_getElem? (i := 11) rfl)))) rfl
theorem k2_12 : (Cond.static y_L_frame) ∈ wsA := wa_mem (List.mem_append_right _ (List.mem_append_right _ (List.mem_append_left _ (List.mem_of_getElem? (i := 12) rfl)))) rfl
theorem k2_13 : (Cond.codeWith y_L_frame b_L_frame 5 (some .int) [(0, 10, 13, 13), (0, 10, 17, 17)]) ∈ wsA := wa_mem (List.mem_append_right _ (List.mem_append_right _ (List.mem_append_left _ (List.mem_of_getElem? (i := 13) rfl)))) rfl
theorem k2_14 : (Cond.methodLink R_L 37 y_D_frame) ∈ wsA := wa_mem (List.mem_append_right _ (List.mem_append_right _ (List.mem_append_left _ (List.mem_of_getElem? (i := 14) rfl)))) rfl
theorem k2_15 : (Cond.instanceMethod y_D_frame) ∈ wsA := wa_mem (List.mem_append_right _ (List.mem_append_right _ (List.mem_append_left _ (List.mem_of_getElem? (i := 15) rfl)))) rfl
theorem k2_16 : (Cond.selects R_D y_D_frame y_D_frame) ∈ wsA := wa_mem (List.mem_append_right _ (List.mem_append_right _ (List.mem_append_left _ (List.mem_of_getElem? (i := 16) rfl)))) rfl
theorem k2_17 : (Cond.code y_D_frame b_D_frame 7 (some .int)) ∈ wsA := wa_mem (List.mem_append_right _ (List.mem_append_right _ (List.mem_append_left _ (List.mem_of_getElem? (i := 17) rfl)))) rfl
theorem k2_18 : (Cond.methodLink R_D 81 y_D_sumOf) ∈ wsA := wa_mem (List.mem_append_right _ (List.mem_append_right _ (List.mem_append_left _ (List.mem_of_getElem? (i := 18) rfl)))) rfl
theorem k2_19 : (Cond.static y_D_sumOf) ∈ wsA := wa_mem (List.mem_append_right _ (List.mem_append_right _ (List.mem_append_left _ (List.mem_of_getElem? (i := 19) rfl)))) rfl
theorem k2_20 : (Cond.code y_D_sumOf b_D_sumOf 6 (some .int)) ∈ wsA := wa_mem (List.mem_append_right _ (List.mem_append_right _ (List.mem_append_left _ (List.mem_of_getElem? (i := 20) rfl)))) rfl
theorem k2_21 : (Cond.methodLink R_D 92 y_R_get) ∈ wsA := wa_mem (List.mem_append_right _ (List.mem_append_right _ (List.mem_append_left _ (List.mem_of_getElem? (i := 21) rfl)))) rfl
theorem k2_22 : (Cond.instanceMethod y_R_get) ∈ wsA := wa_mem (List.mem_append_right _ (List.mem_append_right _ (List.mem_append_left _ (List.mem_of_getElem? (i := 22) rfl)))) rfl
theorem k2_23 : (Cond.selects R_R y_R_get y_R_get) ∈ wsA := wa_mem (List.mem_append_right _ (List.mem_append_right _ (List.mem_append_left _ (List.mem_of_getElem? (i := 23) rfl)))) rfl
theorem k2_24 : (Cond.code y_R_get b_R_get 2 (some .int)) ∈ wsA := wa_mem (List.mem_append_right _ (List.mem_append_right _ (List.mem_append_left _ (List.mem_of_getElem? (i := 24) rfl)))) rfl
theorem k2_25 : (Cond.constant R_D 194 (-306674912)) ∈ wsA := wa_mem (List.mem_append_right _ (List.mem_append_right _ (List.mem_append_left _ (List.mem_of_getElem? (i := 25) rfl)))) rfl
theorem k2_26 : (Cond.methodLink R_L 134 y_L_cut) ∈ wsA := wa_mem (List.mem_append_right _ (List.mem_append_right _ (List.mem_append_left _ (List.mem_of_getElem? (i := 26) rfl)))) rfl
theorem k2_27 : (Cond.static y_L_cut) ∈ wsA := wa_mem (List.mem_append_right _ (List.mem_append_right _ (List.mem_append_left _ (List.mem_of_getElem? (i := 27) rfl)))) rfl
theorem k2_28 : (Cond.codeWith y_L_cut b_L_cut 5 (some .int) [(0, 10, 13, 13), (0, 10, 17, 15)]) ∈ wsA := wa_mem (List.mem_append_right _ (List.mem_append_right _ (List.mem_append_left _ (List.mem_of_getElem? (i := 28) rfl)))) rfl
theorem k2_29 : (Cond.methodLink R_L 40 y_D_cut) ∈ wsA := wa_mem (List.mem_append_right _ (List.mem_append_right _ (List.mem_append_left _ (List.mem_of_getElem? (i := 29) rfl)))) rfl
theorem k2_30 : (Cond.instanceMethod y_D_cut) ∈ wsA := wa_mem (List.mem_append_right _ (List.mem_append_right _ (List.mem_append_left _ (List.mem_of_getElem? (i := 30) rfl)))) rfl
theorem k2_31 : (Cond.selects R_D y_D_cut y_D_cut) ∈ wsA := wa_mem (List.mem_append_right _ (List.mem_append_right _ (List.mem_append_left _ (List.mem_of_getElem? (i := 31) rfl)))) rfl
theorem k2_32 : (Cond.code y_D_cut b_D_cut 5 (some .int)) ∈ wsA := wa_mem (List.mem_append_right _ (List.mem_append_right _ (List.mem_append_left _ (List.mem_of_getElem? (i := 32) rfl)))) rfl
theorem k2_33 : (Cond.methodLink R_L 137 y_L_turn) ∈ wsA := wa_mem (List.mem_append_right _ (List.mem_append_right _ (List.mem_append_left _ (List.mem_of_getElem? (i := 33) rfl)))) rfl
theorem k2_34 : (Cond.static y_L_turn) ∈ wsA := wa_mem (List.mem_append_right _ (List.mem_append_right _ (List.mem_append_left _ (List.mem_of_getElem? (i := 34) rfl)))) rfl
theorem k2_35 : (Cond.codeWith y_L_turn b_L_turn 5 (some .int) [(0, 10, 13, 13), (0, 10, 17, 15)]) ∈ wsA := wa_mem (List.mem_append_right _ (List.mem_append_right _ (List.mem_append_left _ (List.mem_of_getElem? (i := 35) rfl)))) rfl
theorem k2_36 : (Cond.methodLink R_L 43 y_D_turn) ∈ wsA := wa_mem (List.mem_append_right _ (List.mem_append_right _ (List.mem_append_left _ (List.mem_of_getElem? (i := 36) rfl)))) rfl
theorem k2_37 : (Cond.instanceMethod y_D_turn) ∈ wsA := wa_mem (List.mem_append_right _ (List.mem_append_right _ (List.mem_append_left _ (List.mem_of_getElem? (i := 37) rfl)))) rfl
theorem k2_38 : (Cond.selects R_D y_D_turn y_D_turn) ∈ wsA := wa_mem (List.mem_append_right _ (List.mem_append_right _ (List.mem_append_left _ (List.mem_of_getElem? (i := 38) rfl)))) rfl
theorem k2_39 : (Cond.code y_D_turn b_D_turn 5 (some .int)) ∈ wsA := wa_mem (List.mem_append_right _ (List.mem_append_right _ (List.mem_append_left _ (List.mem_of_getElem? (i := 39) rfl)))) rfl
theorem k2_41 : (Cond.methodLink R_L 140 y_L_place) ∈ wsA := wa_mem (List.mem_append_right _ (List.mem_append_right _ (List.mem_append_left _ (List.mem_of_getElem? (i := 41) rfl)))) rfl
theorem k2_42 : (Cond.static y_L_place) ∈ wsA := wa_mem (List.mem_append_right _ (List.mem_append_right _ (List.mem_append_left _ (List.mem_of_getElem? (i := 42) rfl)))) rfl
theorem k2_43 : (Cond.codeWith y_L_place b_L_place 5 (some .int) [(0, 10, 13, 13), (0, 10, 17, 15)]) ∈ wsA := wa_mem (List.mem_append_right _ (List.mem_append_right _ (List.mem_append_left _ (List.mem_of_getElem? (i := 43) rfl)))) rfl
theorem k2_44 : (Cond.methodLink R_L 46 y_D_place) ∈ wsA := wa_mem (List.mem_append_right _ (List.mem_append_right _ (List.mem_append_left _ (List.mem_of_getElem? (i := 44) rfl)))) rfl
theorem k2_45 : (Cond.instanceMethod y_D_place) ∈ wsA := wa_mem (List.mem_append_right _ (List.mem_append_right _ (List.mem_append_left _ (List.mem_of_getElem? (i := 45) rfl)))) rfl
theorem k2_46 : (Cond.selects R_D y_D_place y_D_place) ∈ wsA := wa_mem (List.mem_append_right _ (List.mem_append_right _ (List.mem_append_left _ (List.mem_of_getElem? (i := 46) rfl)))) rfl
theorem k2_47 : (Cond.code y_D_place b_D_place 5 (some .int)) ∈ wsA := wa_mem (List.mem_append_right _ (List.mem_append_right _ (List.mem_append_left _ (List.mem_of_getElem? (i := 47) rfl)))) rfl
theorem k2_49 : (Cond.methodLink R_L 143 y_L_readFixed) ∈ wsA := wa_mem (List.mem_append_right _ (List.mem_append_right _ (List.mem_append_left _ (List.mem_of_getElem? (i := 49) rfl)))) rfl
theorem k2_50 : (Cond.static y_L_readFixed) ∈ wsA := wa_mem (List.mem_append_right _ (List.mem_append_right _ (List.mem_append_left _ (List.mem_of_getElem? (i := 50) rfl)))) rfl
theorem k2_51 : (Cond.codeWith y_L_readFixed b_L_readFixed 5 (some .int) [(0, 9, 12, 13), (0, 9, 16, 15), (0, 9, 20, 53)]) ∈ wsA := wa_mem (List.mem_append_right _ (List.mem_append_right _ (List.mem_append_left _ (List.mem_of_getElem? (i := 51) rfl)))) rfl
theorem k2_52 : (Cond.classLink R_L 53 "java/util/NoSuchElementException") ∈ wsA := wa_mem (List.mem_append_right _ (List.mem_append_right _ (List.mem_append_left _ (List.mem_of_getElem? (i := 52) rfl)))) rfl
theorem k2_53 : (Cond.methodLink R_L 49 y_D_readFixed) ∈ wsA := wa_mem (List.mem_append_right _ (List.mem_append_right _ (List.mem_append_left _ (List.mem_of_getElem? (i := 53) rfl)))) rfl
theorem k2_54 : (Cond.instanceMethod y_D_readFixed) ∈ wsA := wa_mem (List.mem_append_right _ (List.mem_append_right _ (List.mem_append_left _ (List.mem_of_getElem? (i := 54) rfl)))) rfl
theorem k2_55 : (Cond.selects R_D y_D_readFixed y_D_readFixed) ∈ wsA := wa_mem (List.mem_append_right _ (List.mem_append_right _ (List.mem_append_left _ (List.mem_of_getElem? (i := 55) rfl)))) rfl
theorem k2_56 : (Cond.code y_D_readFixed b_D_readFixed 6 (some .long)) ∈ wsA := wa_mem (List.mem_append_right _ (List.mem_append_right _ (List.mem_append_left _ (List.mem_of_getElem? (i := 56) rfl)))) rfl
theorem k2_57 : (Cond.methodLink R_D 101 y_D_needLeft) ∈ wsA := wa_mem (List.mem_append_right _ (List.mem_append_right _ (List.mem_append_left _ (List.mem_of_getElem? (i := 57) rfl)))) rfl
theorem k2_58 : (Cond.static y_D_needLeft) ∈ wsA := wa_mem (List.mem_append_right _ (List.mem_append_right _ (List.mem_append_left _ (List.mem_of_getElem? (i := 58) rfl)))) rfl
theorem k2_59 : (Cond.code y_D_needLeft b_D_needLeft 2 none) ∈ wsA := wa_mem (List.mem_append_right _ (List.mem_append_right _ (List.mem_append_left _ (List.mem_of_getElem? (i := 59) rfl)))) rfl
theorem k2_60 : (Cond.classLink R_D 117 "java/util/NoSuchElementException") ∈ wsA := wa_mem (List.mem_append_right _ (List.mem_append_right _ (List.mem_append_left _ (List.mem_of_getElem? (i := 60) rfl)))) rfl
theorem k2_61 : (Cond.instantiable "java/util/NoSuchElementException" 6) ∈ wsA := wa_mem (List.mem_append_right _ (List.mem_append_right _ (List.mem_append_left _ (List.mem_of_getElem? (i := 61) rfl)))) rfl
theorem k2_76 : (Cond.methodLink R_D 104 y_D_fixedAt) ∈ wsA := wa_mem (List.mem_append_right _ (List.mem_append_right _ (List.mem_append_left _ (List.mem_of_getElem? (i := 76) rfl)))) rfl
theorem k2_77 : (Cond.static y_D_fixedAt) ∈ wsA := wa_mem (List.mem_append_right _ (List.mem_append_right _ (List.mem_append_left _ (List.mem_of_getElem? (i := 77) rfl)))) rfl
theorem k2_78 : (Cond.code y_D_fixedAt b_D_fixedAt 6 (some .long)) ∈ wsA := wa_mem (List.mem_append_right _ (List.mem_append_right _ (List.mem_append_left _ (List.mem_of_getElem? (i := 78) rfl)))) rfl
theorem k2_79 : (Cond.methodLink R_L 146 y_L_readSevens) ∈ wsA := wa_mem (List.mem_append_right _ (List.mem_append_right _ (List.mem_append_left _ (List.mem_of_getElem? (i := 79) rfl)))) rfl
theorem k2_80 : (Cond.static y_L_readSevens) ∈ wsA := wa_mem (List.mem_append_right _ (List.mem_append_right _ (List.mem_append_left _ (List.mem_of_getElem? (i := 80) rfl)))) rfl
theorem k2_81 : (Cond.codeWith y_L_readSevens b_L_readSevens 4 (some .int) [(0, 8, 11, 13), (0, 8, 14, 15), (0, 8, 17, 53)]) ∈ wsA := wa_mem (List.mem_append_right _ (List.mem_append_right _ (List.mem_append_left _ (List.mem_of_getElem? (i := 81) rfl)))) rfl
theorem k2_82 : (Cond.methodLink R_L 55 y_D_readSevens) ∈ wsA := wa_mem (List.mem_append_right _ (List.mem_append_right _ (List.mem_append_left _ (List.mem_of_getElem? (i := 82) rfl)))) rfl
theorem k2_83 : (Cond.instanceMethod y_D_readSevens) ∈ wsA := wa_mem (List.mem_append_right _ (List.mem_append_right _ (List.mem_append_left _ (List.mem_of_getElem? (i := 83) rfl)))) rfl
theorem k2_84 : (Cond.selects R_D y_D_readSevens y_D_readSevens) ∈ wsA := wa_mem (List.mem_append_right _ (List.mem_append_right _ (List.mem_append_left _ (List.mem_of_getElem? (i := 84) rfl)))) rfl
theorem k2_85 : (Cond.code y_D_readSevens b_D_readSevens 2 (some .long)) ∈ wsA := wa_mem (List.mem_append_right _ (List.mem_append_right _ (List.mem_append_left _ (List.mem_of_getElem? (i := 85) rfl)))) rfl
theorem k2_86 : (Cond.methodLink R_D 108 y_D_takeSevens) ∈ wsA := wa_mem (List.mem_append_right _ (List.mem_append_right _ (List.mem_append_left _ (List.mem_of_getElem? (i := 86) rfl)))) rfl
theorem k2_87 : (Cond.static y_D_takeSevens) ∈ wsA := wa_mem (List.mem_append_right _ (List.mem_append_right _ (List.mem_append_left _ (List.mem_of_getElem? (i := 87) rfl)))) rfl
theorem k2_88 : (Cond.code y_D_takeSevens b_D_takeSevens 4 (some .long)) ∈ wsA := wa_mem (List.mem_append_right _ (List.mem_append_right _ (List.mem_append_left _ (List.mem_of_getElem? (i := 88) rfl)))) rfl
theorem k2_89 : (Cond.methodLink R_D 126 y_D_sevensWidthAtPlace) ∈ wsA := wa_mem (List.mem_append_right _ (List.mem_append_right _ (List.mem_append_left _ (List.mem_of_getElem? (i := 89) rfl)))) rfl
theorem k2_90 : (Cond.static y_D_sevensWidthAtPlace) ∈ wsA := wa_mem (List.mem_append_right _ (List.mem_append_right _ (List.mem_append_left _ (List.mem_of_getElem? (i := 90) rfl)))) rfl
theorem k2_91 : (Cond.code y_D_sevensWidthAtPlace b_D_sevensWidthAtPlace 3 (some .int)) ∈ wsA := wa_mem (List.mem_append_right _ (List.mem_append_right _ (List.mem_append_left _ (List.mem_of_getElem? (i := 91) rfl)))) rfl
theorem k2_92 : (Cond.methodLink R_D 168 y_D_needRightLast) ∈ wsA := wa_mem (List.mem_append_right _ (List.mem_append_right _ (List.mem_append_left _ (List.mem_of_getElem? (i := 92) rfl)))) rfl
theorem k2_93 : (Cond.static y_D_needRightLast) ∈ wsA := wa_mem (List.mem_append_right _ (List.mem_append_right _ (List.mem_append_left _ (List.mem_of_getElem? (i := 93) rfl)))) rfl
theorem k2_94 : (Cond.code y_D_needRightLast b_D_needRightLast 2 none) ∈ wsA := wa_mem (List.mem_append_right _ (List.mem_append_right _ (List.mem_append_left _ (List.mem_of_getElem? (i := 94) rfl)))) rfl
theorem k2_98 : (Cond.methodLink R_D 177 y_D_sevensAtPlace) ∈ wsA := wa_mem (List.mem_append_right _ (List.mem_append_right _ (List.mem_append_left _ (List.mem_of_getElem? (i := 98) rfl)))) rfl
theorem k2_99 : (Cond.static y_D_sevensAtPlace) ∈ wsA := wa_mem (List.mem_append_right _ (List.mem_append_right _ (List.mem_append_left _ (List.mem_of_getElem? (i := 99) rfl)))) rfl
theorem k2_100 : (Cond.code y_D_sevensAtPlace b_D_sevensAtPlace 5 (some .long)) ∈ wsA := wa_mem (List.mem_append_right _ (List.mem_append_right _ (List.mem_append_left _ (List.mem_of_getElem? (i := 100) rfl)))) rfl
theorem k2_101 : (Cond.methodLink R_L 150 y_L_readSigned) ∈ wsA := wa_mem (List.mem_append_right _ (List.mem_append_right _ (List.mem_append_left _ (List.mem_of_getElem? (i := 101) rfl)))) rfl
theorem k2_102 : (Cond.static y_L_readSigned) ∈ wsA := wa_mem (List.mem_append_right _ (List.mem_append_right _ (List.mem_append_left _ (List.mem_of_getElem? (i := 102) rfl)))) rfl
theorem k2_103 : (Cond.codeWith y_L_readSigned b_L_readSigned 4 (some .int) [(0, 8, 11, 13), (0, 8, 14, 15), (0, 8, 17, 53)]) ∈ wsA := wa_mem (List.mem_append_right _ (List.mem_append_right _ (List.mem_append_left _ (List.mem_of_getElem? (i := 103) rfl)))) rfl
theorem k2_104 : (Cond.methodLink R_L 59 y_D_readSigned) ∈ wsA := wa_mem (List.mem_append_right _ (List.mem_append_right _ (List.mem_append_left _ (List.mem_of_getElem? (i := 104) rfl)))) rfl
theorem k2_105 : (Cond.instanceMethod y_D_readSigned) ∈ wsA := wa_mem (List.mem_append_right _ (List.mem_append_right _ (List.mem_append_left _ (List.mem_of_getElem? (i := 105) rfl)))) rfl
theorem k2_106 : (Cond.selects R_D y_D_readSigned y_D_readSigned) ∈ wsA := wa_mem (List.mem_append_right _ (List.mem_append_right _ (List.mem_append_left _ (List.mem_of_getElem? (i := 106) rfl)))) rfl
theorem k2_107 : (Cond.code y_D_readSigned b_D_readSigned 4 (some .long)) ∈ wsA := wa_mem (List.mem_append_right _ (List.mem_append_right _ (List.mem_append_left _ (List.mem_of_getElem? (i := 107) rfl)))) rfl
theorem k2_108 : (Cond.methodLink R_L 153 y_L_readLetter) ∈ wsA := wa_mem (List.mem_append_right _ (List.mem_append_right _ (List.mem_append_left _ (List.mem_of_getElem? (i := 108) rfl)))) rfl
theorem k2_109 : (Cond.static y_L_readLetter) ∈ wsA := wa_mem (List.mem_append_right _ (List.mem_append_right _ (List.mem_append_left _ (List.mem_of_getElem? (i := 109) rfl)))) rfl
theorem k2_110 : (Cond.codeWith y_L_readLetter b_L_readLetter 4 (some .int) [(0, 9, 12, 13), (0, 9, 15, 15), (0, 9, 18, 53)]) ∈ wsA := wa_mem (List.mem_append_right _ (List.mem_append_right _ (List.mem_append_left _ (List.mem_of_getElem? (i := 110) rfl)))) rfl
theorem k2_111 : (Cond.methodLink R_L 62 y_D_readLetter) ∈ wsA := wa_mem (List.mem_append_right _ (List.mem_append_right _ (List.mem_append_left _ (List.mem_of_getElem? (i := 111) rfl)))) rfl
theorem k2_112 : (Cond.instanceMethod y_D_readLetter) ∈ wsA := wa_mem (List.mem_append_right _ (List.mem_append_right _ (List.mem_append_left _ (List.mem_of_getElem? (i := 112) rfl)))) rfl
theorem k2_113 : (Cond.selects R_D y_D_readLetter y_D_readLetter) ∈ wsA := wa_mem (List.mem_append_right _ (List.mem_append_right _ (List.mem_append_left _ (List.mem_of_getElem? (i := 113) rfl)))) rfl
theorem k2_114 : (Cond.code y_D_readLetter b_D_readLetter 4 (some .int)) ∈ wsA := wa_mem (List.mem_append_right _ (List.mem_append_right _ (List.mem_append_left _ (List.mem_of_getElem? (i := 114) rfl)))) rfl
theorem k2_115 : (Cond.methodLink R_D 112 y_D_letterAt) ∈ wsA := wa_mem (List.mem_append_right _ (List.mem_append_right _ (List.mem_append_left _ (List.mem_of_getElem? (i := 115) rfl)))) rfl
theorem k2_116 : (Cond.static y_D_letterAt) ∈ wsA := wa_mem (List.mem_append_right _ (List.mem_append_right _ (List.mem_append_left _ (List.mem_of_getElem? (i := 116) rfl)))) rfl
theorem k2_117 : (Cond.code y_D_letterAt b_D_letterAt 8 (some .int)) ∈ wsA := wa_mem (List.mem_append_right _ (List.mem_append_right _ (List.mem_append_left _ (List.mem_of_getElem? (i := 117) rfl)))) rfl
theorem k2_118 : (Cond.methodLink R_D 191 y_D_widthByFirst) ∈ wsA := wa_mem (List.mem_append_right _ (List.mem_append_right _ (List.mem_append_left _ (List.mem_of_getElem? (i := 118) rfl)))) rfl
theorem k2_119 : (Cond.static y_D_widthByFirst) ∈ wsA := wa_mem (List.mem_append_right _ (List.mem_append_right _ (List.mem_append_left _ (List.mem_of_getElem? (i := 119) rfl)))) rfl
theorem k2_120 : (Cond.code y_D_widthByFirst b_D_widthByFirst 1 (some .int)) ∈ wsA := wa_mem (List.mem_append_right _ (List.mem_append_right _ (List.mem_append_left _ (List.mem_of_getElem? (i := 120) rfl)))) rfl
theorem k2_123 : (Cond.methodLink R_L 156 y_L_readBlock) ∈ wsA := wa_mem (List.mem_append_right _ (List.mem_append_right _ (List.mem_append_left _ (List.mem_of_getElem? (i := 123) rfl)))) rfl
theorem k2_124 : (Cond.static y_L_readBlock) ∈ wsA := wa_mem (List.mem_append_right _ (List.mem_append_right _ (List.mem_append_left _ (List.mem_of_getElem? (i := 124) rfl)))) rfl
theorem k2_125 : (Cond.codeWith y_L_readBlock b_L_readBlock 5 (some .int) [(0, 10, 13, 13), (0, 10, 17, 15), (0, 10, 21, 53)]) ∈ wsA := wa_mem (List.mem_append_right _ (List.mem_append_right _ (List.mem_append_left _ (List.mem_of_getElem? (i := 125) rfl)))) rfl
theorem k2_126 : (Cond.methodLink R_L 66 y_D_readBlock) ∈ wsA := wa_mem (List.mem_append_right _ (List.mem_append_right _ (List.mem_append_left _ (List.mem_of_getElem? (i := 126) rfl)))) rfl
theorem k2_127 : (Cond.instanceMethod y_D_readBlock) ∈ wsA := wa_mem (List.mem_append_right _ (List.mem_append_right _ (List.mem_append_left _ (List.mem_of_getElem? (i := 127) rfl)))) rfl
theorem k2_128 : (Cond.selects R_D y_D_readBlock y_D_readBlock) ∈ wsA := wa_mem (List.mem_append_right _ (List.mem_append_right _ (List.mem_append_left _ (List.mem_of_getElem? (i := 128) rfl)))) rfl
theorem k2_129 : (Cond.code y_D_readBlock b_D_readBlock 7 (some .int)) ∈ wsA := wa_mem (List.mem_append_right _ (List.mem_append_right _ (List.mem_append_left _ (List.mem_of_getElem? (i := 129) rfl)))) rfl
theorem k2_130 : (Cond.methodLink R_D 122 y_D_needTwoRows) ∈ wsA := wa_mem (List.mem_append_right _ (List.mem_append_right _ (List.mem_append_left _ (List.mem_of_getElem? (i := 130) rfl)))) rfl
theorem k2_131 : (Cond.static y_D_needTwoRows) ∈ wsA := wa_mem (List.mem_append_right _ (List.mem_append_right _ (List.mem_append_left _ (List.mem_of_getElem? (i := 131) rfl)))) rfl
theorem k2_132 : (Cond.code y_D_needTwoRows b_D_needTwoRows 2 none) ∈ wsA := wa_mem (List.mem_append_right _ (List.mem_append_right _ (List.mem_append_left _ (List.mem_of_getElem? (i := 132) rfl)))) rfl
theorem k2_134 : (Cond.methodLink R_D 130 y_D_howManyAtPlace) ∈ wsA := wa_mem (List.mem_append_right _ (List.mem_append_right _ (List.mem_append_left _ (List.mem_of_getElem? (i := 134) rfl)))) rfl
theorem k2_135 : (Cond.static y_D_howManyAtPlace) ∈ wsA := wa_mem (List.mem_append_right _ (List.mem_append_right _ (List.mem_append_left _ (List.mem_of_getElem? (i := 135) rfl)))) rfl
theorem k2_136 : (Cond.code y_D_howManyAtPlace b_D_howManyAtPlace 4 (some .int)) ∈ wsA := wa_mem (List.mem_append_right _ (List.mem_append_right _ (List.mem_append_left _ (List.mem_of_getElem? (i := 136) rfl)))) rfl
theorem k2_137 : (Cond.constantLong R_D 181 65536) ∈ wsA := wa_mem (List.mem_append_right _ (List.mem_append_right _ (List.mem_append_left _ (List.mem_of_getElem? (i := 137) rfl)))) rfl
theorem k2_139 : (Cond.methodLink R_D 134 y_D_moveBytes) ∈ wsA := wa_mem (List.mem_append_right _ (List.mem_append_right _ (List.mem_append_left _ (List.mem_of_getElem? (i := 139) rfl)))) rfl
theorem k2_140 : (Cond.static y_D_moveBytes) ∈ wsA := wa_mem (List.mem_append_right _ (List.mem_append_right _ (List.mem_append_left _ (List.mem_of_getElem? (i := 140) rfl)))) rfl
theorem k2_141 : (Cond.code y_D_moveBytes b_D_moveBytes 4 none) ∈ wsA := wa_mem (List.mem_append_right _ (List.mem_append_right _ (List.mem_append_left _ (List.mem_of_getElem? (i := 141) rfl)))) rfl
theorem k2_142 : (Cond.methodLink R_L 159 y_L_readFrame) ∈ wsA := wa_mem (List.mem_append_right _ (List.mem_append_right _ (List.mem_append_left _ (List.mem_of_getElem? (i := 142) rfl)))) rfl
theorem k2_143 : (Cond.static y_L_readFrame) ∈ wsA := wa_mem (List.mem_append_right _ (List.mem_append_right _ (List.mem_append_left _ (List.mem_of_getElem? (i := 143) rfl)))) rfl
theorem k2_144 : (Cond.codeWith y_L_readFrame b_L_readFrame 5 (some .int) [(0, 10, 13, 13), (0, 10, 17, 15), (0, 10, 21, 53), (0, 10, 25, 72)]) ∈ wsA := wa_mem (List.mem_append_right _ (List.mem_append_right _ (List.mem_append_left _ (List.mem_of_getElem? (i := 144) rfl)))) rfl
theorem k2_145 : (Cond.classLink R_L 72 "java/lang/UnsupportedOperationException") ∈ wsA := wa_mem (List.mem_append_right _ (List.mem_append_right _ (List.mem_append_left _ (List.mem_of_getElem? (i := 145) rfl)))) rfl
theorem k2_146 : (Cond.methodLink R_L 69 y_D_readFrame) ∈ wsA := wa_mem (List.mem_append_right _ (List.mem_append_right _ (List.mem_append_left _ (List.mem_of_getElem? (i := 146) rfl)))) rfl
theorem k2_147 : (Cond.instanceMethod y_D_readFrame) ∈ wsA := wa_mem (List.mem_append_right _ (List.mem_append_right _ (List.mem_append_left _ (List.mem_of_getElem? (i := 147) rfl)))) rfl
theorem k2_148 : (Cond.selects R_D y_D_readFrame y_D_readFrame) ∈ wsA := wa_mem (List.mem_append_right _ (List.mem_append_right _ (List.mem_append_left _ (List.mem_of_getElem? (i := 148) rfl)))) rfl
theorem k2_149 : (Cond.code y_D_readFrame b_D_readFrame 9 (some .int)) ∈ wsA := wa_mem (List.mem_append_right _ (List.mem_append_right _ (List.mem_append_left _ (List.mem_of_getElem? (i := 149) rfl)))) rfl
theorem k2_150 : (Cond.classLink R_D 138 "java/lang/UnsupportedOperationException") ∈ wsA := wa_mem (List.mem_append_right _ (List.mem_append_right _ (List.mem_append_left _ (List.mem_of_getElem? (i := 150) rfl)))) rfl
theorem k2_151 : (Cond.instantiable "java/lang/UnsupportedOperationException" 6) ∈ wsA := wa_mem (List.mem_append_right _ (List.mem_append_right _ (List.mem_append_left _ (List.mem_of_getElem? (i := 151) rfl)))) rfl
theorem k2_166 : (Cond.methodLink R_L 162 y_L_letters) ∈ wsA := wa_mem (List.mem_append_right _ (List.mem_append_right _ (List.mem_append_left _ (List.mem_of_getElem? (i := 166) rfl)))) rfl
theorem k2_167 : (Cond.static y_L_letters) ∈ wsA := wa_mem (List.mem_append_right _ (List.mem_append_right _ (List.mem_append_left _ (List.mem_of_getElem? (i := 167) rfl)))) rfl
theorem k2_168 : (Cond.codeWith y_L_letters b_L_letters 6 (some .int) [(0, 12, 15, 13), (0, 12, 19, 15)]) ∈ wsA := wa_mem (List.mem_append_right _ (List.mem_append_right _ (List.mem_append_left _ (List.mem_of_getElem? (i := 168) rfl)))) rfl
theorem k2_169 : (Cond.methodLink R_L 74 y_D_letters) ∈ wsA := wa_mem (List.mem_append_right _ (List.mem_append_right _ (List.mem_append_left _ (List.mem_of_getElem? (i := 169) rfl)))) rfl
theorem k2_170 : (Cond.instanceMethod y_D_letters) ∈ wsA := wa_mem (List.mem_append_right _ (List.mem_append_right _ (List.mem_append_left _ (List.mem_of_getElem? (i := 170) rfl)))) rfl
theorem k2_171 : (Cond.selects R_D y_D_letters y_D_letters) ∈ wsA := wa_mem (List.mem_append_right _ (List.mem_append_right _ (List.mem_append_left _ (List.mem_of_getElem? (i := 171) rfl)))) rfl
theorem k2_172 : (Cond.code y_D_letters b_D_letters 9 (some .int)) ∈ wsA := wa_mem (List.mem_append_right _ (List.mem_append_right _ (List.mem_append_left _ (List.mem_of_getElem? (i := 172) rfl)))) rfl
theorem k2_174 : (Cond.methodLink R_L 166 y_L_sum) ∈ wsA := wa_mem (List.mem_append_right _ (List.mem_append_right _ (List.mem_append_left _ (List.mem_of_getElem? (i := 174) rfl)))) rfl
theorem k2_175 : (Cond.static y_L_sum) ∈ wsA := wa_mem (List.mem_append_right _ (List.mem_append_right _ (List.mem_append_left _ (List.mem_of_getElem? (i := 175) rfl)))) rfl
theorem k2_176 : (Cond.codeWith y_L_sum b_L_sum 6 (some .int) [(0, 12, 15, 13), (0, 12, 19, 15)]) ∈ wsA := wa_mem (List.mem_append_right _ (List.mem_append_right _ (List.mem_append_left _ (List.mem_of_getElem? (i := 176) rfl)))) rfl
theorem k2_177 : (Cond.methodLink R_L 78 y_D_sum) ∈ wsA := wa_mem (List.mem_append_right _ (List.mem_append_right _ (List.mem_append_left _ (List.mem_of_getElem? (i := 177) rfl)))) rfl
theorem k2_178 : (Cond.instanceMethod y_D_sum) ∈ wsA := wa_mem (List.mem_append_right _ (List.mem_append_right _ (List.mem_append_left _ (List.mem_of_getElem? (i := 178) rfl)))) rfl
theorem k2_179 : (Cond.selects R_D y_D_sum y_D_sum) ∈ wsA := wa_mem (List.mem_append_right _ (List.mem_append_right _ (List.mem_append_left _ (List.mem_of_getElem? (i := 179) rfl)))) rfl
theorem k2_180 : (Cond.code y_D_sum b_D_sum 5 (some .int)) ∈ wsA := wa_mem (List.mem_append_right _ (List.mem_append_right _ (List.mem_append_left _ (List.mem_of_getElem? (i := 180) rfl)))) rfl
theorem k2_181 : (Cond.methodLink R_L 169 y_L_same) ∈ wsA := wa_mem (List.mem_append_right _ (List.mem_append_right _ (List.mem_append_left _ (List.mem_of_getElem? (i := 181) rfl)))) rfl
theorem k2_182 : (Cond.static y_L_same) ∈ wsA := wa_mem (List.mem_append_right _ (List.mem_append_right _ (List.mem_append_left _ (List.mem_of_getElem? (i := 182) rfl)))) rfl
theorem k2_183 : (Cond.codeWith y_L_same b_L_same 5 (some .int) [(0, 17, 20, 13)]) ∈ wsA := wa_mem (List.mem_append_right _ (List.mem_append_right _ (List.mem_append_left _ (List.mem_of_getElem? (i := 183) rfl)))) rfl
theorem k2_184 : (Cond.methodLink R_L 81 y_D_same) ∈ wsA := wa_mem (List.mem_append_right _ (List.mem_append_right _ (List.mem_append_left _ (List.mem_of_getElem? (i := 184) rfl)))) rfl
theorem k2_185 : (Cond.instanceMethod y_D_same) ∈ wsA := wa_mem (List.mem_append_right _ (List.mem_append_right _ (List.mem_append_left _ (List.mem_of_getElem? (i := 185) rfl)))) rfl
theorem k2_186 : (Cond.selects R_D y_D_same y_D_same) ∈ wsA := wa_mem (List.mem_append_right _ (List.mem_append_right _ (List.mem_append_left _ (List.mem_of_getElem? (i := 186) rfl)))) rfl
theorem k2_187 : (Cond.code y_D_same b_D_same 6 (some .boolean)) ∈ wsA := wa_mem (List.mem_append_right _ (List.mem_append_right _ (List.mem_append_left _ (List.mem_of_getElem? (i := 187) rfl)))) rfl
theorem k2_188 : (Cond.methodLink R_L 172 y_L_row) ∈ wsA := wa_mem (List.mem_append_right _ (List.mem_append_right _ (List.mem_append_left _ (List.mem_of_getElem? (i := 188) rfl)))) rfl
theorem k2_189 : (Cond.static y_L_row) ∈ wsA := wa_mem (List.mem_append_right _ (List.mem_append_right _ (List.mem_append_left _ (List.mem_of_getElem? (i := 189) rfl)))) rfl
theorem k2_190 : (Cond.codeWith y_L_row b_L_row 5 (some .int) [(0, 10, 13, 13), (0, 10, 17, 15)]) ∈ wsA := wa_mem (List.mem_append_right _ (List.mem_append_right _ (List.mem_append_left _ (List.mem_of_getElem? (i := 190) rfl)))) rfl
theorem k2_191 : (Cond.methodLink R_L 85 y_D_row) ∈ wsA := wa_mem (List.mem_append_right _ (List.mem_append_right _ (List.mem_append_left _ (List.mem_of_getElem? (i := 191) rfl)))) rfl
theorem k2_192 : (Cond.instanceMethod y_D_row) ∈ wsA := wa_mem (List.mem_append_right _ (List.mem_append_right _ (List.mem_append_left _ (List.mem_of_getElem? (i := 192) rfl)))) rfl
theorem k2_193 : (Cond.selects R_D y_D_row y_D_row) ∈ wsA := wa_mem (List.mem_append_right _ (List.mem_append_right _ (List.mem_append_left _ (List.mem_of_getElem? (i := 193) rfl)))) rfl
theorem k2_194 : (Cond.code y_D_row b_D_row 4 (some .int)) ∈ wsA := wa_mem (List.mem_append_right _ (List.mem_append_right _ (List.mem_append_left _ (List.mem_of_getElem? (i := 194) rfl)))) rfl
theorem k2_196 : (Cond.methodLink R_L 175 y_L_byteAt) ∈ wsA := wa_mem (List.mem_append_right _ (List.mem_append_right _ (List.mem_append_left _ (List.mem_of_getElem? (i := 196) rfl)))) rfl
theorem k2_197 : (Cond.static y_L_byteAt) ∈ wsA := wa_mem (List.mem_append_right _ (List.mem_append_right _ (List.mem_append_left _ (List.mem_of_getElem? (i := 197) rfl)))) rfl
theorem k2_198 : (Cond.codeWith y_L_byteAt b_L_byteAt 5 (some .int) [(0, 10, 13, 13), (0, 10, 17, 15)]) ∈ wsA := wa_mem (List.mem_append_right _ (List.mem_append_right _ (List.mem_append_left _ (List.mem_of_getElem? (i := 198) rfl)))) rfl
theorem k2_199 : (Cond.methodLink R_L 88 y_D_byteAt) ∈ wsA := wa_mem (List.mem_append_right _ (List.mem_append_right _ (List.mem_append_left _ (List.mem_of_getElem? (i := 199) rfl)))) rfl
theorem k2_200 : (Cond.instanceMethod y_D_byteAt) ∈ wsA := wa_mem (List.mem_append_right _ (List.mem_append_right _ (List.mem_append_left _ (List.mem_of_getElem? (i := 200) rfl)))) rfl
theorem k2_201 : (Cond.selects R_D y_D_byteAt y_D_byteAt) ∈ wsA := wa_mem (List.mem_append_right _ (List.mem_append_right _ (List.mem_append_left _ (List.mem_of_getElem? (i := 201) rfl)))) rfl
theorem k2_202 : (Cond.code y_D_byteAt b_D_byteAt 4 (some .int)) ∈ wsA := wa_mem (List.mem_append_right _ (List.mem_append_right _ (List.mem_append_left _ (List.mem_of_getElem? (i := 202) rfl)))) rfl
theorem k2_204 : (Cond.classLink R_L 100 R_M) ∈ wsA := wa_mem (List.mem_append_right _ (List.mem_append_right _ (List.mem_append_left _ (List.mem_of_getElem? (i := 204) rfl)))) rfl
theorem k2_205 : (Cond.instantiable R_M 6) ∈ wsA := wa_mem (List.mem_append_right _ (List.mem_append_right _ (List.mem_append_left _ (List.mem_of_getElem? (i := 205) rfl)))) rfl
theorem k2_206 : (Cond.methodLink R_L 102 y_M_init) ∈ wsA := wa_mem (List.mem_append_right _ (List.mem_append_right _ (List.mem_append_left _ (List.mem_of_getElem? (i := 206) rfl)))) rfl
theorem k2_207 : (Cond.instanceMethod y_M_init) ∈ wsA := wa_mem (List.mem_append_right _ (List.mem_append_right _ (List.mem_append_left _ (List.mem_of_getElem? (i := 207) rfl)))) rfl
theorem k2_208 : (Cond.code y_M_init b_M_init 2 none) ∈ wsA := wa_mem (List.mem_append_right _ (List.mem_append_right _ (List.mem_append_left _ (List.mem_of_getElem? (i := 208) rfl)))) rfl
theorem k2_209 : (Cond.methodLink R_M 1 objectInit) ∈ wsA := wa_mem (List.mem_append_right _ (List.mem_append_right _ (List.mem_append_left _ (List.mem_of_getElem? (i := 209) rfl)))) rfl
theorem k2_210 : (Cond.constant R_M 7 32768) ∈ wsA := wa_mem (List.mem_append_right _ (List.mem_append_right _ (List.mem_append_left _ (List.mem_of_getElem? (i := 210) rfl)))) rfl
theorem k2_211 : (Cond.constant R_M 21 65536) ∈ wsA := wa_mem (List.mem_append_right _ (List.mem_append_right _ (List.mem_append_left _ (List.mem_of_getElem? (i := 211) rfl)))) rfl
theorem k2_212 : (Cond.fieldLink R_M 26 R_M "thrown" "I") ∈ wsA := wa_mem (List.mem_append_right _ (List.mem_append_right _ (List.mem_append_left _ (List.mem_of_getElem? (i := 212) rfl)))) rfl
theorem k2_213 : (Cond.fieldLink R_M 22 R_M "limit" "I") ∈ wsA := wa_mem (List.mem_append_right _ (List.mem_append_right _ (List.mem_append_left _ (List.mem_of_getElem? (i := 213) rfl)))) rfl
theorem k2_214 : (Cond.fieldLink R_M 8 R_M "cells" "[J") ∈ wsA := wa_mem (List.mem_append_right _ (List.mem_append_right _ (List.mem_append_left _ (List.mem_of_getElem? (i := 214) rfl)))) rfl
theorem k2_215 : (Cond.fieldLink R_M 14 R_M "sizes" "[I") ∈ wsA := wa_mem (List.mem_append_right _ (List.mem_append_right _ (List.mem_append_left _ (List.mem_of_getElem? (i := 215) rfl)))) rfl
theorem k2_216 : (Cond.fieldLink R_M 18 R_M "places" "[I") ∈ wsA := wa_mem (List.mem_append_right _ (List.mem_append_right _ (List.mem_append_left _ (List.mem_of_getElem? (i := 216) rfl)))) rfl
theorem k2_217 : (Cond.fieldLink R_M 100 R_M "took" "I") ∈ wsA := wa_mem (List.mem_append_right _ (List.mem_append_right _ (List.mem_append_left _ (List.mem_of_getElem? (i := 217) rfl)))) rfl
theorem k2_231 : (Cond.arrayClass .long) ∈ wsA := wa_mem (List.mem_append_right _ (List.mem_append_right _ (List.mem_append_left _ (List.mem_of_getElem? (i := 231) rfl)))) rfl
theorem k2_232 : (Cond.arrayClass .int) ∈ wsA := wa_mem (List.mem_append_right _ (List.mem_append_right _ (List.mem_append_left _ (List.mem_of_getElem? (i := 232) rfl)))) rfl
theorem k2_233 : (Cond.methodLink R_L 109 y_M_thrown) ∈ wsA := wa_mem (List.mem_append_right _ (List.mem_append_right _ (List.mem_append_left _ (List.mem_of_getElem? (i := 233) rfl)))) rfl
theorem k2_234 : (Cond.instanceMethod y_M_thrown) ∈ wsA := wa_mem (List.mem_append_right _ (List.mem_append_right _ (List.mem_append_left _ (List.mem_of_getElem? (i := 234) rfl)))) rfl
theorem k2_235 : (Cond.selects R_M y_M_thrown y_M_thrown) ∈ wsA := wa_mem (List.mem_append_right _ (List.mem_append_right _ (List.mem_append_left _ (List.mem_of_getElem? (i := 235) rfl)))) rfl
theorem k2_236 : (Cond.code y_M_thrown b_M_thrown 1 (some .int)) ∈ wsA := wa_mem (List.mem_append_right _ (List.mem_append_right _ (List.mem_append_left _ (List.mem_of_getElem? (i := 236) rfl)))) rfl
theorem k2_237 : (Cond.methodLink R_L 108 y_M_fixed) ∈ wsA := wa_mem (List.mem_append_right _ (List.mem_append_right _ (List.mem_append_left _ (List.mem_of_getElem? (i := 237) rfl)))) rfl
theorem k2_238 : (Cond.instanceMethod y_M_fixed) ∈ wsA := wa_mem (List.mem_append_right _ (List.mem_append_right _ (List.mem_append_left _ (List.mem_of_getElem? (i := 238) rfl)))) rfl
theorem k2_239 : (Cond.selects R_M y_M_fixed y_M_fixed) ∈ wsA := wa_mem (List.mem_append_right _ (List.mem_append_right _ (List.mem_append_left _ (List.mem_of_getElem? (i := 239) rfl)))) rfl
theorem k3_0 : (Cond.code y_M_fixed b_M_fixed 6 (some .int)) ∈ wsA := wa_mem (List.mem_append_right _ (List.mem_append_right _ (List.mem_append_right _ (List.mem_of_getElem? (i := 0) rfl)))) rfl
theorem k3_1 : (Cond.methodLink R_M 52 y_M_isRow) ∈ wsA := wa_mem (List.mem_append_right _ (List.mem_append_right _ (List.mem_append_right _ (List.mem_of_getElem? (i := 1) rfl)))) rfl
theorem k3_2 : (Cond.static y_M_isRow) ∈ wsA := wa_mem (List.mem_append_right _ (List.mem_append_right _ (List.mem_append_right _ (List.mem_of_getElem? (i := 2) rfl)))) rfl
theorem k3_3 : (Cond.code y_M_isRow b_M_isRow 1 (some .boolean)) ∈ wsA := wa_mem (List.mem_append_right _ (List.mem_append_right _ (List.mem_append_right _ (List.mem_of_getElem? (i := 3) rfl)))) rfl
theorem k3_4 : (Cond.methodLink R_M 56 y_M_fail) ∈ wsA := wa_mem (List.mem_append_right _ (List.mem_append_right _ (List.mem_append_right _ (List.mem_of_getElem? (i := 4) rfl)))) rfl
theorem k3_6 : (Cond.instanceMethod y_M_fail) ∈ wsA := wa_mem (List.mem_append_right _ (List.mem_append_right _ (List.mem_append_right _ (List.mem_of_getElem? (i := 6) rfl)))) rfl
theorem k3_7 : (Cond.code y_M_fail b_M_fail 2 (some .int)) ∈ wsA := wa_mem (List.mem_append_right _ (List.mem_append_right _ (List.mem_append_right _ (List.mem_of_getElem? (i := 7) rfl)))) rfl
theorem k3_8 : (Cond.methodLink R_M 60 y_M_fits) ∈ wsA := wa_mem (List.mem_append_right _ (List.mem_append_right _ (List.mem_append_right _ (List.mem_of_getElem? (i := 8) rfl)))) rfl
theorem k3_10 : (Cond.instanceMethod y_M_fits) ∈ wsA := wa_mem (List.mem_append_right _ (List.mem_append_right _ (List.mem_append_right _ (List.mem_of_getElem? (i := 10) rfl)))) rfl
theorem k3_11 : (Cond.code y_M_fits b_M_fits 3 (some .boolean)) ∈ wsA := wa_mem (List.mem_append_right _ (List.mem_append_right _ (List.mem_append_right _ (List.mem_of_getElem? (i := 11) rfl)))) rfl
theorem k3_12 : (Cond.constantLong R_M 29 255) ∈ wsA := wa_mem (List.mem_append_right _ (List.mem_append_right _ (List.mem_append_right _ (List.mem_of_getElem? (i := 12) rfl)))) rfl
theorem k3_13 : (Cond.methodLink R_M 43 y_M_add) ∈ wsA := wa_mem (List.mem_append_right _ (List.mem_append_right _ (List.mem_append_right _ (List.mem_of_getElem? (i := 13) rfl)))) rfl
theorem k3_15 : (Cond.instanceMethod y_M_add) ∈ wsA := wa_mem (List.mem_append_right _ (List.mem_append_right _ (List.mem_append_right _ (List.mem_of_getElem? (i := 15) rfl)))) rfl
theorem k3_16 : (Cond.code y_M_add b_M_add 3 none) ∈ wsA := wa_mem (List.mem_append_right _ (List.mem_append_right _ (List.mem_append_right _ (List.mem_of_getElem? (i := 16) rfl)))) rfl
theorem k3_17 : (Cond.methodLink R_M 33 y_M_set) ∈ wsA := wa_mem (List.mem_append_right _ (List.mem_append_right _ (List.mem_append_right _ (List.mem_of_getElem? (i := 17) rfl)))) rfl
theorem k3_19 : (Cond.instanceMethod y_M_set) ∈ wsA := wa_mem (List.mem_append_right _ (List.mem_append_right _ (List.mem_append_right _ (List.mem_of_getElem? (i := 19) rfl)))) rfl
theorem k3_20 : (Cond.code y_M_set b_M_set 6 none) ∈ wsA := wa_mem (List.mem_append_right _ (List.mem_append_right _ (List.mem_append_right _ (List.mem_of_getElem? (i := 20) rfl)))) rfl
theorem k3_21 : (Cond.constantLong R_M 31 (-1)) ∈ wsA := wa_mem (List.mem_append_right _ (List.mem_append_right _ (List.mem_append_right _ (List.mem_of_getElem? (i := 21) rfl)))) rfl
theorem k3_22 : (Cond.methodLink R_L 116 y_M_sevens) ∈ wsA := wa_mem (List.mem_append_right _ (List.mem_append_right _ (List.mem_append_right _ (List.mem_of_getElem? (i := 22) rfl)))) rfl
theorem k3_23 : (Cond.instanceMethod y_M_sevens) ∈ wsA := wa_mem (List.mem_append_right _ (List.mem_append_right _ (List.mem_append_right _ (List.mem_of_getElem? (i := 23) rfl)))) rfl
theorem k3_24 : (Cond.selects R_M y_M_sevens y_M_sevens) ∈ wsA := wa_mem (List.mem_append_right _ (List.mem_append_right _ (List.mem_append_right _ (List.mem_of_getElem? (i := 24) rfl)))) rfl
theorem k3_25 : (Cond.code y_M_sevens b_M_sevens 4 (some .int)) ∈ wsA := wa_mem (List.mem_append_right _ (List.mem_append_right _ (List.mem_append_right _ (List.mem_of_getElem? (i := 25) rfl)))) rfl
theorem k3_26 : (Cond.methodLink R_M 68 y_M_putGroups) ∈ wsA := wa_mem (List.mem_append_right _ (List.mem_append_right _ (List.mem_append_right _ (List.mem_of_getElem? (i := 26) rfl)))) rfl
theorem k3_28 : (Cond.instanceMethod y_M_putGroups) ∈ wsA := wa_mem (List.mem_append_right _ (List.mem_append_right _ (List.mem_append_right _ (List.mem_of_getElem? (i := 28) rfl)))) rfl
theorem k3_29 : (Cond.code y_M_putGroups b_M_putGroups 5 (some .int)) ∈ wsA := wa_mem (List.mem_append_right _ (List.mem_append_right _ (List.mem_append_right _ (List.mem_of_getElem? (i := 29) rfl)))) rfl
theorem k3_30 : (Cond.methodLink R_M 37 y_M_groups) ∈ wsA := wa_mem (List.mem_append_right _ (List.mem_append_right _ (List.mem_append_right _ (List.mem_of_getElem? (i := 30) rfl)))) rfl
theorem k3_31 : (Cond.static y_M_groups) ∈ wsA := wa_mem (List.mem_append_right _ (List.mem_append_right _ (List.mem_append_right _ (List.mem_of_getElem? (i := 31) rfl)))) rfl
theorem k3_32 : (Cond.code y_M_groups b_M_groups 5 (some .int)) ∈ wsA := wa_mem (List.mem_append_right _ (List.mem_append_right _ (List.mem_append_right _ (List.mem_of_getElem? (i := 32) rfl)))) rfl
theorem k3_33 : (Cond.methodLink R_M 64 y_M_addGroups) ∈ wsA := wa_mem (List.mem_append_right _ (List.mem_append_right _ (List.mem_append_right _ (List.mem_of_getElem? (i := 33) rfl)))) rfl
theorem k3_35 : (Cond.instanceMethod y_M_addGroups) ∈ wsA := wa_mem (List.mem_append_right _ (List.mem_append_right _ (List.mem_append_right _ (List.mem_of_getElem? (i := 35) rfl)))) rfl
theorem k3_36 : (Cond.code y_M_addGroups b_M_addGroups 7 none) ∈ wsA := wa_mem (List.mem_append_right _ (List.mem_append_right _ (List.mem_append_right _ (List.mem_of_getElem? (i := 36) rfl)))) rfl
theorem k3_37 : (Cond.constantLong R_M 41 127) ∈ wsA := wa_mem (List.mem_append_right _ (List.mem_append_right _ (List.mem_append_right _ (List.mem_of_getElem? (i := 37) rfl)))) rfl
theorem k3_38 : (Cond.methodLink R_L 119 y_M_signed) ∈ wsA := wa_mem (List.mem_append_right _ (List.mem_append_right _ (List.mem_append_right _ (List.mem_of_getElem? (i := 38) rfl)))) rfl
theorem k3_39 : (Cond.instanceMethod y_M_signed) ∈ wsA := wa_mem (List.mem_append_right _ (List.mem_append_right _ (List.mem_append_right _ (List.mem_of_getElem? (i := 39) rfl)))) rfl
theorem k3_40 : (Cond.selects R_M y_M_signed y_M_signed) ∈ wsA := wa_mem (List.mem_append_right _ (List.mem_append_right _ (List.mem_append_right _ (List.mem_of_getElem? (i := 40) rfl)))) rfl
theorem k3_41 : (Cond.code y_M_signed b_M_signed 4 (some .int)) ∈ wsA := wa_mem (List.mem_append_right _ (List.mem_append_right _ (List.mem_append_right _ (List.mem_of_getElem? (i := 41) rfl)))) rfl
theorem k3_42 : (Cond.methodLink R_M 72 y_M_folded) ∈ wsA := wa_mem (List.mem_append_right _ (List.mem_append_right _ (List.mem_append_right _ (List.mem_of_getElem? (i := 42) rfl)))) rfl
theorem k3_43 : (Cond.static y_M_folded) ∈ wsA := wa_mem (List.mem_append_right _ (List.mem_append_right _ (List.mem_append_right _ (List.mem_of_getElem? (i := 43) rfl)))) rfl
theorem k3_44 : (Cond.code y_M_folded b_M_folded 2 (some .long)) ∈ wsA := wa_mem (List.mem_append_right _ (List.mem_append_right _ (List.mem_append_right _ (List.mem_of_getElem? (i := 44) rfl)))) rfl
theorem k3_45 : (Cond.methodLink R_L 123 y_M_letter) ∈ wsA := wa_mem (List.mem_append_right _ (List.mem_append_right _ (List.mem_append_right _ (List.mem_of_getElem? (i := 45) rfl)))) rfl
theorem k3_46 : (Cond.instanceMethod y_M_letter) ∈ wsA := wa_mem (List.mem_append_right _ (List.mem_append_right _ (List.mem_append_right _ (List.mem_of_getElem? (i := 46) rfl)))) rfl
theorem k3_47 : (Cond.selects R_M y_M_letter y_M_letter) ∈ wsA := wa_mem (List.mem_append_right _ (List.mem_append_right _ (List.mem_append_right _ (List.mem_of_getElem? (i := 47) rfl)))) rfl
theorem k3_48 : (Cond.code y_M_letter b_M_letter 7 (some .int)) ∈ wsA := wa_mem (List.mem_append_right _ (List.mem_append_right _ (List.mem_append_right _ (List.mem_of_getElem? (i := 48) rfl)))) rfl
theorem k3_49 : (Cond.methodLink R_M 79 y_M_isLetter) ∈ wsA := wa_mem (List.mem_append_right _ (List.mem_append_right _ (List.mem_append_right _ (List.mem_of_getElem? (i := 49) rfl)))) rfl
theorem k3_50 : (Cond.static y_M_isLetter) ∈ wsA := wa_mem (List.mem_append_right _ (List.mem_append_right _ (List.mem_append_right _ (List.mem_of_getElem? (i := 50) rfl)))) rfl
theorem k3_51 : (Cond.code y_M_isLetter b_M_isLetter 1 (some .boolean)) ∈ wsA := wa_mem (List.mem_append_right _ (List.mem_append_right _ (List.mem_append_right _ (List.mem_of_getElem? (i := 51) rfl)))) rfl
theorem k3_52 : (Cond.constant R_M 76 1114111) ∈ wsA := wa_mem (List.mem_append_right _ (List.mem_append_right _ (List.mem_append_right _ (List.mem_of_getElem? (i := 52) rfl)))) rfl
theorem k3_53 : (Cond.constant R_M 77 55296) ∈ wsA := wa_mem (List.mem_append_right _ (List.mem_append_right _ (List.mem_append_right _ (List.mem_of_getElem? (i := 53) rfl)))) rfl
theorem k3_54 : (Cond.constant R_M 78 57343) ∈ wsA := wa_mem (List.mem_append_right _ (List.mem_append_right _ (List.mem_append_right _ (List.mem_of_getElem? (i := 54) rfl)))) rfl
theorem k3_55 : (Cond.methodLink R_M 82 y_M_lengthOf) ∈ wsA := wa_mem (List.mem_append_right _ (List.mem_append_right _ (List.mem_append_right _ (List.mem_of_getElem? (i := 55) rfl)))) rfl
theorem k3_56 : (Cond.static y_M_lengthOf) ∈ wsA := wa_mem (List.mem_append_right _ (List.mem_append_right _ (List.mem_append_right _ (List.mem_of_getElem? (i := 56) rfl)))) rfl
theorem k3_57 : (Cond.code y_M_lengthOf b_M_lengthOf 1 (some .int)) ∈ wsA := wa_mem (List.mem_append_right _ (List.mem_append_right _ (List.mem_append_right _ (List.mem_of_getElem? (i := 57) rfl)))) rfl
theorem k3_58 : (Cond.methodLink R_L 127 y_M_copy) ∈ wsA := wa_mem (List.mem_append_right _ (List.mem_append_right _ (List.mem_append_right _ (List.mem_of_getElem? (i := 58) rfl)))) rfl
theorem k3_59 : (Cond.instanceMethod y_M_copy) ∈ wsA := wa_mem (List.mem_append_right _ (List.mem_append_right _ (List.mem_append_right _ (List.mem_of_getElem? (i := 59) rfl)))) rfl
theorem k3_60 : (Cond.selects R_M y_M_copy y_M_copy) ∈ wsA := wa_mem (List.mem_append_right _ (List.mem_append_right _ (List.mem_append_right _ (List.mem_of_getElem? (i := 60) rfl)))) rfl
theorem k3_61 : (Cond.code y_M_copy b_M_copy 6 (some .int)) ∈ wsA := wa_mem (List.mem_append_right _ (List.mem_append_right _ (List.mem_append_right _ (List.mem_of_getElem? (i := 61) rfl)))) rfl
theorem k3_62 : (Cond.methodLink R_M 85 y_M_has) ∈ wsA := wa_mem (List.mem_append_right _ (List.mem_append_right _ (List.mem_append_right _ (List.mem_of_getElem? (i := 62) rfl)))) rfl
theorem k3_64 : (Cond.instanceMethod y_M_has) ∈ wsA := wa_mem (List.mem_append_right _ (List.mem_append_right _ (List.mem_append_right _ (List.mem_of_getElem? (i := 64) rfl)))) rfl
theorem k3_65 : (Cond.code y_M_has b_M_has 4 (some .boolean)) ∈ wsA := wa_mem (List.mem_append_right _ (List.mem_append_right _ (List.mem_append_right _ (List.mem_of_getElem? (i := 65) rfl)))) rfl
theorem k3_66 : (Cond.methodLink R_M 47 y_M_at) ∈ wsA := wa_mem (List.mem_append_right _ (List.mem_append_right _ (List.mem_append_right _ (List.mem_of_getElem? (i := 66) rfl)))) rfl
theorem k3_68 : (Cond.instanceMethod y_M_at) ∈ wsA := wa_mem (List.mem_append_right _ (List.mem_append_right _ (List.mem_append_right _ (List.mem_of_getElem? (i := 68) rfl)))) rfl
theorem k3_69 : (Cond.code y_M_at b_M_at 3 (some .int)) ∈ wsA := wa_mem (List.mem_append_right _ (List.mem_append_right _ (List.mem_append_right _ (List.mem_of_getElem? (i := 69) rfl)))) rfl
theorem k3_70 : (Cond.methodLink R_L 130 y_M_block) ∈ wsA := wa_mem (List.mem_append_right _ (List.mem_append_right _ (List.mem_append_right _ (List.mem_of_getElem? (i := 70) rfl)))) rfl
theorem k3_71 : (Cond.instanceMethod y_M_block) ∈ wsA := wa_mem (List.mem_append_right _ (List.mem_append_right _ (List.mem_append_right _ (List.mem_of_getElem? (i := 71) rfl)))) rfl
theorem k3_72 : (Cond.selects R_M y_M_block y_M_block) ∈ wsA := wa_mem (List.mem_append_right _ (List.mem_append_right _ (List.mem_append_right _ (List.mem_of_getElem? (i := 72) rfl)))) rfl
theorem k3_73 : (Cond.code y_M_block b_M_block 3 (some .int)) ∈ wsA := wa_mem (List.mem_append_right _ (List.mem_append_right _ (List.mem_append_right _ (List.mem_of_getElem? (i := 73) rfl)))) rfl
theorem k3_74 : (Cond.methodLink R_M 93 y_M_wrap) ∈ wsA := wa_mem (List.mem_append_right _ (List.mem_append_right _ (List.mem_append_right _ (List.mem_of_getElem? (i := 74) rfl)))) rfl
theorem k3_76 : (Cond.instanceMethod y_M_wrap) ∈ wsA := wa_mem (List.mem_append_right _ (List.mem_append_right _ (List.mem_append_right _ (List.mem_of_getElem? (i := 76) rfl)))) rfl
theorem k3_77 : (Cond.code y_M_wrap b_M_wrap 8 (some .int)) ∈ wsA := wa_mem (List.mem_append_right _ (List.mem_append_right _ (List.mem_append_right _ (List.mem_of_getElem? (i := 77) rfl)))) rfl
theorem k3_78 : (Cond.methodLink R_M 89 y_M_sumOf) ∈ wsA := wa_mem (List.mem_append_right _ (List.mem_append_right _ (List.mem_append_right _ (List.mem_of_getElem? (i := 78) rfl)))) rfl
theorem k3_80 : (Cond.instanceMethod y_M_sumOf) ∈ wsA := wa_mem (List.mem_append_right _ (List.mem_append_right _ (List.mem_append_right _ (List.mem_of_getElem? (i := 80) rfl)))) rfl
theorem k3_81 : (Cond.code y_M_sumOf b_M_sumOf 9 (some .int)) ∈ wsA := wa_mem (List.mem_append_right _ (List.mem_append_right _ (List.mem_append_right _ (List.mem_of_getElem? (i := 81) rfl)))) rfl
theorem k3_82 : (Cond.constant R_M 51 (-306674912)) ∈ wsA := wa_mem (List.mem_append_right _ (List.mem_append_right _ (List.mem_append_right _ (List.mem_of_getElem? (i := 82) rfl)))) rfl
theorem k3_83 : (Cond.methodLink R_L 133 y_M_frame) ∈ wsA := wa_mem (List.mem_append_right _ (List.mem_append_right _ (List.mem_append_right _ (List.mem_of_getElem? (i := 83) rfl)))) rfl
theorem k3_84 : (Cond.instanceMethod y_M_frame) ∈ wsA := wa_mem (List.mem_append_right _ (List.mem_append_right _ (List.mem_append_right _ (List.mem_of_getElem? (i := 84) rfl)))) rfl
theorem k3_85 : (Cond.selects R_M y_M_frame y_M_frame) ∈ wsA := wa_mem (List.mem_append_right _ (List.mem_append_right _ (List.mem_append_right _ (List.mem_of_getElem? (i := 85) rfl)))) rfl
theorem k3_86 : (Cond.code y_M_frame b_M_frame 3 (some .int)) ∈ wsA := wa_mem (List.mem_append_right _ (List.mem_append_right _ (List.mem_append_right _ (List.mem_of_getElem? (i := 86) rfl)))) rfl
theorem k3_87 : (Cond.methodLink R_L 136 y_M_cut) ∈ wsA := wa_mem (List.mem_append_right _ (List.mem_append_right _ (List.mem_append_right _ (List.mem_of_getElem? (i := 87) rfl)))) rfl
theorem k3_88 : (Cond.instanceMethod y_M_cut) ∈ wsA := wa_mem (List.mem_append_right _ (List.mem_append_right _ (List.mem_append_right _ (List.mem_of_getElem? (i := 88) rfl)))) rfl
theorem k3_89 : (Cond.selects R_M y_M_cut y_M_cut) ∈ wsA := wa_mem (List.mem_append_right _ (List.mem_append_right _ (List.mem_append_right _ (List.mem_of_getElem? (i := 89) rfl)))) rfl
theorem k3_90 : (Cond.code y_M_cut b_M_cut 4 (some .int)) ∈ wsA := wa_mem (List.mem_append_right _ (List.mem_append_right _ (List.mem_append_right _ (List.mem_of_getElem? (i := 90) rfl)))) rfl
theorem k3_91 : (Cond.methodLink R_L 139 y_M_turn) ∈ wsA := wa_mem (List.mem_append_right _ (List.mem_append_right _ (List.mem_append_right _ (List.mem_of_getElem? (i := 91) rfl)))) rfl
theorem k3_92 : (Cond.instanceMethod y_M_turn) ∈ wsA := wa_mem (List.mem_append_right _ (List.mem_append_right _ (List.mem_append_right _ (List.mem_of_getElem? (i := 92) rfl)))) rfl
theorem k3_93 : (Cond.selects R_M y_M_turn y_M_turn) ∈ wsA := wa_mem (List.mem_append_right _ (List.mem_append_right _ (List.mem_append_right _ (List.mem_of_getElem? (i := 93) rfl)))) rfl
theorem k3_94 : (Cond.code y_M_turn b_M_turn 3 (some .int)) ∈ wsA := wa_mem (List.mem_append_right _ (List.mem_append_right _ (List.mem_append_right _ (List.mem_of_getElem? (i := 94) rfl)))) rfl
theorem k3_95 : (Cond.methodLink R_L 142 y_M_place) ∈ wsA := wa_mem (List.mem_append_right _ (List.mem_append_right _ (List.mem_append_right _ (List.mem_of_getElem? (i := 95) rfl)))) rfl
theorem k3_96 : (Cond.instanceMethod y_M_place) ∈ wsA := wa_mem (List.mem_append_right _ (List.mem_append_right _ (List.mem_append_right _ (List.mem_of_getElem? (i := 96) rfl)))) rfl
theorem k3_97 : (Cond.selects R_M y_M_place y_M_place) ∈ wsA := wa_mem (List.mem_append_right _ (List.mem_append_right _ (List.mem_append_right _ (List.mem_of_getElem? (i := 97) rfl)))) rfl
theorem k3_98 : (Cond.code y_M_place b_M_place 4 (some .int)) ∈ wsA := wa_mem (List.mem_append_right _ (List.mem_append_right _ (List.mem_append_right _ (List.mem_of_getElem? (i := 98) rfl)))) rfl
theorem k3_99 : (Cond.methodLink R_L 145 y_M_readFixed) ∈ wsA := wa_mem (List.mem_append_right _ (List.mem_append_right _ (List.mem_append_right _ (List.mem_of_getElem? (i := 99) rfl)))) rfl
theorem k3_100 : (Cond.instanceMethod y_M_readFixed) ∈ wsA := wa_mem (List.mem_append_right _ (List.mem_append_right _ (List.mem_append_right _ (List.mem_of_getElem? (i := 100) rfl)))) rfl
theorem k3_101 : (Cond.selects R_M y_M_readFixed y_M_readFixed) ∈ wsA := wa_mem (List.mem_append_right _ (List.mem_append_right _ (List.mem_append_right _ (List.mem_of_getElem? (i := 101) rfl)))) rfl
theorem k3_102 : (Cond.code y_M_readFixed b_M_readFixed 5 (some .long)) ∈ wsA := wa_mem (List.mem_append_right _ (List.mem_append_right _ (List.mem_append_right _ (List.mem_of_getElem? (i := 102) rfl)))) rfl
theorem k3_103 : (Cond.methodLink R_M 96 y_M_number) ∈ wsA := wa_mem (List.mem_append_right _ (List.mem_append_right _ (List.mem_append_right _ (List.mem_of_getElem? (i := 103) rfl)))) rfl
theorem k3_105 : (Cond.instanceMethod y_M_number) ∈ wsA := wa_mem (List.mem_append_right _ (List.mem_append_right _ (List.mem_append_right _ (List.mem_of_getElem? (i := 105) rfl)))) rfl
theorem k3_106 : (Cond.code y_M_number b_M_number 7 (some .long)) ∈ wsA := wa_mem (List.mem_append_right _ (List.mem_append_right _ (List.mem_append_right _ (List.mem_of_getElem? (i := 106) rfl)))) rfl
theorem k3_107 : (Cond.methodLink R_L 149 y_M_readSevens) ∈ wsA := wa_mem (List.mem_append_right _ (List.mem_append_right _ (List.mem_append_right _ (List.mem_of_getElem? (i := 107) rfl)))) rfl
theorem k3_108 : (Cond.instanceMethod y_M_readSevens) ∈ wsA := wa_mem (List.mem_append_right _ (List.mem_append_right _ (List.mem_append_right _ (List.mem_of_getElem? (i := 108) rfl)))) rfl
theorem k3_109 : (Cond.selects R_M y_M_readSevens y_M_readSevens) ∈ wsA := wa_mem (List.mem_append_right _ (List.mem_append_right _ (List.mem_append_right _ (List.mem_of_getElem? (i := 109) rfl)))) rfl
theorem k3_110 : (Cond.code y_M_readSevens b_M_readSevens 4 (some .long)) ∈ wsA := wa_mem (List.mem_append_right _ (List.mem_append_right _ (List.mem_append_right _ (List.mem_of_getElem? (i := 110) rfl)))) rfl
theorem k3_111 : (Cond.methodLink R_M 103 y_M_grouped) ∈ wsA := wa_mem (List.mem_append_right _ (List.mem_append_right _ (List.mem_append_right _ (List.mem_of_getElem? (i := 111) rfl)))) rfl
theorem k3_113 : (Cond.instanceMethod y_M_grouped) ∈ wsA := wa_mem (List.mem_append_right _ (List.mem_append_right _ (List.mem_append_right _ (List.mem_of_getElem? (i := 113) rfl)))) rfl
theorem k3_114 : (Cond.code y_M_grouped b_M_grouped 8 (some .long)) ∈ wsA := wa_mem (List.mem_append_right _ (List.mem_append_right _ (List.mem_append_right _ (List.mem_of_getElem? (i := 114) rfl)))) rfl
theorem k3_115 : (Cond.methodLink R_M 107 y_M_failed) ∈ wsA := wa_mem (List.mem_append_right _ (List.mem_append_right _ (List.mem_append_right _ (List.mem_of_getElem? (i := 115) rfl)))) rfl
theorem k3_117 : (Cond.instanceMethod y_M_failed) ∈ wsA := wa_mem (List.mem_append_right _ (List.mem_append_right _ (List.mem_append_right _ (List.mem_of_getElem? (i := 117) rfl)))) rfl
theorem k3_118 : (Cond.code y_M_failed b_M_failed 1 (some .int)) ∈ wsA := wa_mem (List.mem_append_right _ (List.mem_append_right _ (List.mem_append_right _ (List.mem_of_getElem? (i := 118) rfl)))) rfl
theorem k3_119 : (Cond.methodLink R_L 152 y_M_readSigned) ∈ wsA := wa_mem (List.mem_append_right _ (List.mem_append_right _ (List.mem_append_right _ (List.mem_of_getElem? (i := 119) rfl)))) rfl
theorem k3_120 : (Cond.instanceMethod y_M_readSigned) ∈ wsA := wa_mem (List.mem_append_right _ (List.mem_append_right _ (List.mem_append_right _ (List.mem_of_getElem? (i := 120) rfl)))) rfl
theorem k3_121 : (Cond.selects R_M y_M_readSigned y_M_readSigned) ∈ wsA := wa_mem (List.mem_append_right _ (List.mem_append_right _ (List.mem_append_right _ (List.mem_of_getElem? (i := 121) rfl)))) rfl
theorem k3_122 : (Cond.code y_M_readSigned b_M_readSigned 4 (some .long)) ∈ wsA := wa_mem (List.mem_append_right _ (List.mem_append_right _ (List.mem_append_right _ (List.mem_of_getElem? (i := 122) rfl)))) rfl
theorem k3_123 : (Cond.constantLong R_M 111 2) ∈ wsA := wa_mem (List.mem_append_right _ (List.mem_append_right _ (List.mem_append_right _ (List.mem_of_getElem? (i := 123) rfl)))) rfl
theorem k3_124 : (Cond.methodLink R_L 155 y_M_readLetter) ∈ wsA := wa_mem (List.mem_append_right _ (List.mem_append_right _ (List.mem_append_right _ (List.mem_of_getElem? (i := 124) rfl)))) rfl
theorem k3_125 : (Cond.instanceMethod y_M_readLetter) ∈ wsA := wa_mem (List.mem_append_right _ (List.mem_append_right _ (List.mem_append_right _ (List.mem_of_getElem? (i := 125) rfl)))) rfl
theorem k3_126 : (Cond.selects R_M y_M_readLetter y_M_readLetter) ∈ wsA := wa_mem (List.mem_append_right _ (List.mem_append_right _ (List.mem_append_right _ (List.mem_of_getElem? (i := 126) rfl)))) rfl
theorem k3_127 : (Cond.code y_M_readLetter b_M_readLetter 3 (some .int)) ∈ wsA := wa_mem (List.mem_append_right _ (List.mem_append_right _ (List.mem_append_right _ (List.mem_of_getElem? (i := 127) rfl)))) rfl
theorem k3_128 : (Cond.methodLink R_M 116 y_M_lettered) ∈ wsA := wa_mem (List.mem_append_right _ (List.mem_append_right _ (List.mem_append_right _ (List.mem_of_getElem? (i := 128) rfl)))) rfl
theorem k3_130 : (Cond.instanceMethod y_M_lettered) ∈ wsA := wa_mem (List.mem_append_right _ (List.mem_append_right _ (List.mem_append_right _ (List.mem_of_getElem? (i := 130) rfl)))) rfl
theorem k3_131 : (Cond.code y_M_lettered b_M_lettered 10 (some .int)) ∈ wsA := wa_mem (List.mem_append_right _ (List.mem_append_right _ (List.mem_append_right _ (List.mem_of_getElem? (i := 131) rfl)))) rfl
theorem k3_132 : (Cond.methodLink R_M 113 y_M_canBe) ∈ wsA := wa_mem (List.mem_append_right _ (List.mem_append_right _ (List.mem_append_right _ (List.mem_of_getElem? (i := 132) rfl)))) rfl
theorem k3_133 : (Cond.static y_M_canBe) ∈ wsA := wa_mem (List.mem_append_right _ (List.mem_append_right _ (List.mem_append_right _ (List.mem_of_getElem? (i := 133) rfl)))) rfl
theorem k3_134 : (Cond.code y_M_canBe b_M_canBe 3 (some .boolean)) ∈ wsA := wa_mem (List.mem_append_right _ (List.mem_append_right _ (List.mem_append_right _ (List.mem_of_getElem? (i := 134) rfl)))) rfl
theorem k3_135 : (Cond.methodLink R_L 158 y_M_readBlock) ∈ wsA := wa_mem (List.mem_append_right _ (List.mem_append_right _ (List.mem_append_right _ (List.mem_of_getElem? (i := 135) rfl)))) rfl
theorem k3_136 : (Cond.instanceMethod y_M_readBlock) ∈ wsA := wa_mem (List.mem_append_right _ (List.mem_append_right _ (List.mem_append_right _ (List.mem_of_getElem? (i := 136) rfl)))) rfl
theorem k3_137 : (Cond.selects R_M y_M_readBlock y_M_readBlock) ∈ wsA := wa_mem (List.mem_append_right _ (List.mem_append_right _ (List.mem_append_right _ (List.mem_of_getElem? (i := 137) rfl)))) rfl
theorem k3_138 : (Cond.code y_M_readBlock b_M_readBlock 3 (some .int)) ∈ wsA := wa_mem (List.mem_append_right _ (List.mem_append_right _ (List.mem_append_right _ (List.mem_of_getElem? (i := 138) rfl)))) rfl
theorem k3_139 : (Cond.methodLink R_M 121 y_M_unwrap) ∈ wsA := wa_mem (List.mem_append_right _ (List.mem_append_right _ (List.mem_append_right _ (List.mem_of_getElem? (i := 139) rfl)))) rfl
theorem k3_141 : (Cond.instanceMethod y_M_unwrap) ∈ wsA := wa_mem (List.mem_append_right _ (List.mem_append_right _ (List.mem_append_right _ (List.mem_of_getElem? (i := 141) rfl)))) rfl
theorem k3_142 : (Cond.code y_M_unwrap b_M_unwrap 9 (some .int)) ∈ wsA := wa_mem (List.mem_append_right _ (List.mem_append_right _ (List.mem_append_right _ (List.mem_of_getElem? (i := 142) rfl)))) rfl
theorem k3_143 : (Cond.constantLong R_M 119 65536) ∈ wsA := wa_mem (List.mem_append_right _ (List.mem_append_right _ (List.mem_append_right _ (List.mem_of_getElem? (i := 143) rfl)))) rfl
theorem k3_144 : (Cond.methodLink R_L 161 y_M_readFrame) ∈ wsA := wa_mem (List.mem_append_right _ (List.mem_append_right _ (List.mem_append_right _ (List.mem_of_getElem? (i := 144) rfl)))) rfl
theorem k3_145 : (Cond.instanceMethod y_M_readFrame) ∈ wsA := wa_mem (List.mem_append_right _ (List.mem_append_right _ (List.mem_append_right _ (List.mem_of_getElem? (i := 145) rfl)))) rfl
theorem k3_146 : (Cond.selects R_M y_M_readFrame y_M_readFrame) ∈ wsA := wa_mem (List.mem_append_right _ (List.mem_append_right _ (List.mem_append_right _ (List.mem_of_getElem? (i := 146) rfl)))) rfl
theorem k3_147 : (Cond.code y_M_readFrame b_M_readFrame 3 (some .int)) ∈ wsA := wa_mem (List.mem_append_right _ (List.mem_append_right _ (List.mem_append_right _ (List.mem_of_getElem? (i := 147) rfl)))) rfl
theorem k3_148 : (Cond.methodLink R_L 165 y_M_letters) ∈ wsA := wa_mem (List.mem_append_right _ (List.mem_append_right _ (List.mem_append_right _ (List.mem_of_getElem? (i := 148) rfl)))) rfl
theorem k3_149 : (Cond.instanceMethod y_M_letters) ∈ wsA := wa_mem (List.mem_append_right _ (List.mem_append_right _ (List.mem_append_right _ (List.mem_of_getElem? (i := 149) rfl)))) rfl
theorem k3_150 : (Cond.selects R_M y_M_letters y_M_letters) ∈ wsA := wa_mem (List.mem_append_right _ (List.mem_append_right _ (List.mem_append_right _ (List.mem_of_getElem? (i := 150) rfl)))) rfl
theorem k3_151 : (Cond.code y_M_letters b_M_letters 6 (some .int)) ∈ wsA := wa_mem (List.mem_append_right _ (List.mem_append_right _ (List.mem_append_right _ (List.mem_of_getElem? (i := 151) rfl)))) rfl
theorem k3_152 : (Cond.methodLink R_L 168 y_M_sum) ∈ wsA := wa_mem (List.mem_append_right _ (List.mem_append_right _ (List.mem_append_right _ (List.mem_of_getElem? (i := 152) rfl)))) rfl
theorem k3_153 : (Cond.instanceMethod y_M_sum) ∈ wsA := wa_mem (List.mem_append_right _ (List.mem_append_right _ (List.mem_append_right _ (List.mem_of_getElem? (i := 153) rfl)))) rfl
theorem k3_154 : (Cond.selects R_M y_M_sum y_M_sum) ∈ wsA := wa_mem (List.mem_append_right _ (List.mem_append_right _ (List.mem_append_right _ (List.mem_of_getElem? (i := 154) rfl)))) rfl
theorem k3_155 : (Cond.code y_M_sum b_M_sum 4 (some .int)) ∈ wsA := wa_mem (List.mem_append_right _ (List.mem_append_right _ (List.mem_append_right _ (List.mem_of_getElem? (i := 155) rfl)))) rfl
theorem k3_156 : (Cond.methodLink R_L 171 y_M_same) ∈ wsA := wa_mem (List.mem_append_right _ (List.mem_append_right _ (List.mem_append_right _ (List.mem_of_getElem? (i := 156) rfl)))) rfl
theorem k3_157 : (Cond.instanceMethod y_M_same) ∈ wsA := wa_mem (List.mem_append_right _ (List.mem_append_right _ (List.mem_append_right _ (List.mem_of_getElem? (i := 157) rfl)))) rfl
theorem k3_158 : (Cond.selects R_M y_M_same y_M_same) ∈ wsA := wa_mem (List.mem_append_right _ (List.mem_append_right _ (List.mem_append_right _ (List.mem_of_getElem? (i := 158) rfl)))) rfl
theorem k3_159 : (Cond.code y_M_same b_M_same 5 (some .boolean)) ∈ wsA := wa_mem (List.mem_append_right _ (List.mem_append_right _ (List.mem_append_right _ (List.mem_of_getElem? (i := 159) rfl)))) rfl
theorem k3_160 : (Cond.methodLink R_L 174 y_M_row) ∈ wsA := wa_mem (List.mem_append_right _ (List.mem_append_right _ (List.mem_append_right _ (List.mem_of_getElem? (i := 160) rfl)))) rfl
theorem k3_161 : (Cond.instanceMethod y_M_row) ∈ wsA := wa_mem (List.mem_append_right _ (List.mem_append_right _ (List.mem_append_right _ (List.mem_of_getElem? (i := 161) rfl)))) rfl
theorem k3_162 : (Cond.selects R_M y_M_row y_M_row) ∈ wsA := wa_mem (List.mem_append_right _ (List.mem_append_right _ (List.mem_append_right _ (List.mem_of_getElem? (i := 162) rfl)))) rfl
theorem k3_163 : (Cond.code y_M_row b_M_row 3 (some .int)) ∈ wsA := wa_mem (List.mem_append_right _ (List.mem_append_right _ (List.mem_append_right _ (List.mem_of_getElem? (i := 163) rfl)))) rfl
theorem k3_164 : (Cond.methodLink R_L 177 y_M_byteAt) ∈ wsA := wa_mem (List.mem_append_right _ (List.mem_append_right _ (List.mem_append_right _ (List.mem_of_getElem? (i := 164) rfl)))) rfl
theorem k3_165 : (Cond.instanceMethod y_M_byteAt) ∈ wsA := wa_mem (List.mem_append_right _ (List.mem_append_right _ (List.mem_append_right _ (List.mem_of_getElem? (i := 165) rfl)))) rfl
theorem k3_166 : (Cond.selects R_M y_M_byteAt y_M_byteAt) ∈ wsA := wa_mem (List.mem_append_right _ (List.mem_append_right _ (List.mem_append_right _ (List.mem_of_getElem? (i := 166) rfl)))) rfl
theorem k3_167 : (Cond.code y_M_byteAt b_M_byteAt 3 (some .int)) ∈ wsA := wa_mem (List.mem_append_right _ (List.mem_append_right _ (List.mem_append_right _ (List.mem_of_getElem? (i := 167) rfl)))) rfl
theorem k3_168 : (Cond.constantLong R_L 103 4294967295) ∈ wsA := wa_mem (List.mem_append_right _ (List.mem_append_right _ (List.mem_append_right _ (List.mem_of_getElem? (i := 168) rfl)))) rfl
theorem ks_D_rowOf : (Cond.selects R_D y_D_rowOf y_D_rowOf) ∈ wsA := by decide +kernel
theorem ks_M_fail : (Cond.selects R_M y_M_fail y_M_fail) ∈ wsA := by decide +kernel
theorem ks_M_fits : (Cond.selects R_M y_M_fits y_M_fits) ∈ wsA := by decide +kernel
theorem ks_M_add : (Cond.selects R_M y_M_add y_M_add) ∈ wsA := by decide +kernel
theorem ks_M_set : (Cond.selects R_M y_M_set y_M_set) ∈ wsA := by decide +kernel
theorem ks_M_putGroups : (Cond.selects R_M y_M_putGroups y_M_putGroups) ∈ wsA := by decide +kernel
theorem ks_M_addGroups : (Cond.selects R_M y_M_addGroups y_M_addGroups) ∈ wsA := by decide +kernel
theorem ks_M_has : (Cond.selects R_M y_M_has y_M_has) ∈ wsA := by decide +kernel
theorem ks_M_at : (Cond.selects R_M y_M_at y_M_at) ∈ wsA := by decide +kernel
theorem ks_M_wrap : (Cond.selects R_M y_M_wrap y_M_wrap) ∈ wsA := by decide +kernel
theorem ks_M_sumOf : (Cond.selects R_M y_M_sumOf y_M_sumOf) ∈ wsA := by decide +kernel
theorem ks_M_number : (Cond.selects R_M y_M_number y_M_number) ∈ wsA := by decide +kernel
theorem ks_M_grouped : (Cond.selects R_M y_M_grouped y_M_grouped) ∈ wsA := by decide +kernel
theorem ks_M_failed : (Cond.selects R_M y_M_failed y_M_failed) ∈ wsA := by decide +kernel
theorem ks_M_lettered : (Cond.selects R_M y_M_lettered y_M_lettered) ∈ wsA := by decide +kernel
theorem ks_M_unwrap : (Cond.selects R_M y_M_unwrap y_M_unwrap) ∈ wsA := by decide +kernel
end
section
/-! a call's words, a method -/
theorem q_D_init {R : Room} {s : State} {args : Array Value} {own : String} {index : Nat} {rm : Room} {mc ms : Nat} (hA : ∀ w ∈ wsA, w.before args s = true) (hl : Cond.methodLink own index y_D_init ∈ wsA) (hrc : rm.cells = mc) (hrs : rm.slots = ms) (hR : rm.frames + 1 ≤ R.frames ∧ 8 + (4 + 11) + rm.locals ≤ R.locals) : CallB R s args own index y_D_init b_D_init 4 none w_D_init rm mc ms 1 ∧ y_D_init.name = "<init>" ∧ (Cond.instanceMethod y_D_init).before args s = true := ⟨wa_cb 1 hA k1_18 k1_1 hl hrc hrs (by decide +kernel) hR, rfl, hA _ k1_17⟩
theorem q_D_fixed {R : Room} {s : State} {args : Array Value} {own : String} {index : Nat} {rm : Room} {mc ms : Nat} (hA : ∀ w ∈ wsA, w.before args s = true) (hl : Cond.methodLink own index y_D_fixed ∈ wsA) (hrc : rm.cells = mc) (hrs : rm.slots = ms) (hR : rm.frames + 1 ≤ R.frames ∧ 8 + (6 + 11) + rm.locals ≤ R.locals) : CallW R s args own R_D index y_D_fixed b_D_fixed 6 (some .int) w_D_fixed rm mc ms 3 := ⟨wa_cb 3 hA k1_65 k1_1 hl hrc hrs (by decide +kernel) hR, hA _ k1_63, hA _ k1_64⟩
theorem q_D_sevens {R : Room} {s : State} {args : Array Value} {own : String} {index : Nat} {rm : Room} {mc ms : Nat} (hA : ∀ w ∈ wsA, w.before args s = true) (hl : Cond.methodLink own index y_D_sevens ∈ wsA) (hrc : rm.cells = mc) (hrs : rm.slots = ms) (hR : rm.frames + 1 ≤ R.frames ∧ 8 + (4 + 11) + rm.locals ≤ R.locals) : CallW R s args own R_D index y_D_sevens b_D_sevens 4 (some .int) w_D_sevens rm mc ms 2 := ⟨wa_cb 2 hA k1_190 k1_1 hl hrc hrs (by decide +kernel) hR, hA _ k1_188, hA _ k1_189⟩
theorem q_D_signed {R : Room} {s : State} {args : Array Value} {own : String} {index : Nat} {rm : Room} {mc ms : Nat} (hA : ∀ w ∈ wsA, w.before args s = true) (hl : Cond.methodLink own index y_D_signed ∈ wsA) (hrc : rm.cells = mc) (hrs : rm.slots = ms) (hR : rm.frames + 1 ≤ R.frames ∧ 8 + (4 + 11) + rm.locals ≤ R.locals) : CallW R s args own R_D index y_D_signed b_D_signed 4 (some .int) w_D_signed rm mc ms 2 := ⟨wa_cb 2 hA k1_206 k1_1 hl hrc hrs (by decide +kernel) hR, hA _ k1_204, hA _ k1_205⟩
theorem q_D_letter {R : Room} {s : State} {args : Array Value} {own : String} {index : Nat} {rm : Room} {mc ms : Nat} (hA : ∀ w ∈ wsA, w.before args s = true) (hl : Cond.methodLink own index y_D_letter ∈ wsA) (hrc : rm.cells = mc) (hrs : rm.slots = ms) (hR : rm.frames + 1 ≤ R.frames ∧ 8 + (5 + 11) + rm.locals ≤ R.locals) : CallW R s args own R_D index y_D_letter b_D_letter 5 (some .int) w_D_letter rm mc ms 2 := ⟨wa_cb 2 hA k1_213 k1_1 hl hrc hrs (by decide +kernel) hR, hA _ k1_211, hA _ k1_212⟩
theorem q_D_copy {R : Room} {s : State} {args : Array Value} {own : String} {index : Nat} {rm : Room} {mc ms : Nat} (hA : ∀ w ∈ wsA, w.before args s = true) (hl : Cond.methodLink own index y_D_copy ∈ wsA) (hrc : rm.cells = mc) (hrs : rm.slots = ms) (hR : rm.frames + 1 ≤ R.frames ∧ 8 + (7 + 11) + rm.locals ≤ R.locals) : CallW R s args own R_D index y_D_copy b_D_copy 7 (some .int) w_D_copy rm mc ms 4 := ⟨wa_cb 4 hA k1_233 k1_1 hl hrc hrs (by decide +kernel) hR, hA _ k1_231, hA _ k1_232⟩
theorem q_D_block {R : Room} {s : State} {args : Array Value} {own : String} {index : Nat} {rm : Room} {mc ms : Nat} (hA : ∀ w ∈ wsA, w.before args s = true) (hl : Cond.methodLink own index y_D_block ∈ wsA) (hrc : rm.cells = mc) (hrs : rm.slots = ms) (hR : rm.frames + 1 ≤ R.frames ∧ 8 + (7 + 11) + rm.locals ≤ R.locals) : CallW R s args own R_D index y_D_block b_D_block 7 (some .int) w_D_block rm mc ms 2 := ⟨wa_cb 2 hA k2_10 k1_1 hl hrc hrs (by decide +kernel) hR, hA _ k2_8, hA _ k2_9⟩
theorem q_D_frame {R : Room} {s : State} {args : Array Value} {own : String} {index : Nat} {rm : Room} {mc ms : Nat} (hA : ∀ w ∈ wsA, w.before args s = true) (hl : Cond.methodLink own index y_D_frame ∈ wsA) (hrc : rm.cells = mc) (hrs : rm.slots = ms) (hR : rm.frames + 1 ≤ R.frames ∧ 8 + (7 + 11) + rm.locals ≤ R.locals) : CallW R s args own R_D index y_D_frame b_D_frame 7 (some .int) w_D_frame rm mc ms 2 := ⟨wa_cb 2 hA k2_17 k1_1 hl hrc hrs (by decide +kernel) hR, hA _ k2_15, hA _ k2_16⟩
theorem q_D_cut {R : Room} {s : State} {args : Array Value} {own : String} {index : Nat} {rm : Room} {mc ms : Nat} (hA : ∀ w ∈ wsA, w.before args s = true) (hl : Cond.methodLink own index y_D_cut ∈ wsA) (hrc : rm.cells = mc) (hrs : rm.slots = ms) (hR : rm.frames + 1 ≤ R.frames ∧ 8 + (5 + 11) + rm.locals ≤ R.locals) : CallW R s args own R_D index y_D_cut b_D_cut 5 (some .int) w_D_cut rm mc ms 2 := ⟨wa_cb 2 hA k2_32 k1_1 hl hrc hrs (by decide +kernel) hR, hA _ k2_30, hA _ k2_31⟩
theorem q_D_turn {R : Room} {s : State} {args : Array Value} {own : String} {index : Nat} {rm : Room} {mc ms : Nat} (hA : ∀ w ∈ wsA, w.before args s = true) (hl : Cond.methodLink own index y_D_turn ∈ wsA) (hrc : rm.cells = mc) (hrs : rm.slots = ms) (hR : rm.frames + 1 ≤ R.frames ∧ 8 + (5 + 11) + rm.locals ≤ R.locals) : CallW R s args own R_D index y_D_turn b_D_turn 5 (some .int) w_D_turn rm mc ms 2 := ⟨wa_cb 2 hA k2_39 k1_1 hl hrc hrs (by decide +kernel) hR, hA _ k2_37, hA _ k2_38⟩
theorem q_D_place {R : Room} {s : State} {args : Array Value} {own : String} {index : Nat} {rm : Room} {mc ms : Nat} (hA : ∀ w ∈ wsA, w.before args s = true) (hl : Cond.methodLink own index y_D_place ∈ wsA) (hrc : rm.cells = mc) (hrs : rm.slots = ms) (hR : rm.frames + 1 ≤ R.frames ∧ 8 + (5 + 11) + rm.locals ≤ R.locals) : CallW R s args own R_D index y_D_place b_D_place 5 (some .int) w_D_place rm mc ms 2 := ⟨wa_cb 2 hA k2_47 k1_1 hl hrc hrs (by decide +kernel) hR, hA _ k2_45, hA _ k2_46⟩
theorem q_D_readFixed {R : Room} {s : State} {args : Array Value} {own : String} {index : Nat} {rm : Room} {mc ms : Nat} (hA : ∀ w ∈ wsA, w.before args s = true) (hl : Cond.methodLink own index y_D_readFixed ∈ wsA) (hrc : rm.cells = mc) (hrs : rm.slots = ms) (hR : rm.frames + 1 ≤ R.frames ∧ 8 + (6 + 11) + rm.locals ≤ R.locals) : CallW R s args own R_D index y_D_readFixed b_D_readFixed 6 (some .long) w_D_readFixed rm mc ms 2 := ⟨wa_cb 2 hA k2_56 k1_1 hl hrc hrs (by decide +kernel) hR, hA _ k2_54, hA _ k2_55⟩
theorem q_D_readSevens {R : Room} {s : State} {args : Array Value} {own : String} {index : Nat} {rm : Room} {mc ms : Nat} (hA : ∀ w ∈ wsA, w.before args s = true) (hl : Cond.methodLink own index y_D_readSevens ∈ wsA) (hrc : rm.cells = mc) (hrs : rm.slots = ms) (hR : rm.frames + 1 ≤ R.frames ∧ 8 + (2 + 11) + rm.locals ≤ R.locals) : CallW R s args own R_D index y_D_readSevens b_D_readSevens 2 (some .long) w_D_readSevens rm mc ms 1 := ⟨wa_cb 1 hA k2_85 k1_1 hl hrc hrs (by decide +kernel) hR, hA _ k2_83, hA _ k2_84⟩
theorem q_D_readSigned {R : Room} {s : State} {args : Array Value} {own : String} {index : Nat} {rm : Room} {mc ms : Nat} (hA : ∀ w ∈ wsA, w.before args s = true) (hl : Cond.methodLink own index y_D_readSigned ∈ wsA) (hrc : rm.cells = mc) (hrs : rm.slots = ms) (hR : rm.frames + 1 ≤ R.frames ∧ 8 + (4 + 11) + rm.locals ≤ R.locals) : CallW R s args own R_D index y_D_readSigned b_D_readSigned 4 (some .long) w_D_readSigned rm mc ms 1 := ⟨wa_cb 1 hA k2_107 k1_1 hl hrc hrs (by decide +kernel) hR, hA _ k2_105, hA _ k2_106⟩
theorem q_D_readLetter {R : Room} {s : State} {args : Array Value} {own : String} {index : Nat} {rm : Room} {mc ms : Nat} (hA : ∀ w ∈ wsA, w.before args s = true) (hl : Cond.methodLink own index y_D_readLetter ∈ wsA) (hrc : rm.cells = mc) (hrs : rm.slots = ms) (hR : rm.frames + 1 ≤ R.frames ∧ 8 + (4 + 11) + rm.locals ≤ R.locals) : CallW R s args own R_D index y_D_readLetter b_D_readLetter 4 (some .int) w_D_readLetter rm mc ms 1 := ⟨wa_cb 1 hA k2_114 k1_1 hl hrc hrs (by decide +kernel) hR, hA _ k2_112, hA _ k2_113⟩
theorem q_D_readBlock {R : Room} {s : State} {args : Array Value} {own : String} {index : Nat} {rm : Room} {mc ms : Nat} (hA : ∀ w ∈ wsA, w.before args s = true) (hl : Cond.methodLink own index y_D_readBlock ∈ wsA) (hrc : rm.cells = mc) (hrs : rm.slots = ms) (hR : rm.frames + 1 ≤ R.frames ∧ 8 + (7 + 11) + rm.locals ≤ R.locals) : CallW R s args own R_D index y_D_readBlock b_D_readBlock 7 (some .int) w_D_readBlock rm mc ms 2 := ⟨wa_cb 2 hA k2_129 k1_1 hl hrc hrs (by decide +kernel) hR, hA _ k2_127, hA _ k2_128⟩
theorem q_D_readFrame {R : Room} {s : State} {args : Array Value} {own : String} {index : Nat} {rm : Room} {mc ms : Nat} (hA : ∀ w ∈ wsA, w.before args s = true) (hl : Cond.methodLink own index y_D_readFrame ∈ wsA) (hrc : rm.cells = mc) (hrs : rm.slots = ms) (hR : rm.frames + 1 ≤ R.frames ∧ 8 + (9 + 11) + rm.locals ≤ R.locals) : CallW R s args own R_D index y_D_readFrame b_D_readFrame 9 (some .int) w_D_readFrame rm mc ms 2 := ⟨wa_cb 2 hA k2_149 k1_1 hl hrc hrs (by decide +kernel) hR, hA _ k2_147, hA _ k2_148⟩
theorem q_D_letters {R : Room} {s : State} {args : Array Value} {own : String} {index : Nat} {rm : Room} {mc ms : Nat} (hA : ∀ w ∈ wsA, w.before args s = true) (hl : Cond.methodLink own index y_D_letters ∈ wsA) (hrc : rm.cells = mc) (hrs : rm.slots = ms) (hR : rm.frames + 1 ≤ R.frames ∧ 8 + (9 + 11) + rm.locals ≤ R.locals) : CallW R s args own R_D index y_D_letters b_D_letters 9 (some .int) w_D_letters rm mc ms 3 := ⟨wa_cb 3 hA k2_172 k1_1 hl hrc hrs (by decide +kernel) hR, hA _ k2_170, hA _ k2_171⟩
theorem q_D_sum {R : Room} {s : State} {args : Array Value} {own : String} {index : Nat} {rm : Room} {mc ms : Nat} (hA : ∀ w ∈ wsA, w.before args s = true) (hl : Cond.methodLink own index y_D_sum ∈ wsA) (hrc : rm.cells = mc) (hrs : rm.slots = ms) (hR : rm.frames + 1 ≤ R.frames ∧ 8 + (5 + 11) + rm.locals ≤ R.locals) : CallW R s args own R_D index y_D_sum b_D_sum 5 (some .int) w_D_sum rm mc ms 3 := ⟨wa_cb 3 hA k2_180 k1_1 hl hrc hrs (by decide +kernel) hR, hA _ k2_178, hA _ k2_179⟩
theorem q_D_same {R : Room} {s : State} {args : Array Value} {own : String} {index : Nat} {rm : Room} {mc ms : Nat} (hA : ∀ w ∈ wsA, w.before args s = true) (hl : Cond.methodLink own index y_D_same ∈ wsA) (hrc : rm.cells = mc) (hrs : rm.slots = ms) (hR : rm.frames + 1 ≤ R.frames ∧ 8 + (6 + 11) + rm.locals ≤ R.locals) : CallW R s args own R_D index y_D_same b_D_same 6 (some .boolean) w_D_same rm mc ms 2 := ⟨wa_cb 2 hA k2_187 k1_1 hl hrc hrs (by decide +kernel) hR, hA _ k2_185, hA _ k2_186⟩
theorem q_D_row {R : Room} {s : State} {args : Array Value} {own : String} {index : Nat} {rm : Room} {mc ms : Nat} (hA : ∀ w ∈ wsA, w.before args s = true) (hl : Cond.methodLink own index y_D_row ∈ wsA) (hrc : rm.cells = mc) (hrs : rm.slots = ms) (hR : rm.frames + 1 ≤ R.frames ∧ 8 + (4 + 11) + rm.locals ≤ R.locals) : CallW R s args own R_D index y_D_row b_D_row 4 (some .int) w_D_row rm mc ms 2 := ⟨wa_cb 2 hA k2_194 k1_1 hl hrc hrs (by decide +kernel) hR, hA _ k2_192, hA _ k2_193⟩
theorem q_D_byteAt {R : Room} {s : State} {args : Array Value} {own : String} {index : Nat} {rm : Room} {mc ms : Nat} (hA : ∀ w ∈ wsA, w.before args s = true) (hl : Cond.methodLink own index y_D_byteAt ∈ wsA) (hrc : rm.cells = mc) (hrs : rm.slots = ms) (hR : rm.frames + 1 ≤ R.frames ∧ 8 + (4 + 11) + rm.locals ≤ R.locals) : CallW R s args own R_D index y_D_byteAt b_D_byteAt 4 (some .int) w_D_byteAt rm mc ms 2 := ⟨wa_cb 2 hA k2_202 k1_1 hl hrc hrs (by decide +kernel) hR, hA _ k2_200, hA _ k2_201⟩
theorem q_D_rowOf {R : Room} {s : State} {args : Array Value} {own : String} {index : Nat} {rm : Room} {mc ms : Nat} (hA : ∀ w ∈ wsA, w.before args s = true) (hl : Cond.methodLink own index y_D_rowOf ∈ wsA) (hrc : rm.cells = mc) (hrs : rm.slots = ms) (hR : rm.frames + 1 ≤ R.frames ∧ 8 + (2 + 11) + rm.locals ≤ R.locals) : CallW R s args own R_D index y_D_rowOf b_D_rowOf 2 (some (.object "PacketDesk$Row")) w_D_rowOf rm mc ms 1 := ⟨wa_cb 1 hA k1_69 k1_1 hl hrc hrs (by decide +kernel) hR, hA _ k1_68, hA _ ks_D_rowOf⟩
theorem q_D_needFixedWidth {R : Room} {s : State} {args : Array Value} {own : String} {index : Nat} {rm : Room} {mc ms : Nat} (hA : ∀ w ∈ wsA, w.before args s = true) (hl : Cond.methodLink own index y_D_needFixedWidth ∈ wsA) (hrc : rm.cells = mc) (hrs : rm.slots = ms) (hR : rm.frames + 1 ≤ R.frames ∧ 8 + (1 + 11) + rm.locals ≤ R.locals) : CallB R s args own index y_D_needFixedWidth b_D_needFixedWidth 1 none w_D_needFixedWidth rm mc ms 1 ∧ (Cond.static y_D_needFixedWidth).before args s = true := ⟨wa_cb 1 hA k1_141 k1_1 hl hrc hrs (by decide +kernel) hR, hA _ k1_140⟩
theorem q_D_needTwoRows {R : Room} {s : State} {args : Array Value} {own : String} {index : Nat} {rm : Room} {mc ms : Nat} (hA : ∀ w ∈ wsA, w.before args s = true) (hl : Cond.methodLink own index y_D_needTwoRows ∈ wsA) (hrc : rm.cells = mc) (hrs : rm.slots = ms) (hR : rm.frames + 1 ≤ R.frames ∧ 8 + (2 + 11) + rm.locals ≤ R.locals) : CallB R s args own index y_D_needTwoRows b_D_needTwoRows 2 none w_D_needTwoRows rm mc ms 2 ∧ (Cond.static y_D_needTwoRows).before args s = true := ⟨wa_cb 2 hA k2_132 k1_1 hl hrc hrs (by decide +kernel) hR, hA _ k2_131⟩
theorem q_D_needRange {R : Room} {s : State} {args : Array Value} {own : String} {index : Nat} {rm : Room} {mc ms : Nat} (hA : ∀ w ∈ wsA, w.before args s = true) (hl : Cond.methodLink own index y_D_needRange ∈ wsA) (hrc : rm.cells = mc) (hrs : rm.slots = ms) (hR : rm.frames + 1 ≤ R.frames ∧ 8 + (3 + 11) + rm.locals ≤ R.locals) : CallB R s args own index y_D_needRange b_D_needRange 3 none w_D_needRange rm mc ms 3 ∧ (Cond.static y_D_needRange).before args s = true := ⟨wa_cb 3 hA k1_236 k1_1 hl hrc hrs (by decide +kernel) hR, hA _ k1_235⟩
theorem q_D_needRoom {R : Room} {s : State} {args : Array Value} {own : String} {index : Nat} {rm : Room} {mc ms : Nat} (hA : ∀ w ∈ wsA, w.before args s = true) (hl : Cond.methodLink own index y_D_needRoom ∈ wsA) (hrc : rm.cells = mc) (hrs : rm.slots = ms) (hR : rm.frames + 1 ≤ R.frames ∧ 8 + (2 + 11) + rm.locals ≤ R.locals) : CallB R s args own index y_D_needRoom b_D_needRoom 2 none w_D_needRoom rm mc ms 2 ∧ (Cond.static y_D_needRoom).before args s = true := ⟨wa_cb 2 hA k1_160 k1_1 hl hrc hrs (by decide +kernel) hR, hA _ k1_159⟩
theorem q_D_needLeft {R : Room} {s : State} {args : Array Value} {own : String} {index : Nat} {rm : Room} {mc ms : Nat} (hA : ∀ w ∈ wsA, w.before args s = true) (hl : Cond.methodLink own index y_D_needLeft ∈ wsA) (hrc : rm.cells = mc) (hrs : rm.slots = ms) (hR : rm.frames + 1 ≤ R.frames ∧ 8 + (2 + 11) + rm.locals ≤ R.locals) : CallB R s args own index y_D_needLeft b_D_needLeft 2 none w_D_needLeft rm mc ms 2 ∧ (Cond.static y_D_needLeft).before args s = true := ⟨wa_cb 2 hA k2_59 k1_1 hl hrc hrs (by decide +kernel) hR, hA _ k2_58⟩
theorem q_D_addFixed {R : Room} {s : State} {args : Array Value} {own : String} {index : Nat} {rm : Room} {mc ms : Nat} (hA : ∀ w ∈ wsA, w.before args s = true) (hl : Cond.methodLink own index y_D_addFixed ∈ wsA) (hrc : rm.cells = mc) (hrs : rm.slots = ms) (hR : rm.frames + 1 ≤ R.frames ∧ 8 + (5 + 11) + rm.locals ≤ R.locals) : CallB R s args own index y_D_addFixed b_D_addFixed 5 none w_D_addFixed rm mc ms 3 ∧ (Cond.static y_D_addFixed).before args s = true := ⟨wa_cb 3 hA k1_179 k1_1 hl hrc hrs (by decide +kernel) hR, hA _ k1_178⟩
theorem q_D_fixedAt {R : Room} {s : State} {args : Array Value} {own : String} {index : Nat} {rm : Room} {mc ms : Nat} (hA : ∀ w ∈ wsA, w.before args s = true) (hl : Cond.methodLink own index y_D_fixedAt ∈ wsA) (hrc : rm.cells = mc) (hrs : rm.slots = ms) (hR : rm.frames + 1 ≤ R.frames ∧ 8 + (6 + 11) + rm.locals ≤ R.locals) : CallB R s args own index y_D_fixedAt b_D_fixedAt 6 (some .long) w_D_fixedAt rm mc ms 3 ∧ (Cond.static y_D_fixedAt).before args s = true := ⟨wa_cb 3 hA k2_78 k1_1 hl hrc hrs (by decide +kernel) hR, hA _ k2_77⟩
theorem q_D_sevensWidth {R : Room} {s : State} {args : Array Value} {own : String} {index : Nat} {rm : Room} {mc ms : Nat} (hA : ∀ w ∈ wsA, w.before args s = true) (hl : Cond.methodLink own index y_D_sevensWidth ∈ wsA) (hrc : rm.cells = mc) (hrs : rm.slots = ms) (hR : rm.frames + 1 ≤ R.frames ∧ 8 + (3 + 11) + rm.locals ≤ R.locals) : CallB R s args own index y_D_sevensWidth b_D_sevensWidth 3 (some .int) w_D_sevensWidth rm mc ms 1 ∧ (Cond.static y_D_sevensWidth).before args s = true := ⟨wa_cb 1 hA k1_196 k1_1 hl hrc hrs (by decide +kernel) hR, hA _ k1_195⟩
theorem q_D_writeSevens {R : Room} {s : State} {args : Array Value} {own : String} {index : Nat} {rm : Room} {mc ms : Nat} (hA : ∀ w ∈ wsA, w.before args s = true) (hl : Cond.methodLink own index y_D_writeSevens ∈ wsA) (hrc : rm.cells = mc) (hrs : rm.slots = ms) (hR : rm.frames + 1 ≤ R.frames ∧ 8 + (4 + 11) + rm.locals ≤ R.locals) : CallB R s args own index y_D_writeSevens b_D_writeSevens 4 (some .int) w_D_writeSevens rm mc ms 2 ∧ (Cond.static y_D_writeSevens).before args s = true := ⟨wa_cb 2 hA k1_193 k1_1 hl hrc hrs (by decide +kernel) hR, hA _ k1_192⟩
theorem q_D_addSevens {R : Room} {s : State} {args : Array Value} {own : String} {index : Nat} {rm : Room} {mc ms : Nat} (hA : ∀ w ∈ wsA, w.before args s = true) (hl : Cond.methodLink own index y_D_addSevens ∈ wsA) (hrc : rm.cells = mc) (hrs : rm.slots = ms) (hR : rm.frames + 1 ≤ R.frames ∧ 8 + (5 + 11) + rm.locals ≤ R.locals) : CallB R s args own index y_D_addSevens b_D_addSevens 5 none w_D_addSevens rm mc ms 2 ∧ (Cond.static y_D_addSevens).before args s = true := ⟨wa_cb 2 hA k1_199 k1_1 hl hrc hrs (by decide +kernel) hR, hA _ k1_198⟩
theorem q_D_sevensWidthAtPlace {R : Room} {s : State} {args : Array Value} {own : String} {index : Nat} {rm : Room} {mc ms : Nat} (hA : ∀ w ∈ wsA, w.before args s = true) (hl : Cond.methodLink own index y_D_sevensWidthAtPlace ∈ wsA) (hrc : rm.cells = mc) (hrs : rm.slots = ms) (hR : rm.frames + 1 ≤ R.frames ∧ 8 + (3 + 11) + rm.locals ≤ R.locals) : CallB R s args own index y_D_sevensWidthAtPlace b_D_sevensWidthAtPlace 3 (some .int) w_D_sevensWidthAtPlace rm mc ms 1 ∧ (Cond.static y_D_sevensWidthAtPlace).before args s = true := ⟨wa_cb 1 hA k2_91 k1_1 hl hrc hrs (by decide +kernel) hR, hA _ k2_90⟩
theorem q_D_needRightLast {R : Room} {s : State} {args : Array Value} {own : String} {index : Nat} {rm : Room} {mc ms : Nat} (hA : ∀ w ∈ wsA, w.before args s = true) (hl : Cond.methodLink own index y_D_needRightLast ∈ wsA) (hrc : rm.cells = mc) (hrs : rm.slots = ms) (hR : rm.frames + 1 ≤ R.frames ∧ 8 + (2 + 11) + rm.locals ≤ R.locals) : CallB R s args own index y_D_needRightLast b_D_needRightLast 2 none w_D_needRightLast rm mc ms 2 ∧ (Cond.static y_D_needRightLast).before args s = true := ⟨wa_cb 2 hA k2_94 k1_1 hl hrc hrs (by decide +kernel) hR, hA _ k2_93⟩
theorem q_D_sevensAtPlace {R : Room} {s : State} {args : Array Value} {own : String} {index : Nat} {rm : Room} {mc ms : Nat} (hA : ∀ w ∈ wsA, w.before args s = true) (hl : Cond.methodLink own index y_D_sevensAtPlace ∈ wsA) (hrc : rm.cells = mc) (hrs : rm.slots = ms) (hR : rm.frames + 1 ≤ R.frames ∧ 8 + (5 + 11) + rm.locals ≤ R.locals) : CallB R s args own index y_D_sevensAtPlace b_D_sevensAtPlace 5 (some .long) w_D_sevensAtPlace rm mc ms 2 ∧ (Cond.static y_D_sevensAtPlace).before args s = true := ⟨wa_cb 2 hA k2_100 k1_1 hl hrc hrs (by decide +kernel) hR, hA _ k2_99⟩
theorem q_D_takeSevens {R : Room} {s : State} {args : Array Value} {own : String} {index : Nat} {rm : Room} {mc ms : Nat} (hA : ∀ w ∈ wsA, w.before args s = true) (hl : Cond.methodLink own index y_D_takeSevens ∈ wsA) (hrc : rm.cells = mc) (hrs : rm.slots = ms) (hR : rm.frames + 1 ≤ R.frames ∧ 8 + (4 + 11) + rm.locals ≤ R.locals) : CallB R s args own index y_D_takeSevens b_D_takeSevens 4 (some .long) w_D_takeSevens rm mc ms 1 ∧ (Cond.static y_D_takeSevens).before args s = true := ⟨wa_cb 1 hA k2_88 k1_1 hl hrc hrs (by decide +kernel) hR, hA _ k2_87⟩
theorem q_D_howManyAtPlace {R : Room} {s : State} {args : Array Value} {own : String} {index : Nat} {rm : Room} {mc ms : Nat} (hA : ∀ w ∈ wsA, w.before args s = true) (hl : Cond.methodLink own index y_D_howManyAtPlace ∈ wsA) (hrc : rm.cells = mc) (hrs : rm.slots = ms) (hR : rm.frames + 1 ≤ R.frames ∧ 8 + (4 + 11) + rm.locals ≤ R.locals) : CallB R s args own index y_D_howManyAtPlace b_D_howManyAtPlace 4 (some .int) w_D_howManyAtPlace rm mc ms 2 ∧ (Cond.static y_D_howManyAtPlace).before args s = true := ⟨wa_cb 2 hA k2_136 k1_1 hl hrc hrs (by decide +kernel) hR, hA _ k2_135⟩
theorem q_D_letterWidth {R : Room} {s : State} {args : Array Value} {own : String} {index : Nat} {rm : Room} {mc ms : Nat} (hA : ∀ w ∈ wsA, w.before args s = true) (hl : Cond.methodLink own index y_D_letterWidth ∈ wsA) (hrc : rm.cells = mc) (hrs : rm.slots = ms) (hR : rm.frames + 1 ≤ R.frames ∧ 8 + (1 + 11) + rm.locals ≤ R.locals) : CallB R s args own index y_D_letterWidth b_D_letterWidth 1 (some .int) w_D_letterWidth rm mc ms 1 ∧ (Cond.static y_D_letterWidth).before args s = true := ⟨wa_cb 1 hA k1_216 k1_1 hl hrc hrs (by decide +kernel) hR, hA _ k1_215⟩
theorem q_D_addLetter {R : Room} {s : State} {args : Array Value} {own : String} {index : Nat} {rm : Room} {mc ms : Nat} (hA : ∀ w ∈ wsA, w.before args s = true) (hl : Cond.methodLink own index y_D_addLetter ∈ wsA) (hrc : rm.cells = mc) (hrs : rm.slots = ms) (hR : rm.frames + 1 ≤ R.frames ∧ 8 + (5 + 11) + rm.locals ≤ R.locals) : CallB R s args own index y_D_addLetter b_D_addLetter 5 none w_D_addLetter rm mc ms 3 ∧ (Cond.static y_D_addLetter).before args s = true := ⟨wa_cb 3 hA k1_223 k1_1 hl hrc hrs (by decide +kernel) hR, hA _ k1_222⟩
theorem q_D_firstMark {R : Room} {s : State} {args : Array Value} {own : String} {index : Nat} {rm : Room} {mc ms : Nat} (hA : ∀ w ∈ wsA, w.before args s = true) (hl : Cond.methodLink own index y_D_firstMark ∈ wsA) (hrc : rm.cells = mc) (hrs : rm.slots = ms) (hR : rm.frames + 1 ≤ R.frames ∧ 8 + (1 + 11) + rm.locals ≤ R.locals) : CallB R s args own index y_D_firstMark b_D_firstMark 1 (some .int) w_D_firstMark rm mc ms 1 ∧ (Cond.static y_D_firstMark).before args s = true := ⟨wa_cb 1 hA k1_226 k1_1 hl hrc hrs (by decide +kernel) hR, hA _ k1_225⟩
theorem q_D_widthByFirst {R : Room} {s : State} {args : Array Value} {own : String} {index : Nat} {rm : Room} {mc ms : Nat} (hA : ∀ w ∈ wsA, w.before args s = true) (hl : Cond.methodLink own index y_D_widthByFirst ∈ wsA) (hrc : rm.cells = mc) (hrs : rm.slots = ms) (hR : rm.frames + 1 ≤ R.frames ∧ 8 + (1 + 11) + rm.locals ≤ R.locals) : CallB R s args own index y_D_widthByFirst b_D_widthByFirst 1 (some .int) w_D_widthByFirst rm mc ms 1 ∧ (Cond.static y_D_widthByFirst).before args s = true := ⟨wa_cb 1 hA k2_120 k1_1 hl hrc hrs (by decide +kernel) hR, hA _ k2_119⟩
theorem q_D_letterAt {R : Room} {s : State} {args : Array Value} {own : String} {index : Nat} {rm : Room} {mc ms : Nat} (hA : ∀ w ∈ wsA, w.before args s = true) (hl : Cond.methodLink own index y_D_letterAt ∈ wsA) (hrc : rm.cells = mc) (hrs : rm.slots = ms) (hR : rm.frames + 1 ≤ R.frames ∧ 8 + (8 + 11) + rm.locals ≤ R.locals) : CallB R s args own index y_D_letterAt b_D_letterAt 8 (some .int) w_D_letterAt rm mc ms 3 ∧ (Cond.static y_D_letterAt).before args s = true := ⟨wa_cb 3 hA k2_117 k1_1 hl hrc hrs (by decide +kernel) hR, hA _ k2_116⟩
theorem q_D_sumOf {R : Room} {s : State} {args : Array Value} {own : String} {index : Nat} {rm : Room} {mc ms : Nat} (hA : ∀ w ∈ wsA, w.before args s = true) (hl : Cond.methodLink own index y_D_sumOf ∈ wsA) (hrc : rm.cells = mc) (hrs : rm.slots = ms) (hR : rm.frames + 1 ≤ R.frames ∧ 8 + (6 + 11) + rm.locals ≤ R.locals) : CallB R s args own index y_D_sumOf b_D_sumOf 6 (some .int) w_D_sumOf rm mc ms 3 ∧ (Cond.static y_D_sumOf).before args s = true := ⟨wa_cb 3 hA k2_20 k1_1 hl hrc hrs (by decide +kernel) hR, hA _ k2_19⟩
theorem q_D_addBytes {R : Room} {s : State} {args : Array Value} {own : String} {index : Nat} {rm : Room} {mc ms : Nat} (hA : ∀ w ∈ wsA, w.before args s = true) (hl : Cond.methodLink own index y_D_addBytes ∈ wsA) (hrc : rm.cells = mc) (hrs : rm.slots = ms) (hR : rm.frames + 1 ≤ R.frames ∧ 8 + (4 + 11) + rm.locals ≤ R.locals) : CallB R s args own index y_D_addBytes b_D_addBytes 4 none w_D_addBytes rm mc ms 4 ∧ (Cond.static y_D_addBytes).before args s = true := ⟨wa_cb 4 hA k2_0 k1_1 hl hrc hrs (by decide +kernel) hR, hA _ k1_239⟩
theorem q_D_moveBytes {R : Room} {s : State} {args : Array Value} {own : String} {index : Nat} {rm : Room} {mc ms : Nat} (hA : ∀ w ∈ wsA, w.before args s = true) (hl : Cond.methodLink own index y_D_moveBytes ∈ wsA) (hrc : rm.cells = mc) (hrs : rm.slots = ms) (hR : rm.frames + 1 ≤ R.frames ∧ 8 + (4 + 11) + rm.locals ≤ R.locals) : CallB R s args own index y_D_moveBytes b_D_moveBytes 4 none w_D_moveBytes rm mc ms 4 ∧ (Cond.static y_D_moveBytes).before args s = true := ⟨wa_cb 4 hA k2_141 k1_1 hl hrc hrs (by decide +kernel) hR, hA _ k2_140⟩
theorem q_M_init {R : Room} {s : State} {args : Array Value} {own : String} {index : Nat} {rm : Room} {mc ms : Nat} (hA : ∀ w ∈ wsA, w.before args s = true) (hl : Cond.methodLink own index y_M_init ∈ wsA) (hrc : rm.cells = mc) (hrs : rm.slots = ms) (hR : rm.frames + 1 ≤ R.frames ∧ 8 + (2 + 11) + rm.locals ≤ R.locals) : CallB R s args own index y_M_init b_M_init 2 none w_M_init rm mc ms 1 ∧ y_M_init.name = "<init>" ∧ (Cond.instanceMethod y_M_init).before args s = true := ⟨wa_cb 1 hA k2_208 k1_4 hl hrc hrs (by decide +kernel) hR, rfl, hA _ k2_207⟩
theorem q_M_thrown {R : Room} {s : State} {args : Array Value} {own : String} {index : Nat} {rm : Room} {mc ms : Nat} (hA : ∀ w ∈ wsA, w.before args s = true) (hl : Cond.methodLink own index y_M_thrown ∈ wsA) (hrc : rm.cells = mc) (hrs : rm.slots = ms) (hR : rm.frames + 1 ≤ R.frames ∧ 8 + (1 + 11) + rm.locals ≤ R.locals) : CallW R s args own R_M index y_M_thrown b_M_thrown 1 (some .int) w_M_thrown rm mc ms 0 := ⟨wa_cb 0 hA k2_236 k1_4 hl hrc hrs (by decide +kernel) hR, hA _ k2_234, hA _ k2_235⟩
theorem q_M_fail {R : Room} {s : State} {args : Array Value} {own : String} {index : Nat} {rm : Room} {mc ms : Nat} (hA : ∀ w ∈ wsA, w.before args s = true) (hl : Cond.methodLink own index y_M_fail ∈ wsA) (hrc : rm.cells = mc) (hrs : rm.slots = ms) (hR : rm.frames + 1 ≤ R.frames ∧ 8 + (2 + 11) + rm.locals ≤ R.locals) : CallW R s args own R_M index y_M_fail b_M_fail 2 (some .int) w_M_fail rm mc ms 1 := ⟨wa_cb 1 hA k3_7 k1_4 hl hrc hrs (by decide +kernel) hR, hA _ k3_6, hA _ ks_M_fail⟩
theorem q_M_isRow {R : Room} {s : State} {args : Array Value} {own : String} {index : Nat} {rm : Room} {mc ms : Nat} (hA : ∀ w ∈ wsA, w.before args s = true) (hl : Cond.methodLink own index y_M_isRow ∈ wsA) (hrc : rm.cells = mc) (hrs : rm.slots = ms) (hR : rm.frames + 1 ≤ R.frames ∧ 8 + (1 + 11) + rm.locals ≤ R.locals) : CallB R s args own index y_M_isRow b_M_isRow 1 (some .boolean) w_M_isRow rm mc ms 1 ∧ (Cond.static y_M_isRow).before args s = true := ⟨wa_cb 1 hA k3_3 k1_4 hl hrc hrs (by decide +kernel) hR, hA _ k3_2⟩
theorem q_M_at {R : Room} {s : State} {args : Array Value} {own : String} {index : Nat} {rm : Room} {mc ms : Nat} (hA : ∀ w ∈ wsA, w.before args s = true) (hl : Cond.methodLink own index y_M_at ∈ wsA) (hrc : rm.cells = mc) (hrs : rm.slots = ms) (hR : rm.frames + 1 ≤ R.frames ∧ 8 + (3 + 11) + rm.locals ≤ R.locals) : CallW R s args own R_M index y_M_at b_M_at 3 (some .int) w_M_at rm mc ms 2 := ⟨wa_cb 2 hA k3_69 k1_4 hl hrc hrs (by decide +kernel) hR, hA _ k3_68, hA _ ks_M_at⟩
theorem q_M_set {R : Room} {s : State} {args : Array Value} {own : String} {index : Nat} {rm : Room} {mc ms : Nat} (hA : ∀ w ∈ wsA, w.before args s = true) (hl : Cond.methodLink own index y_M_set ∈ wsA) (hrc : rm.cells = mc) (hrs : rm.slots = ms) (hR : rm.frames + 1 ≤ R.frames ∧ 8 + (6 + 11) + rm.locals ≤ R.locals) : CallW R s args own R_M index y_M_set b_M_set 6 none w_M_set rm mc ms 3 := ⟨wa_cb 3 hA k3_20 k1_4 hl hrc hrs (by decide +kernel) hR, hA _ k3_19, hA _ ks_M_set⟩
theorem q_M_add {R : Room} {s : State} {args : Array Value} {own : String} {index : Nat} {rm : Room} {mc ms : Nat} (hA : ∀ w ∈ wsA, w.before args s = true) (hl : Cond.methodLink own index y_M_add ∈ wsA) (hrc : rm.cells = mc) (hrs : rm.slots = ms) (hR : rm.frames + 1 ≤ R.frames ∧ 8 + (3 + 11) + rm.locals ≤ R.locals) : CallW R s args own R_M index y_M_add b_M_add 3 none w_M_add rm mc ms 2 := ⟨wa_cb 2 hA k3_16 k1_4 hl hrc hrs (by decide +kernel) hR, hA _ k3_15, hA _ ks_M_add⟩
theorem q_M_fits {R : Room} {s : State} {args : Array Value} {own : String} {index : Nat} {rm : Room} {mc ms : Nat} (hA : ∀ w ∈ wsA, w.before args s = true) (hl : Cond.methodLink own index y_M_fits ∈ wsA) (hrc : rm.cells = mc) (hrs : rm.slots = ms) (hR : rm.frames + 1 ≤ R.frames ∧ 8 + (3 + 11) + rm.locals ≤ R.locals) : CallW R s args own R_M index y_M_fits b_M_fits 3 (some .boolean) w_M_fits rm mc ms 2 := ⟨wa_cb 2 hA k3_11 k1_4 hl hrc hrs (by decide +kernel) hR, hA _ k3_10, hA _ ks_M_fits⟩
theorem q_M_groups {R : Room} {s : State} {args : Array Value} {own : String} {index : Nat} {rm : Room} {mc ms : Nat} (hA : ∀ w ∈ wsA, w.before args s = true) (hl : Cond.methodLink own index y_M_groups ∈ wsA) (hrc : rm.cells = mc) (hrs : rm.slots = ms) (hR : rm.frames + 1 ≤ R.frames ∧ 8 + (5 + 11) + rm.locals ≤ R.locals) : CallB R s args own index y_M_groups b_M_groups 5 (some .int) w_M_groups rm mc ms 1 ∧ (Cond.static y_M_groups).before args s = true := ⟨wa_cb 1 hA k3_32 k1_4 hl hrc hrs (by decide +kernel) hR, hA _ k3_31⟩
theorem q_M_addGroups {R : Room} {s : State} {args : Array Value} {own : String} {index : Nat} {rm : Room} {mc ms : Nat} (hA : ∀ w ∈ wsA, w.before args s = true) (hl : Cond.methodLink own index y_M_addGroups ∈ wsA) (hrc : rm.cells = mc) (hrs : rm.slots = ms) (hR : rm.frames + 1 ≤ R.frames ∧ 8 + (7 + 11) + rm.locals ≤ R.locals) : CallW R s args own R_M index y_M_addGroups b_M_addGroups 7 none w_M_addGroups rm mc ms 2 := ⟨wa_cb 2 hA k3_36 k1_4 hl hrc hrs (by decide +kernel) hR, hA _ k3_35, hA _ ks_M_addGroups⟩
theorem q_M_folded {R : Room} {s : State} {args : Array Value} {own : String} {index : Nat} {rm : Room} {mc ms : Nat} (hA : ∀ w ∈ wsA, w.before args s = true) (hl : Cond.methodLink own index y_M_folded ∈ wsA) (hrc : rm.cells = mc) (hrs : rm.slots = ms) (hR : rm.frames + 1 ≤ R.frames ∧ 8 + (2 + 11) + rm.locals ≤ R.locals) : CallB R s args own index y_M_folded b_M_folded 2 (some .long) w_M_folded rm mc ms 1 ∧ (Cond.static y_M_folded).before args s = true := ⟨wa_cb 1 hA k3_44 k1_4 hl hrc hrs (by decide +kernel) hR, hA _ k3_43⟩
theorem q_M_sumOf {R : Room} {s : State} {args : Array Value} {own : String} {index : Nat} {rm : Room} {mc ms : Nat} (hA : ∀ w ∈ wsA, w.before args s = true) (hl : Cond.methodLink own index y_M_sumOf ∈ wsA) (hrc : rm.cells = mc) (hrs : rm.slots = ms) (hR : rm.frames + 1 ≤ R.frames ∧ 8 + (9 + 11) + rm.locals ≤ R.locals) : CallW R s args own R_M index y_M_sumOf b_M_sumOf 9 (some .int) w_M_sumOf rm mc ms 3 := ⟨wa_cb 3 hA k3_81 k1_4 hl hrc hrs (by decide +kernel) hR, hA _ k3_80, hA _ ks_M_sumOf⟩
theorem q_M_fixed {R : Room} {s : State} {args : Array Value} {own : String} {index : Nat} {rm : Room} {mc ms : Nat} (hA : ∀ w ∈ wsA, w.before args s = true) (hl : Cond.methodLink own index y_M_fixed ∈ wsA) (hrc : rm.cells = mc) (hrs : rm.slots = ms) (hR : rm.frames + 1 ≤ R.frames ∧ 8 + (6 + 11) + rm.locals ≤ R.locals) : CallW R s args own R_M index y_M_fixed b_M_fixed 6 (some .int) w_M_fixed rm mc ms 3 := ⟨wa_cb 3 hA k3_0 k1_4 hl hrc hrs (by decide +kernel) hR, hA _ k2_238, hA _ k2_239⟩
theorem q_M_putGroups {R : Room} {s : State} {args : Array Value} {own : String} {index : Nat} {rm : Room} {mc ms : Nat} (hA : ∀ w ∈ wsA, w.before args s = true) (hl : Cond.methodLink own index y_M_putGroups ∈ wsA) (hrc : rm.cells = mc) (hrs : rm.slots = ms) (hR : rm.frames + 1 ≤ R.frames ∧ 8 + (5 + 11) + rm.locals ≤ R.locals) : CallW R s args own R_M index y_M_putGroups b_M_putGroups 5 (some .int) w_M_putGroups rm mc ms 2 := ⟨wa_cb 2 hA k3_29 k1_4 hl hrc hrs (by decide +kernel) hR, hA _ k3_28, hA _ ks_M_putGroups⟩
theorem q_M_sevens {R : Room} {s : State} {args : Array Value} {own : String} {index : Nat} {rm : Room} {mc ms : Nat} (hA : ∀ w ∈ wsA, w.before args s = true) (hl : Cond.methodLink own index y_M_sevens ∈ wsA) (hrc : rm.cells = mc) (hrs : rm.slots = ms) (hR : rm.frames + 1 ≤ R.frames ∧ 8 + (4 + 11) + rm.locals ≤ R.locals) : CallW R s args own R_M index y_M_sevens b_M_sevens 4 (some .int) w_M_sevens rm mc ms 2 := ⟨wa_cb 2 hA k3_25 k1_4 hl hrc hrs (by decide +kernel) hR, hA _ k3_23, hA _ k3_24⟩
theorem q_M_signed {R : Room} {s : State} {args : Array Value} {own : String} {index : Nat} {rm : Room} {mc ms : Nat} (hA : ∀ w ∈ wsA, w.before args s = true) (hl : Cond.methodLink own index y_M_signed ∈ wsA) (hrc : rm.cells = mc) (hrs : rm.slots = ms) (hR : rm.frames + 1 ≤ R.frames ∧ 8 + (4 + 11) + rm.locals ≤ R.locals) : CallW R s args own R_M index y_M_signed b_M_signed 4 (some .int) w_M_signed rm mc ms 2 := ⟨wa_cb 2 hA k3_41 k1_4 hl hrc hrs (by decide +kernel) hR, hA _ k3_39, hA _ k3_40⟩
theorem q_M_isLetter {R : Room} {s : State} {args : Array Value} {own : String} {index : Nat} {rm : Room} {mc ms : Nat} (hA : ∀ w ∈ wsA, w.before args s = true) (hl : Cond.methodLink own index y_M_isLetter ∈ wsA) (hrc : rm.cells = mc) (hrs : rm.slots = ms) (hR : rm.frames + 1 ≤ R.frames ∧ 8 + (1 + 11) + rm.locals ≤ R.locals) : CallB R s args own index y_M_isLetter b_M_isLetter 1 (some .boolean) w_M_isLetter rm mc ms 1 ∧ (Cond.static y_M_isLetter).before args s = true := ⟨wa_cb 1 hA k3_51 k1_4 hl hrc hrs (by decide +kernel) hR, hA _ k3_50⟩
theorem q_M_lengthOf {R : Room} {s : State} {args : Array Value} {own : String} {index : Nat} {rm : Room} {mc ms : Nat} (hA : ∀ w ∈ wsA, w.before args s = true) (hl : Cond.methodLink own index y_M_lengthOf ∈ wsA) (hrc : rm.cells = mc) (hrs : rm.slots = ms) (hR : rm.frames + 1 ≤ R.frames ∧ 8 + (1 + 11) + rm.locals ≤ R.locals) : CallB R s args own index y_M_lengthOf b_M_lengthOf 1 (some .int) w_M_lengthOf rm mc ms 1 ∧ (Cond.static y_M_lengthOf).before args s = true := ⟨wa_cb 1 hA k3_57 k1_4 hl hrc hrs (by decide +kernel) hR, hA _ k3_56⟩
theorem q_M_letter {R : Room} {s : State} {args : Array Value} {own : String} {index : Nat} {rm : Room} {mc ms : Nat} (hA : ∀ w ∈ wsA, w.before args s = true) (hl : Cond.methodLink own index y_M_letter ∈ wsA) (hrc : rm.cells = mc) (hrs : rm.slots = ms) (hR : rm.frames + 1 ≤ R.frames ∧ 8 + (7 + 11) + rm.locals ≤ R.locals) : CallW R s args own R_M index y_M_letter b_M_letter 7 (some .int) w_M_letter rm mc ms 2 := ⟨wa_cb 2 hA k3_48 k1_4 hl hrc hrs (by decide +kernel) hR, hA _ k3_46, hA _ k3_47⟩
theorem q_M_has {R : Room} {s : State} {args : Array Value} {own : String} {index : Nat} {rm : Room} {mc ms : Nat} (hA : ∀ w ∈ wsA, w.before args s = true) (hl : Cond.methodLink own index y_M_has ∈ wsA) (hrc : rm.cells = mc) (hrs : rm.slots = ms) (hR : rm.frames + 1 ≤ R.frames ∧ 8 + (4 + 11) + rm.locals ≤ R.locals) : CallW R s args own R_M index y_M_has b_M_has 4 (some .boolean) w_M_has rm mc ms 3 := ⟨wa_cb 3 hA k3_65 k1_4 hl hrc hrs (by decide +kernel) hR, hA _ k3_64, hA _ ks_M_has⟩
theorem q_M_copy {R : Room} {s : State} {args : Array Value} {own : String} {index : Nat} {rm : Room} {mc ms : Nat} (hA : ∀ w ∈ wsA, w.before args s = true) (hl : Cond.methodLink own index y_M_copy ∈ wsA) (hrc : rm.cells = mc) (hrs : rm.slots = ms) (hR : rm.frames + 1 ≤ R.frames ∧ 8 + (6 + 11) + rm.locals ≤ R.locals) : CallW R s args own R_M index y_M_copy b_M_copy 6 (some .int) w_M_copy rm mc ms 4 := ⟨wa_cb 4 hA k3_61 k1_4 hl hrc hrs (by decide +kernel) hR, hA _ k3_59, hA _ k3_60⟩
theorem q_M_wrap {R : Room} {s : State} {args : Array Value} {own : String} {index : Nat} {rm : Room} {mc ms : Nat} (hA : ∀ w ∈ wsA, w.before args s = true) (hl : Cond.methodLink own index y_M_wrap ∈ wsA) (hrc : rm.cells = mc) (hrs : rm.slots = ms) (hR : rm.frames + 1 ≤ R.frames ∧ 8 + (8 + 11) + rm.locals ≤ R.locals) : CallW R s args own R_M index y_M_wrap b_M_wrap 8 (some .int) w_M_wrap rm mc ms 3 := ⟨wa_cb 3 hA k3_77 k1_4 hl hrc hrs (by decide +kernel) hR, hA _ k3_76, hA _ ks_M_wrap⟩
theorem q_M_block {R : Room} {s : State} {args : Array Value} {own : String} {index : Nat} {rm : Room} {mc ms : Nat} (hA : ∀ w ∈ wsA, w.before args s = true) (hl : Cond.methodLink own index y_M_block ∈ wsA) (hrc : rm.cells = mc) (hrs : rm.slots = ms) (hR : rm.frames + 1 ≤ R.frames ∧ 8 + (3 + 11) + rm.locals ≤ R.locals) : CallW R s args own R_M index y_M_block b_M_block 3 (some .int) w_M_block rm mc ms 2 := ⟨wa_cb 2 hA k3_73 k1_4 hl hrc hrs (by decide +kernel) hR, hA _ k3_71, hA _ k3_72⟩
theorem q_M_frame {R : Room} {s : State} {args : Array Value} {own : String} {index : Nat} {rm : Room} {mc ms : Nat} (hA : ∀ w ∈ wsA, w.before args s = true) (hl : Cond.methodLink own index y_M_frame ∈ wsA) (hrc : rm.cells = mc) (hrs : rm.slots = ms) (hR : rm.frames + 1 ≤ R.frames ∧ 8 + (3 + 11) + rm.locals ≤ R.locals) : CallW R s args own R_M index y_M_frame b_M_frame 3 (some .int) w_M_frame rm mc ms 2 := ⟨wa_cb 2 hA k3_86 k1_4 hl hrc hrs (by decide +kernel) hR, hA _ k3_84, hA _ k3_85⟩
theorem q_M_cut {R : Room} {s : State} {args : Array Value} {own : String} {index : Nat} {rm : Room} {mc ms : Nat} (hA : ∀ w ∈ wsA, w.before args s = true) (hl : Cond.methodLink own index y_M_cut ∈ wsA) (hrc : rm.cells = mc) (hrs : rm.slots = ms) (hR : rm.frames + 1 ≤ R.frames ∧ 8 + (4 + 11) + rm.locals ≤ R.locals) : CallW R s args own R_M index y_M_cut b_M_cut 4 (some .int) w_M_cut rm mc ms 2 := ⟨wa_cb 2 hA k3_90 k1_4 hl hrc hrs (by decide +kernel) hR, hA _ k3_88, hA _ k3_89⟩
theorem q_M_turn {R : Room} {s : State} {args : Array Value} {own : String} {index : Nat} {rm : Room} {mc ms : Nat} (hA : ∀ w ∈ wsA, w.before args s = true) (hl : Cond.methodLink own index y_M_turn ∈ wsA) (hrc : rm.cells = mc) (hrs : rm.slots = ms) (hR : rm.frames + 1 ≤ R.frames ∧ 8 + (3 + 11) + rm.locals ≤ R.locals) : CallW R s args own R_M index y_M_turn b_M_turn 3 (some .int) w_M_turn rm mc ms 2 := ⟨wa_cb 2 hA k3_94 k1_4 hl hrc hrs (by decide +kernel) hR, hA _ k3_92, hA _ k3_93⟩
theorem q_M_place {R : Room} {s : State} {args : Array Value} {own : String} {index : Nat} {rm : Room} {mc ms : Nat} (hA : ∀ w ∈ wsA, w.before args s = true) (hl : Cond.methodLink own index y_M_place ∈ wsA) (hrc : rm.cells = mc) (hrs : rm.slots = ms) (hR : rm.frames + 1 ≤ R.frames ∧ 8 + (4 + 11) + rm.locals ≤ R.locals) : CallW R s args own R_M index y_M_place b_M_place 4 (some .int) w_M_place rm mc ms 2 := ⟨wa_cb 2 hA k3_98 k1_4 hl hrc hrs (by decide +kernel) hR, hA _ k3_96, hA _ k3_97⟩
theorem q_M_number {R : Room} {s : State} {args : Array Value} {own : String} {index : Nat} {rm : Room} {mc ms : Nat} (hA : ∀ w ∈ wsA, w.before args s = true) (hl : Cond.methodLink own index y_M_number ∈ wsA) (hrc : rm.cells = mc) (hrs : rm.slots = ms) (hR : rm.frames + 1 ≤ R.frames ∧ 8 + (7 + 11) + rm.locals ≤ R.locals) : CallW R s args own R_M index y_M_number b_M_number 7 (some .long) w_M_number rm mc ms 3 := ⟨wa_cb 3 hA k3_106 k1_4 hl hrc hrs (by decide +kernel) hR, hA _ k3_105, hA _ ks_M_number⟩
theorem q_M_readFixed {R : Room} {s : State} {args : Array Value} {own : String} {index : Nat} {rm : Room} {mc ms : Nat} (hA : ∀ w ∈ wsA, w.before args s = true) (hl : Cond.methodLink own index y_M_readFixed ∈ wsA) (hrc : rm.cells = mc) (hrs : rm.slots = ms) (hR : rm.frames + 1 ≤ R.frames ∧ 8 + (5 + 11) + rm.locals ≤ R.locals) : CallW R s args own R_M index y_M_readFixed b_M_readFixed 5 (some .long) w_M_readFixed rm mc ms 2 := ⟨wa_cb 2 hA k3_102 k1_4 hl hrc hrs (by decide +kernel) hR, hA _ k3_100, hA _ k3_101⟩
theorem q_M_grouped {R : Room} {s : State} {args : Array Value} {own : String} {index : Nat} {rm : Room} {mc ms : Nat} (hA : ∀ w ∈ wsA, w.before args s = true) (hl : Cond.methodLink own index y_M_grouped ∈ wsA) (hrc : rm.cells = mc) (hrs : rm.slots = ms) (hR : rm.frames + 1 ≤ R.frames ∧ 8 + (8 + 11) + rm.locals ≤ R.locals) : CallW R s args own R_M index y_M_grouped b_M_grouped 8 (some .long) w_M_grouped rm mc ms 2 := ⟨wa_cb 2 hA k3_114 k1_4 hl hrc hrs (by decide +kernel) hR, hA _ k3_113, hA _ ks_M_grouped⟩
theorem q_M_failed {R : Room} {s : State} {args : Array Value} {own : String} {index : Nat} {rm : Room} {mc ms : Nat} (hA : ∀ w ∈ wsA, w.before args s = true) (hl : Cond.methodLink own index y_M_failed ∈ wsA) (hrc : rm.cells = mc) (hrs : rm.slots = ms) (hR : rm.frames + 1 ≤ R.frames ∧ 8 + (1 + 11) + rm.locals ≤ R.locals) : CallW R s args own R_M index y_M_failed b_M_failed 1 (some .int) w_M_failed rm mc ms 0 := ⟨wa_cb 0 hA k3_118 k1_4 hl hrc hrs (by decide +kernel) hR, hA _ k3_117, hA _ ks_M_failed⟩
theorem q_M_readSevens {R : Room} {s : State} {args : Array Value} {own : String} {index : Nat} {rm : Room} {mc ms : Nat} (hA : ∀ w ∈ wsA, w.before args s = true) (hl : Cond.methodLink own index y_M_readSevens ∈ wsA) (hrc : rm.cells = mc) (hrs : rm.slots = ms) (hR : rm.frames + 1 ≤ R.frames ∧ 8 + (4 + 11) + rm.locals ≤ R.locals) : CallW R s args own R_M index y_M_readSevens b_M_readSevens 4 (some .long) w_M_readSevens rm mc ms 1 := ⟨wa_cb 1 hA k3_110 k1_4 hl hrc hrs (by decide +kernel) hR, hA _ k3_108, hA _ k3_109⟩
theorem q_M_readSigned {R : Room} {s : State} {args : Array Value} {own : String} {index : Nat} {rm : Room} {mc ms : Nat} (hA : ∀ w ∈ wsA, w.before args s = true) (hl : Cond.methodLink own index y_M_readSigned ∈ wsA) (hrc : rm.cells = mc) (hrs : rm.slots = ms) (hR : rm.frames + 1 ≤ R.frames ∧ 8 + (4 + 11) + rm.locals ≤ R.locals) : CallW R s args own R_M index y_M_readSigned b_M_readSigned 4 (some .long) w_M_readSigned rm mc ms 1 := ⟨wa_cb 1 hA k3_122 k1_4 hl hrc hrs (by decide +kernel) hR, hA _ k3_120, hA _ k3_121⟩
theorem q_M_canBe {R : Room} {s : State} {args : Array Value} {own : String} {index : Nat} {rm : Room} {mc ms : Nat} (hA : ∀ w ∈ wsA, w.before args s = true) (hl : Cond.methodLink own index y_M_canBe ∈ wsA) (hrc : rm.cells = mc) (hrs : rm.slots = ms) (hR : rm.frames + 1 ≤ R.frames ∧ 8 + (3 + 11) + rm.locals ≤ R.locals) : CallB R s args own index y_M_canBe b_M_canBe 3 (some .boolean) w_M_canBe rm mc ms 3 ∧ (Cond.static y_M_canBe).before args s = true := ⟨wa_cb 3 hA k3_134 k1_4 hl hrc hrs (by decide +kernel) hR, hA _ k3_133⟩
theorem q_M_lettered {R : Room} {s : State} {args : Array Value} {own : String} {index : Nat} {rm : Room} {mc ms : Nat} (hA : ∀ w ∈ wsA, w.before args s = true) (hl : Cond.methodLink own index y_M_lettered ∈ wsA) (hrc : rm.cells = mc) (hrs : rm.slots = ms) (hR : rm.frames + 1 ≤ R.frames ∧ 8 + (10 + 11) + rm.locals ≤ R.locals) : CallW R s args own R_M index y_M_lettered b_M_lettered 10 (some .int) w_M_lettered rm mc ms 3 := ⟨wa_cb 3 hA k3_131 k1_4 hl hrc hrs (by decide +kernel) hR, hA _ k3_130, hA _ ks_M_lettered⟩
theorem q_M_readLetter {R : Room} {s : State} {args : Array Value} {own : String} {index : Nat} {rm : Room} {mc ms : Nat} (hA : ∀ w ∈ wsA, w.before args s = true) (hl : Cond.methodLink own index y_M_readLetter ∈ wsA) (hrc : rm.cells = mc) (hrs : rm.slots = ms) (hR : rm.frames + 1 ≤ R.frames ∧ 8 + (3 + 11) + rm.locals ≤ R.locals) : CallW R s args own R_M index y_M_readLetter b_M_readLetter 3 (some .int) w_M_readLetter rm mc ms 1 := ⟨wa_cb 1 hA k3_127 k1_4 hl hrc hrs (by decide +kernel) hR, hA _ k3_125, hA _ k3_126⟩
theorem q_M_unwrap {R : Room} {s : State} {args : Array Value} {own : String} {index : Nat} {rm : Room} {mc ms : Nat} (hA : ∀ w ∈ wsA, w.before args s = true) (hl : Cond.methodLink own index y_M_unwrap ∈ wsA) (hrc : rm.cells = mc) (hrs : rm.slots = ms) (hR : rm.frames + 1 ≤ R.frames ∧ 8 + (9 + 11) + rm.locals ≤ R.locals) : CallW R s args own R_M index y_M_unwrap b_M_unwrap 9 (some .int) w_M_unwrap rm mc ms 3 := ⟨wa_cb 3 hA k3_142 k1_4 hl hrc hrs (by decide +kernel) hR, hA _ k3_141, hA _ ks_M_unwrap⟩
theorem q_M_readBlock {R : Room} {s : State} {args : Array Value} {own : String} {index : Nat} {rm : Room} {mc ms : Nat} (hA : ∀ w ∈ wsA, w.before args s = true) (hl : Cond.methodLink own index y_M_readBlock ∈ wsA) (hrc : rm.cells = mc) (hrs : rm.slots = ms) (hR : rm.frames + 1 ≤ R.frames ∧ 8 + (3 + 11) + rm.locals ≤ R.locals) : CallW R s args own R_M index y_M_readBlock b_M_readBlock 3 (some .int) w_M_readBlock rm mc ms 2 := ⟨wa_cb 2 hA k3_138 k1_4 hl hrc hrs (by decide +kernel) hR, hA _ k3_136, hA _ k3_137⟩
theorem q_M_readFrame {R : Room} {s : State} {args : Array Value} {own : String} {index : Nat} {rm : Room} {mc ms : Nat} (hA : ∀ w ∈ wsA, w.before args s = true) (hl : Cond.methodLink own index y_M_readFrame ∈ wsA) (hrc : rm.cells = mc) (hrs : rm.slots = ms) (hR : rm.frames + 1 ≤ R.frames ∧ 8 + (3 + 11) + rm.locals ≤ R.locals) : CallW R s args own R_M index y_M_readFrame b_M_readFrame 3 (some .int) w_M_readFrame rm mc ms 2 := ⟨wa_cb 2 hA k3_147 k1_4 hl hrc hrs (by decide +kernel) hR, hA _ k3_145, hA _ k3_146⟩
theorem q_M_letters {R : Room} {s : State} {args : Array Value} {own : String} {index : Nat} {rm : Room} {mc ms : Nat} (hA : ∀ w ∈ wsA, w.before args s = true) (hl : Cond.methodLink own index y_M_letters ∈ wsA) (hrc : rm.cells = mc) (hrs : rm.slots = ms) (hR : rm.frames + 1 ≤ R.frames ∧ 8 + (6 + 11) + rm.locals ≤ R.locals) : CallW R s args own R_M index y_M_letters b_M_letters 6 (some .int) w_M_letters rm mc ms 3 := ⟨wa_cb 3 hA k3_151 k1_4 hl hrc hrs (by decide +kernel) hR, hA _ k3_149, hA _ k3_150⟩
theorem q_M_sum {R : Room} {s : State} {args : Array Value} {own : String} {index : Nat} {rm : Room} {mc ms : Nat} (hA : ∀ w ∈ wsA, w.before args s = true) (hl : Cond.methodLink own index y_M_sum ∈ wsA) (hrc : rm.cells = mc) (hrs : rm.slots = ms) (hR : rm.frames + 1 ≤ R.frames ∧ 8 + (4 + 11) + rm.locals ≤ R.locals) : CallW R s args own R_M index y_M_sum b_M_sum 4 (some .int) w_M_sum rm mc ms 3 := ⟨wa_cb 3 hA k3_155 k1_4 hl hrc hrs (by decide +kernel) hR, hA _ k3_153, hA _ k3_154⟩
theorem q_M_same {R : Room} {s : State} {args : Array Value} {own : String} {index : Nat} {rm : Room} {mc ms : Nat} (hA : ∀ w ∈ wsA, w.before args s = true) (hl : Cond.methodLink own index y_M_same ∈ wsA) (hrc : rm.cells = mc) (hrs : rm.slots = ms) (hR : rm.frames + 1 ≤ R.frames ∧ 8 + (5 + 11) + rm.locals ≤ R.locals) : CallW R s args own R_M index y_M_same b_M_same 5 (some .boolean) w_M_same rm mc ms 2 := ⟨wa_cb 2 hA k3_159 k1_4 hl hrc hrs (by decide +kernel) hR, hA _ k3_157, hA _ k3_158⟩
theorem q_M_row {R : Room} {s : State} {args : Array Value} {own : String} {index : Nat} {rm : Room} {mc ms : Nat} (hA : ∀ w ∈ wsA, w.before args s = true) (hl : Cond.methodLink own index y_M_row ∈ wsA) (hrc : rm.cells = mc) (hrs : rm.slots = ms) (hR : rm.frames + 1 ≤ R.frames ∧ 8 + (3 + 11) + rm.locals ≤ R.locals) : CallW R s args own R_M index y_M_row b_M_row 3 (some .int) w_M_row rm mc ms 2 := ⟨wa_cb 2 hA k3_163 k1_4 hl hrc hrs (by decide +kernel) hR, hA _ k3_161, hA _ k3_162⟩
theorem q_M_byteAt {R : Room} {s : State} {args : Array Value} {own : String} {index : Nat} {rm : Room} {mc ms : Nat} (hA : ∀ w ∈ wsA, w.before args s = true) (hl : Cond.methodLink own index y_M_byteAt ∈ wsA) (hrc : rm.cells = mc) (hrs : rm.slots = ms) (hR : rm.frames + 1 ≤ R.frames ∧ 8 + (3 + 11) + rm.locals ≤ R.locals) : CallW R s args own R_M index y_M_byteAt b_M_byteAt 3 (some .int) w_M_byteAt rm mc ms 2 := ⟨wa_cb 2 hA k3_167 k1_4 hl hrc hrs (by decide +kernel) hR, hA _ k3_165, hA _ k3_166⟩
theorem q_R_init {R : Room} {s : State} {args : Array Value} {own : String} {index : Nat} {rm : Room} {mc ms : Nat} (hA : ∀ w ∈ wsA, w.before args s = true) (hl : Cond.methodLink own index y_R_init ∈ wsA) (hrc : rm.cells = mc) (hrs : rm.slots = ms) (hR : rm.frames + 1 ≤ R.frames ∧ 8 + (2 + 11) + rm.locals ≤ R.locals) : CallB R s args own index y_R_init b_R_init 2 none w_R_init rm mc ms 1 ∧ y_R_init.name = "<init>" ∧ (Cond.instanceMethod y_R_init).before args s = true := ⟨wa_cb 1 hA k1_34 k1_3 hl hrc hrs (by decide +kernel) hR, rfl, hA _ k1_33⟩
theorem q_R_get {R : Room} {s : State} {args : Array Value} {own : String} {index : Nat} {rm : Room} {mc ms : Nat} (hA : ∀ w ∈ wsA, w.before args s = true) (hl : Cond.methodLink own index y_R_get ∈ wsA) (hrc : rm.cells = mc) (hrs : rm.slots = ms) (hR : rm.frames + 1 ≤ R.frames ∧ 8 + (2 + 11) + rm.locals ≤ R.locals) : CallW R s args own R_R index y_R_get b_R_get 2 (some .int) w_R_get rm mc ms 1 := ⟨wa_cb 1 hA k2_24 k1_3 hl hrc hrs (by decide +kernel) hR, hA _ k2_22, hA _ k2_23⟩
theorem q_R_add {R : Room} {s : State} {args : Array Value} {own : String} {index : Nat} {rm : Room} {mc ms : Nat} (hA : ∀ w ∈ wsA, w.before args s = true) (hl : Cond.methodLink own index y_R_add ∈ wsA) (hrc : rm.cells = mc) (hrs : rm.slots = ms) (hR : rm.frames + 1 ≤ R.frames ∧ 8 + (2 + 11) + rm.locals ≤ R.locals) : CallW R s args own R_R index y_R_add b_R_add 2 none w_R_add rm mc ms 1 := ⟨wa_cb 1 hA k1_183 k1_3 hl hrc hrs (by decide +kernel) hR, hA _ k1_181, hA _ k1_182⟩
theorem q_L_cell {R : Room} {s : State} {args : Array Value} {own : String} {index : Nat} {rm : Room} {mc ms : Nat} (hA : ∀ w ∈ wsA, w.before args s = true) (hl : Cond.methodLink own index y_L_cell ∈ wsA) (hrc : rm.cells = mc) (hrs : rm.slots = ms) (hR : rm.frames + 1 ≤ R.frames ∧ 8 + (2 + 11) + rm.locals ≤ R.locals) : CallB R s args own index y_L_cell b_L_cell 2 (some .int) w_L_cell rm mc ms 2 ∧ (Cond.static y_L_cell).before args s = true := ⟨wa_cb 2 hA k1_55 k1_0 hl hrc hrs (by decide +kernel) hR, hA _ k1_54⟩
end
section
/-! THE CLASS, LEAVES -/
def ow (D : va_G) (tys : List (ClassId × FieldType)) (A : Nat → Prop) (ws : va_W) (t : State) : Prop := va_P D vCl ws t.heap ∧ va_K D vCl tys t ∧ va_D A ws
set_option maxHeartbeats 4000000 in
set_option maxRecDepth 100000 in
/-- Row.get -/
theorem c_R_get (l : Launch) (D : va_G) (cB : ClassId) (y b M : Nat) (B : Nat → Nat) (nv pv : Int32) (i : Nat) (hi : i < M) (hM : M ≤ 65536) (hB : ∀ j, B j < 256) : Met l y_R_get w_R_get ({ frames := 0, cells := 0, slots := 0, locals := 0 }) (va_Pc [.ref y, .int (nI i)] (ox D [(cB, .byte)] [(y, .inr (1, [.ref b, .int nv, .int pv])), (b, .inl (cB, M, .inl (fun j => sb_b (B j))))])) (vp_Si (fun r => r = nI (B i))) 0 0 (fun _ => False) := by
  refine Met.ofW (cc := b_R_get) (maxL := 2) (ret := (some .int)) (by decide) rfl ?_
  intro p9 e9 s m args below meth c9 s₁ BL hml hv
  obtain ⟨rfl, hP, hK⟩ := hv
  have hx := BL.exec
  have hb := BL.bytes
  have hr := BL.returns
  have hts := atoms_spec (ws := w_R_get) BL.pre
  have hA : ∀ w ∈ wsA, w.before _ s = true := fun w h => hts w (List.mem_cons_of_mem _ h)
  have hown : s.vm.findClass R_R = some m.cls := findClass_of_methodNamed BL.named
  have hlocks := BL.notSynchronized
  have hP : va_P D vCl [(y, .inr (1, [.ref b, .int nv, .int pv])), (b, .inl (cB, M, .inl (fun j => sb_b (B j))))] s.heap := hP
  have hl := lv_entry ([.ref y, .int (nI i)]) (n := 2) (Nat.le_of_ble_eq_true rfl)
  rw [lg_entry_eq]
  generalize (lg_sl ([.ref y, .int (nI i)]) ++ List.replicate (2 - (lg_sl ([.ref y, .int (nI i)])).length) Slot.unset).toArray = ls at hl ⊢
  have hl : lv_has ls 2 [(0, .ref y), (1, .int (nI i))] := hl
  refine lv_aload_n hx hb d_R_get_0 rfl (lv_at hl 0 rfl) ?_
  refine va_get (D := D) (ci := 1) (v := .ref b) (C := R_R) (T := F_R) (N := 3) hx hb hA i_R hown hK hP 0 rfl rfl 0 (by decide) (hA _ k1_36) (fun _ h9 => h9) rfl d_R_get_1 ?_
  refine lv_iload_n hx hb d_R_get_4 rfl (lv_at hl 1 rfl) ?_
  refine va_bald hx hb hK hP 1 0 rfl rfl (vp_in_nI hi (by omega)) d_R_get_5 ?_
  refine lv_topi (fun v5 ev5 => ?_)
  refine lv_sipush (v := 255) hx hb d_R_get_6 (by decide) ?_
  refine lv_iand hx hb d_R_get_9 ?_
  refine lv_topi (fun v9 ev9 => ?_)
  exact W.iret (v := v9) hx hb hr (fun t ht hW => ⟨_, rfl, by rw [ev9, ev5]; exact by_get hB (by omega), ht⟩) (fun q h => by cases h) d_R_get_10
set_option maxHeartbeats 4000000 in
set_option maxRecDepth 100000 in
/-- Row.add -/
theorem c_R_add (l : Launch) (D : va_G) (cB : ClassId) (y b M : Nat) (B : Nat → Nat) (n p : Nat) (sz : Nat) (x : Int32) (hn : n < M) (hM : M ≤ 65536) : Met l y_R_add w_R_add ({ frames := 0, cells := 0, slots := 0, locals := 0 }) (va_Pc [.ref y, .int x] (oxw sz D [(cB, .byte)] [(y, .inr (1, [.ref b, .int (nI n), .int (nI p)])), (b, .inl (cB, M, .inl (fun j => sb_b (B j))))])) (va_Qv (fun _ : Unit => True) (fun _ => ow D [(cB, .byte)] (va_A [(y, .inr (1, [.ref b, .int (nI n), .int (nI p)])), (b, .inl (cB, M, .inl (fun j => sb_b (B j))))] sz) [(y, .inr (1, [.ref b, .int (nI (n + 1)), .int (nI p)])), (b, .inl (cB, M, .inl (fun j => sb_b ((va_up B n (x.toBitVec.toNat % 256)) j))))]) (va_A [(y, .inr (1, [.ref b, .int (nI n), .int (nI p)])), (b, .inl (cB, M, .inl (fun j => sb_b (B j))))] sz)) 0 0 (va_A [(y, .inr (1, [.ref b, .int (nI n), .int (nI p)])), (b, .inl (cB, M, .inl (fun j => sb_b (B j))))] sz) := by
  refine Met.ofW (cc := b_R_add) (maxL := 2) (ret := none) (by decide) rfl ?_
  intro p9 e9 s m args below meth c9 s₁ BL hml hv
  obtain ⟨rfl, hsz, hP, hK, hD0⟩ := hv
  have hx := BL.exec
  have hb := BL.bytes
  have hr := BL.returns
  have hts := atoms_spec (ws := w_R_add) BL.pre
  have hA : ∀ w ∈ wsA, w.before _ s = true := fun w h => hts w (List.mem_cons_of_mem _ h)
  have hown : s.vm.findClass R_R = some m.cls := findClass_of_methodNamed BL.named
  have hlocks := BL.notSynchronized
  subst hsz
  have hD := hD0.self (sz := s.heap.size)
  generalize hAe : va_A [(y, .inr (1, [.ref b, .int (nI n), .int (nI p)])), (b, .inl (cB, M, .inl (fun j => sb_b (B j))))] s.heap.size = A at hD ⊢
  have hAq : ∀ q : Nat, s.heap.size ≤ q → A q := fun q h => by rw [← hAe]; exact Or.inr h
  have hS : va_S A s.heap s.heap [] := va_S.rf
  have hP : va_P D vCl [(y, .inr (1, [.ref b, .int (nI n), .int (nI p)])), (b, .inl (cB, M, .inl (fun j => sb_b (B j))))] s.heap := hP
  have hl := lv_entry ([.ref y, .int x]) (n := 2) (Nat.le_of_ble_eq_true rfl)
  rw [lg_entry_eq]
  generalize (lg_sl ([.ref y, .int x]) ++ List.replicate (2 - (lg_sl ([.ref y, .int x])).length) Slot.unset).toArray = ls at hl ⊢
  have hl : lv_has ls 2 [(0, .ref y), (1, .int x)] := hl
  refine lv_aload_n hx hb d_R_add_0 rfl (lv_at hl 0 rfl) ?_
  refine va_get (D := D) (ci := 1) (v := .ref b) (C := R_R) (T := F_R) (N := 3) hx hb hA i_R hown hK hP 0 rfl rfl 0 (by decide) (hA _ k1_36) (fun _ h9 => h9) rfl d_R_add_1 ?_
  refine lv_aload_n hx hb d_R_add_4 rfl (lv_at hl 0 rfl) ?_
  refine va_get (D := D) (ci := 1) (v := .int (nI n)) (C := R_R) (T := F_R) (N := 3) hx hb hA i_R hown hK hP 0 rfl rfl 1 (by decide) (hA _ k1_39) (fun _ h9 => h9) rfl d_R_add_5 ?_
  refine lv_iload_n hx hb d_R_add_8 rfl (lv_at hl 1 rfl) ?_
  refine lv_i2b hx hb d_R_add_9 rfl ?_
  refine lv_topi (fun v9 ev9 => ?_)
  subst ev9
  refine va_bast hx hb hK hP hD hS 1 0 rfl rfl (vp_in_nI hn (by omega)) d_R_add_10 (fun H locs hP hD hS => ?_)
  have hP : va_P D vCl [(y, .inr (1, [.ref b, .int (nI n), .int (nI p)])), (b, .inl (cB, M, .inl (upd (fun j => sb_b (B j)) (nI n).toNatClampNeg (vp_nar .byte x.toInt8.toInt32))))] H := hP
  have hD : va_D A [(y, .inr (1, [.ref b, .int (nI n), .int (nI p)])), (b, .inl (cB, M, .inl (upd (fun j => sb_b (B j)) (nI n).toNatClampNeg (vp_nar .byte x.toInt8.toInt32))))] := hD
  rw [show upd (fun j => sb_b (B j)) (nI n).toNatClampNeg (vp_nar .byte x.toInt8.toInt32) = fun j => sb_b (va_up B n (x.toBitVec.toNat % 256) j) from by_up B (by omega) x] at hP hD
  refine lv_aload_n hx hb d_R_add_11 rfl (lv_at hl 0 rfl) ?_
  refine lv_dup hx hb d_R_add_12 rfl ?_
  refine va_get (D := D) (ci := 1) (v := .int (nI n)) (C := R_R) (T := F_R) (N := 3) hx hb hA i_R hown hK hP 0 rfl rfl 1 (by decide) (hA _ k1_39) (fun _ h9 => h9) rfl d_R_add_13 ?_
  refine lv_iconst (v := 1) hx hb d_R_add_16 (by decide) ?_
  refine lv_iadd hx hb d_R_add_17 ?_
  refine lv_topi (fun v17 ev17 => ?_)
  have ev17 : v17 = nI (n + 1) := by rw [ev17]; exact nI_1 n
  subst ev17
  refine va_put (D := D) (ci := 1) (v := .int (nI (n + 1))) (ty := .int) (C := R_R) (T := F_R) (N := 3) hx hb hA i_R t_R t_R_ok n_R hown hK hP hD hS 0 rfl rfl 1 (by decide) (hA _ k1_39) (fun _ h9 => h9) rfl (by decide +kernel) rfl rfl (Nat.le_of_ble_eq_true rfl) d_R_add_18 (fun H locs hP hD hS => ?_)
  have hP : va_P D vCl [(y, .inr (1, [.ref b, .int (nI (n + 1)), .int (nI p)])), (b, .inl (cB, M, .inl (fun j => sb_b (va_up B n (x.toBitVec.toNat % 256) j))))] H := hP
  have hD : va_D A [(y, .inr (1, [.ref b, .int (nI (n + 1)), .int (nI p)])), (b, .inl (cB, M, .inl (fun j => sb_b (va_up B n (x.toBitVec.toNat % 256) j))))] := hD
  exact W.vret hx hb hr (fun t ht hW => ⟨⟨(), rfl, trivial, by rw [ht]; exact hP, va_K.moved hW.alike hK, hD⟩, hS.F ht⟩) hS.2.2 d_R_add_21
end
section
/-! THE CLASS, LEAVES THAT ONLY COUNT -/
theorem li_0 : (0 : Int32).toInt = 0 := by decide
theorem li_1 : (1 : Int32).toInt = 1 := by decide
theorem li_2 : (2 : Int32).toInt = 2 := by decide
theorem li_3 : (3 : Int32).toInt = 3 := by decide
theorem li_4 : (4 : Int32).toInt = 4 := by decide
theorem li_8 : (8 : Int32).toInt = 8 := by decide
theorem li_10 : (10 : Int32).toInt = 10 := by decide
theorem li_16 : (16 : Int32).toInt = 16 := by decide
theorem li_63 : (63 : Int32).toInt = 63 := by decide
theorem li_127 : (127 : Int32).toInt = 127 := by decide
theorem li_128 : (128 : Int32).toInt = 128 := by decide
theorem li_191 : (191 : Int32).toInt = 191 := by decide
theorem li_192 : (192 : Int32).toInt = 192 := by decide
theorem li_194 : (194 : Int32).toInt = 194 := by decide
theorem li_224 : (224 : Int32).toInt = 224 := by decide
theorem li_240 : (240 : Int32).toInt = 240 := by decide
theorem li_244 : (244 : Int32).toInt = 244 := by decide
theorem li_255 : (255 : Int32).toInt = 255 := by decide
theorem li_2048 : (2048 : Int32).toInt = 2048 := by decide
theorem li_55296 : (55296 : Int32).toInt = 55296 := by decide
theorem li_57343 : (57343 : Int32).toInt = 57343 := by decide
theorem li_65536 : (65536 : Int32).toInt = 65536 := by decide
theorem li_1114111 : (1114111 : Int32).toInt = 1114111 := by decide
theorem li_m1 : ((-1) : Int32).toInt = -1 := by decide
theorem li_m2 : ((-2) : Int32).toInt = -2 := by decide
/-- how many sevens u has -/
def sw (u : Nat) : Nat := if u < 2 ^ 7 then 1 else if u < 2 ^ 14 then 2 else if u < 2 ^ 21 then 3 else if u < 2 ^ 28 then 4 else if u < 2 ^ 35 then 5 else if u < 2 ^ 42 then 6 else if u < 2 ^ 49 then 7 else if u < 2 ^ 56 then 8 else if u < 2 ^ 63 then 9 else 10
theorem sw_of {u w : Nat} (h1 : 1 ≤ w) (h2 : w ≤ 10) (h3 : w < 10 → u < 2 ^ (7 * w)) (h4 : ∀ i, 1 ≤ i → i < w → 2 ^ (7 * i) ≤ u) : w = sw u := by
  have a : ∀ i, 1 ≤ i → i < w → 2 ^ (7 * i) ≤ u := h4
  rcases (show w = 1 ∨ w = 2 ∨ w = 3 ∨ w = 4 ∨ w = 5 ∨ w = 6 ∨ w = 7 ∨ w = 8 ∨ w = 9 ∨ w = 10 by omega) with rfl | rfl | rfl | rfl | rfl | rfl | rfl | rfl | rfl | rfl
  all_goals
    unfold sw
    have b3 := h3
    have b1 := a 1 (by omega)
    have b2 := a 2 (by omega)
    have b4 := a 3 (by omega)
    have b5 := a 4 (by omega)
    have b6 := a 5 (by omega)
    have b7 := a 6 (by omega)
    have b8 := a 7 (by omega)
    have b9 := a 8 (by omega)
    have b0 := a 9 (by omega)
    simp only [Nat.reduceMul, Nat.reducePow, Nat.reduceLT, forall_const, false_imp_iff, true_imp_iff] at *
    repeat' split
    all_goals omega
theorem sw_in (u : Nat) : 1 ≤ sw u ∧ sw u ≤ 10 := by
  unfold sw
  repeat' split
  all_goals omega
theorem sw_7 (w : Nat) : (7 : Int32) * nI w = nI (7 * w) := pk_mul 7 w
theorem sw_8 (w : Nat) : (8 : Int32) * nI w = nI (8 * w) := pk_mul 8 w
theorem sw_6 (w : Nat) : (6 : Int32) * nI w = nI (6 * w) := pk_mul 6 w
theorem sw_z {u k : Nat} (hu : u < 2 ^ 64) : lg_cmp (lN (u / 2 ^ k)) 0 = 0 ↔ u < 2 ^ k := by
  rw [lg_cmp_eq]
  constructor
  · intro h
    have h1 := congrArg (fun z : Int64 => z.toBitVec.toNat) h
    rw [show (lN (u / 2 ^ k)).toBitVec.toNat = u / 2 ^ k from wb_tn (Nat.lt_of_le_of_lt (Nat.div_le_self _ _) hu)] at h1
    have h2 : u / 2 ^ k = 0 := h1
    exact (Nat.div_eq_zero_iff_lt (Nat.pow_pos (by decide))).mp h2
  · intro h
    rw [Nat.div_eq_of_lt h]
    rfl
theorem sw_up {u w : Nat} (h : ∀ i, 1 ≤ i → i < w → 2 ^ (7 * i) ≤ u) (h2 : ¬ u < 2 ^ (7 * w)) : ∀ i, 1 ≤ i → i < w + 1 → 2 ^ (7 * i) ≤ u := by
  intro i a b
  rcases Nat.lt_or_ge i w with q | q
  · exact h i a q
  · obtain rfl : i = w := by omega
    exact Nat.not_lt.mp h2
/-- how many bytes a letter has, 0: no letter -/
def lwI (z : Int) : Nat := if z < 0 ∨ 1114111 < z ∨ (55296 ≤ z ∧ z ≤ 57343) then 0 else if z < 128 then 1 else if z < 2048 then 2 else if z < 65536 then 3 else 4
def fmN (w : Nat) : Nat := if w = 2 then 192 else if w = 3 then 224 else if w = 4 then 240 else 0
def wfN (f : Nat) : Nat := if f < 128 then 1 else if f < 194 ∨ 244 < f then 0 else if f < 224 then 2 else if f < 240 then 3 else 4
set_option maxHeartbeats 4000000 in
set_option maxRecDepth 100000 in
/-- sevensWidth -/
theorem c_D_sevensWidth (l : Launch) (u : Nat) (hu : u < 2 ^ 64) : Met l y_D_sevensWidth w_D_sevensWidth ({ frames := 0, cells := 0, slots := 0, locals := 0 }) (va_Pc [.long (lN u)] (fun _ => True)) (vp_Si (fun r => r = nI (sw u))) 0 0 (fun _ => False) := by
  refine Met.ofW (cc := b_D_sevensWidth) (maxL := 3) (ret := (some .int)) (by decide) rfl ?_
  intro p9 e9 s m args below meth c9 s₁ BL hml hv
  obtain ⟨rfl, -⟩ := hv
  have hx := BL.exec
  have hb := BL.bytes
  have hr := BL.returns
  have hts := atoms_spec (ws := w_D_sevensWidth) BL.pre
  have hA : ∀ w ∈ wsA, w.before _ s = true := fun w h => hts w (List.mem_cons_of_mem _ h)
  have hown : s.vm.findClass R_D = some m.cls := findClass_of_methodNamed BL.named
  have hlocks := BL.notSynchronized
  have hl := lv_entry ([.long (lN u)]) (n := 3) (Nat.le_of_ble_eq_true rfl)
  rw [lg_entry_eq]
  generalize (lg_sl ([.long (lN u)]) ++ List.replicate (3 - (lg_sl ([.long (lN u)])).length) Slot.unset).toArray = ls at hl ⊢
  have hl : lv_has ls 3 [(0, .long (lN u))] := hl
  refine lv_iconst (v := 1) hx hb d_D_sevensWidth_0 (by decide) ?_
  refine lv_istore_n (lv' := [(2, .int 1), (0, .long (lN u))]) hx hb d_D_sevensWidth_1 rfl hl (by decide) rfl (fun ls hl => ?_)
  have loop : ∀ (k w : Nat), w + k = 11 → 1 ≤ w → w ≤ 10 → (∀ i, 1 ≤ i → i < w → 2 ^ (7 * i) ≤ u) → ∀ (ls : Array Slot), lv_has ls 3 [(2, .int (nI w)), (0, .long (lN u))] → W p9 l e9 (headSpec w_D_sevensWidth ({ frames := 0, cells := 0, slots := 0, locals := 0 })).room s m [.long (lN u)].toArray below meth c9 s.heap [] 0 0 (MQ below (vp_Si (fun r => r = nI (sw u))) [.long (lN u)].toArray s 0 0 (fun _ => False)) (F0 m 2 ls []) := by
    intro k
    induction k with
    | zero =>
      intro w hk h1 h2 hw ls hl
      exact absurd hk (by omega)
    | succ k ih_loop =>
      intro w hk h1 h2 hw ls hl
      refine lv_iload_n hx hb d_D_sevensWidth_2 rfl (lv_at hl 0 rfl) ?_
      refine lv_bipush (v := 10) hx hb d_D_sevensWidth_3 (by decide) ?_
      refine lv_icmp_ge (tgt := 27) hx hb d_D_sevensWidth_5 (by decide) (fun c5 => ?_) (fun c5 => ?_)
      · have hw10 := (nI_leI (a := 10) (b := w) (by omega) (by omega)).mp c5
        obtain rfl : w = 10 := by omega
        refine lv_bipush (v := 10) hx hb d_D_sevensWidth_27 (by decide) ?_
        exact W.iret (v := 10) hx hb hr (fun t ht hW => ⟨_, rfl, (by rw [← sw_of h1 h2 (fun q => absurd q (by omega)) hw]; rfl), ht⟩) (fun q h => by cases h) d_D_sevensWidth_29
      · have hw10 : w < 10 := by have := mt (nI_leI (a := 10) (b := w) (by omega) (by omega)).mpr c5; omega
        refine lv_lload_n hx hb d_D_sevensWidth_8 rfl (lv_at hl 1 rfl) ?_
        refine lv_bipush (v := 7) hx hb d_D_sevensWidth_9 (by decide) ?_
        refine lv_iload_n hx hb d_D_sevensWidth_11 rfl (lv_at hl 0 rfl) ?_
        refine lv_imul hx hb d_D_sevensWidth_12 ?_
        refine lv_topi (fun v12 ev12 => ?_)
        refine lv_lushr hx hb d_D_sevensWidth_13 rfl ?_
        refine lv_topl (fun v13 ev13 => ?_)
        have ev13 : v13 = lN (u / 2 ^ (7 * w)) := by rw [ev13, ev12, sw_7]; exact wb_shr hu (by omega)
        subst ev13
        refine lv_lconst (v := 0) hx hb d_D_sevensWidth_14 (by decide) ?_
        refine W.lcmp hx hb d_D_sevensWidth_15 ?_
        refine lv_topi (fun v15 ev15 => ?_)
        refine lv_if_ne (tgt := 21) hx hb d_D_sevensWidth_16 (by decide) (fun c16 => ?_) (fun c16 => ?_)
        · obtain ⟨v21, ev21⟩ : ∃ y : Int32, y = nI w + 1 := ⟨_, rfl⟩
          refine lv_iinc (v := v21) (lv' := [(2, .int v21), (0, .long (lN u))]) hx hb d_D_sevensWidth_21 hl (k := 0) rfl (by rw [ev21]; rfl) (by decide) rfl (fun ls hl => ?_)
          have ev21 : v21 = nI (w + 1) := by rw [ev21]; exact nI_1 w
          subst ev21
          refine lv_goto (tgt := 2) hx hb d_D_sevensWidth_24 (by decide) ?_
          exact ih_loop (w + 1) (by omega) (by omega) (by have := mt (nI_leI (a := 10) (b := w) (by omega) (by omega)).mpr c5; omega) (sw_up hw (fun z => c16 (by rw [ev15]; exact (sw_z hu).mpr z))) ls (lv_sub hl [0, 1] rfl)
        · refine lv_iload_n hx hb d_D_sevensWidth_19 rfl (lv_at hl 0 rfl) ?_
          exact W.iret (v := nI w) hx hb hr (fun t ht hW => ⟨_, rfl, (by rw [← sw_of h1 h2 (fun _ => (sw_z hu).mp (by rw [← ev15]; exact c16)) hw]), ht⟩) (fun q h => by cases h) d_D_sevensWidth_20
  exact loop 10 1 rfl (Nat.le_refl 1) (by omega) (fun i a b => absurd b (by omega)) ls (lv_sub hl [0, 1] rfl)
set_option maxHeartbeats 4000000 in
set_option maxRecDepth 100000 in
/-- letterWidth -/
theorem c_D_letterWidth (l : Launch) (x : Int32) : Met l y_D_letterWidth w_D_letterWidth ({ frames := 0, cells := 0, slots := 0, locals := 0 }) (va_Pc [.int x] (fun _ => True)) (vp_Si (fun r => r = nI (lwI x.toInt))) 0 0 (fun _ => False) := by
  refine Met.ofW (cc := b_D_letterWidth) (maxL := 1) (ret := (some .int)) (by decide) rfl ?_
  intro p9 e9 s m args below meth c9 s₁ BL hml hv
  obtain ⟨rfl, -⟩ := hv
  have hx := BL.exec
  have hb := BL.bytes
  have hr := BL.returns
  have hts := atoms_spec (ws := w_D_letterWidth) BL.pre
  have hA : ∀ w ∈ wsA, w.before _ s = true := fun w h => hts w (List.mem_cons_of_mem _ h)
  have hown : s.vm.findClass R_D = some m.cls := findClass_of_methodNamed BL.named
  have hlocks := BL.notSynchronized
  have hl := lv_entry ([.int x]) (n := 1) (Nat.le_of_ble_eq_true rfl)
  rw [lg_entry_eq]
  generalize (lg_sl ([.int x]) ++ List.replicate (1 - (lg_sl ([.int x])).length) Slot.unset).toArray = ls at hl ⊢
  have hl : lv_has ls 1 [(0, .int x)] := hl
  refine lv_iload_n hx hb d_D_letterWidth_0 rfl (lv_at hl 0 rfl) ?_
  refine lv_if_lt (tgt := 22) hx hb d_D_letterWidth_1 (by decide) (fun c1 => ?_) (fun c1 => ?_)
  · refine lv_iconst (v := 0) hx hb d_D_letterWidth_22 (by decide) ?_
    simp only [Int32.lt_iff_toInt_lt, Int32.le_iff_toInt_le, li_0, li_1, li_2, li_3, li_4, li_8, li_10, li_16, li_63, li_127, li_128, li_191, li_192, li_194, li_224, li_240, li_244, li_255, li_2048, li_55296, li_57343, li_65536, li_1114111, li_m1, li_m2] at *
    have hz : lwI x.toInt = 0 := by unfold lwI; (repeat' split) <;> omega
    exact W.iret (v := 0) hx hb hr (fun t ht hW => ⟨_, rfl, by rw [hz]; rfl, ht⟩) (fun q h => by cases h) d_D_letterWidth_23
  · refine lv_iload_n hx hb d_D_letterWidth_4 rfl (lv_at hl 0 rfl) ?_
    refine lv_ldc (v := 1114111) hx hb hown (hA _ k1_217) d_D_letterWidth_5 ?_
    refine lv_icmp_gt (tgt := 22) hx hb d_D_letterWidth_7 (by decide) (fun c7 => ?_) (fun c7 => ?_)
    · refine lv_iconst (v := 0) hx hb d_D_letterWidth_22 (by decide) ?_
      simp only [Int32.lt_iff_toInt_lt, Int32.le_iff_toInt_le, li_0, li_1, li_2, li_3, li_4, li_8, li_10, li_16, li_63, li_127, li_128, li_191, li_192, li_194, li_224, li_240, li_244, li_255, li_2048, li_55296, li_57343, li_65536, li_1114111, li_m1, li_m2] at *
      have hz : lwI x.toInt = 0 := by unfold lwI; (repeat' split) <;> omega
      exact W.iret (v := 0) hx hb hr (fun t ht hW => ⟨_, rfl, by rw [hz]; rfl, ht⟩) (fun q h => by cases h) d_D_letterWidth_23
    · refine lv_iload_n hx hb d_D_letterWidth_10 rfl (lv_at hl 0 rfl) ?_
      refine lv_ldc (v := 55296) hx hb hown (hA _ k1_218) d_D_letterWidth_11 ?_
      refine lv_icmp_lt (tgt := 24) hx hb d_D_letterWidth_13 (by decide) (fun c13 => ?_) (fun c13 => ?_)
      · refine lv_iload_n hx hb d_D_letterWidth_24 rfl (lv_at hl 0 rfl) ?_
        refine lv_sipush (v := 128) hx hb d_D_letterWidth_25 (by decide) ?_
        refine lv_icmp_ge (tgt := 33) hx hb d_D_letterWidth_28 (by decide) (fun c28 => ?_) (fun c28 => ?_)
        · refine lv_iload_n hx hb d_D_letterWidth_33 rfl (lv_at hl 0 rfl) ?_
          refine lv_sipush (v := 2048) hx hb d_D_letterWidth_34 (by decide) ?_
          refine lv_icmp_ge (tgt := 42) hx hb d_D_letterWidth_37 (by decide) (fun c37 => ?_) (fun c37 => ?_)
          · refine lv_iload_n hx hb d_D_letterWidth_42 rfl (lv_at hl 0 rfl) ?_
            refine lv_ldc (v := 65536) hx hb hown (hA _ k1_22) d_D_letterWidth_43 ?_
            refine lv_icmp_ge (tgt := 52) hx hb d_D_letterWidth_45 (by decide) (fun c45 => ?_) (fun c45 => ?_)
            · refine lv_iconst (v := 4) hx hb d_D_letterWidth_52 (by decide) ?_
              simp only [Int32.lt_iff_toInt_lt, Int32.le_iff_toInt_le, li_0, li_1, li_2, li_3, li_4, li_8, li_10, li_16, li_63, li_127, li_128, li_191, li_192, li_194, li_224, li_240, li_244, li_255, li_2048, li_55296, li_57343, li_65536, li_1114111, li_m1, li_m2] at *
              have hz : lwI x.toInt = 4 := by unfold lwI; (repeat' split) <;> omega
              exact W.iret (v := 4) hx hb hr (fun t ht hW => ⟨_, rfl, by rw [hz]; rfl, ht⟩) (fun q h => by cases h) d_D_letterWidth_53
            · refine lv_iconst (v := 3) hx hb d_D_letterWidth_48 (by decide) ?_
              refine lv_goto (tgt := 53) hx hb d_D_letterWidth_49 (by decide) ?_
              simp only [Int32.lt_iff_toInt_lt, Int32.le_iff_toInt_le, li_0, li_1, li_2, li_3, li_4, li_8, li_10, li_16, li_63, li_127, li_128, li_191, li_192, li_194, li_224, li_240, li_244, li_255, li_2048, li_55296, li_57343, li_65536, li_1114111, li_m1, li_m2] at *
              have hz : lwI x.toInt = 3 := by unfold lwI; (repeat' split) <;> omega
              exact W.iret (v := 3) hx hb hr (fun t ht hW => ⟨_, rfl, by rw [hz]; rfl, ht⟩) (fun q h => by cases h) d_D_letterWidth_53
          · refine lv_iconst (v := 2) hx hb d_D_letterWidth_40 (by decide) ?_
            simp only [Int32.lt_iff_toInt_lt, Int32.le_iff_toInt_le, li_0, li_1, li_2, li_3, li_4, li_8, li_10, li_16, li_63, li_127, li_128, li_191, li_192, li_194, li_224, li_240, li_244, li_255, li_2048, li_55296, li_57343, li_65536, li_1114111, li_m1, li_m2] at *
            have hz : lwI x.toInt = 2 := by unfold lwI; (repeat' split) <;> omega
            exact W.iret (v := 2) hx hb hr (fun t ht hW => ⟨_, rfl, by rw [hz]; rfl, ht⟩) (fun q h => by cases h) d_D_letterWidth_41
        · refine lv_iconst (v := 1) hx hb d_D_letterWidth_31 (by decide) ?_
          simp only [Int32.lt_iff_toInt_lt, Int32.le_iff_toInt_le, li_0, li_1, li_2, li_3, li_4, li_8, li_10, li_16, li_63, li_127, li_128, li_191, li_192, li_194, li_224, li_240, li_244, li_255, li_2048, li_55296, li_57343, li_65536, li_1114111, li_m1, li_m2] at *
          have hz : lwI x.toInt = 1 := by unfold lwI; (repeat' split) <;> omega
          exact W.iret (v := 1) hx hb hr (fun t ht hW => ⟨_, rfl, by rw [hz]; rfl, ht⟩) (fun q h => by cases h) d_D_letterWidth_32
      · refine lv_iload_n hx hb d_D_letterWidth_16 rfl (lv_at hl 0 rfl) ?_
        refine lv_ldc (v := 57343) hx hb hown (hA _ k1_219) d_D_letterWidth_17 ?_
        refine lv_icmp_gt (tgt := 24) hx hb d_D_letterWidth_19 (by decide) (fun c19 => ?_) (fun c19 => ?_)
        · refine lv_iload_n hx hb d_D_letterWidth_24 rfl (lv_at hl 0 rfl) ?_
          refine lv_sipush (v := 128) hx hb d_D_letterWidth_25 (by decide) ?_
          refine lv_icmp_ge (tgt := 33) hx hb d_D_letterWidth_28 (by decide) (fun c28 => ?_) (fun c28 => ?_)
          · refine lv_iload_n hx hb d_D_letterWidth_33 rfl (lv_at hl 0 rfl) ?_
            refine lv_sipush (v := 2048) hx hb d_D_letterWidth_34 (by decide) ?_
            refine lv_icmp_ge (tgt := 42) hx hb d_D_letterWidth_37 (by decide) (fun c37 => ?_) (fun c37 => ?_)
            · refine lv_iload_n hx hb d_D_letterWidth_42 rfl (lv_at hl 0 rfl) ?_
              refine lv_ldc (v := 65536) hx hb hown (hA _ k1_22) d_D_letterWidth_43 ?_
              refine lv_icmp_ge (tgt := 52) hx hb d_D_letterWidth_45 (by decide) (fun c45 => ?_) (fun c45 => ?_)
              · refine lv_iconst (v := 4) hx hb d_D_letterWidth_52 (by decide) ?_
                simp only [Int32.lt_iff_toInt_lt, Int32.le_iff_toInt_le, li_0, li_1, li_2, li_3, li_4, li_8, li_10, li_16, li_63, li_127, li_128, li_191, li_192, li_194, li_224, li_240, li_244, li_255, li_2048, li_55296, li_57343, li_65536, li_1114111, li_m1, li_m2] at *
                have hz : lwI x.toInt = 4 := by unfold lwI; (repeat' split) <;> omega
                exact W.iret (v := 4) hx hb hr (fun t ht hW => ⟨_, rfl, by rw [hz]; rfl, ht⟩) (fun q h => by cases h) d_D_letterWidth_53
              · refine lv_iconst (v := 3) hx hb d_D_letterWidth_48 (by decide) ?_
                refine lv_goto (tgt := 53) hx hb d_D_letterWidth_49 (by decide) ?_
                simp only [Int32.lt_iff_toInt_lt, Int32.le_iff_toInt_le, li_0, li_1, li_2, li_3, li_4, li_8, li_10, li_16, li_63, li_127, li_128, li_191, li_192, li_194, li_224, li_240, li_244, li_255, li_2048, li_55296, li_57343, li_65536, li_1114111, li_m1, li_m2] at *
                have hz : lwI x.toInt = 3 := by unfold lwI; (repeat' split) <;> omega
                exact W.iret (v := 3) hx hb hr (fun t ht hW => ⟨_, rfl, by rw [hz]; rfl, ht⟩) (fun q h => by cases h) d_D_letterWidth_53
            · refine lv_iconst (v := 2) hx hb d_D_letterWidth_40 (by decide) ?_
              simp only [Int32.lt_iff_toInt_lt, Int32.le_iff_toInt_le, li_0, li_1, li_2, li_3, li_4, li_8, li_10, li_16, li_63, li_127, li_128, li_191, li_192, li_194, li_224, li_240, li_244, li_255, li_2048, li_55296, li_57343, li_65536, li_1114111, li_m1, li_m2] at *
              have hz : lwI x.toInt = 2 := by unfold lwI; (repeat' split) <;> omega
              exact W.iret (v := 2) hx hb hr (fun t ht hW => ⟨_, rfl, by rw [hz]; rfl, ht⟩) (fun q h => by cases h) d_D_letterWidth_41
          · refine lv_iconst (v := 1) hx hb d_D_letterWidth_31 (by decide) ?_
            simp only [Int32.lt_iff_toInt_lt, Int32.le_iff_toInt_le, li_0, li_1, li_2, li_3, li_4, li_8, li_10, li_16, li_63, li_127, li_128, li_191, li_192, li_194, li_224, li_240, li_244, li_255, li_2048, li_55296, li_57343, li_65536, li_1114111, li_m1, li_m2] at *
            have hz : lwI x.toInt = 1 := by unfold lwI; (repeat' split) <;> omega
            exact W.iret (v := 1) hx hb hr (fun t ht hW => ⟨_, rfl, by rw [hz]; rfl, ht⟩) (fun q h => by cases h) d_D_letterWidth_32
        · refine lv_iconst (v := 0) hx hb d_D_letterWidth_22 (by decide) ?_
          simp only [Int32.lt_iff_toInt_lt, Int32.le_iff_toInt_le, li_0, li_1, li_2, li_3, li_4, li_8, li_10, li_16, li_63, li_127, li_128, li_191, li_192, li_194, li_224, li_240, li_244, li_255, li_2048, li_55296, li_57343, li_65536, li_1114111, li_m1, li_m2] at *
          have hz : lwI x.toInt = 0 := by unfold lwI; (repeat' split) <;> omega
          exact W.iret (v := 0) hx hb hr (fun t ht hW => ⟨_, rfl, by rw [hz]; rfl, ht⟩) (fun q h => by cases h) d_D_letterWidth_23
set_option maxHeartbeats 4000000 in
set_option maxRecDepth 100000 in
/-- widthByFirst -/
theorem c_D_widthByFirst (l : Launch) (f : Nat) (hf : f < 256) : Met l y_D_widthByFirst w_D_widthByFirst ({ frames := 0, cells := 0, slots := 0, locals := 0 }) (va_Pc [.int (nI f)] (fun _ => True)) (vp_Si (fun r => r = nI (wfN f))) 0 0 (fun _ => False) := by
  refine Met.ofW (cc := b_D_widthByFirst) (maxL := 1) (ret := (some .int)) (by decide) rfl ?_
  intro p9 e9 s m args below meth c9 s₁ BL hml hv
  obtain ⟨rfl, -⟩ := hv
  have hx := BL.exec
  have hb := BL.bytes
  have hr := BL.returns
  have hts := atoms_spec (ws := w_D_widthByFirst) BL.pre
  have hA : ∀ w ∈ wsA, w.before _ s = true := fun w h => hts w (List.mem_cons_of_mem _ h)
  have hown : s.vm.findClass R_D = some m.cls := findClass_of_methodNamed BL.named
  have hlocks := BL.notSynchronized
  have hl := lv_entry ([.int (nI f)]) (n := 1) (Nat.le_of_ble_eq_true rfl)
  rw [lg_entry_eq]
  generalize (lg_sl ([.int (nI f)]) ++ List.replicate (1 - (lg_sl ([.int (nI f)])).length) Slot.unset).toArray = ls at hl ⊢
  have hl : lv_has ls 1 [(0, .int (nI f))] := hl
  refine lv_iload_n hx hb d_D_widthByFirst_0 rfl (lv_at hl 0 rfl) ?_
  refine lv_sipush (v := 128) hx hb d_D_widthByFirst_1 (by decide) ?_
  refine lv_icmp_ge (tgt := 9) hx hb d_D_widthByFirst_4 (by decide) (fun c4 => ?_) (fun c4 => ?_)
  · refine lv_iload_n hx hb d_D_widthByFirst_9 rfl (lv_at hl 0 rfl) ?_
    refine lv_sipush (v := 194) hx hb d_D_widthByFirst_10 (by decide) ?_
    refine lv_icmp_lt (tgt := 23) hx hb d_D_widthByFirst_13 (by decide) (fun c13 => ?_) (fun c13 => ?_)
    · refine lv_iconst (v := 0) hx hb d_D_widthByFirst_23 (by decide) ?_
      have hfi : (nI f).toInt = (f : Int) := nI_toInt (by omega)
      simp only [Int32.lt_iff_toInt_lt, Int32.le_iff_toInt_le, li_0, li_1, li_2, li_3, li_4, li_8, li_10, li_16, li_63, li_127, li_128, li_191, li_192, li_194, li_224, li_240, li_244, li_255, li_2048, li_55296, li_57343, li_65536, li_1114111, li_m1, li_m2] at *
      have hz : wfN f = 0 := by unfold wfN; (repeat' split) <;> omega
      exact W.iret (v := 0) hx hb hr (fun t ht hW => ⟨_, rfl, by rw [hz]; rfl, ht⟩) (fun q h => by cases h) d_D_widthByFirst_24
    · refine lv_iload_n hx hb d_D_widthByFirst_16 rfl (lv_at hl 0 rfl) ?_
      refine lv_sipush (v := 244) hx hb d_D_widthByFirst_17 (by decide) ?_
      refine lv_icmp_le (tgt := 25) hx hb d_D_widthByFirst_20 (by decide) (fun c20 => ?_) (fun c20 => ?_)
      · refine lv_iload_n hx hb d_D_widthByFirst_25 rfl (lv_at hl 0 rfl) ?_
        refine lv_sipush (v := 224) hx hb d_D_widthByFirst_26 (by decide) ?_
        refine lv_icmp_ge (tgt := 34) hx hb d_D_widthByFirst_29 (by decide) (fun c29 => ?_) (fun c29 => ?_)
        · refine lv_iload_n hx hb d_D_widthByFirst_34 rfl (lv_at hl 0 rfl) ?_
          refine lv_sipush (v := 240) hx hb d_D_widthByFirst_35 (by decide) ?_
          refine lv_icmp_ge (tgt := 45) hx hb d_D_widthByFirst_38 (by decide) (fun c38 => ?_) (fun c38 => ?_)
          · refine lv_iconst (v := 4) hx hb d_D_widthByFirst_45 (by decide) ?_
            have hfi : (nI f).toInt = (f : Int) := nI_toInt (by omega)
            simp only [Int32.lt_iff_toInt_lt, Int32.le_iff_toInt_le, li_0, li_1, li_2, li_3, li_4, li_8, li_10, li_16, li_63, li_127, li_128, li_191, li_192, li_194, li_224, li_240, li_244, li_255, li_2048, li_55296, li_57343, li_65536, li_1114111, li_m1, li_m2] at *
            have hz : wfN f = 4 := by unfold wfN; (repeat' split) <;> omega
            exact W.iret (v := 4) hx hb hr (fun t ht hW => ⟨_, rfl, by rw [hz]; rfl, ht⟩) (fun q h => by cases h) d_D_widthByFirst_46
          · refine lv_iconst (v := 3) hx hb d_D_widthByFirst_41 (by decide) ?_
            refine lv_goto (tgt := 46) hx hb d_D_widthByFirst_42 (by decide) ?_
            have hfi : (nI f).toInt = (f : Int) := nI_toInt (by omega)
            simp only [Int32.lt_iff_toInt_lt, Int32.le_iff_toInt_le, li_0, li_1, li_2, li_3, li_4, li_8, li_10, li_16, li_63, li_127, li_128, li_191, li_192, li_194, li_224, li_240, li_244, li_255, li_2048, li_55296, li_57343, li_65536, li_1114111, li_m1, li_m2] at *
            have hz : wfN f = 3 := by unfold wfN; (repeat' split) <;> omega
            exact W.iret (v := 3) hx hb hr (fun t ht hW => ⟨_, rfl, by rw [hz]; rfl, ht⟩) (fun q h => by cases h) d_D_widthByFirst_46
        · refine lv_iconst (v := 2) hx hb d_D_widthByFirst_32 (by decide) ?_
          have hfi : (nI f).toInt = (f : Int) := nI_toInt (by omega)
          simp only [Int32.lt_iff_toInt_lt, Int32.le_iff_toInt_le, li_0, li_1, li_2, li_3, li_4, li_8, li_10, li_16, li_63, li_127, li_128, li_191, li_192, li_194, li_224, li_240, li_244, li_255, li_2048, li_55296, li_57343, li_65536, li_1114111, li_m1, li_m2] at *
          have hz : wfN f = 2 := by unfold wfN; (repeat' split) <;> omega
          exact W.iret (v := 2) hx hb hr (fun t ht hW => ⟨_, rfl, by rw [hz]; rfl, ht⟩) (fun q h => by cases h) d_D_widthByFirst_33
      · refine lv_iconst (v := 0) hx hb d_D_widthByFirst_23 (by decide) ?_
        have hfi : (nI f).toInt = (f : Int) := nI_toInt (by omega)
        simp only [Int32.lt_iff_toInt_lt, Int32.le_iff_toInt_le, li_0, li_1, li_2, li_3, li_4, li_8, li_10, li_16, li_63, li_127, li_128, li_191, li_192, li_194, li_224, li_240, li_244, li_255, li_2048, li_55296, li_57343, li_65536, li_1114111, li_m1, li_m2] at *
        have hz : wfN f = 0 := by unfold wfN; (repeat' split) <;> omega
        exact W.iret (v := 0) hx hb hr (fun t ht hW => ⟨_, rfl, by rw [hz]; rfl, ht⟩) (fun q h => by cases h) d_D_widthByFirst_24
  · refine lv_iconst (v := 1) hx hb d_D_widthByFirst_7 (by decide) ?_
    have hfi : (nI f).toInt = (f : Int) := nI_toInt (by omega)
    simp only [Int32.lt_iff_toInt_lt, Int32.le_iff_toInt_le, li_0, li_1, li_2, li_3, li_4, li_8, li_10, li_16, li_63, li_127, li_128, li_191, li_192, li_194, li_224, li_240, li_244, li_255, li_2048, li_55296, li_57343, li_65536, li_1114111, li_m1, li_m2] at *
    have hz : wfN f = 1 := by unfold wfN; (repeat' split) <;> omega
    exact W.iret (v := 1) hx hb hr (fun t ht hW => ⟨_, rfl, by rw [hz]; rfl, ht⟩) (fun q h => by cases h) d_D_widthByFirst_8
set_option maxHeartbeats 4000000 in
set_option maxRecDepth 100000 in
/-- firstMark -/
theorem c_D_firstMark (l : Launch) (w : Nat) (hw : w ≤ 4) : Met l y_D_firstMark w_D_firstMark ({ frames := 0, cells := 0, slots := 0, locals := 0 }) (va_Pc [.int (nI w)] (fun _ => True)) (vp_Si (fun r => r = nI (fmN w))) 0 0 (fun _ => False) := by
  refine Met.ofW (cc := b_D_firstMark) (maxL := 1) (ret := (some .int)) (by decide) rfl ?_
  intro p9 e9 s m args below meth c9 s₁ BL hml hv
  obtain ⟨rfl, -⟩ := hv
  have hx := BL.exec
  have hb := BL.bytes
  have hr := BL.returns
  have hts := atoms_spec (ws := w_D_firstMark) BL.pre
  have hA : ∀ w ∈ wsA, w.before _ s = true := fun w h => hts w (List.mem_cons_of_mem _ h)
  have hown : s.vm.findClass R_D = some m.cls := findClass_of_methodNamed BL.named
  have hlocks := BL.notSynchronized
  have hl := lv_entry ([.int (nI w)]) (n := 1) (Nat.le_of_ble_eq_true rfl)
  rw [lg_entry_eq]
  generalize (lg_sl ([.int (nI w)]) ++ List.replicate (1 - (lg_sl ([.int (nI w)])).length) Slot.unset).toArray = ls at hl ⊢
  have hl : lv_has ls 1 [(0, .int (nI w))] := hl
  refine lv_iload_n hx hb d_D_firstMark_0 rfl (lv_at hl 0 rfl) ?_
  rcases (show w = 0 ∨ w = 1 ∨ w = 2 ∨ w = 3 ∨ w = 4 by omega) with rfl | rfl | rfl | rfl | rfl
  · refine lv_tableOut (tgt := 40) hx hb d_D_firstMark_1 (by decide) (by decide) ?_
    refine lv_iconst (v := 0) hx hb d_D_firstMark_40 (by decide) ?_
    exact W.iret (v := 0) hx hb hr (fun t ht hW => ⟨_, rfl, (rfl), ht⟩) (fun q h => by cases h) d_D_firstMark_41
  · refine lv_tableOut (tgt := 40) hx hb d_D_firstMark_1 (by decide) (by decide) ?_
    refine lv_iconst (v := 0) hx hb d_D_firstMark_40 (by decide) ?_
    exact W.iret (v := 0) hx hb hr (fun t ht hW => ⟨_, rfl, (rfl), ht⟩) (fun q h => by cases h) d_D_firstMark_41
  · refine lv_tableIn (tgt := 28) hx hb d_D_firstMark_1 (by decide) (by decide) rfl (by decide) ?_
    refine lv_sipush (v := 192) hx hb d_D_firstMark_28 (by decide) ?_
    exact W.iret (v := 192) hx hb hr (fun t ht hW => ⟨_, rfl, (rfl), ht⟩) (fun q h => by cases h) d_D_firstMark_31
  · refine lv_tableIn (tgt := 32) hx hb d_D_firstMark_1 (by decide) (by decide) rfl (by decide) ?_
    refine lv_sipush (v := 224) hx hb d_D_firstMark_32 (by decide) ?_
    exact W.iret (v := 224) hx hb hr (fun t ht hW => ⟨_, rfl, (rfl), ht⟩) (fun q h => by cases h) d_D_firstMark_35
  · refine lv_tableIn (tgt := 36) hx hb d_D_firstMark_1 (by decide) (by decide) rfl (by decide) ?_
    refine lv_sipush (v := 240) hx hb d_D_firstMark_36 (by decide) ?_
    exact W.iret (v := 240) hx hb hr (fun t ht hW => ⟨_, rfl, (rfl), ht⟩) (fun q h => by cases h) d_D_firstMark_39
end
section
/-! THE CLASS, LEAVES THAT MAY THROW -/
set_option maxHeartbeats 600000 in
set_option maxRecDepth 100000 in
/-- rowOf -/
theorem c_D_rowOf (l : Launch) (hL0 : l.stackTraces = false) (D : va_G) (cR : ClassId) (h ra : Nat) (g : Nat → Option Nat) (y : Nat → Nat) (hg : ∀ i, i < 4 → g i = some (y i)) (x : Int32) : tx_Met l y_D_rowOf w_D_rowOf ({ frames := 6, cells := 1, slots := 6, locals := 90 }) (va_Pc [.ref h, .int x] (oxg D [(cR, .object "PacketDesk$Row")] [(h, .inr (0, [.ref ra])), (ra, .inl (cR, 4, .inr (.inr (.inr (.inr g)))))])) (tx_Q (fun E => E = X_IOOBE ∧ ¬ (0 ≤ x.toInt ∧ x.toInt < 4)) (va_Sr (fun k => k < 4 ∧ x = nI k) (fun k => .ref (y k)))) 0 0 (fun _ => False) := by
  refine tx_ofW (cc := b_D_rowOf) (maxL := 2) (ret := (some (.object "PacketDesk$Row"))) (by decide) rfl ?_
  intro p9 e9 s m args below meth c9 s₁ BL hml hce hadm hv
  obtain ⟨rfl, hP, hK, hG⟩ := hv
  have hx := BL.exec
  have hb := BL.bytes
  have hr := BL.returns
  have hts := atoms_spec (ws := w_D_rowOf) BL.pre
  have hA : ∀ w ∈ wsA, w.before _ s = true := fun w h => hts w (List.mem_cons_of_mem _ h)
  have hown : s.vm.findClass R_D = some m.cls := findClass_of_methodNamed BL.named
  have hlocks := BL.notSynchronized
  have htr : e9.platform.stackTraces = false := by rw [hadm.platform]; exact hL0
  have hP : va_P D vCl [(h, .inr (0, [.ref ra])), (ra, .inl (cR, 4, .inr (.inr (.inr (.inr g)))))] s.heap := hP
  have hl := lv_entry ([.ref h, .int x]) (n := 2) (Nat.le_of_ble_eq_true rfl)
  rw [lg_entry_eq]
  generalize (lg_sl ([.ref h, .int x]) ++ List.replicate (2 - (lg_sl ([.ref h, .int x])).length) Slot.unset).toArray = ls at hl ⊢
  have hl : lv_has ls 2 [(0, .ref h), (1, .int x)] := hl
  refine lv_iload_n hx hb d_D_rowOf_0 rfl (lv_at hl 1 rfl) ?_
  refine lv_if_lt (tgt := 9) hx hb d_D_rowOf_1 (by decide) (fun c1 => ?_) (fun c1 => ?_)
  · exact th_IOOBE hx hb hml hlocks hce htr hown hA hG hl.1 (Nat.le_of_ble_eq_true rfl) (tx := "no such row") (by decide) d_D_rowOf_9 d_D_rowOf_12 d_D_rowOf_13 d_D_rowOf_15 d_D_rowOf_18 (Nat.le_of_ble_eq_true rfl) (Nat.le_of_ble_eq_true rfl) (Nat.le_of_ble_eq_true rfl) (Nat.le_of_ble_eq_true rfl) (by exact ⟨rfl, by simp only [Int32.lt_iff_toInt_lt, Int32.le_iff_toInt_le, li_0, li_1, li_2, li_3, li_4, li_8, li_10, li_16, li_63, li_127, li_128, li_191, li_192, li_194, li_224, li_240, li_244, li_255, li_2048, li_55296, li_57343, li_65536, li_1114111, li_m1, li_m2] at *; omega⟩)
  · refine lv_iload_n hx hb d_D_rowOf_4 rfl (lv_at hl 1 rfl) ?_
    refine lv_iconst (v := 4) hx hb d_D_rowOf_5 (by decide) ?_
    refine lv_icmp_lt (tgt := 19) hx hb d_D_rowOf_6 (by decide) (fun c6 => ?_) (fun c6 => ?_)
    · obtain ⟨j, hj2, rfl⟩ := nI_of c1
      have hj : j < 4 := (nI_ltI (b := 4) hj2 (by omega)).mp c6
      refine lv_aload_n hx hb d_D_rowOf_19 rfl (lv_at hl 0 rfl) ?_
      refine va_get (D := D) (ci := 0) (v := .ref ra) (C := R_D) (T := F_D) (N := 1) hx hb hA i_D hown hK hP 0 rfl rfl 0 (by decide) (hA _ k1_49) (fun _ h9 => h9) rfl d_D_rowOf_20 ?_
      refine lv_iload_n hx hb d_D_rowOf_23 rfl (lv_at hl 1 rfl) ?_
      refine va_aldq hx hb hK hP 1 0 rfl rfl (vp_in_nI hj (by omega)) d_D_rowOf_24 ?_
      rw [show va_rf (g (nI j).toNatClampNeg) = .ref (y j) from by rw [nI_clamp (by omega), hg j hj]; rfl]
      exact tx_ret (W.aret (v := .ref (y j)) hx hb hr (Or.inl ⟨_, rfl⟩) (Or.inr ⟨_, rfl⟩) (fun t ht hW => Or.inl ⟨_, rfl, j, rfl, ⟨hj, rfl⟩, ht⟩) (fun q h => by cases h) d_D_rowOf_25)
    · exact th_IOOBE hx hb hml hlocks hce htr hown hA hG hl.1 (Nat.le_of_ble_eq_true rfl) (tx := "no such row") (by decide) d_D_rowOf_9 d_D_rowOf_12 d_D_rowOf_13 d_D_rowOf_15 d_D_rowOf_18 (Nat.le_of_ble_eq_true rfl) (Nat.le_of_ble_eq_true rfl) (Nat.le_of_ble_eq_true rfl) (Nat.le_of_ble_eq_true rfl) (by exact ⟨rfl, by simp only [Int32.lt_iff_toInt_lt, Int32.le_iff_toInt_le, li_0, li_1, li_2, li_3, li_4, li_8, li_10, li_16, li_63, li_127, li_128, li_191, li_192, li_194, li_224, li_240, li_244, li_255, li_2048, li_55296, li_57343, li_65536, li_1114111, li_m1, li_m2] at *; omega⟩)
set_option maxHeartbeats 600000 in
set_option maxRecDepth 100000 in
/-- needFixedWidth -/
theorem c_D_needFixedWidth (l : Launch) (hL0 : l.stackTraces = false) (x : Int32) : tx_Met l y_D_needFixedWidth w_D_needFixedWidth ({ frames := 6, cells := 1, slots := 6, locals := 90 }) (va_Pc [.int x] tx_G) (tx_Q (fun E => E = X_IAE ∧ ¬ (1 ≤ x.toInt ∧ x.toInt ≤ 8)) (va_Sv (fun _ => 1 ≤ x.toInt ∧ x.toInt ≤ 8))) 0 0 (fun _ => False) := by
  refine tx_ofW (cc := b_D_needFixedWidth) (maxL := 1) (ret := none) (by decide) rfl ?_
  intro p9 e9 s m args below meth c9 s₁ BL hml hce hadm hv
  obtain ⟨rfl, hG⟩ := hv
  have hx := BL.exec
  have hb := BL.bytes
  have hr := BL.returns
  have hts := atoms_spec (ws := w_D_needFixedWidth) BL.pre
  have hA : ∀ w ∈ wsA, w.before _ s = true := fun w h => hts w (List.mem_cons_of_mem _ h)
  have hown : s.vm.findClass R_D = some m.cls := findClass_of_methodNamed BL.named
  have hlocks := BL.notSynchronized
  have htr : e9.platform.stackTraces = false := by rw [hadm.platform]; exact hL0
  have hl := lv_entry ([.int x]) (n := 1) (Nat.le_of_ble_eq_true rfl)
  rw [lg_entry_eq]
  generalize (lg_sl ([.int x]) ++ List.replicate (1 - (lg_sl ([.int x])).length) Slot.unset).toArray = ls at hl ⊢
  have hl : lv_has ls 1 [(0, .int x)] := hl
  refine lv_iload_n hx hb d_D_needFixedWidth_0 rfl (lv_at hl 0 rfl) ?_
  refine lv_iconst (v := 1) hx hb d_D_needFixedWidth_1 (by decide) ?_
  refine lv_icmp_lt (tgt := 11) hx hb d_D_needFixedWidth_2 (by decide) (fun c2 => ?_) (fun c2 => ?_)
  · exact th_IAE hx hb hml hlocks hce htr hown hA hG hl.1 (Nat.le_of_ble_eq_true rfl) (tx := "a number has 1 to 8 bytes") (by decide) d_D_needFixedWidth_11 d_D_needFixedWidth_14 d_D_needFixedWidth_15 d_D_needFixedWidth_17 d_D_needFixedWidth_20 (Nat.le_of_ble_eq_true rfl) (Nat.le_of_ble_eq_true rfl) (Nat.le_of_ble_eq_true rfl) (Nat.le_of_ble_eq_true rfl) (by exact ⟨rfl, by simp only [Int32.lt_iff_toInt_lt, Int32.le_iff_toInt_le, li_0, li_1, li_2, li_3, li_4, li_8, li_10, li_16, li_63, li_127, li_128, li_191, li_192, li_194, li_224, li_240, li_244, li_255, li_2048, li_55296, li_57343, li_65536, li_1114111, li_m1, li_m2] at *; omega⟩)
  · refine lv_iload_n hx hb d_D_needFixedWidth_5 rfl (lv_at hl 0 rfl) ?_
    refine lv_bipush (v := 8) hx hb d_D_needFixedWidth_6 (by decide) ?_
    refine lv_icmp_le (tgt := 21) hx hb d_D_needFixedWidth_8 (by decide) (fun c8 => ?_) (fun c8 => ?_)
    · exact tx_ret (W.vret hx hb hr (fun t ht hW => Or.inl ⟨_, rfl, ⟨rfl, (by simp only [Int32.lt_iff_toInt_lt, Int32.le_iff_toInt_le, li_0, li_1, li_2, li_3, li_4, li_8, li_10, li_16, li_63, li_127, li_128, li_191, li_192, li_194, li_224, li_240, li_244, li_255, li_2048, li_55296, li_57343, li_65536, li_1114111, li_m1, li_m2] at *; omega), ht⟩⟩) (fun q h => by cases h) d_D_needFixedWidth_21)
    · exact th_IAE hx hb hml hlocks hce htr hown hA hG hl.1 (Nat.le_of_ble_eq_true rfl) (tx := "a number has 1 to 8 bytes") (by decide) d_D_needFixedWidth_11 d_D_needFixedWidth_14 d_D_needFixedWidth_15 d_D_needFixedWidth_17 d_D_needFixedWidth_20 (Nat.le_of_ble_eq_true rfl) (Nat.le_of_ble_eq_true rfl) (Nat.le_of_ble_eq_true rfl) (Nat.le_of_ble_eq_true rfl) (by exact ⟨rfl, by simp only [Int32.lt_iff_toInt_lt, Int32.le_iff_toInt_le, li_0, li_1, li_2, li_3, li_4, li_8, li_10, li_16, li_63, li_127, li_128, li_191, li_192, li_194, li_224, li_240, li_244, li_255, li_2048, li_55296, li_57343, li_65536, li_1114111, li_m1, li_m2] at *; omega⟩)
set_option maxHeartbeats 600000 in
set_option maxRecDepth 100000 in
/-- needTwoRows -/
theorem c_D_needTwoRows (l : Launch) (hL0 : l.stackTraces = false) (x z : Int32) : tx_Met l y_D_needTwoRows w_D_needTwoRows ({ frames := 6, cells := 1, slots := 6, locals := 90 }) (va_Pc [.int x, .int z] tx_G) (tx_Q (fun E => E = X_IAE ∧ x = z) (va_Sv (fun _ => ¬ x = z))) 0 0 (fun _ => False) := by
  refine tx_ofW (cc := b_D_needTwoRows) (maxL := 2) (ret := none) (by decide) rfl ?_
  intro p9 e9 s m args below meth c9 s₁ BL hml hce hadm hv
  obtain ⟨rfl, hG⟩ := hv
  have hx := BL.exec
  have hb := BL.bytes
  have hr := BL.returns
  have hts := atoms_spec (ws := w_D_needTwoRows) BL.pre
  have hA : ∀ w ∈ wsA, w.before _ s = true := fun w h => hts w (List.mem_cons_of_mem _ h)
  have hown : s.vm.findClass R_D = some m.cls := findClass_of_methodNamed BL.named
  have hlocks := BL.notSynchronized
  have htr : e9.platform.stackTraces = false := by rw [hadm.platform]; exact hL0
  have hl := lv_entry ([.int x, .int z]) (n := 2) (Nat.le_of_ble_eq_true rfl)
  rw [lg_entry_eq]
  generalize (lg_sl ([.int x, .int z]) ++ List.replicate (2 - (lg_sl ([.int x, .int z])).length) Slot.unset).toArray = ls at hl ⊢
  have hl : lv_has ls 2 [(0, .int x), (1, .int z)] := hl
  refine lv_iload_n hx hb d_D_needTwoRows_0 rfl (lv_at hl 0 rfl) ?_
  refine lv_iload_n hx hb d_D_needTwoRows_1 rfl (lv_at hl 1 rfl) ?_
  refine lv_icmp_ne (tgt := 15) hx hb d_D_needTwoRows_2 (by decide) (fun c2 => ?_) (fun c2 => ?_)
  · exact tx_ret (W.vret hx hb hr (fun t ht hW => Or.inl ⟨_, rfl, ⟨rfl, (c2), ht⟩⟩) (fun q h => by cases h) d_D_needTwoRows_15)
  · exact th_IAE hx hb hml hlocks hce htr hown hA hG hl.1 (Nat.le_of_ble_eq_true rfl) (tx := "a row is not read into itself") (by decide) d_D_needTwoRows_5 d_D_needTwoRows_8 d_D_needTwoRows_9 d_D_needTwoRows_11 d_D_needTwoRows_14 (Nat.le_of_ble_eq_true rfl) (Nat.le_of_ble_eq_true rfl) (Nat.le_of_ble_eq_true rfl) (Nat.le_of_ble_eq_true rfl) (by exact ⟨rfl, c2⟩)
set_option maxHeartbeats 600000 in
set_option maxRecDepth 100000 in
/-- needRange -/
theorem c_D_needRange (l : Launch) (hL0 : l.stackTraces = false) (D : va_G) (cB : ClassId) (y b M : Nat) (B : Nat → Nat) (n p : Nat) (hn : n ≤ M) (hM : M ≤ 65536) (a k : Int32) : tx_Met l y_D_needRange w_D_needRange ({ frames := 6, cells := 1, slots := 6, locals := 90 }) (va_Pc [.ref y, .int a, .int k] (oxg D [(cB, .byte)] [(y, .inr (1, [.ref b, .int (nI n), .int (nI p)])), (b, .inl (cB, M, .inl (fun j => sb_b (B j))))])) (tx_Q (fun E => E = X_IAE ∧ ¬ (0 ≤ a.toInt ∧ 0 ≤ k.toInt ∧ a.toInt + k.toInt ≤ (n : Int))) (va_Sv (fun _ => 0 ≤ a.toInt ∧ 0 ≤ k.toInt ∧ a.toInt + k.toInt ≤ (n : Int)))) 0 0 (fun _ => False) := by
  refine tx_ofW (cc := b_D_needRange) (maxL := 3) (ret := none) (by decide) rfl ?_
  intro p9 e9 s m args below meth c9 s₁ BL hml hce hadm hv
  obtain ⟨rfl, hP, hK, hG⟩ := hv
  have hx := BL.exec
  have hb := BL.bytes
  have hr := BL.returns
  have hts := atoms_spec (ws := w_D_needRange) BL.pre
  have hA : ∀ w ∈ wsA, w.before _ s = true := fun w h => hts w (List.mem_cons_of_mem _ h)
  have hown : s.vm.findClass R_D = some m.cls := findClass_of_methodNamed BL.named
  have hlocks := BL.notSynchronized
  have htr : e9.platform.stackTraces = false := by rw [hadm.platform]; exact hL0
  have hP : va_P D vCl [(y, .inr (1, [.ref b, .int (nI n), .int (nI p)])), (b, .inl (cB, M, .inl (fun j => sb_b (B j))))] s.heap := hP
  have hl := lv_entry ([.ref y, .int a, .int k]) (n := 3) (Nat.le_of_ble_eq_true rfl)
  rw [lg_entry_eq]
  generalize (lg_sl ([.ref y, .int a, .int k]) ++ List.replicate (3 - (lg_sl ([.ref y, .int a, .int k])).length) Slot.unset).toArray = ls at hl ⊢
  have hl : lv_has ls 3 [(0, .ref y), (1, .int a), (2, .int k)] := hl
  have hni : (nI n).toInt = (n : Int) := nI_toInt (by omega)
  refine lv_iload_n hx hb d_D_needRange_0 rfl (lv_at hl 1 rfl) ?_
  refine lv_if_lt (tgt := 26) hx hb d_D_needRange_1 (by decide) (fun c1 => ?_) (fun c1 => ?_)
  · exact th_IAE hx hb hml hlocks hce htr hown hA hG hl.1 (Nat.le_of_ble_eq_true rfl) (tx := "the row has not so many bytes") (by decide) d_D_needRange_26 d_D_needRange_29 d_D_needRange_30 d_D_needRange_32 d_D_needRange_35 (Nat.le_of_ble_eq_true rfl) (Nat.le_of_ble_eq_true rfl) (Nat.le_of_ble_eq_true rfl) (Nat.le_of_ble_eq_true rfl) (by exact ⟨rfl, by simp only [Int32.lt_iff_toInt_lt, Int32.le_iff_toInt_le, li_0, li_1, li_2, li_3, li_4, li_8, li_10, li_16, li_63, li_127, li_128, li_191, li_192, li_194, li_224, li_240, li_244, li_255, li_2048, li_55296, li_57343, li_65536, li_1114111, li_m1, li_m2] at *; omega⟩)
  · refine lv_iload_n hx hb d_D_needRange_4 rfl (lv_at hl 2 rfl) ?_
    refine lv_if_lt (tgt := 26) hx hb d_D_needRange_5 (by decide) (fun c5 => ?_) (fun c5 => ?_)
    · exact th_IAE hx hb hml hlocks hce htr hown hA hG hl.1 (Nat.le_of_ble_eq_true rfl) (tx := "the row has not so many bytes") (by decide) d_D_needRange_26 d_D_needRange_29 d_D_needRange_30 d_D_needRange_32 d_D_needRange_35 (Nat.le_of_ble_eq_true rfl) (Nat.le_of_ble_eq_true rfl) (Nat.le_of_ble_eq_true rfl) (Nat.le_of_ble_eq_true rfl) (by exact ⟨rfl, by simp only [Int32.lt_iff_toInt_lt, Int32.le_iff_toInt_le, li_0, li_1, li_2, li_3, li_4, li_8, li_10, li_16, li_63, li_127, li_128, li_191, li_192, li_194, li_224, li_240, li_244, li_255, li_2048, li_55296, li_57343, li_65536, li_1114111, li_m1, li_m2] at *; omega⟩)
    · refine lv_iload_n hx hb d_D_needRange_8 rfl (lv_at hl 1 rfl) ?_
      refine lv_aload_n hx hb d_D_needRange_9 rfl (lv_at hl 0 rfl) ?_
      refine va_get (D := D) (ci := 1) (v := .int (nI n)) (C := R_R) (T := F_R) (N := 3) hx hb hA i_R hown hK hP 0 rfl rfl 1 (by decide) (hA _ k1_38) (fun _ h9 => h9) rfl d_D_needRange_10 ?_
      refine lv_icmp_gt (tgt := 26) hx hb d_D_needRange_13 (by decide) (fun c13 => ?_) (fun c13 => ?_)
      · exact th_IAE hx hb hml hlocks hce htr hown hA hG hl.1 (Nat.le_of_ble_eq_true rfl) (tx := "the row has not so many bytes") (by decide) d_D_needRange_26 d_D_needRange_29 d_D_needRange_30 d_D_needRange_32 d_D_needRange_35 (Nat.le_of_ble_eq_true rfl) (Nat.le_of_ble_eq_true rfl) (Nat.le_of_ble_eq_true rfl) (Nat.le_of_ble_eq_true rfl) (by exact ⟨rfl, by simp only [Int32.lt_iff_toInt_lt, Int32.le_iff_toInt_le, li_0, li_1, li_2, li_3, li_4, li_8, li_10, li_16, li_63, li_127, li_128, li_191, li_192, li_194, li_224, li_240, li_244, li_255, li_2048, li_55296, li_57343, li_65536, li_1114111, li_m1, li_m2] at *; omega⟩)
      · obtain ⟨j, hj2, rfl⟩ := nI_of c1
        have hji : (nI j).toInt = (j : Int) := nI_toInt (by omega)
        have hjn : j ≤ n := by have := mt (nI_ltI (a := n) (b := j) (by omega) (by omega)).mpr c13; omega
        have hdi : (nI (n - j)).toInt = ((n - j : Nat) : Int) := nI_toInt (by omega)
        refine lv_iload_n hx hb d_D_needRange_16 rfl (lv_at hl 2 rfl) ?_
        refine lv_aload_n hx hb d_D_needRange_17 rfl (lv_at hl 0 rfl) ?_
        refine va_get (D := D) (ci := 1) (v := .int (nI n)) (C := R_R) (T := F_R) (N := 3) hx hb hA i_R hown hK hP 0 rfl rfl 1 (by decide) (hA _ k1_38) (fun _ h9 => h9) rfl d_D_needRange_18 ?_
        refine lv_iload_n hx hb d_D_needRange_21 rfl (lv_at hl 1 rfl) ?_
        refine lv_isub hx hb d_D_needRange_22 ?_
        refine lv_topi (fun v22 ev22 => ?_)
        have ev22 : v22 = nI (n - j) := by rw [ev22]; exact pk_sub hjn
        subst ev22
        refine lv_icmp_le (tgt := 36) hx hb d_D_needRange_23 (by decide) (fun c23 => ?_) (fun c23 => ?_)
        · exact tx_ret (W.vret hx hb hr (fun t ht hW => Or.inl ⟨_, rfl, ⟨rfl, (by simp only [Int32.lt_iff_toInt_lt, Int32.le_iff_toInt_le, li_0, li_1, li_2, li_3, li_4, li_8, li_10, li_16, li_63, li_127, li_128, li_191, li_192, li_194, li_224, li_240, li_244, li_255, li_2048, li_55296, li_57343, li_65536, li_1114111, li_m1, li_m2] at *; omega), ht⟩⟩) (fun q h => by cases h) d_D_needRange_36)
        · exact th_IAE hx hb hml hlocks hce htr hown hA hG hl.1 (Nat.le_of_ble_eq_true rfl) (tx := "the row has not so many bytes") (by decide) d_D_needRange_26 d_D_needRange_29 d_D_needRange_30 d_D_needRange_32 d_D_needRange_35 (Nat.le_of_ble_eq_true rfl) (Nat.le_of_ble_eq_true rfl) (Nat.le_of_ble_eq_true rfl) (Nat.le_of_ble_eq_true rfl) (by exact ⟨rfl, by simp only [Int32.lt_iff_toInt_lt, Int32.le_iff_toInt_le, li_0, li_1, li_2, li_3, li_4, li_8, li_10, li_16, li_63, li_127, li_128, li_191, li_192, li_194, li_224, li_240, li_244, li_255, li_2048, li_55296, li_57343, li_65536, li_1114111, li_m1, li_m2] at *; omega⟩)
set_option maxHeartbeats 600000 in
set_option maxRecDepth 100000 in
/-- needRoom -/
theorem c_D_needRoom (l : Launch) (hL0 : l.stackTraces = false) (D : va_G) (cB : ClassId) (y b M : Nat) (B : Nat → Nat) (n p : Nat) (hn : n ≤ M) (hM : M ≤ 65536) (k : Nat) (hk : k ≤ 1000000) : tx_Met l y_D_needRoom w_D_needRoom ({ frames := 6, cells := 1, slots := 6, locals := 90 }) (va_Pc [.ref y, .int (nI k)] (oxg D [(cB, .byte)] [(y, .inr (1, [.ref b, .int (nI n), .int (nI p)])), (b, .inl (cB, M, .inl (fun j => sb_b (B j))))])) (tx_Q (fun E => E = X_ISE ∧ M < n + k) (va_Sv (fun _ => n + k ≤ M))) 0 0 (fun _ => False) := by
  refine tx_ofW (cc := b_D_needRoom) (maxL := 2) (ret := none) (by decide) rfl ?_
  intro p9 e9 s m args below meth c9 s₁ BL hml hce hadm hv
  obtain ⟨rfl, hP, hK, hG⟩ := hv
  have hx := BL.exec
  have hb := BL.bytes
  have hr := BL.returns
  have hts := atoms_spec (ws := w_D_needRoom) BL.pre
  have hA : ∀ w ∈ wsA, w.before _ s = true := fun w h => hts w (List.mem_cons_of_mem _ h)
  have hown : s.vm.findClass R_D = some m.cls := findClass_of_methodNamed BL.named
  have hlocks := BL.notSynchronized
  have htr : e9.platform.stackTraces = false := by rw [hadm.platform]; exact hL0
  have hP : va_P D vCl [(y, .inr (1, [.ref b, .int (nI n), .int (nI p)])), (b, .inl (cB, M, .inl (fun j => sb_b (B j))))] s.heap := hP
  have hl := lv_entry ([.ref y, .int (nI k)]) (n := 2) (Nat.le_of_ble_eq_true rfl)
  rw [lg_entry_eq]
  generalize (lg_sl ([.ref y, .int (nI k)]) ++ List.replicate (2 - (lg_sl ([.ref y, .int (nI k)])).length) Slot.unset).toArray = ls at hl ⊢
  have hl : lv_has ls 2 [(0, .ref y), (1, .int (nI k))] := hl
  refine lv_iload_n hx hb d_D_needRoom_0 rfl (lv_at hl 1 rfl) ?_
  refine lv_aload_n hx hb d_D_needRoom_1 rfl (lv_at hl 0 rfl) ?_
  refine va_get (D := D) (ci := 1) (v := .ref b) (C := R_R) (T := F_R) (N := 3) hx hb hA i_R hown hK hP 0 rfl rfl 0 (by decide) (hA _ k1_37) (fun _ h9 => h9) rfl d_D_needRoom_2 ?_
  refine va_alen (v := nI M) hx hb hK hP 1 0 rfl rfl (rfl) d_D_needRoom_5 ?_
  refine lv_aload_n hx hb d_D_needRoom_6 rfl (lv_at hl 0 rfl) ?_
  refine va_get (D := D) (ci := 1) (v := .int (nI n)) (C := R_R) (T := F_R) (N := 3) hx hb hA i_R hown hK hP 0 rfl rfl 1 (by decide) (hA _ k1_38) (fun _ h9 => h9) rfl d_D_needRoom_7 ?_
  refine lv_isub hx hb d_D_needRoom_10 ?_
  refine lv_topi (fun v10 ev10 => ?_)
  have ev10 : v10 = nI (M - n) := by rw [ev10]; exact pk_sub hn
  subst ev10
  refine lv_icmp_le (tgt := 24) hx hb d_D_needRoom_11 (by decide) (fun c11 => ?_) (fun c11 => ?_)
  · have hle := (nI_leI (a := k) (b := M - n) (by omega) (by omega)).mp c11
    exact tx_ret (W.vret hx hb hr (fun t ht hW => Or.inl ⟨_, rfl, ⟨rfl, (by omega), ht⟩⟩) (fun q h => by cases h) d_D_needRoom_24)
  · have hle := mt (nI_leI (a := k) (b := M - n) (by omega) (by omega)).mpr c11
    exact th_ISE hx hb hml hlocks hce htr hown hA hG hl.1 (Nat.le_of_ble_eq_true rfl) (tx := "the row would be too long") (by decide) d_D_needRoom_14 d_D_needRoom_17 d_D_needRoom_18 d_D_needRoom_20 d_D_needRoom_23 (Nat.le_of_ble_eq_true rfl) (Nat.le_of_ble_eq_true rfl) (Nat.le_of_ble_eq_true rfl) (Nat.le_of_ble_eq_true rfl) (by exact ⟨rfl, by omega⟩)
set_option maxHeartbeats 600000 in
set_option maxRecDepth 100000 in
/-- needLeft -/
theorem c_D_needLeft (l : Launch) (hL0 : l.stackTraces = false) (D : va_G) (cB : ClassId) (y b M : Nat) (B : Nat → Nat) (n p : Nat) (hn : n ≤ M) (hM : M ≤ 65536) (hp : p ≤ n) (k : Nat) (hk : k ≤ 1000000) : tx_Met l y_D_needLeft w_D_needLeft ({ frames := 6, cells := 1, slots := 6, locals := 90 }) (va_Pc [.ref y, .int (nI k)] (oxg D [(cB, .byte)] [(y, .inr (1, [.ref b, .int (nI n), .int (nI p)])), (b, .inl (cB, M, .inl (fun j => sb_b (B j))))])) (tx_Q (fun E => E = X_NSEE ∧ n < p + k) (va_Sv (fun _ => p + k ≤ n))) 0 0 (fun _ => False) := by
  refine tx_ofW (cc := b_D_needLeft) (maxL := 2) (ret := none) (by decide) rfl ?_
  intro p9 e9 s m args below meth c9 s₁ BL hml hce hadm hv
  obtain ⟨rfl, hP, hK, hG⟩ := hv
  have hx := BL.exec
  have hb := BL.bytes
  have hr := BL.returns
  have hts := atoms_spec (ws := w_D_needLeft) BL.pre
  have hA : ∀ w ∈ wsA, w.before _ s = true := fun w h => hts w (List.mem_cons_of_mem _ h)
  have hown : s.vm.findClass R_D = some m.cls := findClass_of_methodNamed BL.named
  have hlocks := BL.notSynchronized
  have htr : e9.platform.stackTraces = false := by rw [hadm.platform]; exact hL0
  have hP : va_P D vCl [(y, .inr (1, [.ref b, .int (nI n), .int (nI p)])), (b, .inl (cB, M, .inl (fun j => sb_b (B j))))] s.heap := hP
  have hl := lv_entry ([.ref y, .int (nI k)]) (n := 2) (Nat.le_of_ble_eq_true rfl)
  rw [lg_entry_eq]
  generalize (lg_sl ([.ref y, .int (nI k)]) ++ List.replicate (2 - (lg_sl ([.ref y, .int (nI k)])).length) Slot.unset).toArray = ls at hl ⊢
  have hl : lv_has ls 2 [(0, .ref y), (1, .int (nI k))] := hl
  refine lv_iload_n hx hb d_D_needLeft_0 rfl (lv_at hl 1 rfl) ?_
  refine lv_aload_n hx hb d_D_needLeft_1 rfl (lv_at hl 0 rfl) ?_
  refine va_get (D := D) (ci := 1) (v := .int (nI n)) (C := R_R) (T := F_R) (N := 3) hx hb hA i_R hown hK hP 0 rfl rfl 1 (by decide) (hA _ k1_38) (fun _ h9 => h9) rfl d_D_needLeft_2 ?_
  refine lv_aload_n hx hb d_D_needLeft_5 rfl (lv_at hl 0 rfl) ?_
  refine va_get (D := D) (ci := 1) (v := .int (nI p)) (C := R_R) (T := F_R) (N := 3) hx hb hA i_R hown hK hP 0 rfl rfl 2 (by decide) (hA _ k1_40) (fun _ h9 => h9) rfl d_D_needLeft_6 ?_
  refine lv_isub hx hb d_D_needLeft_9 ?_
  refine lv_topi (fun v9 ev9 => ?_)
  have ev9 : v9 = nI (n - p) := by rw [ev9]; exact pk_sub hp
  subst ev9
  refine lv_icmp_le (tgt := 23) hx hb d_D_needLeft_10 (by decide) (fun c10 => ?_) (fun c10 => ?_)
  · have hle := (nI_leI (a := k) (b := n - p) (by omega) (by omega)).mp c10
    exact tx_ret (W.vret hx hb hr (fun t ht hW => Or.inl ⟨_, rfl, ⟨rfl, (by omega), ht⟩⟩) (fun q h => by cases h) d_D_needLeft_23)
  · have hle := mt (nI_leI (a := k) (b := n - p) (by omega) (by omega)).mpr c10
    exact th_NSEE hx hb hml hlocks hce htr hown hA hG hl.1 (Nat.le_of_ble_eq_true rfl) (tx := "the row ends before it is whole") (by decide) d_D_needLeft_13 d_D_needLeft_16 d_D_needLeft_17 d_D_needLeft_19 d_D_needLeft_22 (Nat.le_of_ble_eq_true rfl) (Nat.le_of_ble_eq_true rfl) (Nat.le_of_ble_eq_true rfl) (Nat.le_of_ble_eq_true rfl) (by exact ⟨rfl, by omega⟩)
set_option maxHeartbeats 600000 in
set_option maxRecDepth 100000 in
/-- needRightLast -/
theorem c_D_needRightLast (l : Launch) (hL0 : l.stackTraces = false) (f w : Nat) (hf : f < 256) (hw : w ≤ 10) : tx_Met l y_D_needRightLast w_D_needRightLast ({ frames := 6, cells := 1, slots := 6, locals := 90 }) (va_Pc [.int (nI f), .int (nI w)] tx_G) (tx_Q (fun E => E = X_IAE ∧ ((1 < w ∧ f = 0) ∨ (w = 10 ∧ 1 < f))) (va_Sv (fun _ => ¬ (1 < w ∧ f = 0) ∧ ¬ (w = 10 ∧ 1 < f)))) 0 0 (fun _ => False) := by
  refine tx_ofW (cc := b_D_needRightLast) (maxL := 2) (ret := none) (by decide) rfl ?_
  intro p9 e9 s m args below meth c9 s₁ BL hml hce hadm hv
  obtain ⟨rfl, hG⟩ := hv
  have hx := BL.exec
  have hb := BL.bytes
  have hr := BL.returns
  have hts := atoms_spec (ws := w_D_needRightLast) BL.pre
  have hA : ∀ w ∈ wsA, w.before _ s = true := fun w h => hts w (List.mem_cons_of_mem _ h)
  have hown : s.vm.findClass R_D = some m.cls := findClass_of_methodNamed BL.named
  have hlocks := BL.notSynchronized
  have htr : e9.platform.stackTraces = false := by rw [hadm.platform]; exact hL0
  have hl := lv_entry ([.int (nI f), .int (nI w)]) (n := 2) (Nat.le_of_ble_eq_true rfl)
  rw [lg_entry_eq]
  generalize (lg_sl ([.int (nI f), .int (nI w)]) ++ List.replicate (2 - (lg_sl ([.int (nI f), .int (nI w)])).length) Slot.unset).toArray = ls at hl ⊢
  have hl : lv_has ls 2 [(0, .int (nI f)), (1, .int (nI w))] := hl
  have hfi : (nI f).toInt = (f : Int) := nI_toInt (by omega)
  have hwi : (nI w).toInt = (w : Int) := nI_toInt (by omega)
  have z0 : nI f = 0 ↔ f = 0 := nI_eq (b := 0) (by omega) (by omega)
  have z1 : nI w = 10 ↔ w = 10 := nI_eq (b := 10) (by omega) (by omega)
  refine lv_iload_n hx hb d_D_needRightLast_0 rfl (lv_at hl 1 rfl) ?_
  refine lv_iconst (v := 1) hx hb d_D_needRightLast_1 (by decide) ?_
  refine lv_icmp_le (tgt := 19) hx hb d_D_needRightLast_2 (by decide) (fun c2 => ?_) (fun c2 => ?_)
  · refine lv_iload_n hx hb d_D_needRightLast_19 rfl (lv_at hl 1 rfl) ?_
    refine lv_bipush (v := 10) hx hb d_D_needRightLast_20 (by decide) ?_
    refine lv_icmp_ne (tgt := 40) hx hb d_D_needRightLast_22 (by decide) (fun c22 => ?_) (fun c22 => ?_)
    · simp only [Int32.lt_iff_toInt_lt, Int32.le_iff_toInt_le, li_0, li_1, li_2, li_3, li_4, li_8, li_10, li_16, li_63, li_127, li_128, li_191, li_192, li_194, li_224, li_240, li_244, li_255, li_2048, li_55296, li_57343, li_65536, li_1114111, li_m1, li_m2] at *
      try rw [z0] at c6
      try rw [z1] at c22
      exact tx_ret (W.vret hx hb hr (fun t ht hW => Or.inl ⟨_, rfl, ⟨rfl, (by omega), ht⟩⟩) (fun q h => by cases h) d_D_needRightLast_40)
    · refine lv_iload_n hx hb d_D_needRightLast_25 rfl (lv_at hl 0 rfl) ?_
      refine lv_iconst (v := 1) hx hb d_D_needRightLast_26 (by decide) ?_
      refine lv_icmp_le (tgt := 40) hx hb d_D_needRightLast_27 (by decide) (fun c27 => ?_) (fun c27 => ?_)
      · simp only [Int32.lt_iff_toInt_lt, Int32.le_iff_toInt_le, li_0, li_1, li_2, li_3, li_4, li_8, li_10, li_16, li_63, li_127, li_128, li_191, li_192, li_194, li_224, li_240, li_244, li_255, li_2048, li_55296, li_57343, li_65536, li_1114111, li_m1, li_m2] at *
        try rw [z0] at c6
        try rw [z1] at c22
        exact tx_ret (W.vret hx hb hr (fun t ht hW => Or.inl ⟨_, rfl, ⟨rfl, (by omega), ht⟩⟩) (fun q h => by cases h) d_D_needRightLast_40)
      · simp only [Int32.lt_iff_toInt_lt, Int32.le_iff_toInt_le, li_0, li_1, li_2, li_3, li_4, li_8, li_10, li_16, li_63, li_127, li_128, li_191, li_192, li_194, li_224, li_240, li_244, li_255, li_2048, li_55296, li_57343, li_65536, li_1114111, li_m1, li_m2] at *
        rw [z1] at c22
        exact th_IAE hx hb hml hlocks hce htr hown hA hG hl.1 (Nat.le_of_ble_eq_true rfl) (tx := "sevens of more than 64 bits") (by decide) d_D_needRightLast_30 d_D_needRightLast_33 d_D_needRightLast_34 d_D_needRightLast_36 d_D_needRightLast_39 (Nat.le_of_ble_eq_true rfl) (Nat.le_of_ble_eq_true rfl) (Nat.le_of_ble_eq_true rfl) (Nat.le_of_ble_eq_true rfl) (by exact ⟨rfl, by omega⟩)
  · refine lv_iload_n hx hb d_D_needRightLast_5 rfl (lv_at hl 0 rfl) ?_
    refine lv_if_ne (tgt := 19) hx hb d_D_needRightLast_6 (by decide) (fun c6 => ?_) (fun c6 => ?_)
    · refine lv_iload_n hx hb d_D_needRightLast_19 rfl (lv_at hl 1 rfl) ?_
      refine lv_bipush (v := 10) hx hb d_D_needRightLast_20 (by decide) ?_
      refine lv_icmp_ne (tgt := 40) hx hb d_D_needRightLast_22 (by decide) (fun c22 => ?_) (fun c22 => ?_)
      · simp only [Int32.lt_iff_toInt_lt, Int32.le_iff_toInt_le, li_0, li_1, li_2, li_3, li_4, li_8, li_10, li_16, li_63, li_127, li_128, li_191, li_192, li_194, li_224, li_240, li_244, li_255, li_2048, li_55296, li_57343, li_65536, li_1114111, li_m1, li_m2] at *
        try rw [z0] at c6
        try rw [z1] at c22
        exact tx_ret (W.vret hx hb hr (fun t ht hW => Or.inl ⟨_, rfl, ⟨rfl, (by omega), ht⟩⟩) (fun q h => by cases h) d_D_needRightLast_40)
      · refine lv_iload_n hx hb d_D_needRightLast_25 rfl (lv_at hl 0 rfl) ?_
        refine lv_iconst (v := 1) hx hb d_D_needRightLast_26 (by decide) ?_
        refine lv_icmp_le (tgt := 40) hx hb d_D_needRightLast_27 (by decide) (fun c27 => ?_) (fun c27 => ?_)
        · simp only [Int32.lt_iff_toInt_lt, Int32.le_iff_toInt_le, li_0, li_1, li_2, li_3, li_4, li_8, li_10, li_16, li_63, li_127, li_128, li_191, li_192, li_194, li_224, li_240, li_244, li_255, li_2048, li_55296, li_57343, li_65536, li_1114111, li_m1, li_m2] at *
          try rw [z0] at c6
          try rw [z1] at c22
          exact tx_ret (W.vret hx hb hr (fun t ht hW => Or.inl ⟨_, rfl, ⟨rfl, (by omega), ht⟩⟩) (fun q h => by cases h) d_D_needRightLast_40)
        · simp only [Int32.lt_iff_toInt_lt, Int32.le_iff_toInt_le, li_0, li_1, li_2, li_3, li_4, li_8, li_10, li_16, li_63, li_127, li_128, li_191, li_192, li_194, li_224, li_240, li_244, li_255, li_2048, li_55296, li_57343, li_65536, li_1114111, li_m1, li_m2] at *
          rw [z1] at c22
          exact th_IAE hx hb hml hlocks hce htr hown hA hG hl.1 (Nat.le_of_ble_eq_true rfl) (tx := "sevens of more than 64 bits") (by decide) d_D_needRightLast_30 d_D_needRightLast_33 d_D_needRightLast_34 d_D_needRightLast_36 d_D_needRightLast_39 (Nat.le_of_ble_eq_true rfl) (Nat.le_of_ble_eq_true rfl) (Nat.le_of_ble_eq_true rfl) (Nat.le_of_ble_eq_true rfl) (by exact ⟨rfl, by omega⟩)
    · simp only [Int32.lt_iff_toInt_lt, Int32.le_iff_toInt_le, li_0, li_1, li_2, li_3, li_4, li_8, li_10, li_16, li_63, li_127, li_128, li_191, li_192, li_194, li_224, li_240, li_244, li_255, li_2048, li_55296, li_57343, li_65536, li_1114111, li_m1, li_m2] at *
      rw [z0] at c6
      exact th_IAE hx hb hml hlocks hce htr hown hA hG hl.1 (Nat.le_of_ble_eq_true rfl) (tx := "the last of several sevens is 0") (by decide) d_D_needRightLast_9 d_D_needRightLast_12 d_D_needRightLast_13 d_D_needRightLast_15 d_D_needRightLast_18 (Nat.le_of_ble_eq_true rfl) (Nat.le_of_ble_eq_true rfl) (Nat.le_of_ble_eq_true rfl) (Nat.le_of_ble_eq_true rfl) (by exact ⟨rfl, by omega⟩)
end
section
/-! THE CLASS: NUMBERS OF FIXED WIDTH -/
/-- k bytes f 0, f 1 .. from n on -/
def wr (B : Nat → Nat) (n k : Nat) (f : Nat → Nat) : Nat → Nat := fun j => if n ≤ j ∧ j < n + k then f (j - n) else B j
theorem wr_0 (B : Nat → Nat) (n : Nat) (f : Nat → Nat) : wr B n 0 f = B := by
  funext j
  unfold wr
  rw [if_neg (by omega)]
theorem wr_s (B : Nat → Nat) (n k : Nat) (f : Nat → Nat) : va_up (wr B n k f) (n + k) (f k) = wr B n (k + 1) f := by
  funext j
  unfold va_up wr
  by_cases h : j = n + k
  · rw [if_pos h, if_pos (by omega), h, Nat.add_sub_cancel_left]
  · rw [if_neg h]
    by_cases h2 : n ≤ j ∧ j < n + k
    · rw [if_pos h2, if_pos (by omega)]
    · rw [if_neg h2, if_neg (by omega)]
theorem wr_lt {B : Nat → Nat} (h : ∀ j, B j < 256) {n k : Nat} {f : Nat → Nat} (hf : ∀ i, i < k → f i < 256) : ∀ j, wr B n k f j < 256 := by
  intro j
  unfold wr
  split
  · exact hf _ (by omega)
  · exact h j
/-- a long's byte -/
def fb (u i : Nat) : Nat := u / 2 ^ (8 * i) % 256
theorem fb_lt (u i : Nat) : fb u i < 256 := Nat.mod_lt _ (by decide)
theorem tn_l2i {u : Nat} (hu : u < 2 ^ 64) : (lN u).toInt32.toBitVec.toNat = u % 2 ^ 32 := by
  rw [lN_i]
  show (BitVec.ofNat 32 u).toNat = _
  rw [BitVec.toNat_ofNat]
theorem fb_b {u i : Nat} (hu : u < 2 ^ 64) : (lN (u / 2 ^ (8 * i))).toInt32.toBitVec.toNat % 256 = fb u i := by
  rw [tn_l2i (Nat.lt_of_le_of_lt (Nat.div_le_self _ _) hu)]
  unfold fb
  omega
/-- the number of k bytes from a on -/
def fx (B : Nat → Nat) (a : Nat) : Nat → Nat
  | 0 => 0
  | k + 1 => fx B a k + B (a + k) * 2 ^ (8 * k)
theorem fx_lt {B : Nat → Nat} (h : ∀ j, B j < 256) (a k : Nat) : fx B a k < 2 ^ (8 * k) := by
  induction k with
  | zero => exact Nat.one_pos
  | succ k ih =>
    show fx B a k + B (a + k) * 2 ^ (8 * k) < 2 ^ (8 * (k + 1))
    rw [show 8 * (k + 1) = 8 * k + 8 by omega, Nat.pow_add]
    have h1 := h (a + k)
    have h2 : B (a + k) * 2 ^ (8 * k) ≤ 255 * 2 ^ (8 * k) := Nat.mul_le_mul_right _ (by omega)
    omega
set_option maxHeartbeats 600000 in
set_option maxRecDepth 100000 in
/-- addFixed -/
theorem c_D_addFixed (l : Launch) (D : va_G) (cB : ClassId) (y b M : Nat) (B : Nat → Nat) (n p sz u k : Nat) (hu : u < 2 ^ 64) (hk : k ≤ 8) (hn : n + k ≤ M) (hM : M ≤ 65536) : Met l y_D_addFixed w_D_addFixed ({ frames := 1, cells := 0, slots := 0, locals := 21 }) (va_Pc [.ref y, .long (lN u), .int (nI k)] (oxw sz D [(cB, .byte)] [(y, .inr (1, [.ref b, .int (nI n), .int (nI p)])), (b, .inl (cB, M, .inl (fun j => sb_b (B j))))])) (va_Qv (fun _ : Unit => True) (fun _ => ow D [(cB, .byte)] (va_A [(y, .inr (1, [.ref b, .int (nI n), .int (nI p)])), (b, .inl (cB, M, .inl (fun j => sb_b (B j))))] sz) [(y, .inr (1, [.ref b, .int (nI (n + k)), .int (nI p)])), (b, .inl (cB, M, .inl (fun j => sb_b ((wr B n k (fb u)) j))))]) (va_A [(y, .inr (1, [.ref b, .int (nI n), .int (nI p)])), (b, .inl (cB, M, .inl (fun j => sb_b (B j))))] sz)) 0 0 (va_A [(y, .inr (1, [.ref b, .int (nI n), .int (nI p)])), (b, .inl (cB, M, .inl (fun j => sb_b (B j))))] sz) := by
  refine Met.ofW (cc := b_D_addFixed) (maxL := 5) (ret := none) (by decide) rfl ?_
  intro p9 e9 s m args below meth c9 s₁ BL hml hv
  obtain ⟨rfl, hsz, hP, hK, hD0⟩ := hv
  have hx := BL.exec
  have hb := BL.bytes
  have hr := BL.returns
  have hts := atoms_spec (ws := w_D_addFixed) BL.pre
  have hA : ∀ w ∈ wsA, w.before _ s = true := fun w h => hts w (List.mem_cons_of_mem _ h)
  have hown : s.vm.findClass R_D = some m.cls := findClass_of_methodNamed BL.named
  have hlocks := BL.notSynchronized
  subst hsz
  have hD := hD0.self (sz := s.heap.size)
  generalize hAe : va_A [(y, .inr (1, [.ref b, .int (nI n), .int (nI p)])), (b, .inl (cB, M, .inl (fun j => sb_b (B j))))] s.heap.size = A at hD ⊢
  have hAq : ∀ q : Nat, s.heap.size ≤ q → A q := fun q h => by rw [← hAe]; exact Or.inr h
  have hS : va_S A s.heap s.heap [] := va_S.rf
  have hP : va_P D vCl [(y, .inr (1, [.ref b, .int (nI n), .int (nI p)])), (b, .inl (cB, M, .inl (fun j => sb_b (B j))))] s.heap := hP
  have hl := lv_entry ([.ref y, .long (lN u), .int (nI k)]) (n := 5) (Nat.le_of_ble_eq_true rfl)
  rw [lg_entry_eq]
  generalize (lg_sl ([.ref y, .long (lN u), .int (nI k)]) ++ List.replicate (5 - (lg_sl ([.ref y, .long (lN u), .int (nI k)])).length) Slot.unset).toArray = ls at hl ⊢
  have hl : lv_has ls 5 [(0, .ref y), (1, .long (lN u)), (3, .int (nI k))] := hl
  refine lv_iconst (v := 0) hx hb d_D_addFixed_0 (by decide) ?_
  refine lv_istore (lv' := [(4, .int 0), (0, .ref y), (1, .long (lN u)), (3, .int (nI k))]) hx hb d_D_addFixed_1 hl (by decide) rfl (fun ls hl => ?_)
  rw [show (fun j => sb_b (B j)) = (fun j => sb_b (wr B n 0 (fb u) j)) from by rw [wr_0]] at hP hD
  have loop : ∀ (q i : Nat), i + q = k + 1 → i ≤ k → ∀ (H : Heap) (locs : List Loc), va_P D vCl [(y, .inr (1, [.ref b, .int (nI (n + i)), .int (nI p)])), (b, .inl (cB, M, .inl (fun j => sb_b ((wr B n i (fb u)) j))))] H → va_D A [(y, .inr (1, [.ref b, .int (nI (n + i)), .int (nI p)])), (b, .inl (cB, M, .inl (fun j => sb_b ((wr B n i (fb u)) j))))] → va_S A s.heap H locs → ∀ (ls : Array Slot), lv_has ls 5 [(4, .int (nI i)), (0, .ref y), (1, .long (lN u)), (3, .int (nI k))] → W p9 l e9 (headSpec w_D_addFixed ({ frames := 1, cells := 0, slots := 0, locals := 21 })).room s m [.ref y, .long (lN u), .int (nI k)].toArray below meth c9 H locs 0 0 (MQ below (va_Qv (fun _ : Unit => True) (fun _ => ow D [(cB, .byte)] A [(y, .inr (1, [.ref b, .int (nI (n + k)), .int (nI p)])), (b, .inl (cB, M, .inl (fun j => sb_b ((wr B n k (fb u)) j))))]) A) [.ref y, .long (lN u), .int (nI k)].toArray s 0 0 A) (F0 m 3 ls []) := by
    intro q
    induction q with
    | zero =>
      intro i hq hi H locs hP hD hS ls hl
      exact absurd hq (by omega)
    | succ q ih_loop =>
      intro i hq hi H locs hP hD hS ls hl
      refine lv_iload hx hb d_D_addFixed_3 (lv_at hl 0 rfl) ?_
      refine lv_iload_n hx hb d_D_addFixed_5 rfl (lv_at hl 3 rfl) ?_
      refine lv_icmp_ge (tgt := 27) hx hb d_D_addFixed_6 (by decide) (fun c6 => ?_) (fun c6 => ?_)
      · obtain rfl : i = k := by have := (nI_leI (a := k) (b := i) (by omega) (by omega)).mp c6; omega
        exact W.vret hx hb hr (fun t ht hW => ⟨⟨(), rfl, trivial, by rw [ht]; exact hP, va_K.moved hW.alike hK, hD⟩, hS.F ht⟩) hS.2.2 d_D_addFixed_27
      · have hi2 : i < k := by have := mt (nI_leI (a := k) (b := i) (by omega) (by omega)).mpr c6; omega
        refine lv_aload_n hx hb d_D_addFixed_9 rfl (lv_at hl 1 rfl) ?_
        refine lv_lload_n hx hb d_D_addFixed_10 rfl (lv_at hl 2 rfl) ?_
        refine lv_bipush (v := 8) hx hb d_D_addFixed_11 (by decide) ?_
        refine lv_iload hx hb d_D_addFixed_13 (lv_at hl 0 rfl) ?_
        refine lv_imul hx hb d_D_addFixed_15 ?_
        refine lv_topi (fun v15 ev15 => ?_)
        refine lv_lushr hx hb d_D_addFixed_16 rfl ?_
        refine lv_topl (fun v16 ev16 => ?_)
        have ev16 : v16 = lN (u / 2 ^ (8 * i)) := by rw [ev16, ev15, sw_8]; exact wb_shr hu (by omega)
        subst ev16
        refine lv_l2i hx hb d_D_addFixed_17 rfl ?_
        refine lv_topi (fun v17 ev17 => ?_)
        subst ev17
        have hPc := hP.sub (ws' := [(y, .inr (1, [.ref b, .int (nI (n + i)), .int (nI p)])), (b, .inl (cB, M, .inl (fun j => sb_b ((wr B n i (fb u)) j))))]) [0, 1] rfl
        have hDc := hD.sub (ws' := [(y, .inr (1, [.ref b, .int (nI (n + i)), .int (nI p)])), (b, .inl (cB, M, .inl (fun j => sb_b ((wr B n i (fb u)) j))))]) [0, 1] (by decide) rfl
        have hKc := hK.sub (tys' := [(cB, .byte)]) [0] rfl
        have hFc := va_free (wc := [(y, .inr (1, [.ref b, .int (nI (n + i)), .int (nI p)])), (b, .inl (cB, M, .inl (fun j => sb_b ((wr B n i (fb u)) j))))]) hD hS hAq [0, 1] rfl
        refine va_callv (va_runV (As := [.int ((lN (u / 2 ^ (8 * i))).toInt32)]) (rest := []) ⟨hx, hb, hml, hown, hA⟩ (c_R_add l D cB y b M (wr B n i (fb u)) (n + i) p H.size (lN (u / 2 ^ (8 * i))).toInt32 (by omega) hM) (q_R_add hA k1_180 rfl rfl ⟨(Nat.le_of_ble_eq_true rfl), (Nat.le_of_ble_eq_true rfl)⟩) (ox_V (va_recv hKc hPc (ci := 1) (q0 := 0) rfl rfl) (oxw_S hPc hKc hDc)) rfl rfl hl.1 rfl (lv_room (Nat.le_of_ble_eq_true rfl)) d_D_addFixed_18 ⟨(Nat.le_of_ble_eq_true rfl), (Nat.le_of_ble_eq_true rfl)⟩) hS (fun q _ h => hFc q h) hFc (fun u9 t9 H1 locs ht9 hvm9 hw9 hB9 hz1 hk1 hS => ?_)
        obtain ⟨hP1, hK1, hD1⟩ := hB9
        rw [ht9] at hP1
        obtain ⟨hP, hD⟩ := va_join (wr := []) (w1 := [(y, .inr (1, [.ref b, .int (nI (n + i + 1)), .int (nI p)])), (b, .inl (cB, M, .inl (fun j => sb_b ((va_up (wr B n i (fb u)) (n + i) ((lN (u / 2 ^ (8 * i))).toInt32.toBitVec.toNat % 256)) j))))]) hP hD [0, 1] [] rfl rfl (by decide) (by decide) hk1 hFc hP1 hD1
        generalize H1 = H at hP hS ⊢
        have hP : va_P D vCl [(y, .inr (1, [.ref b, .int (nI (n + i + 1)), .int (nI p)])), (b, .inl (cB, M, .inl (fun j => sb_b ((va_up (wr B n i (fb u)) (n + i) ((lN (u / 2 ^ (8 * i))).toInt32.toBitVec.toNat % 256)) j))))] H := hP.sub [0, 1] rfl
        have hD : va_D A [(y, .inr (1, [.ref b, .int (nI (n + i + 1)), .int (nI p)])), (b, .inl (cB, M, .inl (fun j => sb_b ((va_up (wr B n i (fb u)) (n + i) ((lN (u / 2 ^ (8 * i))).toInt32.toBitVec.toNat % 256)) j))))] := hD.sub [0, 1] (by decide) rfl
        rw [fb_b hu, wr_s] at hP hD
        obtain ⟨v21, ev21⟩ : ∃ y : Int32, y = nI i + 1 := ⟨_, rfl⟩
        refine lv_iinc (v := v21) (lv' := [(4, .int v21), (0, .ref y), (1, .long (lN u)), (3, .int (nI k))]) hx hb d_D_addFixed_21 hl (k := 0) rfl (by rw [ev21]; rfl) (by decide) rfl (fun ls hl => ?_)
        have ev21 : v21 = nI (i + 1) := by rw [ev21]; exact nI_1 i
        subst ev21
        refine lv_goto (tgt := 3) hx hb d_D_addFixed_24 (by decide) ?_
        exact ih_loop (i + 1) (by omega) (by omega) _ _ (hP.sub [0, 1] rfl) (hD.sub [0, 1] (by decide) rfl) hS ls (lv_sub hl [0, 1, 2, 3] rfl)
  exact loop (k + 1) 0 (by omega) (by omega) _ _ (hP.sub [0, 1] rfl) (hD.sub [0, 1] (by decide) rfl) hS ls (lv_sub hl [0, 1, 2, 3] rfl)
set_option maxHeartbeats 600000 in
set_option maxRecDepth 100000 in
/-- fixedAt -/
theorem c_D_fixedAt (l : Launch) (D : va_G) (cB : ClassId) (y b M : Nat) (B : Nat → Nat) (nv pv : Int32) (a k : Nat) (hk : k ≤ 8) (ha : a + k ≤ M) (hM : M ≤ 65536) (hB : ∀ j, B j < 256) : Met l y_D_fixedAt w_D_fixedAt ({ frames := 1, cells := 0, slots := 0, locals := 21 }) (va_Pc [.ref y, .int (nI a), .int (nI k)] (ox D [(cB, .byte)] [(y, .inr (1, [.ref b, .int nv, .int pv])), (b, .inl (cB, M, .inl (fun j => sb_b (B j))))])) (vp_Sl (fun r => r = lN (fx B a k))) 0 0 (fun _ => False) := by
  refine Met.ofW (cc := b_D_fixedAt) (maxL := 6) (ret := (some .long)) (by decide) rfl ?_
  intro p9 e9 s m args below meth c9 s₁ BL hml hv
  obtain ⟨rfl, hP, hK⟩ := hv
  have hx := BL.exec
  have hb := BL.bytes
  have hr := BL.returns
  have hts := atoms_spec (ws := w_D_fixedAt) BL.pre
  have hA : ∀ w ∈ wsA, w.before _ s = true := fun w h => hts w (List.mem_cons_of_mem _ h)
  have hown : s.vm.findClass R_D = some m.cls := findClass_of_methodNamed BL.named
  have hlocks := BL.notSynchronized
  have hP : va_P D vCl [(y, .inr (1, [.ref b, .int nv, .int pv])), (b, .inl (cB, M, .inl (fun j => sb_b (B j))))] s.heap := hP
  have hl := lv_entry ([.ref y, .int (nI a), .int (nI k)]) (n := 6) (Nat.le_of_ble_eq_true rfl)
  rw [lg_entry_eq]
  generalize (lg_sl ([.ref y, .int (nI a), .int (nI k)]) ++ List.replicate (6 - (lg_sl ([.ref y, .int (nI a), .int (nI k)])).length) Slot.unset).toArray = ls at hl ⊢
  have hl : lv_has ls 6 [(0, .ref y), (1, .int (nI a)), (2, .int (nI k))] := hl
  refine lv_lconst (v := 0) hx hb d_D_fixedAt_0 (by decide) ?_
  refine lv_lstore_n (lv' := [(3, .long 0), (0, .ref y), (1, .int (nI a)), (2, .int (nI k))]) hx hb d_D_fixedAt_1 rfl hl (by decide) rfl (fun ls hl => ?_)
  refine lv_iconst (v := 0) hx hb d_D_fixedAt_2 (by decide) ?_
  refine lv_istore (lv' := [(5, .int 0), (3, .long 0), (0, .ref y), (1, .int (nI a)), (2, .int (nI k))]) hx hb d_D_fixedAt_3 hl (by decide) rfl (fun ls hl => ?_)
  have loop : ∀ (q i : Nat), i + q = k + 1 → i ≤ k → ∀ (ls : Array Slot), lv_has ls 6 [(5, .int (nI i)), (3, .long (lN (fx B a i))), (0, .ref y), (1, .int (nI a)), (2, .int (nI k))] → W p9 l e9 (headSpec w_D_fixedAt ({ frames := 1, cells := 0, slots := 0, locals := 21 })).room s m [.ref y, .int (nI a), .int (nI k)].toArray below meth c9 s.heap [] 0 0 (MQ below (vp_Sl (fun r => r = lN (fx B a k))) [.ref y, .int (nI a), .int (nI k)].toArray s 0 0 (fun _ => False)) (F0 m 5 ls []) := by
    intro q
    induction q with
    | zero =>
      intro i hq hi ls hl
      exact absurd hq (by omega)
    | succ q ih_loop =>
      intro i hq hi ls hl
      refine lv_iload hx hb d_D_fixedAt_5 (lv_at hl 0 rfl) ?_
      refine lv_iload_n hx hb d_D_fixedAt_7 rfl (lv_at hl 4 rfl) ?_
      refine lv_icmp_ge (tgt := 35) hx hb d_D_fixedAt_8 (by decide) (fun c8 => ?_) (fun c8 => ?_)
      · refine lv_lload_n hx hb d_D_fixedAt_35 rfl (lv_at hl 1 rfl) ?_
        obtain rfl : i = k := by have := (nI_leI (a := k) (b := i) (by omega) (by omega)).mp c8; omega
        exact W.lret (v := lN (fx B a i)) hx hb hr (fun t ht hW => ⟨_, rfl, (rfl), ht⟩) (fun q h => by cases h) d_D_fixedAt_36
      · have hi2 : i < k := by have := mt (nI_leI (a := k) (b := i) (by omega) (by omega)).mpr c8; omega
        refine lv_lload_n hx hb d_D_fixedAt_11 rfl (lv_at hl 1 rfl) ?_
        refine lv_aload_n hx hb d_D_fixedAt_12 rfl (lv_at hl 2 rfl) ?_
        refine lv_iload_n hx hb d_D_fixedAt_13 rfl (lv_at hl 3 rfl) ?_
        refine lv_iload hx hb d_D_fixedAt_14 (lv_at hl 0 rfl) ?_
        refine lv_iadd hx hb d_D_fixedAt_16 ?_
        refine lv_topi (fun v16 ev16 => ?_)
        have ev16 : v16 = nI (a + i) := by rw [ev16]; exact nI_add a i
        subst ev16
        have hPc := hP.sub (ws' := [(y, .inr (1, [.ref b, .int nv, .int pv])), (b, .inl (cB, M, .inl (fun j => sb_b (B j))))]) [0, 1] rfl
        have hKc := hK.sub (tys' := [(cB, .byte)]) [0] rfl
        refine vp_callSi (W.runV (As := [.int (nI (a + i))]) (rest := [.long (lN (fx B a i))]) ⟨hx, hb, hml, hown, hA⟩ (c_R_get l D cB y b M B nv pv (a + i) (by omega) hM hB) (q_R_get hA k2_21 rfl rfl ⟨(Nat.le_of_ble_eq_true rfl), (Nat.le_of_ble_eq_true rfl)⟩) (ox_V (va_recv hKc hPc (ci := 1) (q0 := 0) rfl rfl) (ox_S hPc hKc)) rfl rfl hl.1 rfl (lv_room (Nat.le_of_ble_eq_true rfl)) d_D_fixedAt_17 ⟨(Nat.le_of_ble_eq_true rfl), (Nat.le_of_ble_eq_true rfl)⟩) (fun r17 hr17 => ?_)
        have er17 : r17 = nI (B (a + i)) := hr17
        subst er17
        refine lv_i2l hx hb d_D_fixedAt_20 rfl ?_
        refine lv_topl (fun v20 ev20 => ?_)
        have ev20 : v20 = lN (B (a + i)) := by rw [ev20]; exact nI_l (by have := hB (a + i); omega)
        subst ev20
        refine lv_bipush (v := 8) hx hb d_D_fixedAt_21 (by decide) ?_
        refine lv_iload hx hb d_D_fixedAt_23 (lv_at hl 0 rfl) ?_
        refine lv_imul hx hb d_D_fixedAt_25 ?_
        refine lv_topi (fun v25 ev25 => ?_)
        refine lv_lshl hx hb d_D_fixedAt_26 rfl ?_
        refine lv_topl (fun v26 ev26 => ?_)
        have ev26 : v26 = lN (B (a + i) * 2 ^ (8 * i)) := by rw [ev26, ev25, sw_8]; exact wb_shl _ (by omega)
        subst ev26
        have hx1 := fx_lt hB a i
        have hx2 := fx_lt hB a (i + 1)
        have hx3 : 2 ^ (8 * (i + 1)) ≤ 2 ^ 64 := Nat.pow_le_pow_right (by decide) (by omega)
        refine lv_lor hx hb d_D_fixedAt_27 ?_
        refine lv_topl (fun v27 ev27 => ?_)
        have ev27 : v27 = lN (fx B a (i + 1)) := by rw [ev27]; exact g_or' (k := 8 * i) rfl hx1 (Nat.lt_of_lt_of_le hx2 hx3)
        subst ev27
        refine lv_lstore_n (lv' := [(3, .long (lN (fx B a (i + 1)))), (5, .int (nI i)), (0, .ref y), (1, .int (nI a)), (2, .int (nI k))]) hx hb d_D_fixedAt_28 rfl hl (by decide) rfl (fun ls hl => ?_)
        obtain ⟨v29, ev29⟩ : ∃ y : Int32, y = nI i + 1 := ⟨_, rfl⟩
        refine lv_iinc (v := v29) (lv' := [(5, .int v29), (3, .long (lN (fx B a (i + 1)))), (0, .ref y), (1, .int (nI a)), (2, .int (nI k))]) hx hb d_D_fixedAt_29 hl (k := 1) rfl (by rw [ev29]; rfl) (by decide) rfl (fun ls hl => ?_)
        have ev29 : v29 = nI (i + 1) := by rw [ev29]; exact nI_1 i
        subst ev29
        refine lv_goto (tgt := 5) hx hb d_D_fixedAt_32 (by decide) ?_
        exact ih_loop (i + 1) (by omega) (by omega) ls (lv_sub hl [0, 1, 2, 3, 4] rfl)
  exact loop (k + 1) 0 (by omega) (by omega) ls (lv_sub hl [0, 1, 2, 3, 4] rfl)
end
section
/-! THE CLASS: SEVENS -/
theorem g_S {s : State} {H : Heap} {av : List Value} (hG : tx_G s) (hh : ∀ q : Nat, q < s.heap.size → H[q]? = s.heap[q]?) : PreS s H (va_Pc av tx_G) av := ⟨fun a U g mk q => ⟨q.1, q.2.call g mk a⟩, fun U hU hW => ⟨rfl, hG.go hW (by rw [hU]; exact hh)⟩⟩
def sv (u i : Nat) : Nat := (if i + 1 < sw u then 128 else 0) + u / 2 ^ (7 * i) % 128
theorem sv_lt (u i : Nat) : sv u i < 256 := by
  unfold sv
  have := Nat.mod_lt (u / 2 ^ (7 * i)) (show 128 > 0 by decide)
  split <;> omega
theorem sw_hi {u : Nat} (h : sw u < 10) : u < 2 ^ (7 * sw u) := by
  unfold sw at h ⊢
  (repeat' split at h) <;> (repeat' split) <;> first | omega | (simp only [Nat.reduceMul, Nat.reducePow] at *; omega)
theorem or128 : ∀ z, z < 128 → (128 : Int32) ||| nI z = nI (128 + z) := by decide +kernel
theorem and127 (x : Int32) : x &&& 127 = nI (x.toBitVec.toNat % 128) := pk_and x 7 (by decide)
theorem sv_1 {u i : Nat} (hu : u < 2 ^ 64) (hi : i + 1 < sw u) : ((128 : Int32) ||| ((lN (u / 2 ^ (7 * i))).toInt32 &&& 127)).toBitVec.toNat % 256 = sv u i := by
  have hz : u / 2 ^ (7 * i) % 128 < 128 := Nat.mod_lt _ (by decide)
  rw [and127, tn_l2i (Nat.lt_of_le_of_lt (Nat.div_le_self _ _) hu), show u / 2 ^ (7 * i) % 2 ^ 32 % 128 = u / 2 ^ (7 * i) % 128 by omega, or128 _ hz, pk_tn (by omega)]
  unfold sv
  rw [if_pos hi]
  omega
theorem sv_2 {u : Nat} (hu : u < 2 ^ 64) : (lN (u / 2 ^ (7 * (sw u - 1)))).toInt32.toBitVec.toNat % 256 = sv u (sw u - 1) := by
  have h1 := sw_in u
  have h2 : u / 2 ^ (7 * (sw u - 1)) < 128 := by
    rcases Nat.lt_or_ge (sw u) 10 with h | h
    · have h3 := sw_hi h
      rw [show 7 * sw u = 7 + 7 * (sw u - 1) by omega, Nat.pow_add] at h3
      exact Nat.div_lt_of_lt_mul (by rw [Nat.mul_comm]; exact h3)
    · have e1 : sw u = 10 := by omega
      rw [e1]
      exact Nat.div_lt_of_lt_mul (Nat.lt_of_lt_of_le hu (by decide))
  rw [tn_l2i (Nat.lt_of_le_of_lt (Nat.div_le_self _ _) hu)]
  unfold sv
  rw [if_neg (by omega)]
  generalize u / 2 ^ (7 * (sw u - 1)) = z at h2 ⊢
  omega
/-- the number of k groups from p on -/
def gs (B : Nat → Nat) (p : Nat) : Nat → Nat
  | 0 => 0
  | k + 1 => gs B p k + B (p + k) % 128 * 2 ^ (7 * k)
theorem gs_lt (B : Nat → Nat) (p k : Nat) : gs B p k < 2 ^ (7 * k) := by
  induction k with
  | zero => exact Nat.one_pos
  | succ k ih =>
    show gs B p k + B (p + k) % 128 * 2 ^ (7 * k) < 2 ^ (7 * (k + 1))
    rw [show 7 * (k + 1) = 7 * k + 7 by omega, Nat.pow_add]
    have h1 := Nat.mod_lt (B (p + k)) (show 128 > 0 by decide)
    have h2 : B (p + k) % 128 * 2 ^ (7 * k) ≤ 127 * 2 ^ (7 * k) := Nat.mul_le_mul_right _ (by omega)
    omega
theorem gs_mono (B : Nat → Nat) (p : Nat) {i k : Nat} (h : i ≤ k) : gs B p i ≤ gs B p k := by
  induction k with
  | zero => rw [show i = 0 by omega]; exact Nat.le_refl _
  | succ k ih =>
    rcases Nat.lt_or_ge i (k + 1) with q | q
    · exact Nat.le_trans (ih (by omega)) (Nat.le_add_right _ _)
    · rw [show i = k + 1 by omega]; exact Nat.le_refl _
/-- sevens read from p on in a row of n: how many bytes; -2: wrong, -3: it ends -/
def gw (B : Nat → Nat) (p n : Nat) : Nat → Int
  | 0 => -2
  | f + 1 => if n ≤ p + (9 - f) then -3 else if B (p + (9 - f)) < 128 then (if (9 - f = 9 ∧ 1 < B (p + (9 - f))) ∨ (0 < 9 - f ∧ B (p + (9 - f)) = 0) then -2 else ((9 - f : Nat) : Int) + 1) else gw B p n f
theorem gw_s {B : Nat → Nat} {p n g : Nat} (hg : g < 10) : gw B p n (10 - g) = if n ≤ p + g then -3 else if B (p + g) < 128 then (if (g = 9 ∧ 1 < B (p + g)) ∨ (0 < g ∧ B (p + g) = 0) then -2 else (g : Int) + 1) else gw B p n (10 - (g + 1)) := by
  obtain ⟨f, hf⟩ : ∃ f, 10 - g = f + 1 := ⟨9 - g, by omega⟩
  rw [hf]
  show (if n ≤ p + (9 - f) then (-3 : Int) else _) = _
  rw [show 9 - f = g by omega, show 10 - (g + 1) = f by omega]
theorem gw_ok {B : Nat → Nat} {p n : Nat} : ∀ (f : Nat) (w : Nat), f ≤ 10 → gw B p n f = (w : Int) → 10 - f < w ∧ w ≤ 10 ∧ p + w ≤ n ∧ (w = 10 → B (p + 9) ≤ 1) := by
  intro f
  induction f with
  | zero => intro w _ h; exact absurd h (by show ¬ (-2 : Int) = _; omega)
  | succ f ih =>
    intro w hf h
    unfold gw at h
    split at h
    · omega
    · split at h
      · split at h
        · omega
        · have e1 : w = 9 - f + 1 := by omega
          rename_i a b c
          refine ⟨by omega, by omega, by omega, fun e2 => ?_⟩
          have e3 : 9 - f = 9 := by omega
          rw [e3] at c
          omega
      · obtain ⟨a, b, c, d⟩ := ih w (by omega) h
        exact ⟨by omega, b, c, d⟩
theorem gw_in (B : Nat → Nat) (p n : Nat) : ∀ f : Nat, f ≤ 10 → gw B p n f = -2 ∨ gw B p n f = -3 ∨ ∃ w : Nat, gw B p n f = (w : Int) ∧ 1 ≤ w := by
  intro f
  induction f with
  | zero => intro _; exact Or.inl rfl
  | succ f ih =>
    intro hf
    unfold gw
    split
    · exact Or.inr (Or.inl rfl)
    · split
      · split
        · exact Or.inl rfl
        · exact Or.inr (Or.inr ⟨9 - f + 1, rfl, by omega⟩)
      · exact ih (by omega)
theorem gs_64 {B : Nat → Nat} {p w : Nat} (hw : w ≤ 10) (h : w = 10 → B (p + 9) ≤ 1) : gs B p w < 2 ^ 64 := by
  rcases Nat.lt_or_ge w 10 with q | q
  · exact Nat.lt_of_lt_of_le (gs_lt B p w) (Nat.pow_le_pow_right (by decide) (by omega))
  · obtain rfl : w = 10 := by omega
    have h1 := gs_lt B p 9
    have h2 := h rfl
    show gs B p 9 + B (p + 9) % 128 * 2 ^ (7 * 9) < 2 ^ 64
    have h3 : B (p + 9) % 128 * 2 ^ (7 * 9) ≤ 1 * 2 ^ (7 * 9) := Nat.mul_le_mul_right _ (by omega)
    simp only [Nat.reduceMul, Nat.reducePow] at *
    omega
set_option maxHeartbeats 600000 in
set_option maxRecDepth 100000 in
/-- addSevens -/
theorem c_D_addSevens (l : Launch) (D : va_G) (cB : ClassId) (y b M : Nat) (B : Nat → Nat) (n p sz u : Nat) (hu : u < 2 ^ 64) (hn : n + sw u ≤ M) (hM : M ≤ 65536) : Met l y_D_addSevens w_D_addSevens ({ frames := 1, cells := 0, slots := 0, locals := 22 }) (va_Pc [.ref y, .long (lN u)] (oxw sz D [(cB, .byte)] [(y, .inr (1, [.ref b, .int (nI n), .int (nI p)])), (b, .inl (cB, M, .inl (fun j => sb_b (B j))))])) (va_Qv (fun _ : Unit => True) (fun _ => ow D [(cB, .byte)] (va_A [(y, .inr (1, [.ref b, .int (nI n), .int (nI p)])), (b, .inl (cB, M, .inl (fun j => sb_b (B j))))] sz) [(y, .inr (1, [.ref b, .int (nI (n + sw u)), .int (nI p)])), (b, .inl (cB, M, .inl (fun j => sb_b ((wr B n (sw u) (sv u)) j))))]) (va_A [(y, .inr (1, [.ref b, .int (nI n), .int (nI p)])), (b, .inl (cB, M, .inl (fun j => sb_b (B j))))] sz)) 0 0 (va_A [(y, .inr (1, [.ref b, .int (nI n), .int (nI p)])), (b, .inl (cB, M, .inl (fun j => sb_b (B j))))] sz) := by
  refine Met.ofW (cc := b_D_addSevens) (maxL := 5) (ret := none) (by decide) rfl ?_
  intro p9 e9 s m args below meth c9 s₁ BL hml hv
  obtain ⟨rfl, hsz, hP, hK, hD0⟩ := hv
  have hx := BL.exec
  have hb := BL.bytes
  have hr := BL.returns
  have hts := atoms_spec (ws := w_D_addSevens) BL.pre
  have hA : ∀ w ∈ wsA, w.before _ s = true := fun w h => hts w (List.mem_cons_of_mem _ h)
  have hown : s.vm.findClass R_D = some m.cls := findClass_of_methodNamed BL.named
  have hlocks := BL.notSynchronized
  subst hsz
  have hD := hD0.self (sz := s.heap.size)
  generalize hAe : va_A [(y, .inr (1, [.ref b, .int (nI n), .int (nI p)])), (b, .inl (cB, M, .inl (fun j => sb_b (B j))))] s.heap.size = A at hD ⊢
  have hAq : ∀ q : Nat, s.heap.size ≤ q → A q := fun q h => by rw [← hAe]; exact Or.inr h
  have hS : va_S A s.heap s.heap [] := va_S.rf
  have hP : va_P D vCl [(y, .inr (1, [.ref b, .int (nI n), .int (nI p)])), (b, .inl (cB, M, .inl (fun j => sb_b (B j))))] s.heap := hP
  have hl := lv_entry ([.ref y, .long (lN u)]) (n := 5) (Nat.le_of_ble_eq_true rfl)
  rw [lg_entry_eq]
  generalize (lg_sl ([.ref y, .long (lN u)]) ++ List.replicate (5 - (lg_sl ([.ref y, .long (lN u)])).length) Slot.unset).toArray = ls at hl ⊢
  have hl : lv_has ls 5 [(0, .ref y), (1, .long (lN u))] := hl
  refine lv_lload_n hx hb d_D_addSevens_0 rfl (lv_at hl 1 rfl) ?_
  refine vp_callSi (W.runS (As := [.long (lN u)]) (rest := []) ⟨hx, hb, hml, hown, hA⟩ (c_D_sevensWidth l u hu) (q_D_sevensWidth hA k1_194 rfl rfl ⟨(Nat.le_of_ble_eq_true rfl), (Nat.le_of_ble_eq_true rfl)⟩) (⟨fun a U g mk q => q, fun U hU hW => ⟨rfl, trivial⟩⟩) rfl rfl hl.1 rfl (lv_room (Nat.le_of_ble_eq_true rfl)) d_D_addSevens_1 ⟨(Nat.le_of_ble_eq_true rfl), (Nat.le_of_ble_eq_true rfl)⟩) (fun r1 hr1 => ?_)
  have er1 : r1 = nI (sw u) := hr1
  subst er1
  have hsw := sw_in u
  refine lv_iconst (v := 1) hx hb d_D_addSevens_4 (by decide) ?_
  refine lv_isub hx hb d_D_addSevens_5 ?_
  refine lv_topi (fun v5 ev5 => ?_)
  have ev5 : v5 = nI (sw u - 1) := by rw [ev5]; exact pk_sub (a := sw u) (b := 1) hsw.1
  subst ev5
  refine lv_istore_n (lv' := [(3, .int (nI (sw u - 1))), (0, .ref y), (1, .long (lN u))]) hx hb d_D_addSevens_6 rfl hl (by decide) rfl (fun ls hl => ?_)
  refine lv_iconst (v := 0) hx hb d_D_addSevens_7 (by decide) ?_
  refine lv_istore (lv' := [(4, .int 0), (3, .int (nI (sw u - 1))), (0, .ref y), (1, .long (lN u))]) hx hb d_D_addSevens_8 hl (by decide) rfl (fun ls hl => ?_)
  rw [show (fun j => sb_b (B j)) = (fun j => sb_b (wr B n 0 (sv u) j)) from by rw [wr_0]] at hP hD
  have loop : ∀ (q i : Nat), i + q = sw u → i ≤ sw u - 1 → ∀ (H : Heap) (locs : List Loc), va_P D vCl [(y, .inr (1, [.ref b, .int (nI (n + i)), .int (nI p)])), (b, .inl (cB, M, .inl (fun j => sb_b ((wr B n i (sv u)) j))))] H → va_D A [(y, .inr (1, [.ref b, .int (nI (n + i)), .int (nI p)])), (b, .inl (cB, M, .inl (fun j => sb_b ((wr B n i (sv u)) j))))] → va_S A s.heap H locs → ∀ (ls : Array Slot), lv_has ls 5 [(4, .int (nI i)), (3, .int (nI (sw u - 1))), (0, .ref y), (1, .long (lN u))] → W p9 l e9 (headSpec w_D_addSevens ({ frames := 1, cells := 0, slots := 0, locals := 22 })).room s m [.ref y, .long (lN u)].toArray below meth c9 H locs 0 0 (MQ below (va_Qv (fun _ : Unit => True) (fun _ => ow D [(cB, .byte)] A [(y, .inr (1, [.ref b, .int (nI (n + sw u)), .int (nI p)])), (b, .inl (cB, M, .inl (fun j => sb_b ((wr B n (sw u) (sv u)) j))))]) A) [.ref y, .long (lN u)].toArray s 0 0 A) (F0 m 10 ls []) := by
    intro q
    induction q with
    | zero =>
      intro i hq hi H locs hP hD hS ls hl
      exact absurd hq (by omega)
    | succ q ih_loop =>
      intro i hq hi H locs hP hD hS ls hl
      refine lv_iload hx hb d_D_addSevens_10 (lv_at hl 0 rfl) ?_
      refine lv_iload_n hx hb d_D_addSevens_12 rfl (lv_at hl 1 rfl) ?_
      refine lv_icmp_ge (tgt := 41) hx hb d_D_addSevens_13 (by decide) (fun c13 => ?_) (fun c13 => ?_)
      · obtain rfl : i = sw u - 1 := by have := (nI_leI (a := sw u - 1) (b := i) (by omega) (by omega)).mp c13; omega
        refine lv_aload_n hx hb d_D_addSevens_41 rfl (lv_at hl 2 rfl) ?_
        refine lv_lload_n hx hb d_D_addSevens_42 rfl (lv_at hl 3 rfl) ?_
        refine lv_bipush (v := 7) hx hb d_D_addSevens_43 (by decide) ?_
        refine lv_iload_n hx hb d_D_addSevens_45 rfl (lv_at hl 1 rfl) ?_
        refine lv_imul hx hb d_D_addSevens_46 ?_
        refine lv_topi (fun v46 ev46 => ?_)
        refine lv_lushr hx hb d_D_addSevens_47 rfl ?_
        refine lv_topl (fun v47 ev47 => ?_)
        have ev47 : v47 = lN (u / 2 ^ (7 * (sw u - 1))) := by rw [ev47, ev46, sw_7]; exact wb_shr hu (by omega)
        subst ev47
        refine lv_l2i hx hb d_D_addSevens_48 rfl ?_
        refine lv_topi (fun v48 ev48 => ?_)
        subst ev48
        have hPc := hP.sub (ws' := [(y, .inr (1, [.ref b, .int (nI (n + (sw u - 1))), .int (nI p)])), (b, .inl (cB, M, .inl (fun j => sb_b ((wr B n (sw u - 1) (sv u)) j))))]) [0, 1] rfl
        have hDc := hD.sub (ws' := [(y, .inr (1, [.ref b, .int (nI (n + (sw u - 1))), .int (nI p)])), (b, .inl (cB, M, .inl (fun j => sb_b ((wr B n (sw u - 1) (sv u)) j))))]) [0, 1] (by decide) rfl
        have hKc := hK.sub (tys' := [(cB, .byte)]) [0] rfl
        have hFc := va_free (wc := [(y, .inr (1, [.ref b, .int (nI (n + (sw u - 1))), .int (nI p)])), (b, .inl (cB, M, .inl (fun j => sb_b ((wr B n (sw u - 1) (sv u)) j))))]) hD hS hAq [0, 1] rfl
        refine va_callv (va_runV (As := [.int ((lN (u / 2 ^ (7 * (sw u - 1)))).toInt32)]) (rest := []) ⟨hx, hb, hml, hown, hA⟩ (c_R_add l D cB y b M (wr B n (sw u - 1) (sv u)) (n + (sw u - 1)) p H.size (lN (u / 2 ^ (7 * (sw u - 1)))).toInt32 (by omega) hM) (q_R_add hA k1_180 rfl rfl ⟨(Nat.le_of_ble_eq_true rfl), (Nat.le_of_ble_eq_true rfl)⟩) (ox_V (va_recv hKc hPc (ci := 1) (q0 := 0) rfl rfl) (oxw_S hPc hKc hDc)) rfl rfl hl.1 rfl (lv_room (Nat.le_of_ble_eq_true rfl)) d_D_addSevens_49 ⟨(Nat.le_of_ble_eq_true rfl), (Nat.le_of_ble_eq_true rfl)⟩) hS (fun q _ h => hFc q h) hFc (fun u9 t9 H1 locs ht9 hvm9 hw9 hB9 hz1 hk1 hS => ?_)
        obtain ⟨hP1, hK1, hD1⟩ := hB9
        rw [ht9] at hP1
        obtain ⟨hP, hD⟩ := va_join (wr := []) (w1 := [(y, .inr (1, [.ref b, .int (nI (n + (sw u - 1) + 1)), .int (nI p)])), (b, .inl (cB, M, .inl (fun j => sb_b ((va_up (wr B n (sw u - 1) (sv u)) (n + (sw u - 1)) ((lN (u / 2 ^ (7 * (sw u - 1)))).toInt32.toBitVec.toNat % 256)) j))))]) hP hD [0, 1] [] rfl rfl (by decide) (by decide) hk1 hFc hP1 hD1
        generalize H1 = H at hP hS ⊢
        have hP : va_P D vCl [(y, .inr (1, [.ref b, .int (nI (n + (sw u - 1) + 1)), .int (nI p)])), (b, .inl (cB, M, .inl (fun j => sb_b ((va_up (wr B n (sw u - 1) (sv u)) (n + (sw u - 1)) ((lN (u / 2 ^ (7 * (sw u - 1)))).toInt32.toBitVec.toNat % 256)) j))))] H := hP.sub [0, 1] rfl
        have hD : va_D A [(y, .inr (1, [.ref b, .int (nI (n + (sw u - 1) + 1)), .int (nI p)])), (b, .inl (cB, M, .inl (fun j => sb_b ((va_up (wr B n (sw u - 1) (sv u)) (n + (sw u - 1)) ((lN (u / 2 ^ (7 * (sw u - 1)))).toInt32.toBitVec.toNat % 256)) j))))] := hD.sub [0, 1] (by decide) rfl
        rw [sv_2 hu, wr_s, show n + (sw u - 1) + 1 = n + sw u by omega, show sw u - 1 + 1 = sw u by omega] at hP hD
        exact W.vret hx hb hr (fun t ht hW => ⟨⟨(), rfl, trivial, by rw [ht]; exact hP, va_K.moved hW.alike hK, hD⟩, hS.F ht⟩) hS.2.2 d_D_addSevens_52
      · have hi2 : i < sw u - 1 := by have := mt (nI_leI (a := sw u - 1) (b := i) (by omega) (by omega)).mpr c13; omega
        refine lv_aload_n hx hb d_D_addSevens_16 rfl (lv_at hl 2 rfl) ?_
        refine lv_sipush (v := 128) hx hb d_D_addSevens_17 (by decide) ?_
        refine lv_lload_n hx hb d_D_addSevens_20 rfl (lv_at hl 3 rfl) ?_
        refine lv_bipush (v := 7) hx hb d_D_addSevens_21 (by decide) ?_
        refine lv_iload hx hb d_D_addSevens_23 (lv_at hl 0 rfl) ?_
        refine lv_imul hx hb d_D_addSevens_25 ?_
        refine lv_topi (fun v25 ev25 => ?_)
        refine lv_lushr hx hb d_D_addSevens_26 rfl ?_
        refine lv_topl (fun v26 ev26 => ?_)
        have ev26 : v26 = lN (u / 2 ^ (7 * i)) := by rw [ev26, ev25, sw_7]; exact wb_shr hu (by omega)
        subst ev26
        refine lv_l2i hx hb d_D_addSevens_27 rfl ?_
        refine lv_topi (fun v27 ev27 => ?_)
        subst ev27
        refine lv_bipush (v := 127) hx hb d_D_addSevens_28 (by decide) ?_
        refine lv_iand hx hb d_D_addSevens_30 ?_
        refine lv_topi (fun v30 ev30 => ?_)
        subst ev30
        refine lv_ior hx hb d_D_addSevens_31 ?_
        refine lv_topi (fun v31 ev31 => ?_)
        subst ev31
        have hPc := hP.sub (ws' := [(y, .inr (1, [.ref b, .int (nI (n + i)), .int (nI p)])), (b, .inl (cB, M, .inl (fun j => sb_b ((wr B n i (sv u)) j))))]) [0, 1] rfl
        have hDc := hD.sub (ws' := [(y, .inr (1, [.ref b, .int (nI (n + i)), .int (nI p)])), (b, .inl (cB, M, .inl (fun j => sb_b ((wr B n i (sv u)) j))))]) [0, 1] (by decide) rfl
        have hKc := hK.sub (tys' := [(cB, .byte)]) [0] rfl
        have hFc := va_free (wc := [(y, .inr (1, [.ref b, .int (nI (n + i)), .int (nI p)])), (b, .inl (cB, M, .inl (fun j => sb_b ((wr B n i (sv u)) j))))]) hD hS hAq [0, 1] rfl
        refine va_callv (va_runV (As := [.int ((128 : Int32) ||| ((lN (u / 2 ^ (7 * i))).toInt32 &&& 127))]) (rest := []) ⟨hx, hb, hml, hown, hA⟩ (c_R_add l D cB y b M (wr B n i (sv u)) (n + i) p H.size ((128 : Int32) ||| ((lN (u / 2 ^ (7 * i))).toInt32 &&& 127)) (by omega) hM) (q_R_add hA k1_180 rfl rfl ⟨(Nat.le_of_ble_eq_true rfl), (Nat.le_of_ble_eq_true rfl)⟩) (ox_V (va_recv hKc hPc (ci := 1) (q0 := 0) rfl rfl) (oxw_S hPc hKc hDc)) rfl rfl hl.1 rfl (lv_room (Nat.le_of_ble_eq_true rfl)) d_D_addSevens_32 ⟨(Nat.le_of_ble_eq_true rfl), (Nat.le_of_ble_eq_true rfl)⟩) hS (fun q _ h => hFc q h) hFc (fun u9 t9 H1 locs ht9 hvm9 hw9 hB9 hz1 hk1 hS => ?_)
        obtain ⟨hP1, hK1, hD1⟩ := hB9
        rw [ht9] at hP1
        obtain ⟨hP, hD⟩ := va_join (wr := []) (w1 := [(y, .inr (1, [.ref b, .int (nI (n + i + 1)), .int (nI p)])), (b, .inl (cB, M, .inl (fun j => sb_b ((va_up (wr B n i (sv u)) (n + i) (((128 : Int32) ||| ((lN (u / 2 ^ (7 * i))).toInt32 &&& 127)).toBitVec.toNat % 256)) j))))]) hP hD [0, 1] [] rfl rfl (by decide) (by decide) hk1 hFc hP1 hD1
        generalize H1 = H at hP hS ⊢
        have hP : va_P D vCl [(y, .inr (1, [.ref b, .int (nI (n + i + 1)), .int (nI p)])), (b, .inl (cB, M, .inl (fun j => sb_b ((va_up (wr B n i (sv u)) (n + i) (((128 : Int32) ||| ((lN (u / 2 ^ (7 * i))).toInt32 &&& 127)).toBitVec.toNat % 256)) j))))] H := hP.sub [0, 1] rfl
        have hD : va_D A [(y, .inr (1, [.ref b, .int (nI (n + i + 1)), .int (nI p)])), (b, .inl (cB, M, .inl (fun j => sb_b ((va_up (wr B n i (sv u)) (n + i) (((128 : Int32) ||| ((lN (u / 2 ^ (7 * i))).toInt32 &&& 127)).toBitVec.toNat % 256)) j))))] := hD.sub [0, 1] (by decide) rfl
        rw [sv_1 hu (by omega), wr_s] at hP hD
        obtain ⟨v35, ev35⟩ : ∃ y : Int32, y = nI i + 1 := ⟨_, rfl⟩
        refine lv_iinc (v := v35) (lv' := [(4, .int v35), (3, .int (nI (sw u - 1))), (0, .ref y), (1, .long (lN u))]) hx hb d_D_addSevens_35 hl (k := 0) rfl (by rw [ev35]; rfl) (by decide) rfl (fun ls hl => ?_)
        have ev35 : v35 = nI (i + 1) := by rw [ev35]; exact nI_1 i
        subst ev35
        refine lv_goto (tgt := 10) hx hb d_D_addSevens_38 (by decide) ?_
        exact ih_loop (i + 1) (by omega) (by omega) _ _ (hP.sub [0, 1] rfl) (hD.sub [0, 1] (by decide) rfl) hS ls (lv_sub hl [0, 1, 2, 3] rfl)
  exact loop (sw u) 0 (by omega) (by omega) _ _ (hP.sub [0, 1] rfl) (hD.sub [0, 1] (by decide) rfl) hS ls (lv_sub hl [0, 1, 2, 3] rfl)
set_option maxHeartbeats 600000 in
set_option maxRecDepth 100000 in
/-- sevensAtPlace -/
theorem c_D_sevensAtPlace (l : Launch) (D : va_G) (cB : ClassId) (y b M : Nat) (B : Nat → Nat) (nv : Int32) (p w : Nat) (hw : w ≤ 10) (ha : p + w ≤ M) (hM : M ≤ 65536) (hB : ∀ j, B j < 256) (h64 : gs B p w < 2 ^ 64) : Met l y_D_sevensAtPlace w_D_sevensAtPlace ({ frames := 1, cells := 0, slots := 0, locals := 21 }) (va_Pc [.ref y, .int (nI w)] (ox D [(cB, .byte)] [(y, .inr (1, [.ref b, .int nv, .int (nI p)])), (b, .inl (cB, M, .inl (fun j => sb_b (B j))))])) (vp_Sl (fun r => r = lN (gs B p w))) 0 0 (fun _ => False) := by
  refine Met.ofW (cc := b_D_sevensAtPlace) (maxL := 5) (ret := (some .long)) (by decide) rfl ?_
  intro p9 e9 s m args below meth c9 s₁ BL hml hv
  obtain ⟨rfl, hP, hK⟩ := hv
  have hx := BL.exec
  have hb := BL.bytes
  have hr := BL.returns
  have hts := atoms_spec (ws := w_D_sevensAtPlace) BL.pre
  have hA : ∀ w ∈ wsA, w.before _ s = true := fun w h => hts w (List.mem_cons_of_mem _ h)
  have hown : s.vm.findClass R_D = some m.cls := findClass_of_methodNamed BL.named
  have hlocks := BL.notSynchronized
  have hP : va_P D vCl [(y, .inr (1, [.ref b, .int nv, .int (nI p)])), (b, .inl (cB, M, .inl (fun j => sb_b (B j))))] s.heap := hP
  have hl := lv_entry ([.ref y, .int (nI w)]) (n := 5) (Nat.le_of_ble_eq_true rfl)
  rw [lg_entry_eq]
  generalize (lg_sl ([.ref y, .int (nI w)]) ++ List.replicate (5 - (lg_sl ([.ref y, .int (nI w)])).length) Slot.unset).toArray = ls at hl ⊢
  have hl : lv_has ls 5 [(0, .ref y), (1, .int (nI w))] := hl
  refine lv_lconst (v := 0) hx hb d_D_sevensAtPlace_0 (by decide) ?_
  refine lv_lstore_n (lv' := [(2, .long 0), (0, .ref y), (1, .int (nI w))]) hx hb d_D_sevensAtPlace_1 rfl hl (by decide) rfl (fun ls hl => ?_)
  refine lv_iconst (v := 0) hx hb d_D_sevensAtPlace_2 (by decide) ?_
  refine lv_istore (lv' := [(4, .int 0), (2, .long 0), (0, .ref y), (1, .int (nI w))]) hx hb d_D_sevensAtPlace_3 hl (by decide) rfl (fun ls hl => ?_)
  have loop : ∀ (q i : Nat), i + q = w + 1 → i ≤ w → ∀ (ls : Array Slot), lv_has ls 5 [(4, .int (nI i)), (2, .long (lN (gs B p i))), (0, .ref y), (1, .int (nI w))] → W p9 l e9 (headSpec w_D_sevensAtPlace ({ frames := 1, cells := 0, slots := 0, locals := 21 })).room s m [.ref y, .int (nI w)].toArray below meth c9 s.heap [] 0 0 (MQ below (vp_Sl (fun r => r = lN (gs B p w))) [.ref y, .int (nI w)].toArray s 0 0 (fun _ => False)) (F0 m 5 ls []) := by
    intro q
    induction q with
    | zero =>
      intro i hq hi ls hl
      exact absurd hq (by omega)
    | succ q ih_loop =>
      intro i hq hi ls hl
      refine lv_iload hx hb d_D_sevensAtPlace_5 (lv_at hl 0 rfl) ?_
      refine lv_iload_n hx hb d_D_sevensAtPlace_7 rfl (lv_at hl 3 rfl) ?_
      refine lv_icmp_ge (tgt := 41) hx hb d_D_sevensAtPlace_8 (by decide) (fun c8 => ?_) (fun c8 => ?_)
      · refine lv_lload_n hx hb d_D_sevensAtPlace_41 rfl (lv_at hl 1 rfl) ?_
        obtain rfl : i = w := by have := (nI_leI (a := w) (b := i) (by omega) (by omega)).mp c8; omega
        exact W.lret (v := lN (gs B p i)) hx hb hr (fun t ht hW => ⟨_, rfl, (rfl), ht⟩) (fun q h => by cases h) d_D_sevensAtPlace_42
      · have hi2 : i < w := by have := mt (nI_leI (a := w) (b := i) (by omega) (by omega)).mpr c8; omega
        refine lv_lload_n hx hb d_D_sevensAtPlace_11 rfl (lv_at hl 1 rfl) ?_
        refine lv_aload_n hx hb d_D_sevensAtPlace_12 rfl (lv_at hl 2 rfl) ?_
        refine lv_aload_n hx hb d_D_sevensAtPlace_13 rfl (lv_at hl 2 rfl) ?_
        refine va_get (D := D) (ci := 1) (v := .int (nI p)) (C := R_R) (T := F_R) (N := 3) hx hb hA i_R hown hK hP 0 rfl rfl 2 (by decide) (hA _ k1_40) (fun _ h9 => h9) rfl d_D_sevensAtPlace_14 ?_
        refine lv_iload hx hb d_D_sevensAtPlace_17 (lv_at hl 0 rfl) ?_
        refine lv_iadd hx hb d_D_sevensAtPlace_19 ?_
        refine lv_topi (fun v19 ev19 => ?_)
        have ev19 : v19 = nI (p + i) := by rw [ev19]; exact nI_add p i
        subst ev19
        have hPc := hP.sub (ws' := [(y, .inr (1, [.ref b, .int nv, .int (nI p)])), (b, .inl (cB, M, .inl (fun j => sb_b (B j))))]) [0, 1] rfl
        have hKc := hK.sub (tys' := [(cB, .byte)]) [0] rfl
        refine vp_callSi (W.runV (As := [.int (nI (p + i))]) (rest := [.long (lN (gs B p i))]) ⟨hx, hb, hml, hown, hA⟩ (c_R_get l D cB y b M B nv (nI p) (p + i) (by omega) hM hB) (q_R_get hA k2_21 rfl rfl ⟨(Nat.le_of_ble_eq_true rfl), (Nat.le_of_ble_eq_true rfl)⟩) (ox_V (va_recv hKc hPc (ci := 1) (q0 := 0) rfl rfl) (ox_S hPc hKc)) rfl rfl hl.1 rfl (lv_room (Nat.le_of_ble_eq_true rfl)) d_D_sevensAtPlace_20 ⟨(Nat.le_of_ble_eq_true rfl), (Nat.le_of_ble_eq_true rfl)⟩) (fun r20 hr20 => ?_)
        have er20 : r20 = nI (B (p + i)) := hr20
        subst er20
        refine lv_bipush (v := 127) hx hb d_D_sevensAtPlace_23 (by decide) ?_
        refine lv_iand hx hb d_D_sevensAtPlace_25 ?_
        refine lv_topi (fun v25 ev25 => ?_)
        have ev25 : v25 = nI (B (p + i) % 128) := by rw [ev25]; exact pk_andN (by have := hB (p + i); omega) 7 (by decide)
        subst ev25
        refine lv_i2l hx hb d_D_sevensAtPlace_26 rfl ?_
        refine lv_topl (fun v26 ev26 => ?_)
        have ev26 : v26 = lN (B (p + i) % 128) := by rw [ev26]; exact nI_l (by omega)
        subst ev26
        refine lv_bipush (v := 7) hx hb d_D_sevensAtPlace_27 (by decide) ?_
        refine lv_iload hx hb d_D_sevensAtPlace_29 (lv_at hl 0 rfl) ?_
        refine lv_imul hx hb d_D_sevensAtPlace_31 ?_
        refine lv_topi (fun v31 ev31 => ?_)
        refine lv_lshl hx hb d_D_sevensAtPlace_32 rfl ?_
        refine lv_topl (fun v32 ev32 => ?_)
        have ev32 : v32 = lN (B (p + i) % 128 * 2 ^ (7 * i)) := by rw [ev32, ev31, sw_7]; exact wb_shl _ (by omega)
        subst ev32
        have hx1 := gs_lt B p i
        have hx2 : gs B p (i + 1) ≤ gs B p w := gs_mono B p (by omega)
        refine lv_lor hx hb d_D_sevensAtPlace_33 ?_
        refine lv_topl (fun v33 ev33 => ?_)
        have ev33 : v33 = lN (gs B p (i + 1)) := by rw [ev33]; exact g_or' (k := 7 * i) rfl hx1 (Nat.lt_of_le_of_lt hx2 h64)
        subst ev33
        refine lv_lstore_n (lv' := [(2, .long (lN (gs B p (i + 1)))), (4, .int (nI i)), (0, .ref y), (1, .int (nI w))]) hx hb d_D_sevensAtPlace_34 rfl hl (by decide) rfl (fun ls hl => ?_)
        obtain ⟨v35, ev35⟩ : ∃ y : Int32, y = nI i + 1 := ⟨_, rfl⟩
        refine lv_iinc (v := v35) (lv' := [(4, .int v35), (2, .long (lN (gs B p (i + 1)))), (0, .ref y), (1, .int (nI w))]) hx hb d_D_sevensAtPlace_35 hl (k := 1) rfl (by rw [ev35]; rfl) (by decide) rfl (fun ls hl => ?_)
        have ev35 : v35 = nI (i + 1) := by rw [ev35]; exact nI_1 i
        subst ev35
        refine lv_goto (tgt := 5) hx hb d_D_sevensAtPlace_38 (by decide) ?_
        exact ih_loop (i + 1) (by omega) (by omega) ls (lv_sub hl [0, 1, 2, 3] rfl)
  exact loop (w + 1) 0 (by omega) (by omega) ls (lv_sub hl [0, 1, 2, 3] rfl)
end
section
/-! THE CLASS: SEVENS READ -/
set_option maxHeartbeats 600000 in
set_option maxRecDepth 100000 in
/-- sevensWidthAtPlace -/
theorem c_D_sevensWidthAtPlace (l : Launch) (hL0 : l.stackTraces = false) (D : va_G) (cB : ClassId) (y b M : Nat) (B : Nat → Nat) (n p : Nat) (hn : n ≤ M) (hp : p ≤ n) (hM : M ≤ 65536) (hB : ∀ j, B j < 256) : tx_Met l y_D_sevensWidthAtPlace w_D_sevensWidthAtPlace ({ frames := 7, cells := 1, slots := 6, locals := 111 }) (va_Pc [.ref y] (oxg D [(cB, .byte)] [(y, .inr (1, [.ref b, .int (nI n), .int (nI p)])), (b, .inl (cB, M, .inl (fun j => sb_b (B j))))])) (tx_Q (fun E => (E = X_NSEE ∧ gw B p n 10 = -3) ∨ (E = X_IAE ∧ gw B p n 10 = -2)) (vp_Si (fun r => ∃ w : Nat, r = nI w ∧ gw B p n 10 = (w : Int)))) 0 0 (fun _ => False) := by
  refine tx_ofW (cc := b_D_sevensWidthAtPlace) (maxL := 3) (ret := (some .int)) (by decide) rfl ?_
  intro p9 e9 s m args below meth c9 s₁ BL hml hce hadm hv
  obtain ⟨rfl, hP, hK, hG⟩ := hv
  have hx := BL.exec
  have hb := BL.bytes
  have hr := BL.returns
  have hts := atoms_spec (ws := w_D_sevensWidthAtPlace) BL.pre
  have hA : ∀ w ∈ wsA, w.before _ s = true := fun w h => hts w (List.mem_cons_of_mem _ h)
  have hown : s.vm.findClass R_D = some m.cls := findClass_of_methodNamed BL.named
  have hlocks := BL.notSynchronized
  have htr : e9.platform.stackTraces = false := by rw [hadm.platform]; exact hL0
  have hP : va_P D vCl [(y, .inr (1, [.ref b, .int (nI n), .int (nI p)])), (b, .inl (cB, M, .inl (fun j => sb_b (B j))))] s.heap := hP
  have hl := lv_entry ([.ref y]) (n := 3) (Nat.le_of_ble_eq_true rfl)
  rw [lg_entry_eq]
  generalize (lg_sl ([.ref y]) ++ List.replicate (3 - (lg_sl ([.ref y])).length) Slot.unset).toArray = ls at hl ⊢
  have hl : lv_has ls 3 [(0, .ref y)] := hl
  refine lv_iconst (v := 0) hx hb d_D_sevensWidthAtPlace_0 (by decide) ?_
  refine lv_istore_n (lv' := [(1, .int 0), (0, .ref y)]) hx hb d_D_sevensWidthAtPlace_1 rfl hl (by decide) rfl (fun ls hl => ?_)
  have loop : ∀ (q i : Nat), i + q = 11 → i ≤ 10 → gw B p n (10 - i) = gw B p n 10 → ∀ (ls : Array Slot), lv_has ls 3 [(1, .int (nI i)), (0, .ref y)] → W p9 l e9 (headSpec w_D_sevensWidthAtPlace ({ frames := 7, cells := 1, slots := 6, locals := 111 })).room s m [.ref y].toArray below meth c9 s.heap [] 0 0 (tx_MQ below (tx_Q (fun E => (E = X_NSEE ∧ gw B p n 10 = -3) ∨ (E = X_IAE ∧ gw B p n 10 = -2)) (vp_Si (fun r => ∃ w : Nat, r = nI w ∧ gw B p n 10 = (w : Int)))) [.ref y].toArray s 0 0 (fun _ => False)) (F0 m 2 ls []) := by
    intro q
    induction q with
    | zero =>
      intro i hq hi hg ls hl
      exact absurd hq (by omega)
    | succ q ih_loop =>
      intro i hq hi hg ls hl
      refine lv_iload_n hx hb d_D_sevensWidthAtPlace_2 rfl (lv_at hl 0 rfl) ?_
      refine lv_bipush (v := 10) hx hb d_D_sevensWidthAtPlace_3 (by decide) ?_
      refine lv_icmp_ge (tgt := 50) hx hb d_D_sevensWidthAtPlace_5 (by decide) (fun c5 => ?_) (fun c5 => ?_)
      · obtain rfl : i = 10 := by have := (nI_leI (a := 10) (b := i) (by omega) (by omega)).mp c5; omega
        exact th_IAE hx hb hml hlocks hce htr hown hA hG hl.1 (Nat.le_of_ble_eq_true rfl) (tx := "sevens of more than ten bytes") (by decide) d_D_sevensWidthAtPlace_50 d_D_sevensWidthAtPlace_53 d_D_sevensWidthAtPlace_54 d_D_sevensWidthAtPlace_56 d_D_sevensWidthAtPlace_59 (Nat.le_of_ble_eq_true rfl) (Nat.le_of_ble_eq_true rfl) (Nat.le_of_ble_eq_true rfl) (Nat.le_of_ble_eq_true rfl) (by exact Or.inr ⟨rfl, hg.symm⟩)
      · have hi2 : i < 10 := by have := mt (nI_leI (a := 10) (b := i) (by omega) (by omega)).mpr c5; omega
        rw [gw_s hi2] at hg
        refine lv_aload_n hx hb d_D_sevensWidthAtPlace_8 rfl (lv_at hl 1 rfl) ?_
        refine lv_iload_n hx hb d_D_sevensWidthAtPlace_9 rfl (lv_at hl 0 rfl) ?_
        refine lv_iconst (v := 1) hx hb d_D_sevensWidthAtPlace_10 (by decide) ?_
        refine lv_iadd hx hb d_D_sevensWidthAtPlace_11 ?_
        refine lv_topi (fun v11 ev11 => ?_)
        have ev11 : v11 = nI (i + 1) := by rw [ev11]; exact nI_1 i
        subst ev11
        have hPc := hP.sub (ws' := [(y, .inr (1, [.ref b, .int (nI n), .int (nI p)])), (b, .inl (cB, M, .inl (fun j => sb_b (B j))))]) [0, 1] rfl
        have hKc := hK.sub (tys' := [(cB, .byte)]) [0] rfl
        refine tx_sv (tx_runS (As := [.ref y, .int (nI (i + 1))]) (rest := []) ⟨hx, hb, hml, hown, hA⟩ (c_D_needLeft l hL0 D cB y b M B n p hn hM hp (i + 1) (by omega)) (q_D_needLeft hA k2_57 rfl rfl ⟨(Nat.le_of_ble_eq_true rfl), (Nat.le_of_ble_eq_true rfl)⟩) (oxg_S hPc hKc hG (fun _ _ => rfl)) rfl rfl hl.1 rfl (lv_room (Nat.le_of_ble_eq_true rfl)) d_D_sevensWidthAtPlace_12 ⟨(Nat.le_of_ble_eq_true rfl), (Nat.le_of_ble_eq_true rfl)⟩) (fun x9 E9 H9 ht9 hE9 => tx_prop hlocks hce hE9 (Nat.le_refl _) (fun _ _ => rfl) (Or.inl ⟨ht9.1, by rw [← hg, if_pos (by have := ht9.2; omega)]⟩) (fun q h => by cases h)) (fun hr12 => ?_)
        rw [if_neg (by omega)] at hg
        refine lv_aload_n hx hb d_D_sevensWidthAtPlace_15 rfl (lv_at hl 1 rfl) ?_
        refine lv_aload_n hx hb d_D_sevensWidthAtPlace_16 rfl (lv_at hl 1 rfl) ?_
        refine va_get (D := D) (ci := 1) (v := .int (nI p)) (C := R_R) (T := F_R) (N := 3) hx hb hA i_R hown hK hP 0 rfl rfl 2 (by decide) (hA _ k1_40) (fun _ h9 => h9) rfl d_D_sevensWidthAtPlace_17 ?_
        refine lv_iload_n hx hb d_D_sevensWidthAtPlace_20 rfl (lv_at hl 0 rfl) ?_
        refine lv_iadd hx hb d_D_sevensWidthAtPlace_21 ?_
        refine lv_topi (fun v21 ev21 => ?_)
        have ev21 : v21 = nI (p + i) := by rw [ev21]; exact nI_add p i
        subst ev21
        have hPc := hP.sub (ws' := [(y, .inr (1, [.ref b, .int (nI n), .int (nI p)])), (b, .inl (cB, M, .inl (fun j => sb_b (B j))))]) [0, 1] rfl
        have hKc := hK.sub (tys' := [(cB, .byte)]) [0] rfl
        refine vp_callSi (W.runV (As := [.int (nI (p + i))]) (rest := []) ⟨hx, hb, hml, hown, hA⟩ (c_R_get l D cB y b M B (nI n) (nI p) (p + i) (by omega) hM hB) (q_R_get hA k2_21 rfl rfl ⟨(Nat.le_of_ble_eq_true rfl), (Nat.le_of_ble_eq_true rfl)⟩) (ox_V (va_recv hKc hPc (ci := 1) (q0 := 0) rfl rfl) (ox_S hPc hKc)) rfl rfl hl.1 rfl (lv_room (Nat.le_of_ble_eq_true rfl)) d_D_sevensWidthAtPlace_22 ⟨(Nat.le_of_ble_eq_true rfl), (Nat.le_of_ble_eq_true rfl)⟩) (fun r22 hr22 => ?_)
        have er22 : r22 = nI (B (p + i)) := hr22
        subst er22
        refine lv_istore_n (lv' := [(2, .int (nI (B (p + i)))), (1, .int (nI i)), (0, .ref y)]) hx hb d_D_sevensWidthAtPlace_25 rfl hl (by decide) rfl (fun ls hl => ?_)
        refine lv_iload_n hx hb d_D_sevensWidthAtPlace_26 rfl (lv_at hl 0 rfl) ?_
        refine lv_sipush (v := 128) hx hb d_D_sevensWidthAtPlace_27 (by decide) ?_
        refine lv_icmp_ge (tgt := 44) hx hb d_D_sevensWidthAtPlace_30 (by decide) (fun c30 => ?_) (fun c30 => ?_)
        · have hb8 : ¬ B (p + i) < 128 := by have := (nI_leI (a := 128) (b := B (p + i)) (by omega) (by have := hB (p + i); omega)).mp c30; omega
          rw [if_neg hb8] at hg
          obtain ⟨v44, ev44⟩ : ∃ y : Int32, y = nI i + 1 := ⟨_, rfl⟩
          refine lv_iinc (v := v44) (lv' := [(1, .int v44), (2, .int (nI (B (p + i)))), (0, .ref y)]) hx hb d_D_sevensWidthAtPlace_44 hl (k := 1) rfl (by rw [ev44]; rfl) (by decide) rfl (fun ls hl => ?_)
          have ev44 : v44 = nI (i + 1) := by rw [ev44]; exact nI_1 i
          subst ev44
          refine lv_goto (tgt := 2) hx hb d_D_sevensWidthAtPlace_47 (by decide) ?_
          exact ih_loop (i + 1) (by omega) (by omega) hg ls (lv_sub hl [0, 2] rfl)
        · have hb8 : B (p + i) < 128 := by have := mt (nI_leI (a := 128) (b := B (p + i)) (by omega) (by have := hB (p + i); omega)).mpr c30; omega
          rw [if_pos hb8] at hg
          refine lv_iload_n hx hb d_D_sevensWidthAtPlace_33 rfl (lv_at hl 0 rfl) ?_
          refine lv_iload_n hx hb d_D_sevensWidthAtPlace_34 rfl (lv_at hl 1 rfl) ?_
          refine lv_iconst (v := 1) hx hb d_D_sevensWidthAtPlace_35 (by decide) ?_
          refine lv_iadd hx hb d_D_sevensWidthAtPlace_36 ?_
          refine lv_topi (fun v36 ev36 => ?_)
          have ev36 : v36 = nI (i + 1) := by rw [ev36]; exact nI_1 i
          subst ev36
          refine tx_sv (tx_runS (As := [.int (nI (B (p + i))), .int (nI (i + 1))]) (rest := []) ⟨hx, hb, hml, hown, hA⟩ (c_D_needRightLast l hL0 (B (p + i)) (i + 1) (hB _) (by omega)) (q_D_needRightLast hA k2_92 rfl rfl ⟨(Nat.le_of_ble_eq_true rfl), (Nat.le_of_ble_eq_true rfl)⟩) (g_S hG (fun _ _ => rfl)) rfl rfl hl.1 rfl (lv_room (Nat.le_of_ble_eq_true rfl)) d_D_sevensWidthAtPlace_37 ⟨(Nat.le_of_ble_eq_true rfl), (Nat.le_of_ble_eq_true rfl)⟩) (fun x9 E9 H9 ht9 hE9 => tx_prop hlocks hce hE9 (Nat.le_refl _) (fun _ _ => rfl) (Or.inr ⟨ht9.1, by rw [← hg, if_pos (by have := ht9.2; omega)]⟩) (fun q h => by cases h)) (fun hr37 => ?_)
          rw [if_neg (by omega)] at hg
          refine lv_iload_n hx hb d_D_sevensWidthAtPlace_40 rfl (lv_at hl 1 rfl) ?_
          refine lv_iconst (v := 1) hx hb d_D_sevensWidthAtPlace_41 (by decide) ?_
          refine lv_iadd hx hb d_D_sevensWidthAtPlace_42 ?_
          refine lv_topi (fun v42 ev42 => ?_)
          have ev42 : v42 = nI (i + 1) := by rw [ev42]; exact nI_1 i
          subst ev42
          exact tx_ret (W.iret (v := nI (i + 1)) hx hb hr (fun t ht hW => Or.inl ⟨_, rfl, ⟨_, rfl, (⟨i + 1, rfl, by rw [← hg]; omega⟩), ht⟩⟩) (fun q h => by cases h) d_D_sevensWidthAtPlace_43)
  exact loop 11 0 (by omega) (by omega) rfl ls (lv_sub hl [0, 1] rfl)
end
section
/-! THE CLASS: SEVENS TAKEN AND WRITTEN -/
theorem hm_neg {g : Nat} (hg : g < 2 ^ 64) : lN g < 0 ↔ 2 ^ 63 ≤ g := by
  have h2 : (lN g).toInt = if 2 * g < 2 ^ 64 then (g : Int) else (g : Int) - 2 ^ 64 := by
    show (lN g).toBitVec.toInt = _
    rw [BitVec.toInt_eq_toNat_cond, wb_tn hg]
    rfl
  rw [Int64.lt_iff_toInt_lt, h2, show (0 : Int64).toInt = 0 from by decide]
  split <;> omega
set_option maxHeartbeats 600000 in
set_option maxRecDepth 100000 in
/-- takeSevens -/
theorem c_D_takeSevens (l : Launch) (hL0 : l.stackTraces = false) (D : va_G) (cB : ClassId) (y b M : Nat) (B : Nat → Nat) (n p sz : Nat) (hn : n ≤ M) (hp : p ≤ n) (hM : M ≤ 65536) (hB : ∀ j, B j < 256) : tx_Met l y_D_takeSevens w_D_takeSevens ({ frames := 8, cells := 1, slots := 6, locals := 133 }) (va_Pc [.ref y] (oxv sz D [(cB, .byte)] [(y, .inr (1, [.ref b, .int (nI n), .int (nI p)])), (b, .inl (cB, M, .inl (fun j => sb_b (B j))))])) (tx_Q (fun E => (E = X_NSEE ∧ gw B p n 10 = -3) ∨ (E = X_IAE ∧ gw B p n 10 = -2)) (va_Ql (fun r (w : Nat) => gw B p n 10 = (w : Int) ∧ r = lN (gs B p w)) (fun w => ow D [(cB, .byte)] (va_A [(y, .inr (1, [.ref b, .int (nI n), .int (nI p)])), (b, .inl (cB, M, .inl (fun j => sb_b (B j))))] sz) [(y, .inr (1, [.ref b, .int (nI n), .int (nI (p + w))])), (b, .inl (cB, M, .inl (fun j => sb_b (B j))))]) (va_A [(y, .inr (1, [.ref b, .int (nI n), .int (nI p)])), (b, .inl (cB, M, .inl (fun j => sb_b (B j))))] sz))) 0 0 (va_A [(y, .inr (1, [.ref b, .int (nI n), .int (nI p)])), (b, .inl (cB, M, .inl (fun j => sb_b (B j))))] sz) := by
  refine tx_ofW (cc := b_D_takeSevens) (maxL := 4) (ret := (some .long)) (by decide) rfl ?_
  intro p9 e9 s m args below meth c9 s₁ BL hml hce hadm hv
  obtain ⟨rfl, hsz, hP, hK, hD0, hG⟩ := hv
  have hx := BL.exec
  have hb := BL.bytes
  have hr := BL.returns
  have hts := atoms_spec (ws := w_D_takeSevens) BL.pre
  have hA : ∀ w ∈ wsA, w.before _ s = true := fun w h => hts w (List.mem_cons_of_mem _ h)
  have hown : s.vm.findClass R_D = some m.cls := findClass_of_methodNamed BL.named
  have hlocks := BL.notSynchronized
  have htr : e9.platform.stackTraces = false := by rw [hadm.platform]; exact hL0
  subst hsz
  have hD := hD0.self (sz := s.heap.size)
  generalize hAe : va_A [(y, .inr (1, [.ref b, .int (nI n), .int (nI p)])), (b, .inl (cB, M, .inl (fun j => sb_b (B j))))] s.heap.size = A at hD ⊢
  have hAq : ∀ q : Nat, s.heap.size ≤ q → A q := fun q h => by rw [← hAe]; exact Or.inr h
  have hS : va_S A s.heap s.heap [] := va_S.rf
  have hP : va_P D vCl [(y, .inr (1, [.ref b, .int (nI n), .int (nI p)])), (b, .inl (cB, M, .inl (fun j => sb_b (B j))))] s.heap := hP
  have hl := lv_entry ([.ref y]) (n := 4) (Nat.le_of_ble_eq_true rfl)
  rw [lg_entry_eq]
  generalize (lg_sl ([.ref y]) ++ List.replicate (4 - (lg_sl ([.ref y])).length) Slot.unset).toArray = ls at hl ⊢
  have hl : lv_has ls 4 [(0, .ref y)] := hl
  refine lv_aload_n hx hb d_D_takeSevens_0 rfl (lv_at hl 0 rfl) ?_
  have hPc := hP.sub (ws' := [(y, .inr (1, [.ref b, .int (nI n), .int (nI p)])), (b, .inl (cB, M, .inl (fun j => sb_b (B j))))]) [0, 1] rfl
  have hKc := hK.sub (tys' := [(cB, .byte)]) [0] rfl
  refine tx_si (tx_runS (As := [.ref y]) (rest := []) ⟨hx, hb, hml, hown, hA⟩ (c_D_sevensWidthAtPlace l hL0 D cB y b M B n p hn hp hM hB) (q_D_sevensWidthAtPlace hA k2_89 rfl rfl ⟨(Nat.le_of_ble_eq_true rfl), (Nat.le_of_ble_eq_true rfl)⟩) (oxg_S hPc hKc hG (fun _ _ => rfl)) rfl rfl hl.1 rfl (lv_room (Nat.le_of_ble_eq_true rfl)) d_D_takeSevens_1 ⟨(Nat.le_of_ble_eq_true rfl), (Nat.le_of_ble_eq_true rfl)⟩) (fun x9 E9 H9 ht9 hE9 => tx_prop hlocks hce hE9 (Nat.le_refl _) (fun _ _ => rfl) (ht9) (fun q h => by cases h)) (fun r1 hr1 => ?_)
  obtain ⟨w, hr1, hgw⟩ := hr1
  obtain ⟨hw1, hw2, hw3, hw4⟩ := gw_ok 10 w (Nat.le_refl _) hgw
  subst hr1
  refine lv_istore_n (lv' := [(1, .int (nI w)), (0, .ref y)]) hx hb d_D_takeSevens_4 rfl hl (by decide) rfl (fun ls hl => ?_)
  refine lv_aload_n hx hb d_D_takeSevens_5 rfl (lv_at hl 1 rfl) ?_
  refine lv_iload_n hx hb d_D_takeSevens_6 rfl (lv_at hl 0 rfl) ?_
  have hPc := hP.sub (ws' := [(y, .inr (1, [.ref b, .int (nI n), .int (nI p)])), (b, .inl (cB, M, .inl (fun j => sb_b (B j))))]) [0, 1] rfl
  have hKc := hK.sub (tys' := [(cB, .byte)]) [0] rfl
  refine vp_callSl (W.runS (As := [.ref y, .int (nI w)]) (rest := []) ⟨hx, hb, hml, hown, hA⟩ (c_D_sevensAtPlace l D cB y b M B (nI n) p w hw2 (by omega) hM hB (gs_64 hw2 hw4)) (q_D_sevensAtPlace hA k2_98 rfl rfl ⟨(Nat.le_of_ble_eq_true rfl), (Nat.le_of_ble_eq_true rfl)⟩) (ox_S hPc hKc) rfl rfl hl.1 rfl (lv_room (Nat.le_of_ble_eq_true rfl)) d_D_takeSevens_7 ⟨(Nat.le_of_ble_eq_true rfl), (Nat.le_of_ble_eq_true rfl)⟩) (fun r7 hr7 => ?_)
  have er7 : r7 = lN (gs B p w) := hr7
  subst er7
  refine lv_lstore_n (lv' := [(2, .long (lN (gs B p w))), (1, .int (nI w)), (0, .ref y)]) hx hb d_D_takeSevens_10 rfl hl (by decide) rfl (fun ls hl => ?_)
  refine lv_aload_n hx hb d_D_takeSevens_11 rfl (lv_at hl 2 rfl) ?_
  refine lv_dup hx hb d_D_takeSevens_12 rfl ?_
  refine va_get (D := D) (ci := 1) (v := .int (nI p)) (C := R_R) (T := F_R) (N := 3) hx hb hA i_R hown hK hP 0 rfl rfl 2 (by decide) (hA _ k1_40) (fun _ h9 => h9) rfl d_D_takeSevens_13 ?_
  refine lv_iload_n hx hb d_D_takeSevens_16 rfl (lv_at hl 1 rfl) ?_
  refine lv_iadd hx hb d_D_takeSevens_17 ?_
  refine lv_topi (fun v17 ev17 => ?_)
  have ev17 : v17 = nI (p + w) := by rw [ev17]; exact nI_add p w
  subst ev17
  refine va_put (D := D) (ci := 1) (v := .int (nI (p + w))) (ty := .int) (C := R_R) (T := F_R) (N := 3) hx hb hA i_R t_R t_R_ok n_R hown hK hP hD hS 0 rfl rfl 2 (by decide) (hA _ k1_40) (fun _ h9 => h9) rfl (by decide +kernel) rfl rfl (Nat.le_of_ble_eq_true rfl) d_D_takeSevens_18 (fun H locs hP hD hS => ?_)
  have hP : va_P D vCl [(y, .inr (1, [.ref b, .int (nI n), .int (nI (p + w))])), (b, .inl (cB, M, .inl (fun j => sb_b (B j))))] H := hP
  have hD : va_D A [(y, .inr (1, [.ref b, .int (nI n), .int (nI (p + w))])), (b, .inl (cB, M, .inl (fun j => sb_b (B j))))] := hD
  refine lv_lload_n hx hb d_D_takeSevens_21 rfl (lv_at hl 0 rfl) ?_
  exact tx_ret (W.lret (v := lN (gs B p w)) hx hb hr (fun t ht hW => Or.inl ⟨_, rfl, ⟨⟨_, w, rfl, ⟨hgw, rfl⟩, by rw [ht]; exact hP, va_K.moved hW.alike hK, hD⟩, hS.F ht⟩⟩) hS.2.2 d_D_takeSevens_22)
set_option maxHeartbeats 600000 in
set_option maxRecDepth 100000 in
/-- writeSevens -/
theorem c_D_writeSevens (l : Launch) (hL0 : l.stackTraces = false) (D : va_G) (cB : ClassId) (y b M : Nat) (B : Nat → Nat) (n p sz u : Nat) (hu : u < 2 ^ 64) (hn : n ≤ M) (hM : M ≤ 65536) : tx_Met l y_D_writeSevens w_D_writeSevens ({ frames := 7, cells := 1, slots := 6, locals := 111 }) (va_Pc [.ref y, .long (lN u)] (oxv sz D [(cB, .byte)] [(y, .inr (1, [.ref b, .int (nI n), .int (nI p)])), (b, .inl (cB, M, .inl (fun j => sb_b (B j))))])) (tx_Q (fun E => E = X_ISE ∧ M < n + sw u) (va_Qi (fun r (_ : Unit) => n + sw u ≤ M ∧ r = nI (sw u)) (fun _ => ow D [(cB, .byte)] (va_A [(y, .inr (1, [.ref b, .int (nI n), .int (nI p)])), (b, .inl (cB, M, .inl (fun j => sb_b (B j))))] sz) [(y, .inr (1, [.ref b, .int (nI (n + sw u)), .int (nI p)])), (b, .inl (cB, M, .inl (fun j => sb_b ((wr B n (sw u) (sv u)) j))))]) (va_A [(y, .inr (1, [.ref b, .int (nI n), .int (nI p)])), (b, .inl (cB, M, .inl (fun j => sb_b (B j))))] sz))) 0 0 (va_A [(y, .inr (1, [.ref b, .int (nI n), .int (nI p)])), (b, .inl (cB, M, .inl (fun j => sb_b (B j))))] sz) := by
  refine tx_ofW (cc := b_D_writeSevens) (maxL := 4) (ret := (some .int)) (by decide) rfl ?_
  intro p9 e9 s m args below meth c9 s₁ BL hml hce hadm hv
  obtain ⟨rfl, hsz, hP, hK, hD0, hG⟩ := hv
  have hx := BL.exec
  have hb := BL.bytes
  have hr := BL.returns
  have hts := atoms_spec (ws := w_D_writeSevens) BL.pre
  have hA : ∀ w ∈ wsA, w.before _ s = true := fun w h => hts w (List.mem_cons_of_mem _ h)
  have hown : s.vm.findClass R_D = some m.cls := findClass_of_methodNamed BL.named
  have hlocks := BL.notSynchronized
  have htr : e9.platform.stackTraces = false := by rw [hadm.platform]; exact hL0
  subst hsz
  have hD := hD0.self (sz := s.heap.size)
  generalize hAe : va_A [(y, .inr (1, [.ref b, .int (nI n), .int (nI p)])), (b, .inl (cB, M, .inl (fun j => sb_b (B j))))] s.heap.size = A at hD ⊢
  have hAq : ∀ q : Nat, s.heap.size ≤ q → A q := fun q h => by rw [← hAe]; exact Or.inr h
  have hS : va_S A s.heap s.heap [] := va_S.rf
  have hP : va_P D vCl [(y, .inr (1, [.ref b, .int (nI n), .int (nI p)])), (b, .inl (cB, M, .inl (fun j => sb_b (B j))))] s.heap := hP
  have hl := lv_entry ([.ref y, .long (lN u)]) (n := 4) (Nat.le_of_ble_eq_true rfl)
  rw [lg_entry_eq]
  generalize (lg_sl ([.ref y, .long (lN u)]) ++ List.replicate (4 - (lg_sl ([.ref y, .long (lN u)])).length) Slot.unset).toArray = ls at hl ⊢
  have hl : lv_has ls 4 [(0, .ref y), (1, .long (lN u))] := hl
  refine lv_lload_n hx hb d_D_writeSevens_0 rfl (lv_at hl 1 rfl) ?_
  refine vp_callSi (W.runS (As := [.long (lN u)]) (rest := []) ⟨hx, hb, hml, hown, hA⟩ (c_D_sevensWidth l u hu) (q_D_sevensWidth hA k1_194 rfl rfl ⟨(Nat.le_of_ble_eq_true rfl), (Nat.le_of_ble_eq_true rfl)⟩) (⟨fun a U g mk q => q, fun U hU hW => ⟨rfl, trivial⟩⟩) rfl rfl hl.1 rfl (lv_room (Nat.le_of_ble_eq_true rfl)) d_D_writeSevens_1 ⟨(Nat.le_of_ble_eq_true rfl), (Nat.le_of_ble_eq_true rfl)⟩) (fun r1 hr1 => ?_)
  have er1 : r1 = nI (sw u) := hr1
  subst er1
  have hsw := sw_in u
  refine lv_istore_n (lv' := [(3, .int (nI (sw u))), (0, .ref y), (1, .long (lN u))]) hx hb d_D_writeSevens_4 rfl hl (by decide) rfl (fun ls hl => ?_)
  refine lv_aload_n hx hb d_D_writeSevens_5 rfl (lv_at hl 1 rfl) ?_
  refine lv_iload_n hx hb d_D_writeSevens_6 rfl (lv_at hl 0 rfl) ?_
  have hPc := hP.sub (ws' := [(y, .inr (1, [.ref b, .int (nI n), .int (nI p)])), (b, .inl (cB, M, .inl (fun j => sb_b (B j))))]) [0, 1] rfl
  have hKc := hK.sub (tys' := [(cB, .byte)]) [0] rfl
  refine tx_sv (tx_runS (As := [.ref y, .int (nI (sw u))]) (rest := []) ⟨hx, hb, hml, hown, hA⟩ (c_D_needRoom l hL0 D cB y b M B n p hn hM (sw u) (by omega)) (q_D_needRoom hA k1_158 rfl rfl ⟨(Nat.le_of_ble_eq_true rfl), (Nat.le_of_ble_eq_true rfl)⟩) (oxg_S hPc hKc hG (fun _ _ => rfl)) rfl rfl hl.1 rfl (lv_room (Nat.le_of_ble_eq_true rfl)) d_D_writeSevens_7 ⟨(Nat.le_of_ble_eq_true rfl), (Nat.le_of_ble_eq_true rfl)⟩) (fun x9 E9 H9 ht9 hE9 => tx_prop hlocks hce hE9 (Nat.le_refl _) (fun _ _ => rfl) (ht9) (fun q h => by cases h)) (fun hr7 => ?_)
  refine lv_aload_n hx hb d_D_writeSevens_10 rfl (lv_at hl 1 rfl) ?_
  refine lv_lload_n hx hb d_D_writeSevens_11 rfl (lv_at hl 2 rfl) ?_
  have hPc := hP.sub (ws' := [(y, .inr (1, [.ref b, .int (nI n), .int (nI p)])), (b, .inl (cB, M, .inl (fun j => sb_b (B j))))]) [0, 1] rfl
  have hDc := hD.sub (ws' := [(y, .inr (1, [.ref b, .int (nI n), .int (nI p)])), (b, .inl (cB, M, .inl (fun j => sb_b (B j))))]) [0, 1] (by decide) rfl
  have hKc := hK.sub (tys' := [(cB, .byte)]) [0] rfl
  have hFc := va_free (wc := [(y, .inr (1, [.ref b, .int (nI n), .int (nI p)])), (b, .inl (cB, M, .inl (fun j => sb_b (B j))))]) hD hS hAq [0, 1] rfl
  refine va_callv (va_runS (As := [.ref y, .long (lN u)]) (rest := []) ⟨hx, hb, hml, hown, hA⟩ (c_D_addSevens l D cB y b M B n p s.heap.size u hu hr7 hM) (q_D_addSevens hA k1_197 rfl rfl ⟨(Nat.le_of_ble_eq_true rfl), (Nat.le_of_ble_eq_true rfl)⟩) (oxw_S hPc hKc hDc) rfl rfl hl.1 rfl (lv_room (Nat.le_of_ble_eq_true rfl)) d_D_writeSevens_12 ⟨(Nat.le_of_ble_eq_true rfl), (Nat.le_of_ble_eq_true rfl)⟩) hS (fun q _ h => hFc q h) hFc (fun u9 t9 H1 locs ht9 hvm9 hw9 hB9 hz1 hk1 hS => ?_)
  obtain ⟨hP1, hK1, hD1⟩ := hB9
  rw [ht9] at hP1
  obtain ⟨hP, hD⟩ := va_join (wr := []) (w1 := [(y, .inr (1, [.ref b, .int (nI (n + sw u)), .int (nI p)])), (b, .inl (cB, M, .inl (fun j => sb_b ((wr B n (sw u) (sv u)) j))))]) hP hD [0, 1] [] rfl rfl (by decide) (by decide) hk1 hFc hP1 hD1
  generalize H1 = H at hP hS ⊢
  have hP : va_P D vCl [(y, .inr (1, [.ref b, .int (nI (n + sw u)), .int (nI p)])), (b, .inl (cB, M, .inl (fun j => sb_b ((wr B n (sw u) (sv u)) j))))] H := hP.sub [0, 1] rfl
  have hD : va_D A [(y, .inr (1, [.ref b, .int (nI (n + sw u)), .int (nI p)])), (b, .inl (cB, M, .inl (fun j => sb_b ((wr B n (sw u) (sv u)) j))))] := hD.sub [0, 1] (by decide) rfl
  refine lv_iload_n hx hb d_D_writeSevens_15 rfl (lv_at hl 0 rfl) ?_
  exact tx_ret (W.iret (v := nI (sw u)) hx hb hr (fun t ht hW => Or.inl ⟨_, rfl, ⟨⟨_, (), rfl, ⟨hr7, rfl⟩, by rw [ht]; exact hP, va_K.moved hW.alike hK, hD⟩, hS.F ht⟩⟩) hS.2.2 d_D_writeSevens_16)
set_option maxHeartbeats 600000 in
set_option maxRecDepth 100000 in
/-- howManyAtPlace -/
theorem c_D_howManyAtPlace (l : Launch) (hL0 : l.stackTraces = false) (D : va_G) (cB : ClassId) (y b M : Nat) (B : Nat → Nat) (nv : Int32) (p w : Nat) (hw : w ≤ 10) (ha : p + w ≤ M) (hM : M ≤ 65536) (hB : ∀ j, B j < 256) (h64 : gs B p w < 2 ^ 64) : tx_Met l y_D_howManyAtPlace w_D_howManyAtPlace ({ frames := 6, cells := 1, slots := 6, locals := 90 }) (va_Pc [.ref y, .int (nI w)] (oxg D [(cB, .byte)] [(y, .inr (1, [.ref b, .int nv, .int (nI p)])), (b, .inl (cB, M, .inl (fun j => sb_b (B j))))])) (tx_Q (fun E => E = X_IAE ∧ 65536 < gs B p w) (vp_Si (fun r => gs B p w ≤ 65536 ∧ r = nI (gs B p w)))) 0 0 (fun _ => False) := by
  refine tx_ofW (cc := b_D_howManyAtPlace) (maxL := 4) (ret := (some .int)) (by decide) rfl ?_
  intro p9 e9 s m args below meth c9 s₁ BL hml hce hadm hv
  obtain ⟨rfl, hP, hK, hG⟩ := hv
  have hx := BL.exec
  have hb := BL.bytes
  have hr := BL.returns
  have hts := atoms_spec (ws := w_D_howManyAtPlace) BL.pre
  have hA : ∀ w ∈ wsA, w.before _ s = true := fun w h => hts w (List.mem_cons_of_mem _ h)
  have hown : s.vm.findClass R_D = some m.cls := findClass_of_methodNamed BL.named
  have hlocks := BL.notSynchronized
  have htr : e9.platform.stackTraces = false := by rw [hadm.platform]; exact hL0
  have hP : va_P D vCl [(y, .inr (1, [.ref b, .int nv, .int (nI p)])), (b, .inl (cB, M, .inl (fun j => sb_b (B j))))] s.heap := hP
  have hl := lv_entry ([.ref y, .int (nI w)]) (n := 4) (Nat.le_of_ble_eq_true rfl)
  rw [lg_entry_eq]
  generalize (lg_sl ([.ref y, .int (nI w)]) ++ List.replicate (4 - (lg_sl ([.ref y, .int (nI w)])).length) Slot.unset).toArray = ls at hl ⊢
  have hl : lv_has ls 4 [(0, .ref y), (1, .int (nI w))] := hl
  refine lv_aload_n hx hb d_D_howManyAtPlace_0 rfl (lv_at hl 0 rfl) ?_
  refine lv_iload_n hx hb d_D_howManyAtPlace_1 rfl (lv_at hl 1 rfl) ?_
  have hPc := hP.sub (ws' := [(y, .inr (1, [.ref b, .int nv, .int (nI p)])), (b, .inl (cB, M, .inl (fun j => sb_b (B j))))]) [0, 1] rfl
  have hKc := hK.sub (tys' := [(cB, .byte)]) [0] rfl
  refine vp_callSl (W.runS (As := [.ref y, .int (nI w)]) (rest := []) ⟨hx, hb, hml, hown, hA⟩ (c_D_sevensAtPlace l D cB y b M B nv p w hw ha hM hB h64) (q_D_sevensAtPlace hA k2_98 rfl rfl ⟨(Nat.le_of_ble_eq_true rfl), (Nat.le_of_ble_eq_true rfl)⟩) (ox_S hPc hKc) rfl rfl hl.1 rfl (lv_room (Nat.le_of_ble_eq_true rfl)) d_D_howManyAtPlace_2 ⟨(Nat.le_of_ble_eq_true rfl), (Nat.le_of_ble_eq_true rfl)⟩) (fun r2 hr2 => ?_)
  have er2 : r2 = lN (gs B p w) := hr2
  subst er2
  refine lv_lstore_n (lv' := [(2, .long (lN (gs B p w))), (0, .ref y), (1, .int (nI w))]) hx hb d_D_howManyAtPlace_5 rfl hl (by decide) rfl (fun ls hl => ?_)
  refine lv_lload_n hx hb d_D_howManyAtPlace_6 rfl (lv_at hl 0 rfl) ?_
  refine lv_lconst (v := 0) hx hb d_D_howManyAtPlace_7 (by decide) ?_
  refine W.lcmp hx hb d_D_howManyAtPlace_8 ?_
  refine lv_topi (fun v8 ev8 => ?_)
  refine lv_if_lt (tgt := 20) hx hb d_D_howManyAtPlace_9 (by decide) (fun c9 => ?_) (fun c9 => ?_)
  · have hbig : 65536 < gs B p w := by
      first
      | (have := (hm_neg h64).mp ((lg_cmp_lt _ _).mp (by rw [← ev8]; exact c9)); omega)
      | (have := mt hle.mpr (fun z => c17 (by rw [ev16]; exact (lg_cmp_le _ _).mpr z)); omega)
    exact th_IAE hx hb hml hlocks hce htr hown hA hG hl.1 (Nat.le_of_ble_eq_true rfl) (tx := "more bytes than a block can have") (by decide) d_D_howManyAtPlace_20 d_D_howManyAtPlace_23 d_D_howManyAtPlace_24 d_D_howManyAtPlace_26 d_D_howManyAtPlace_29 (Nat.le_of_ble_eq_true rfl) (Nat.le_of_ble_eq_true rfl) (Nat.le_of_ble_eq_true rfl) (Nat.le_of_ble_eq_true rfl) (by exact ⟨rfl, hbig⟩)
  · have hs : gs B p w < 2 ^ 63 := by have := mt (hm_neg h64).mpr (fun z => c9 (by rw [ev8]; exact (lg_cmp_lt _ _).mpr z)); omega
    have hle : lN (gs B p w) ≤ 65536 ↔ gs B p w ≤ 65536 := pk_lLE (b := 65536) hs (by decide)
    refine lv_lload_n hx hb d_D_howManyAtPlace_12 rfl (lv_at hl 0 rfl) ?_
    refine lv_ldc2 (v := 65536) hx hb hown (hA _ k2_137) d_D_howManyAtPlace_13 ?_
    refine W.lcmp hx hb d_D_howManyAtPlace_16 ?_
    refine lv_topi (fun v16 ev16 => ?_)
    refine lv_if_le (tgt := 30) hx hb d_D_howManyAtPlace_17 (by decide) (fun c17 => ?_) (fun c17 => ?_)
    · refine lv_lload_n hx hb d_D_howManyAtPlace_30 rfl (lv_at hl 0 rfl) ?_
      refine lv_l2i hx hb d_D_howManyAtPlace_31 rfl ?_
      refine lv_topi (fun v31 ev31 => ?_)
      have ev31 : v31 = nI (gs B p w) := by rw [ev31]; exact lN_i _
      subst ev31
      exact tx_ret (W.iret (v := nI (gs B p w)) hx hb hr (fun t ht hW => Or.inl ⟨_, rfl, ⟨_, rfl, (⟨hle.mp ((lg_cmp_le _ _).mp (by rw [← ev16]; exact c17)), rfl⟩), ht⟩⟩) (fun q h => by cases h) d_D_howManyAtPlace_32)
    · have hbig : 65536 < gs B p w := by
        first
        | (have := (hm_neg h64).mp ((lg_cmp_lt _ _).mp (by rw [← ev8]; exact c9)); omega)
        | (have := mt hle.mpr (fun z => c17 (by rw [ev16]; exact (lg_cmp_le _ _).mpr z)); omega)
      exact th_IAE hx hb hml hlocks hce htr hown hA hG hl.1 (Nat.le_of_ble_eq_true rfl) (tx := "more bytes than a block can have") (by decide) d_D_howManyAtPlace_20 d_D_howManyAtPlace_23 d_D_howManyAtPlace_24 d_D_howManyAtPlace_26 d_D_howManyAtPlace_29 (Nat.le_of_ble_eq_true rfl) (Nat.le_of_ble_eq_true rfl) (Nat.le_of_ble_eq_true rfl) (Nat.le_of_ble_eq_true rfl) (by exact ⟨rfl, hbig⟩)
end
section
/-! THE CLASS: BYTES COPIED, THE SUM -/
theorem cp_wr (Bs Bt : Nat → Nat) {a n k : Nat} (ha : a < 2 ^ 31) (hn : n < 2 ^ 31) (hk : k < 2 ^ 31) : va_cpy (fun j => sb_b (Bs j)) (fun j => sb_b (Bt j)) (nI a).toNatClampNeg (nI n).toNatClampNeg (nI k).toNatClampNeg = fun j => sb_b (wr Bt n k (fun i => Bs (a + i)) j) := by
  rw [nI_clamp ha, nI_clamp hn, nI_clamp hk]
  funext j
  unfold va_cpy wr
  split <;> rfl
def ush1 (s : Int32) : Int32 := (s.toUInt32 >>> ((1 : Int32).toUInt32 &&& Int32.toUInt32 31)).toInt32
def crc1 (s : Int32) : Int32 := if s &&& 1 = 0 then ush1 s else ush1 s ^^^ (-306674912)
def crc8 : Nat → Int32 → Int32
  | 0, s => s
  | k + 1, s => crc1 (crc8 k s)
/-- the sum's state behind k bytes from a on -/
def crcs (B : Nat → Nat) (a : Nat) : Nat → Int32
  | 0 => -1
  | k + 1 => crc8 8 (crcs B a k ^^^ nI (B (a + k)))
theorem crc1_0 {s : Int32} (h : s &&& 1 = 0) : crc1 s = ush1 s := by unfold crc1; rw [if_pos h]
theorem crc1_1 {s : Int32} (h : ¬ s &&& 1 = 0) : crc1 s = ush1 s ^^^ (-306674912) := by unfold crc1; rw [if_neg h]
set_option maxHeartbeats 600000 in
set_option maxRecDepth 100000 in
/-- addBytes, two rows -/
theorem c_D_addBytes2 (l : Launch) (D : va_G) (cB : ClassId) (y b z d M : Nat) (B C : Nat → Nat) (n p n2 p2 sz a k : Nat) (hn : n + k ≤ M) (ha : a + k ≤ M) (hM : M ≤ 65536) : Met l y_D_addBytes w_D_addBytes ({ frames := 1, cells := 0, slots := 0, locals := 70 }) (va_Pc [.ref y, .ref z, .int (nI a), .int (nI k)] (oxw sz D [(cB, .byte)] [(y, .inr (1, [.ref b, .int (nI n), .int (nI p)])), (b, .inl (cB, M, .inl (fun j => sb_b (B j)))), (z, .inr (1, [.ref d, .int (nI n2), .int (nI p2)])), (d, .inl (cB, M, .inl (fun j => sb_b (C j))))])) (va_Qv (fun _ : Unit => True) (fun _ => ow D [(cB, .byte)] (va_A [(y, .inr (1, [.ref b, .int (nI n), .int (nI p)])), (b, .inl (cB, M, .inl (fun j => sb_b (B j)))), (z, .inr (1, [.ref d, .int (nI n2), .int (nI p2)])), (d, .inl (cB, M, .inl (fun j => sb_b (C j))))] sz) [(y, .inr (1, [.ref b, .int (nI (n + k)), .int (nI p)])), (b, .inl (cB, M, .inl (fun j => sb_b ((wr B n k (fun i => C (a + i))) j)))), (z, .inr (1, [.ref d, .int (nI n2), .int (nI p2)])), (d, .inl (cB, M, .inl (fun j => sb_b (C j))))]) (va_A [(y, .inr (1, [.ref b, .int (nI n), .int (nI p)])), (b, .inl (cB, M, .inl (fun j => sb_b (B j)))), (z, .inr (1, [.ref d, .int (nI n2), .int (nI p2)])), (d, .inl (cB, M, .inl (fun j => sb_b (C j))))] sz)) 0 0 (va_A [(y, .inr (1, [.ref b, .int (nI n), .int (nI p)])), (b, .inl (cB, M, .inl (fun j => sb_b (B j)))), (z, .inr (1, [.ref d, .int (nI n2), .int (nI p2)])), (d, .inl (cB, M, .inl (fun j => sb_b (C j))))] sz) := by
  refine Met.ofW (cc := b_D_addBytes) (maxL := 4) (ret := none) (by decide) rfl ?_
  intro p9 e9 s m args below meth c9 s₁ BL hml hv
  obtain ⟨rfl, hsz, hP, hK, hD0⟩ := hv
  have hx := BL.exec
  have hb := BL.bytes
  have hr := BL.returns
  have hts := atoms_spec (ws := w_D_addBytes) BL.pre
  have hA : ∀ w ∈ wsA, w.before _ s = true := fun w h => hts w (List.mem_cons_of_mem _ h)
  have hown : s.vm.findClass R_D = some m.cls := findClass_of_methodNamed BL.named
  have hlocks := BL.notSynchronized
  subst hsz
  have hD := hD0.self (sz := s.heap.size)
  generalize hAe : va_A [(y, .inr (1, [.ref b, .int (nI n), .int (nI p)])), (b, .inl (cB, M, .inl (fun j => sb_b (B j)))), (z, .inr (1, [.ref d, .int (nI n2), .int (nI p2)])), (d, .inl (cB, M, .inl (fun j => sb_b (C j))))] s.heap.size = A at hD ⊢
  have hAq : ∀ q : Nat, s.heap.size ≤ q → A q := fun q h => by rw [← hAe]; exact Or.inr h
  have hS : va_S A s.heap s.heap [] := va_S.rf
  have hP : va_P D vCl [(y, .inr (1, [.ref b, .int (nI n), .int (nI p)])), (b, .inl (cB, M, .inl (fun j => sb_b (B j)))), (z, .inr (1, [.ref d, .int (nI n2), .int (nI p2)])), (d, .inl (cB, M, .inl (fun j => sb_b (C j))))] s.heap := hP
  have hl := lv_entry ([.ref y, .ref z, .int (nI a), .int (nI k)]) (n := 4) (Nat.le_of_ble_eq_true rfl)
  rw [lg_entry_eq]
  generalize (lg_sl ([.ref y, .ref z, .int (nI a), .int (nI k)]) ++ List.replicate (4 - (lg_sl ([.ref y, .ref z, .int (nI a), .int (nI k)])).length) Slot.unset).toArray = ls at hl ⊢
  have hl : lv_has ls 4 [(0, .ref y), (1, .ref z), (2, .int (nI a)), (3, .int (nI k))] := hl
  refine lv_aload_n hx hb d_D_addBytes_0 rfl (lv_at hl 1 rfl) ?_
  refine va_get (D := D) (ci := 1) (v := .ref d) (C := R_R) (T := F_R) (N := 3) hx hb hA i_R hown hK hP 2 rfl rfl 0 (by decide) (hA _ k1_37) (fun _ h9 => h9) rfl d_D_addBytes_1 ?_
  refine lv_iload_n hx hb d_D_addBytes_4 rfl (lv_at hl 2 rfl) ?_
  refine lv_aload_n hx hb d_D_addBytes_5 rfl (lv_at hl 0 rfl) ?_
  refine va_get (D := D) (ci := 1) (v := .ref b) (C := R_R) (T := F_R) (N := 3) hx hb hA i_R hown hK hP 0 rfl rfl 0 (by decide) (hA _ k1_37) (fun _ h9 => h9) rfl d_D_addBytes_6 ?_
  refine lv_aload_n hx hb d_D_addBytes_9 rfl (lv_at hl 0 rfl) ?_
  refine va_get (D := D) (ci := 1) (v := .int (nI n)) (C := R_R) (T := F_R) (N := 3) hx hb hA i_R hown hK hP 0 rfl rfl 1 (by decide) (hA _ k1_38) (fun _ h9 => h9) rfl d_D_addBytes_10 ?_
  refine lv_iload_n hx hb d_D_addBytes_13 rfl (lv_at hl 3 rfl) ?_
  refine va_copyi hx hb (hml.trans hl.1.symm) hown (hA _ k2_1) (hA _ k2_3) (hA _ k2_2) (hA _ k1_11) hK hP hD hS 3 1 0 0 rfl rfl rfl rfl rfl (nI_pos (by omega)) (nI_pos (by omega)) (nI_pos (by omega)) (by rw [nI_clamp (by omega), nI_clamp (by omega)]; omega) (by rw [nI_clamp (by omega), nI_clamp (by omega)]; omega) (fun i _ => sb_fitB _) (Nat.le_of_ble_eq_true rfl) (by decide +kernel) d_D_addBytes_14 (fun H locs hP hD hS => ?_)
  have hP : va_P D vCl [(y, .inr (1, [.ref b, .int (nI n), .int (nI p)])), (b, .inl (cB, M, .inl (va_cpy (fun j => sb_b (C j)) (fun j => sb_b (B j)) (nI a).toNatClampNeg (nI n).toNatClampNeg (nI k).toNatClampNeg))), (z, .inr (1, [.ref d, .int (nI n2), .int (nI p2)])), (d, .inl (cB, M, .inl (fun j => sb_b (C j))))] H := hP
  have hD : va_D A [(y, .inr (1, [.ref b, .int (nI n), .int (nI p)])), (b, .inl (cB, M, .inl (va_cpy (fun j => sb_b (C j)) (fun j => sb_b (B j)) (nI a).toNatClampNeg (nI n).toNatClampNeg (nI k).toNatClampNeg))), (z, .inr (1, [.ref d, .int (nI n2), .int (nI p2)])), (d, .inl (cB, M, .inl (fun j => sb_b (C j))))] := hD
  rw [cp_wr _ _ (by omega) (by omega) (by omega)] at hP hD
  have hP : va_P D vCl [(y, .inr (1, [.ref b, .int (nI n), .int (nI p)])), (b, .inl (cB, M, .inl (fun j => sb_b (wr B n k (fun i => C (a + i)) j)))), (z, .inr (1, [.ref d, .int (nI n2), .int (nI p2)])), (d, .inl (cB, M, .inl (fun j => sb_b (C j))))] H := hP
  have hD : va_D A [(y, .inr (1, [.ref b, .int (nI n), .int (nI p)])), (b, .inl (cB, M, .inl (fun j => sb_b (wr B n k (fun i => C (a + i)) j)))), (z, .inr (1, [.ref d, .int (nI n2), .int (nI p2)])), (d, .inl (cB, M, .inl (fun j => sb_b (C j))))] := hD
  refine lv_aload_n hx hb d_D_addBytes_17 rfl (lv_at hl 0 rfl) ?_
  refine lv_dup hx hb d_D_addBytes_18 rfl ?_
  refine va_get (D := D) (ci := 1) (v := .int (nI n)) (C := R_R) (T := F_R) (N := 3) hx hb hA i_R hown hK hP 0 rfl rfl 1 (by decide) (hA _ k1_38) (fun _ h9 => h9) rfl d_D_addBytes_19 ?_
  refine lv_iload_n hx hb d_D_addBytes_22 rfl (lv_at hl 3 rfl) ?_
  refine lv_iadd hx hb d_D_addBytes_23 ?_
  refine lv_topi (fun v23 ev23 => ?_)
  have ev23 : v23 = nI (n + k) := by rw [ev23]; exact nI_add n k
  subst ev23
  refine va_put (D := D) (ci := 1) (v := .int (nI (n + k))) (ty := .int) (C := R_R) (T := F_R) (N := 3) hx hb hA i_R t_R t_R_ok n_R hown hK hP hD hS 0 rfl rfl 1 (by decide) (hA _ k1_38) (fun _ h9 => h9) rfl (by decide +kernel) rfl rfl (Nat.le_of_ble_eq_true rfl) d_D_addBytes_24 (fun H locs hP hD hS => ?_)
  have hP : va_P D vCl [(y, .inr (1, [.ref b, .int (nI (n + k)), .int (nI p)])), (b, .inl (cB, M, .inl (fun j => sb_b (wr B n k (fun i => C (a + i)) j)))), (z, .inr (1, [.ref d, .int (nI n2), .int (nI p2)])), (d, .inl (cB, M, .inl (fun j => sb_b (C j))))] H := hP
  have hD : va_D A [(y, .inr (1, [.ref b, .int (nI (n + k)), .int (nI p)])), (b, .inl (cB, M, .inl (fun j => sb_b (wr B n k (fun i => C (a + i)) j)))), (z, .inr (1, [.ref d, .int (nI n2), .int (nI p2)])), (d, .inl (cB, M, .inl (fun j => sb_b (C j))))] := hD
  exact W.vret hx hb hr (fun t ht hW => ⟨⟨(), rfl, trivial, by rw [ht]; exact hP, va_K.moved hW.alike hK, hD⟩, hS.F ht⟩) hS.2.2 d_D_addBytes_27
set_option maxHeartbeats 600000 in
set_option maxRecDepth 100000 in
/-- addBytes, one row -/
theorem c_D_addBytes1 (l : Launch) (D : va_G) (cB : ClassId) (y b M : Nat) (B : Nat → Nat) (n p sz a k : Nat) (hn : n + k ≤ M) (ha : a + k ≤ M) (hM : M ≤ 65536) : Met l y_D_addBytes w_D_addBytes ({ frames := 1, cells := 0, slots := 0, locals := 70 }) (va_Pc [.ref y, .ref y, .int (nI a), .int (nI k)] (oxw sz D [(cB, .byte)] [(y, .inr (1, [.ref b, .int (nI n), .int (nI p)])), (b, .inl (cB, M, .inl (fun j => sb_b (B j))))])) (va_Qv (fun _ : Unit => True) (fun _ => ow D [(cB, .byte)] (va_A [(y, .inr (1, [.ref b, .int (nI n), .int (nI p)])), (b, .inl (cB, M, .inl (fun j => sb_b (B j))))] sz) [(y, .inr (1, [.ref b, .int (nI (n + k)), .int (nI p)])), (b, .inl (cB, M, .inl (fun j => sb_b ((wr B n k (fun i => B (a + i))) j))))]) (va_A [(y, .inr (1, [.ref b, .int (nI n), .int (nI p)])), (b, .inl (cB, M, .inl (fun j => sb_b (B j))))] sz)) 0 0 (va_A [(y, .inr (1, [.ref b, .int (nI n), .int (nI p)])), (b, .inl (cB, M, .inl (fun j => sb_b (B j))))] sz) := by
  refine Met.ofW (cc := b_D_addBytes) (maxL := 4) (ret := none) (by decide) rfl ?_
  intro p9 e9 s m args below meth c9 s₁ BL hml hv
  obtain ⟨rfl, hsz, hP, hK, hD0⟩ := hv
  have hx := BL.exec
  have hb := BL.bytes
  have hr := BL.returns
  have hts := atoms_spec (ws := w_D_addBytes) BL.pre
  have hA : ∀ w ∈ wsA, w.before _ s = true := fun w h => hts w (List.mem_cons_of_mem _ h)
  have hown : s.vm.findClass R_D = some m.cls := findClass_of_methodNamed BL.named
  have hlocks := BL.notSynchronized
  subst hsz
  have hD := hD0.self (sz := s.heap.size)
  generalize hAe : va_A [(y, .inr (1, [.ref b, .int (nI n), .int (nI p)])), (b, .inl (cB, M, .inl (fun j => sb_b (B j))))] s.heap.size = A at hD ⊢
  have hAq : ∀ q : Nat, s.heap.size ≤ q → A q := fun q h => by rw [← hAe]; exact Or.inr h
  have hS : va_S A s.heap s.heap [] := va_S.rf
  have hP : va_P D vCl [(y, .inr (1, [.ref b, .int (nI n), .int (nI p)])), (b, .inl (cB, M, .inl (fun j => sb_b (B j))))] s.heap := hP
  have hl := lv_entry ([.ref y, .ref y, .int (nI a), .int (nI k)]) (n := 4) (Nat.le_of_ble_eq_true rfl)
  rw [lg_entry_eq]
  generalize (lg_sl ([.ref y, .ref y, .int (nI a), .int (nI k)]) ++ List.replicate (4 - (lg_sl ([.ref y, .ref y, .int (nI a), .int (nI k)])).length) Slot.unset).toArray = ls at hl ⊢
  have hl : lv_has ls 4 [(0, .ref y), (1, .ref y), (2, .int (nI a)), (3, .int (nI k))] := hl
  refine lv_aload_n hx hb d_D_addBytes_0 rfl (lv_at hl 1 rfl) ?_
  refine va_get (D := D) (ci := 1) (v := .ref b) (C := R_R) (T := F_R) (N := 3) hx hb hA i_R hown hK hP 0 rfl rfl 0 (by decide) (hA _ k1_37) (fun _ h9 => h9) rfl d_D_addBytes_1 ?_
  refine lv_iload_n hx hb d_D_addBytes_4 rfl (lv_at hl 2 rfl) ?_
  refine lv_aload_n hx hb d_D_addBytes_5 rfl (lv_at hl 0 rfl) ?_
  refine va_get (D := D) (ci := 1) (v := .ref b) (C := R_R) (T := F_R) (N := 3) hx hb hA i_R hown hK hP 0 rfl rfl 0 (by decide) (hA _ k1_37) (fun _ h9 => h9) rfl d_D_addBytes_6 ?_
  refine lv_aload_n hx hb d_D_addBytes_9 rfl (lv_at hl 0 rfl) ?_
  refine va_get (D := D) (ci := 1) (v := .int (nI n)) (C := R_R) (T := F_R) (N := 3) hx hb hA i_R hown hK hP 0 rfl rfl 1 (by decide) (hA _ k1_38) (fun _ h9 => h9) rfl d_D_addBytes_10 ?_
  refine lv_iload_n hx hb d_D_addBytes_13 rfl (lv_at hl 3 rfl) ?_
  refine va_copyi hx hb (hml.trans hl.1.symm) hown (hA _ k2_1) (hA _ k2_3) (hA _ k2_2) (hA _ k1_11) hK hP hD hS 1 1 0 0 rfl rfl rfl rfl rfl (nI_pos (by omega)) (nI_pos (by omega)) (nI_pos (by omega)) (by rw [nI_clamp (by omega), nI_clamp (by omega)]; omega) (by rw [nI_clamp (by omega), nI_clamp (by omega)]; omega) (fun i _ => sb_fitB _) (Nat.le_of_ble_eq_true rfl) (by decide +kernel) d_D_addBytes_14 (fun H locs hP hD hS => ?_)
  have hP : va_P D vCl [(y, .inr (1, [.ref b, .int (nI n), .int (nI p)])), (b, .inl (cB, M, .inl (va_cpy (fun j => sb_b (B j)) (fun j => sb_b (B j)) (nI a).toNatClampNeg (nI n).toNatClampNeg (nI k).toNatClampNeg)))] H := hP
  have hD : va_D A [(y, .inr (1, [.ref b, .int (nI n), .int (nI p)])), (b, .inl (cB, M, .inl (va_cpy (fun j => sb_b (B j)) (fun j => sb_b (B j)) (nI a).toNatClampNeg (nI n).toNatClampNeg (nI k).toNatClampNeg)))] := hD
  rw [cp_wr _ _ (by omega) (by omega) (by omega)] at hP hD
  have hP : va_P D vCl [(y, .inr (1, [.ref b, .int (nI n), .int (nI p)])), (b, .inl (cB, M, .inl (fun j => sb_b (wr B n k (fun i => B (a + i)) j))))] H := hP
  have hD : va_D A [(y, .inr (1, [.ref b, .int (nI n), .int (nI p)])), (b, .inl (cB, M, .inl (fun j => sb_b (wr B n k (fun i => B (a + i)) j))))] := hD
  refine lv_aload_n hx hb d_D_addBytes_17 rfl (lv_at hl 0 rfl) ?_
  refine lv_dup hx hb d_D_addBytes_18 rfl ?_
  refine va_get (D := D) (ci := 1) (v := .int (nI n)) (C := R_R) (T := F_R) (N := 3) hx hb hA i_R hown hK hP 0 rfl rfl 1 (by decide) (hA _ k1_38) (fun _ h9 => h9) rfl d_D_addBytes_19 ?_
  refine lv_iload_n hx hb d_D_addBytes_22 rfl (lv_at hl 3 rfl) ?_
  refine lv_iadd hx hb d_D_addBytes_23 ?_
  refine lv_topi (fun v23 ev23 => ?_)
  have ev23 : v23 = nI (n + k) := by rw [ev23]; exact nI_add n k
  subst ev23
  refine va_put (D := D) (ci := 1) (v := .int (nI (n + k))) (ty := .int) (C := R_R) (T := F_R) (N := 3) hx hb hA i_R t_R t_R_ok n_R hown hK hP hD hS 0 rfl rfl 1 (by decide) (hA _ k1_38) (fun _ h9 => h9) rfl (by decide +kernel) rfl rfl (Nat.le_of_ble_eq_true rfl) d_D_addBytes_24 (fun H locs hP hD hS => ?_)
  have hP : va_P D vCl [(y, .inr (1, [.ref b, .int (nI (n + k)), .int (nI p)])), (b, .inl (cB, M, .inl (fun j => sb_b (wr B n k (fun i => B (a + i)) j))))] H := hP
  have hD : va_D A [(y, .inr (1, [.ref b, .int (nI (n + k)), .int (nI p)])), (b, .inl (cB, M, .inl (fun j => sb_b (wr B n k (fun i => B (a + i)) j))))] := hD
  exact W.vret hx hb hr (fun t ht hW => ⟨⟨(), rfl, trivial, by rw [ht]; exact hP, va_K.moved hW.alike hK, hD⟩, hS.F ht⟩) hS.2.2 d_D_addBytes_27
set_option maxHeartbeats 600000 in
set_option maxRecDepth 100000 in
/-- moveBytes -/
theorem c_D_moveBytes (l : Launch) (D : va_G) (cB : ClassId) (y b z d M : Nat) (B C : Nat → Nat) (n p n2 p2 sz a k : Nat) (ha : a + k ≤ M) (hM : M ≤ 65536) : Met l y_D_moveBytes w_D_moveBytes ({ frames := 1, cells := 0, slots := 0, locals := 70 }) (va_Pc [.ref y, .int (nI a), .int (nI k), .ref z] (oxw sz D [(cB, .byte)] [(y, .inr (1, [.ref b, .int (nI n), .int (nI p)])), (b, .inl (cB, M, .inl (fun j => sb_b (B j)))), (z, .inr (1, [.ref d, .int (nI n2), .int (nI p2)])), (d, .inl (cB, M, .inl (fun j => sb_b (C j))))])) (va_Qv (fun _ : Unit => True) (fun _ => ow D [(cB, .byte)] (va_A [(y, .inr (1, [.ref b, .int (nI n), .int (nI p)])), (b, .inl (cB, M, .inl (fun j => sb_b (B j)))), (z, .inr (1, [.ref d, .int (nI n2), .int (nI p2)])), (d, .inl (cB, M, .inl (fun j => sb_b (C j))))] sz) [(y, .inr (1, [.ref b, .int (nI n), .int (nI (a + k))])), (b, .inl (cB, M, .inl (fun j => sb_b (B j)))), (z, .inr (1, [.ref d, .int (nI k), .int (nI 0)])), (d, .inl (cB, M, .inl (fun j => sb_b ((wr C 0 k (fun i => B (a + i))) j))))]) (va_A [(y, .inr (1, [.ref b, .int (nI n), .int (nI p)])), (b, .inl (cB, M, .inl (fun j => sb_b (B j)))), (z, .inr (1, [.ref d, .int (nI n2), .int (nI p2)])), (d, .inl (cB, M, .inl (fun j => sb_b (C j))))] sz)) 0 0 (va_A [(y, .inr (1, [.ref b, .int (nI n), .int (nI p)])), (b, .inl (cB, M, .inl (fun j => sb_b (B j)))), (z, .inr (1, [.ref d, .int (nI n2), .int (nI p2)])), (d, .inl (cB, M, .inl (fun j => sb_b (C j))))] sz) := by
  refine Met.ofW (cc := b_D_moveBytes) (maxL := 4) (ret := none) (by decide) rfl ?_
  intro p9 e9 s m args below meth c9 s₁ BL hml hv
  obtain ⟨rfl, hsz, hP, hK, hD0⟩ := hv
  have hx := BL.exec
  have hb := BL.bytes
  have hr := BL.returns
  have hts := atoms_spec (ws := w_D_moveBytes) BL.pre
  have hA : ∀ w ∈ wsA, w.before _ s = true := fun w h => hts w (List.mem_cons_of_mem _ h)
  have hown : s.vm.findClass R_D = some m.cls := findClass_of_methodNamed BL.named
  have hlocks := BL.notSynchronized
  subst hsz
  have hD := hD0.self (sz := s.heap.size)
  generalize hAe : va_A [(y, .inr (1, [.ref b, .int (nI n), .int (nI p)])), (b, .inl (cB, M, .inl (fun j => sb_b (B j)))), (z, .inr (1, [.ref d, .int (nI n2), .int (nI p2)])), (d, .inl (cB, M, .inl (fun j => sb_b (C j))))] s.heap.size = A at hD ⊢
  have hAq : ∀ q : Nat, s.heap.size ≤ q → A q := fun q h => by rw [← hAe]; exact Or.inr h
  have hS : va_S A s.heap s.heap [] := va_S.rf
  have hP : va_P D vCl [(y, .inr (1, [.ref b, .int (nI n), .int (nI p)])), (b, .inl (cB, M, .inl (fun j => sb_b (B j)))), (z, .inr (1, [.ref d, .int (nI n2), .int (nI p2)])), (d, .inl (cB, M, .inl (fun j => sb_b (C j))))] s.heap := hP
  have hl := lv_entry ([.ref y, .int (nI a), .int (nI k), .ref z]) (n := 4) (Nat.le_of_ble_eq_true rfl)
  rw [lg_entry_eq]
  generalize (lg_sl ([.ref y, .int (nI a), .int (nI k), .ref z]) ++ List.replicate (4 - (lg_sl ([.ref y, .int (nI a), .int (nI k), .ref z])).length) Slot.unset).toArray = ls at hl ⊢
  have hl : lv_has ls 4 [(0, .ref y), (1, .int (nI a)), (2, .int (nI k)), (3, .ref z)] := hl
  refine lv_aload_n hx hb d_D_moveBytes_0 rfl (lv_at hl 0 rfl) ?_
  refine va_get (D := D) (ci := 1) (v := .ref b) (C := R_R) (T := F_R) (N := 3) hx hb hA i_R hown hK hP 0 rfl rfl 0 (by decide) (hA _ k1_37) (fun _ h9 => h9) rfl d_D_moveBytes_1 ?_
  refine lv_iload_n hx hb d_D_moveBytes_4 rfl (lv_at hl 1 rfl) ?_
  refine lv_aload_n hx hb d_D_moveBytes_5 rfl (lv_at hl 3 rfl) ?_
  refine va_get (D := D) (ci := 1) (v := .ref d) (C := R_R) (T := F_R) (N := 3) hx hb hA i_R hown hK hP 2 rfl rfl 0 (by decide) (hA _ k1_37) (fun _ h9 => h9) rfl d_D_moveBytes_6 ?_
  refine lv_iconst (v := 0) hx hb d_D_moveBytes_9 (by decide) ?_
  refine lv_topi (fun v9 ev9 => ?_)
  have ev9 : v9 = nI 0 := by rw [ev9]; rfl
  subst ev9
  refine lv_iload_n hx hb d_D_moveBytes_10 rfl (lv_at hl 2 rfl) ?_
  refine va_copyi hx hb (hml.trans hl.1.symm) hown (hA _ k2_1) (hA _ k2_3) (hA _ k2_2) (hA _ k1_11) hK hP hD hS 1 3 0 0 rfl rfl rfl rfl rfl (nI_pos (by omega)) (nI_pos (by omega)) (nI_pos (by omega)) (by rw [nI_clamp (by omega), nI_clamp (by omega)]; omega) (by rw [nI_clamp (by omega), nI_clamp (by omega)]; omega) (fun i _ => sb_fitB _) (Nat.le_of_ble_eq_true rfl) (by decide +kernel) d_D_moveBytes_11 (fun H locs hP hD hS => ?_)
  have hP : va_P D vCl [(y, .inr (1, [.ref b, .int (nI n), .int (nI p)])), (b, .inl (cB, M, .inl (fun j => sb_b (B j)))), (z, .inr (1, [.ref d, .int (nI n2), .int (nI p2)])), (d, .inl (cB, M, .inl (va_cpy (fun j => sb_b (B j)) (fun j => sb_b (C j)) (nI a).toNatClampNeg (nI 0).toNatClampNeg (nI k).toNatClampNeg)))] H := hP
  have hD : va_D A [(y, .inr (1, [.ref b, .int (nI n), .int (nI p)])), (b, .inl (cB, M, .inl (fun j => sb_b (B j)))), (z, .inr (1, [.ref d, .int (nI n2), .int (nI p2)])), (d, .inl (cB, M, .inl (va_cpy (fun j => sb_b (B j)) (fun j => sb_b (C j)) (nI a).toNatClampNeg (nI 0).toNatClampNeg (nI k).toNatClampNeg)))] := hD
  rw [cp_wr _ _ (by omega) (by omega) (by omega)] at hP hD
  have hP : va_P D vCl [(y, .inr (1, [.ref b, .int (nI n), .int (nI p)])), (b, .inl (cB, M, .inl (fun j => sb_b (B j)))), (z, .inr (1, [.ref d, .int (nI n2), .int (nI p2)])), (d, .inl (cB, M, .inl (fun j => sb_b (wr C 0 k (fun i => B (a + i)) j))))] H := hP
  have hD : va_D A [(y, .inr (1, [.ref b, .int (nI n), .int (nI p)])), (b, .inl (cB, M, .inl (fun j => sb_b (B j)))), (z, .inr (1, [.ref d, .int (nI n2), .int (nI p2)])), (d, .inl (cB, M, .inl (fun j => sb_b (wr C 0 k (fun i => B (a + i)) j))))] := hD
  refine lv_aload_n hx hb d_D_moveBytes_14 rfl (lv_at hl 3 rfl) ?_
  refine lv_iload_n hx hb d_D_moveBytes_15 rfl (lv_at hl 2 rfl) ?_
  refine va_put (D := D) (ci := 1) (v := .int (nI k)) (ty := .int) (C := R_R) (T := F_R) (N := 3) hx hb hA i_R t_R t_R_ok n_R hown hK hP hD hS 2 rfl rfl 1 (by decide) (hA _ k1_38) (fun _ h9 => h9) rfl (by decide +kernel) rfl rfl (Nat.le_of_ble_eq_true rfl) d_D_moveBytes_16 (fun H locs hP hD hS => ?_)
  have hP : va_P D vCl [(y, .inr (1, [.ref b, .int (nI n), .int (nI p)])), (b, .inl (cB, M, .inl (fun j => sb_b (B j)))), (z, .inr (1, [.ref d, .int (nI k), .int (nI p2)])), (d, .inl (cB, M, .inl (fun j => sb_b (wr C 0 k (fun i => B (a + i)) j))))] H := hP
  have hD : va_D A [(y, .inr (1, [.ref b, .int (nI n), .int (nI p)])), (b, .inl (cB, M, .inl (fun j => sb_b (B j)))), (z, .inr (1, [.ref d, .int (nI k), .int (nI p2)])), (d, .inl (cB, M, .inl (fun j => sb_b (wr C 0 k (fun i => B (a + i)) j))))] := hD
  refine lv_aload_n hx hb d_D_moveBytes_19 rfl (lv_at hl 3 rfl) ?_
  refine lv_iconst (v := 0) hx hb d_D_moveBytes_20 (by decide) ?_
  refine va_put (D := D) (ci := 1) (v := .int 0) (ty := .int) (C := R_R) (T := F_R) (N := 3) hx hb hA i_R t_R t_R_ok n_R hown hK hP hD hS 2 rfl rfl 2 (by decide) (hA _ k1_40) (fun _ h9 => h9) rfl (by decide +kernel) rfl rfl (Nat.le_of_ble_eq_true rfl) d_D_moveBytes_21 (fun H locs hP hD hS => ?_)
  have hP : va_P D vCl [(y, .inr (1, [.ref b, .int (nI n), .int (nI p)])), (b, .inl (cB, M, .inl (fun j => sb_b (B j)))), (z, .inr (1, [.ref d, .int (nI k), .int 0])), (d, .inl (cB, M, .inl (fun j => sb_b (wr C 0 k (fun i => B (a + i)) j))))] H := hP
  have hD : va_D A [(y, .inr (1, [.ref b, .int (nI n), .int (nI p)])), (b, .inl (cB, M, .inl (fun j => sb_b (B j)))), (z, .inr (1, [.ref d, .int (nI k), .int 0])), (d, .inl (cB, M, .inl (fun j => sb_b (wr C 0 k (fun i => B (a + i)) j))))] := hD
  refine lv_aload_n hx hb d_D_moveBytes_24 rfl (lv_at hl 0 rfl) ?_
  refine lv_iload_n hx hb d_D_moveBytes_25 rfl (lv_at hl 1 rfl) ?_
  refine lv_iload_n hx hb d_D_moveBytes_26 rfl (lv_at hl 2 rfl) ?_
  refine lv_iadd hx hb d_D_moveBytes_27 ?_
  refine lv_topi (fun v27 ev27 => ?_)
  have ev27 : v27 = nI (a + k) := by rw [ev27]; exact nI_add a k
  subst ev27
  refine va_put (D := D) (ci := 1) (v := .int (nI (a + k))) (ty := .int) (C := R_R) (T := F_R) (N := 3) hx hb hA i_R t_R t_R_ok n_R hown hK hP hD hS 0 rfl rfl 2 (by decide) (hA _ k1_40) (fun _ h9 => h9) rfl (by decide +kernel) rfl rfl (Nat.le_of_ble_eq_true rfl) d_D_moveBytes_28 (fun H locs hP hD hS => ?_)
  have hP : va_P D vCl [(y, .inr (1, [.ref b, .int (nI n), .int (nI (a + k))])), (b, .inl (cB, M, .inl (fun j => sb_b (B j)))), (z, .inr (1, [.ref d, .int (nI k), .int 0])), (d, .inl (cB, M, .inl (fun j => sb_b (wr C 0 k (fun i => B (a + i)) j))))] H := hP
  have hD : va_D A [(y, .inr (1, [.ref b, .int (nI n), .int (nI (a + k))])), (b, .inl (cB, M, .inl (fun j => sb_b (B j)))), (z, .inr (1, [.ref d, .int (nI k), .int 0])), (d, .inl (cB, M, .inl (fun j => sb_b (wr C 0 k (fun i => B (a + i)) j))))] := hD
  exact W.vret hx hb hr (fun t ht hW => ⟨⟨(), rfl, trivial, by rw [ht]; exact hP, va_K.moved hW.alike hK, hD⟩, hS.F ht⟩) hS.2.2 d_D_moveBytes_31
set_option maxHeartbeats 600000 in
set_option maxRecDepth 100000 in
/-- sumOf -/
theorem c_D_sumOf (l : Launch) (D : va_G) (cB : ClassId) (y b M : Nat) (B : Nat → Nat) (nv pv : Int32) (a k : Nat) (ha : a + k ≤ M) (hM : M ≤ 65536) (hB : ∀ j, B j < 256) : Met l y_D_sumOf w_D_sumOf ({ frames := 1, cells := 0, slots := 0, locals := 21 }) (va_Pc [.ref y, .int (nI a), .int (nI k)] (ox D [(cB, .byte)] [(y, .inr (1, [.ref b, .int nv, .int pv])), (b, .inl (cB, M, .inl (fun j => sb_b (B j))))])) (vp_Si (fun r => r = crcs B a k ^^^ (-1))) 0 0 (fun _ => False) := by
  refine Met.ofW (cc := b_D_sumOf) (maxL := 6) (ret := (some .int)) (by decide) rfl ?_
  intro p9 e9 s m args below meth c9 s₁ BL hml hv
  obtain ⟨rfl, hP, hK⟩ := hv
  have hx := BL.exec
  have hb := BL.bytes
  have hr := BL.returns
  have hts := atoms_spec (ws := w_D_sumOf) BL.pre
  have hA : ∀ w ∈ wsA, w.before _ s = true := fun w h => hts w (List.mem_cons_of_mem _ h)
  have hown : s.vm.findClass R_D = some m.cls := findClass_of_methodNamed BL.named
  have hlocks := BL.notSynchronized
  have hP : va_P D vCl [(y, .inr (1, [.ref b, .int nv, .int pv])), (b, .inl (cB, M, .inl (fun j => sb_b (B j))))] s.heap := hP
  have hl := lv_entry ([.ref y, .int (nI a), .int (nI k)]) (n := 6) (Nat.le_of_ble_eq_true rfl)
  rw [lg_entry_eq]
  generalize (lg_sl ([.ref y, .int (nI a), .int (nI k)]) ++ List.replicate (6 - (lg_sl ([.ref y, .int (nI a), .int (nI k)])).length) Slot.unset).toArray = ls at hl ⊢
  have hl : lv_has ls 6 [(0, .ref y), (1, .int (nI a)), (2, .int (nI k))] := hl
  refine lv_iconst (v := (-1)) hx hb d_D_sumOf_0 (by decide) ?_
  refine lv_istore_n (lv' := [(3, .int (-1)), (0, .ref y), (1, .int (nI a)), (2, .int (nI k))]) hx hb d_D_sumOf_1 rfl hl (by decide) rfl (fun ls hl => ?_)
  refine lv_iconst (v := 0) hx hb d_D_sumOf_2 (by decide) ?_
  refine lv_istore (lv' := [(4, .int 0), (3, .int (-1)), (0, .ref y), (1, .int (nI a)), (2, .int (nI k))]) hx hb d_D_sumOf_3 hl (by decide) rfl (fun ls hl => ?_)
  have loop : ∀ (q i : Nat), i + q = k + 1 → i ≤ k → ∀ (ls : Array Slot), lv_has ls 6 [(4, .int (nI i)), (3, .int (crcs B a i)), (0, .ref y), (1, .int (nI a)), (2, .int (nI k))] → W p9 l e9 (headSpec w_D_sumOf ({ frames := 1, cells := 0, slots := 0, locals := 21 })).room s m [.ref y, .int (nI a), .int (nI k)].toArray below meth c9 s.heap [] 0 0 (MQ below (vp_Si (fun r => r = crcs B a k ^^^ (-1))) [.ref y, .int (nI a), .int (nI k)].toArray s 0 0 (fun _ => False)) (F0 m 5 ls []) := by
    intro q
    induction q with
    | zero =>
      intro i hq hi ls hl
      exact absurd hq (by omega)
    | succ q ih_loop =>
      intro i hq hi ls hl
      refine lv_iload hx hb d_D_sumOf_5 (lv_at hl 0 rfl) ?_
      refine lv_iload_n hx hb d_D_sumOf_7 rfl (lv_at hl 4 rfl) ?_
      refine lv_icmp_ge (tgt := 63) hx hb d_D_sumOf_8 (by decide) (fun c8 => ?_) (fun c8 => ?_)
      · obtain rfl : i = k := by have := (nI_leI (a := k) (b := i) (by omega) (by omega)).mp c8; omega
        refine lv_iload_n hx hb d_D_sumOf_63 rfl (lv_at hl 1 rfl) ?_
        refine lv_iconst (v := (-1)) hx hb d_D_sumOf_64 (by decide) ?_
        refine lv_ixor hx hb d_D_sumOf_65 ?_
        refine lv_topi (fun v65 ev65 => ?_)
        exact W.iret (v := v65) hx hb hr (fun t ht hW => ⟨_, rfl, (ev65), ht⟩) (fun q h => by cases h) d_D_sumOf_66
      · have hi2 : i < k := by have := mt (nI_leI (a := k) (b := i) (by omega) (by omega)).mpr c8; omega
        refine lv_iload_n hx hb d_D_sumOf_11 rfl (lv_at hl 1 rfl) ?_
        refine lv_aload_n hx hb d_D_sumOf_12 rfl (lv_at hl 2 rfl) ?_
        refine lv_iload_n hx hb d_D_sumOf_13 rfl (lv_at hl 3 rfl) ?_
        refine lv_iload hx hb d_D_sumOf_14 (lv_at hl 0 rfl) ?_
        refine lv_iadd hx hb d_D_sumOf_16 ?_
        refine lv_topi (fun v16 ev16 => ?_)
        have ev16 : v16 = nI (a + i) := by rw [ev16]; exact nI_add a i
        subst ev16
        have hPc := hP.sub (ws' := [(y, .inr (1, [.ref b, .int nv, .int pv])), (b, .inl (cB, M, .inl (fun j => sb_b (B j))))]) [0, 1] rfl
        have hKc := hK.sub (tys' := [(cB, .byte)]) [0] rfl
        refine vp_callSi (W.runV (As := [.int (nI (a + i))]) (rest := [.int (crcs B a i)]) ⟨hx, hb, hml, hown, hA⟩ (c_R_get l D cB y b M B nv pv (a + i) (by omega) hM hB) (q_R_get hA k2_21 rfl rfl ⟨(Nat.le_of_ble_eq_true rfl), (Nat.le_of_ble_eq_true rfl)⟩) (ox_V (va_recv hKc hPc (ci := 1) (q0 := 0) rfl rfl) (ox_S hPc hKc)) rfl rfl hl.1 rfl (lv_room (Nat.le_of_ble_eq_true rfl)) d_D_sumOf_17 ⟨(Nat.le_of_ble_eq_true rfl), (Nat.le_of_ble_eq_true rfl)⟩) (fun r17 hr17 => ?_)
        have er17 : r17 = nI (B (a + i)) := hr17
        subst er17
        refine lv_ixor hx hb d_D_sumOf_20 ?_
        refine lv_topi (fun v20 ev20 => ?_)
        subst ev20
        refine lv_istore_n (lv' := [(3, .int (crcs B a i ^^^ nI (B (a + i)))), (4, .int (nI i)), (0, .ref y), (1, .int (nI a)), (2, .int (nI k))]) hx hb d_D_sumOf_21 rfl hl (by decide) rfl (fun ls hl => ?_)
        refine lv_iconst (v := 0) hx hb d_D_sumOf_22 (by decide) ?_
        refine lv_istore (lv' := [(5, .int 0), (3, .int (crcs B a i ^^^ nI (B (a + i)))), (4, .int (nI i)), (0, .ref y), (1, .int (nI a)), (2, .int (nI k))]) hx hb d_D_sumOf_23 hl (by decide) rfl (fun ls hl => ?_)
        have loop2 : ∀ (q2 t : Nat), t + q2 = 9 → t ≤ 8 → ∀ (ls : Array Slot), lv_has ls 6 [(5, .int (nI t)), (3, .int (crc8 t (crcs B a i ^^^ nI (B (a + i))))), (0, .ref y), (1, .int (nI a)), (2, .int (nI k)), (4, .int (nI i))] → W p9 l e9 (headSpec w_D_sumOf ({ frames := 1, cells := 0, slots := 0, locals := 21 })).room s m [.ref y, .int (nI a), .int (nI k)].toArray below meth c9 s.heap [] 0 0 (MQ below (vp_Si (fun r => r = crcs B a k ^^^ (-1))) [.ref y, .int (nI a), .int (nI k)].toArray s 0 0 (fun _ => False)) (F0 m 25 ls []) := by
          intro q2
          induction q2 with
          | zero =>
            intro t hq2 ht ls hl
            exact absurd hq2 (by omega)
          | succ q2 ih_loop2 =>
            intro t hq2 ht ls hl
            refine lv_iload hx hb d_D_sumOf_25 (lv_at hl 0 rfl) ?_
            refine lv_bipush (v := 8) hx hb d_D_sumOf_27 (by decide) ?_
            refine lv_icmp_ge (tgt := 57) hx hb d_D_sumOf_29 (by decide) (fun c29 => ?_) (fun c29 => ?_)
            · obtain rfl : t = 8 := by have := (nI_leI (a := 8) (b := t) (by omega) (by omega)).mp c29; omega
              obtain ⟨v57, ev57⟩ : ∃ y : Int32, y = nI i + 1 := ⟨_, rfl⟩
              refine lv_iinc (v := v57) (lv' := [(4, .int v57), (5, .int (nI 8)), (3, .int (crc8 8 (crcs B a i ^^^ nI (B (a + i))))), (0, .ref y), (1, .int (nI a)), (2, .int (nI k))]) hx hb d_D_sumOf_57 hl (k := 5) rfl (by rw [ev57]; rfl) (by decide) rfl (fun ls hl => ?_)
              have ev57 : v57 = nI (i + 1) := by rw [ev57]; exact nI_1 i
              subst ev57
              refine lv_goto (tgt := 5) hx hb d_D_sumOf_60 (by decide) ?_
              exact ih_loop (i + 1) (by omega) (by omega) ls (lv_sub hl [0, 2, 3, 4, 5] rfl)
            · have ht2 : t < 8 := by have := mt (nI_leI (a := 8) (b := t) (by omega) (by omega)).mpr c29; omega
              refine lv_iload_n hx hb d_D_sumOf_32 rfl (lv_at hl 1 rfl) ?_
              refine lv_iconst (v := 1) hx hb d_D_sumOf_33 (by decide) ?_
              refine lv_iand hx hb d_D_sumOf_34 ?_
              refine lv_topi (fun v34 ev34 => ?_)
              refine lv_if_eq (tgt := 47) hx hb d_D_sumOf_35 (by decide) (fun c35 => ?_) (fun c35 => ?_)
              · refine lv_iload_n hx hb d_D_sumOf_47 rfl (lv_at hl 1 rfl) ?_
                refine lv_iconst (v := 1) hx hb d_D_sumOf_48 (by decide) ?_
                refine lv_iushr hx hb d_D_sumOf_49 rfl ?_
                refine lv_topi (fun v49 ev49 => ?_)
                have ev49 : v49 = crc8 (t + 1) (crcs B a i ^^^ nI (B (a + i))) := by rw [ev49]; exact (crc1_0 (by rw [← ev34]; exact c35)).symm
                subst ev49
                refine lv_istore_n (lv' := [(3, .int (crc8 (t + 1) (crcs B a i ^^^ nI (B (a + i))))), (5, .int (nI t)), (0, .ref y), (1, .int (nI a)), (2, .int (nI k)), (4, .int (nI i))]) hx hb d_D_sumOf_50 rfl hl (by decide) rfl (fun ls hl => ?_)
                obtain ⟨v51, ev51⟩ : ∃ y : Int32, y = nI t + 1 := ⟨_, rfl⟩
                refine lv_iinc (v := v51) (lv' := [(5, .int v51), (3, .int (crc8 (t + 1) (crcs B a i ^^^ nI (B (a + i))))), (0, .ref y), (1, .int (nI a)), (2, .int (nI k)), (4, .int (nI i))]) hx hb d_D_sumOf_51 hl (k := 1) rfl (by rw [ev51]; rfl) (by decide) rfl (fun ls hl => ?_)
                have ev51 : v51 = nI (t + 1) := by rw [ev51]; exact nI_1 t
                subst ev51
                refine lv_goto (tgt := 25) hx hb d_D_sumOf_54 (by decide) ?_
                exact ih_loop2 (t + 1) (by omega) (by omega) ls (lv_sub hl [0, 1, 2, 3, 4, 5] rfl)
              · refine lv_iload_n hx hb d_D_sumOf_38 rfl (lv_at hl 1 rfl) ?_
                refine lv_iconst (v := 1) hx hb d_D_sumOf_39 (by decide) ?_
                refine lv_iushr hx hb d_D_sumOf_40 rfl ?_
                refine lv_topi (fun v40 ev40 => ?_)
                refine lv_ldc (v := (-306674912)) hx hb hown (hA _ k2_25) d_D_sumOf_41 ?_
                refine lv_ixor hx hb d_D_sumOf_43 ?_
                refine lv_topi (fun v43 ev43 => ?_)
                refine lv_goto (tgt := 50) hx hb d_D_sumOf_44 (by decide) ?_
                have ev43 : v43 = crc8 (t + 1) (crcs B a i ^^^ nI (B (a + i))) := by rw [ev43, ev40]; exact (crc1_1 (by rw [← ev34]; exact c35)).symm
                subst ev43
                refine lv_istore_n (lv' := [(3, .int (crc8 (t + 1) (crcs B a i ^^^ nI (B (a + i))))), (5, .int (nI t)), (0, .ref y), (1, .int (nI a)), (2, .int (nI k)), (4, .int (nI i))]) hx hb d_D_sumOf_50 rfl hl (by decide) rfl (fun ls hl => ?_)
                obtain ⟨v51, ev51⟩ : ∃ y : Int32, y = nI t + 1 := ⟨_, rfl⟩
                refine lv_iinc (v := v51) (lv' := [(5, .int v51), (3, .int (crc8 (t + 1) (crcs B a i ^^^ nI (B (a + i))))), (0, .ref y), (1, .int (nI a)), (2, .int (nI k)), (4, .int (nI i))]) hx hb d_D_sumOf_51 hl (k := 1) rfl (by rw [ev51]; rfl) (by decide) rfl (fun ls hl => ?_)
                have ev51 : v51 = nI (t + 1) := by rw [ev51]; exact nI_1 t
                subst ev51
                refine lv_goto (tgt := 25) hx hb d_D_sumOf_54 (by decide) ?_
                exact ih_loop2 (t + 1) (by omega) (by omega) ls (lv_sub hl [0, 1, 2, 3, 4, 5] rfl)
        exact loop2 9 0 (by omega) (by omega) ls (lv_sub hl [0, 1, 3, 4, 5, 2] rfl)
  exact loop (k + 1) 0 (by omega) (by omega) ls (lv_sub hl [0, 1, 2, 3, 4] rfl)
end
section
/-! THE CLASS: LETTERS -/
theorem s_u : ∀ n, n < 32 → (((nI n).toUInt32 &&& Int32.toUInt32 31).toBitVec % 32).toNat = n := by decide +kernel
theorem us_n {z k : Nat} (hz : z < 2 ^ 31) (hk : k < 32) : ((nI z).toUInt32 >>> ((nI k).toUInt32 &&& Int32.toUInt32 31)).toInt32 = nI (z / 2 ^ k) := pk_ushrN (by omega) _ k (s_u k hk)
theorem or_192 : ∀ t, t < 32 → nI 192 ||| nI t = nI (192 + t) := by decide +kernel
theorem or_224 : ∀ t, t < 16 → nI 224 ||| nI t = nI (224 + t) := by decide +kernel
theorem or_240 : ∀ t, t < 8 → nI 240 ||| nI t = nI (240 + t) := by decide +kernel
theorem or_0 : ∀ t, t < 128 → nI 0 ||| nI t = nI (0 + t) := by decide +kernel
theorem or128i : ∀ z, z < 64 → (128 : Int32) ||| nI z = nI (128 + z) := by decide +kernel
/-- z can be a letter of w bytes -/
def lz (w z : Nat) : Prop := (w = 1 ∧ z < 128) ∨ (w = 2 ∧ z < 2048) ∨ (w = 3 ∧ z < 65536) ∨ (w = 4 ∧ z < 2097152)
/-- a letter's bytes -/
def ltb (z w i : Nat) : Nat := if i = 0 then fmN w + z / 2 ^ (6 * (w - 1)) else 128 + z / 2 ^ (6 * (w - 1 - i)) % 64
theorem ltb_0 {w z : Nat} (h : lz w z) : (nI (fmN w) ||| nI (z / 2 ^ (6 * (w - 1)))).toBitVec.toNat % 256 = ltb z w 0 := by
  unfold ltb
  rw [if_pos rfl]
  rcases h with ⟨rfl, h⟩ | ⟨rfl, h⟩ | ⟨rfl, h⟩ | ⟨rfl, h⟩
  · rw [show fmN 1 = 0 from rfl, or_0 _ (by simp only [Nat.reduceSub, Nat.reduceMul, Nat.reducePow]; omega), pk_tn (by simp only [Nat.reduceSub, Nat.reduceMul, Nat.reducePow]; omega)]
    simp only [Nat.reduceSub, Nat.reduceMul, Nat.reducePow]; omega
  · rw [show fmN 2 = 192 from rfl, or_192 _ (by simp only [Nat.reduceSub, Nat.reduceMul, Nat.reducePow]; omega), pk_tn (by simp only [Nat.reduceSub, Nat.reduceMul, Nat.reducePow]; omega)]
    simp only [Nat.reduceSub, Nat.reduceMul, Nat.reducePow]; omega
  · rw [show fmN 3 = 224 from rfl, or_224 _ (by simp only [Nat.reduceSub, Nat.reduceMul, Nat.reducePow]; omega), pk_tn (by simp only [Nat.reduceSub, Nat.reduceMul, Nat.reducePow]; omega)]
    simp only [Nat.reduceSub, Nat.reduceMul, Nat.reducePow]; omega
  · rw [show fmN 4 = 240 from rfl, or_240 _ (by simp only [Nat.reduceSub, Nat.reduceMul, Nat.reducePow]; omega), pk_tn (by simp only [Nat.reduceSub, Nat.reduceMul, Nat.reducePow]; omega)]
    simp only [Nat.reduceSub, Nat.reduceMul, Nat.reducePow]; omega
theorem ltb_i {w z i : Nat} (hi : 0 < i) : ((128 : Int32) ||| nI (z / 2 ^ (6 * (w - 1 - i)) % 64)).toBitVec.toNat % 256 = ltb z w i := by
  have h := Nat.mod_lt (z / 2 ^ (6 * (w - 1 - i))) (show 64 > 0 by decide)
  unfold ltb
  rw [if_neg (by omega), or128i _ h, pk_tn (by omega)]
  omega
theorem ltb_lt {z w : Nat} (h : lz w z) (i : Nat) : ltb z w i < 256 := by
  have h2 := Nat.mod_lt (z / 2 ^ (6 * (w - 1 - i))) (show 64 > 0 by decide)
  unfold ltb
  split
  · have := ltb_0 h
    unfold ltb at this
    rw [if_pos rfl] at this
    rw [← this]
    exact Nat.mod_lt _ (by decide)
  · omega
/-- a letter read at a, before e: the letter; -1: wrong, -2: it ends -/
def la (B : Nat → Nat) (a e : Nat) : Int :=
  if e ≤ a then -2 else if B a < 128 then ((B a : Nat) : Int) else if B a < 194 ∨ 244 < B a then -1 else if e ≤ a + 1 then -2 else if B (a + 1) < 128 ∨ 191 < B (a + 1) then -1 else
  if B a < 224 then (((B a - 192) * 64 + (B (a + 1) - 128) : Nat) : Int) else
  if B a < 240 then (if (B a - 224) * 64 + (B (a + 1) - 128) < 32 ∨ (864 ≤ (B a - 224) * 64 + (B (a + 1) - 128) ∧ (B a - 224) * 64 + (B (a + 1) - 128) ≤ 895) then -1 else if e ≤ a + 2 then -2 else if B (a + 2) < 128 ∨ 191 < B (a + 2) then -1 else ((((B a - 224) * 64 + (B (a + 1) - 128)) * 64 + (B (a + 2) - 128) : Nat) : Int))
  else (if (B a - 240) * 64 + (B (a + 1) - 128) < 16 ∨ 271 < (B a - 240) * 64 + (B (a + 1) - 128) then -1 else if e ≤ a + 2 then -2 else if B (a + 2) < 128 ∨ 191 < B (a + 2) then -1 else if e ≤ a + 3 then -2 else if B (a + 3) < 128 ∨ 191 < B (a + 3) then -1 else (((((B a - 240) * 64 + (B (a + 1) - 128)) * 64 + (B (a + 2) - 128)) * 64 + (B (a + 3) - 128) : Nat) : Int))
theorem la_e0 {B : Nat → Nat} {a e : Nat} (h : e ≤ a) : la B a e = -2 := by unfold la; rw [if_pos h]
theorem la_1 {B : Nat → Nat} {a e : Nat} (h : a < e) (h1 : B a < 128) : la B a e = ((B a : Nat) : Int) := by unfold la; rw [if_neg (by omega), if_pos h1]
theorem la_b0 {B : Nat → Nat} {a e : Nat} (h : a < e) (h1 : ¬ B a < 128) (h2 : B a < 194 ∨ 244 < B a) : la B a e = -1 := by unfold la; rw [if_neg (by omega), if_neg h1, if_pos h2]
theorem la_e1 {B : Nat → Nat} {a e : Nat} (h : a < e) (h1 : 194 ≤ B a) (h2 : B a ≤ 244) (h3 : e ≤ a + 1) : la B a e = -2 := by unfold la; rw [if_neg (by omega), if_neg (by omega), if_neg (by omega), if_pos h3]
theorem la_b1 {B : Nat → Nat} {a e : Nat} (h1 : 194 ≤ B a) (h2 : B a ≤ 244) (h3 : a + 1 < e) (h4 : B (a + 1) < 128 ∨ 191 < B (a + 1)) : la B a e = -1 := by unfold la; rw [if_neg (by omega), if_neg (by omega), if_neg (by omega), if_neg (by omega), if_pos h4]
theorem la_2 {B : Nat → Nat} {a e : Nat} (h1 : 194 ≤ B a) (h2 : B a < 224) (h3 : a + 1 < e) (h4 : 128 ≤ B (a + 1)) (h5 : B (a + 1) ≤ 191) : la B a e = (((B a - 192) * 64 + (B (a + 1) - 128) : Nat) : Int) := by unfold la; rw [if_neg (by omega), if_neg (by omega), if_neg (by omega), if_neg (by omega), if_neg (by omega), if_pos h2]
theorem la_3 {B : Nat → Nat} {a e : Nat} (h1 : 224 ≤ B a) (h2 : B a < 240) (h3 : a + 1 < e) (h4 : 128 ≤ B (a + 1)) (h5 : B (a + 1) ≤ 191) : la B a e = (if (B a - 224) * 64 + (B (a + 1) - 128) < 32 ∨ (864 ≤ (B a - 224) * 64 + (B (a + 1) - 128) ∧ (B a - 224) * 64 + (B (a + 1) - 128) ≤ 895) then -1 else if e ≤ a + 2 then -2 else if B (a + 2) < 128 ∨ 191 < B (a + 2) then -1 else ((((B a - 224) * 64 + (B (a + 1) - 128)) * 64 + (B (a + 2) - 128) : Nat) : Int)) := by unfold la; rw [if_neg (by omega), if_neg (by omega), if_neg (by omega), if_neg (by omega), if_neg (by omega), if_neg (by omega), if_pos h2]
theorem la_4 {B : Nat → Nat} {a e : Nat} (h1 : 240 ≤ B a) (h2 : B a ≤ 244) (h3 : a + 1 < e) (h4 : 128 ≤ B (a + 1)) (h5 : B (a + 1) ≤ 191) : la B a e = (if (B a - 240) * 64 + (B (a + 1) - 128) < 16 ∨ 271 < (B a - 240) * 64 + (B (a + 1) - 128) then -1 else if e ≤ a + 2 then -2 else if B (a + 2) < 128 ∨ 191 < B (a + 2) then -1 else if e ≤ a + 3 then -2 else if B (a + 3) < 128 ∨ 191 < B (a + 3) then -1 else (((((B a - 240) * 64 + (B (a + 1) - 128)) * 64 + (B (a + 2) - 128)) * 64 + (B (a + 3) - 128) : Nat) : Int)) := by unfold la; rw [if_neg (by omega), if_neg (by omega), if_neg (by omega), if_neg (by omega), if_neg (by omega), if_neg (by omega), if_neg (by omega)]
theorem or64 {q t : Nat} (ht : t < 64) (hq : q * 64 + t < 2 ^ 32) : nI (q * 64) ||| nI t = nI (q * 64 + t) := by
  apply Int32.toBitVec_inj.mp
  rw [Int32.toBitVec_or]
  show BitVec.ofNat 32 (q * 64) ||| BitVec.ofNat 32 t = BitVec.ofNat 32 (q * 64 + t)
  apply BitVec.eq_of_toNat_eq
  rw [BitVec.toNat_or, BitVec.toNat_ofNat, BitVec.toNat_ofNat, BitVec.toNat_ofNat, Nat.mod_eq_of_lt (by omega), Nat.mod_eq_of_lt (by omega), Nat.mod_eq_of_lt hq]
  have h := Nat.shiftLeft_add_eq_or_of_lt (i := 6) (b := t) (by omega) q
  rw [Nat.shiftLeft_eq] at h
  exact h.symm
theorem s_l : ∀ n, n < 32 → ((nI n &&& 31).toBitVec.smod 32).toNat = n := by decide +kernel
theorem sh_n {n k : Nat} (hk : k < 32) (h : n * 2 ^ k < 2 ^ 32) : nI n <<< (nI k &&& 31) = nI (n * 2 ^ k) := pk_shlN _ k (s_l k hk) h
theorem lwI_le (z : Int) : lwI z ≤ 4 := by unfold lwI; (repeat' split) <;> omega
theorem lwI_1 (z : Nat) : lwI (z : Int) = 1 ↔ z < 128 := by unfold lwI; (repeat' split) <;> omega
theorem lwI_2 (z : Nat) : lwI (z : Int) = 2 ↔ 128 ≤ z ∧ z < 2048 := by unfold lwI; (repeat' split) <;> omega
theorem lwI_3 (z : Nat) : lwI (z : Int) = 3 ↔ 2048 ≤ z ∧ z < 65536 ∧ (z < 55296 ∨ 57343 < z) := by unfold lwI; (repeat' split) <;> omega
theorem lwI_4 (z : Nat) : lwI (z : Int) = 4 ↔ 65536 ≤ z ∧ z ≤ 1114111 := by unfold lwI; (repeat' split) <;> omega
set_option maxHeartbeats 600000 in
set_option maxRecDepth 100000 in
/-- addLetter -/
theorem c_D_addLetter (l : Launch) (D : va_G) (cB : ClassId) (y b M : Nat) (B : Nat → Nat) (n p sz w z : Nat) (hz : lz w z) (hn : n + w ≤ M) (hM : M ≤ 65536) : Met l y_D_addLetter w_D_addLetter ({ frames := 1, cells := 0, slots := 0, locals := 21 }) (va_Pc [.ref y, .int (nI z), .int (nI w)] (oxw sz D [(cB, .byte)] [(y, .inr (1, [.ref b, .int (nI n), .int (nI p)])), (b, .inl (cB, M, .inl (fun j => sb_b (B j))))])) (va_Qv (fun _ : Unit => True) (fun _ => ow D [(cB, .byte)] (va_A [(y, .inr (1, [.ref b, .int (nI n), .int (nI p)])), (b, .inl (cB, M, .inl (fun j => sb_b (B j))))] sz) [(y, .inr (1, [.ref b, .int (nI (n + w)), .int (nI p)])), (b, .inl (cB, M, .inl (fun j => sb_b ((wr B n w (ltb z w)) j))))]) (va_A [(y, .inr (1, [.ref b, .int (nI n), .int (nI p)])), (b, .inl (cB, M, .inl (fun j => sb_b (B j))))] sz)) 0 0 (va_A [(y, .inr (1, [.ref b, .int (nI n), .int (nI p)])), (b, .inl (cB, M, .inl (fun j => sb_b (B j))))] sz) := by
  refine Met.ofW (cc := b_D_addLetter) (maxL := 5) (ret := none) (by decide) rfl ?_
  intro p9 e9 s m args below meth c9 s₁ BL hml hv
  obtain ⟨rfl, hsz, hP, hK, hD0⟩ := hv
  have hx := BL.exec
  have hb := BL.bytes
  have hr := BL.returns
  have hts := atoms_spec (ws := w_D_addLetter) BL.pre
  have hA : ∀ w ∈ wsA, w.before _ s = true := fun w h => hts w (List.mem_cons_of_mem _ h)
  have hown : s.vm.findClass R_D = some m.cls := findClass_of_methodNamed BL.named
  have hlocks := BL.notSynchronized
  subst hsz
  have hD := hD0.self (sz := s.heap.size)
  generalize hAe : va_A [(y, .inr (1, [.ref b, .int (nI n), .int (nI p)])), (b, .inl (cB, M, .inl (fun j => sb_b (B j))))] s.heap.size = A at hD ⊢
  have hAq : ∀ q : Nat, s.heap.size ≤ q → A q := fun q h => by rw [← hAe]; exact Or.inr h
  have hS : va_S A s.heap s.heap [] := va_S.rf
  have hP : va_P D vCl [(y, .inr (1, [.ref b, .int (nI n), .int (nI p)])), (b, .inl (cB, M, .inl (fun j => sb_b (B j))))] s.heap := hP
  have hl := lv_entry ([.ref y, .int (nI z), .int (nI w)]) (n := 5) (Nat.le_of_ble_eq_true rfl)
  rw [lg_entry_eq]
  generalize (lg_sl ([.ref y, .int (nI z), .int (nI w)]) ++ List.replicate (5 - (lg_sl ([.ref y, .int (nI z), .int (nI w)])).length) Slot.unset).toArray = ls at hl ⊢
  have hl : lv_has ls 5 [(0, .ref y), (1, .int (nI z)), (2, .int (nI w))] := hl
  have hw : 1 ≤ w ∧ w ≤ 4 ∧ z < 2097152 := by unfold lz at hz; omega
  refine lv_bipush (v := 6) hx hb d_D_addLetter_0 (by decide) ?_
  refine lv_iload_n hx hb d_D_addLetter_2 rfl (lv_at hl 2 rfl) ?_
  refine lv_iconst (v := 1) hx hb d_D_addLetter_3 (by decide) ?_
  refine lv_isub hx hb d_D_addLetter_4 ?_
  refine lv_topi (fun v4 ev4 => ?_)
  have ev4 : v4 = nI (w - 1) := by rw [ev4]; exact pk_sub (a := w) (b := 1) hw.1
  subst ev4
  refine lv_imul hx hb d_D_addLetter_5 ?_
  refine lv_topi (fun v5 ev5 => ?_)
  have ev5 : v5 = nI (6 * (w - 1)) := by rw [ev5]; exact sw_6 _
  subst ev5
  refine lv_istore_n (lv' := [(3, .int (nI (6 * (w - 1)))), (0, .ref y), (1, .int (nI z)), (2, .int (nI w))]) hx hb d_D_addLetter_6 rfl hl (by decide) rfl (fun ls hl => ?_)
  refine lv_aload_n hx hb d_D_addLetter_7 rfl (lv_at hl 1 rfl) ?_
  refine lv_iload_n hx hb d_D_addLetter_8 rfl (lv_at hl 3 rfl) ?_
  refine vp_callSi (W.runS (As := [.int (nI w)]) (rest := [.ref y]) ⟨hx, hb, hml, hown, hA⟩ (c_D_firstMark l w hw.2.1) (q_D_firstMark hA k1_224 rfl rfl ⟨(Nat.le_of_ble_eq_true rfl), (Nat.le_of_ble_eq_true rfl)⟩) (⟨fun a U g mk q => q, fun U hU hW => ⟨rfl, trivial⟩⟩) rfl rfl hl.1 rfl (lv_room (Nat.le_of_ble_eq_true rfl)) d_D_addLetter_9 ⟨(Nat.le_of_ble_eq_true rfl), (Nat.le_of_ble_eq_true rfl)⟩) (fun r9 hr9 => ?_)
  have er9 : r9 = nI (fmN w) := hr9
  subst er9
  refine lv_iload_n hx hb d_D_addLetter_12 rfl (lv_at hl 2 rfl) ?_
  refine lv_iload_n hx hb d_D_addLetter_13 rfl (lv_at hl 0 rfl) ?_
  refine lv_iushr hx hb d_D_addLetter_14 rfl ?_
  refine lv_topi (fun v14 ev14 => ?_)
  have ev14 : v14 = nI (z / 2 ^ (6 * (w - 1))) := by rw [ev14]; exact us_n (by omega) (by omega)
  subst ev14
  refine lv_ior hx hb d_D_addLetter_15 ?_
  refine lv_topi (fun v15 ev15 => ?_)
  subst ev15
  rw [show (fun j => sb_b (B j)) = (fun j => sb_b (wr B n 0 (ltb z w) j)) from by rw [wr_0]] at hP hD
  have hP : va_P D vCl [(y, .inr (1, [.ref b, .int (nI n), .int (nI p)])), (b, .inl (cB, M, .inl (fun j => sb_b ((wr B n 0 (ltb z w)) j))))] s.heap := hP
  have hD : va_D A [(y, .inr (1, [.ref b, .int (nI n), .int (nI p)])), (b, .inl (cB, M, .inl (fun j => sb_b ((wr B n 0 (ltb z w)) j))))] := hD
  have hPc := hP.sub (ws' := [(y, .inr (1, [.ref b, .int (nI n), .int (nI p)])), (b, .inl (cB, M, .inl (fun j => sb_b ((wr B n 0 (ltb z w)) j))))]) [0, 1] rfl
  have hDc := hD.sub (ws' := [(y, .inr (1, [.ref b, .int (nI n), .int (nI p)])), (b, .inl (cB, M, .inl (fun j => sb_b ((wr B n 0 (ltb z w)) j))))]) [0, 1] (by decide) rfl
  have hKc := hK.sub (tys' := [(cB, .byte)]) [0] rfl
  have hFc := va_free (wc := [(y, .inr (1, [.ref b, .int (nI n), .int (nI p)])), (b, .inl (cB, M, .inl (fun j => sb_b ((wr B n 0 (ltb z w)) j))))]) hD hS hAq [0, 1] rfl
  refine va_callv (va_runV (As := [.int (nI (fmN w) ||| nI (z / 2 ^ (6 * (w - 1))))]) (rest := []) ⟨hx, hb, hml, hown, hA⟩ (c_R_add l D cB y b M (wr B n 0 (ltb z w)) n p s.heap.size (nI (fmN w) ||| nI (z / 2 ^ (6 * (w - 1)))) (by omega) hM) (q_R_add hA k1_180 rfl rfl ⟨(Nat.le_of_ble_eq_true rfl), (Nat.le_of_ble_eq_true rfl)⟩) (ox_V (va_recv hKc hPc (ci := 1) (q0 := 0) rfl rfl) (oxw_S hPc hKc hDc)) rfl rfl hl.1 rfl (lv_room (Nat.le_of_ble_eq_true rfl)) d_D_addLetter_16 ⟨(Nat.le_of_ble_eq_true rfl), (Nat.le_of_ble_eq_true rfl)⟩) hS (fun q _ h => hFc q h) hFc (fun u9 t9 H1 locs ht9 hvm9 hw9 hB9 hz1 hk1 hS => ?_)
  obtain ⟨hP1, hK1, hD1⟩ := hB9
  rw [ht9] at hP1
  obtain ⟨hP, hD⟩ := va_join (wr := []) (w1 := [(y, .inr (1, [.ref b, .int (nI (n + 1)), .int (nI p)])), (b, .inl (cB, M, .inl (fun j => sb_b ((va_up (wr B n 0 (ltb z w)) n ((nI (fmN w) ||| nI (z / 2 ^ (6 * (w - 1)))).toBitVec.toNat % 256)) j))))]) hP hD [0, 1] [] rfl rfl (by decide) (by decide) hk1 hFc hP1 hD1
  generalize H1 = H at hP hS ⊢
  have hP : va_P D vCl [(y, .inr (1, [.ref b, .int (nI (n + 1)), .int (nI p)])), (b, .inl (cB, M, .inl (fun j => sb_b ((va_up (wr B n 0 (ltb z w)) n ((nI (fmN w) ||| nI (z / 2 ^ (6 * (w - 1)))).toBitVec.toNat % 256)) j))))] H := hP.sub [0, 1] rfl
  have hD : va_D A [(y, .inr (1, [.ref b, .int (nI (n + 1)), .int (nI p)])), (b, .inl (cB, M, .inl (fun j => sb_b ((va_up (wr B n 0 (ltb z w)) n ((nI (fmN w) ||| nI (z / 2 ^ (6 * (w - 1)))).toBitVec.toNat % 256)) j))))] := hD.sub [0, 1] (by decide) rfl
  rw [ltb_0 hz, show va_up (wr B n 0 (ltb z w)) n (ltb z w 0) = wr B n 1 (ltb z w) from wr_s B n 0 (ltb z w)] at hP hD
  refine lv_iconst (v := 1) hx hb d_D_addLetter_19 (by decide) ?_
  refine lv_topi (fun v19 ev19 => ?_)
  have ev19 : v19 = nI 1 := by rw [ev19]; rfl
  subst ev19
  refine lv_istore (lv' := [(4, .int (nI 1)), (3, .int (nI (6 * (w - 1)))), (0, .ref y), (1, .int (nI z)), (2, .int (nI w))]) hx hb d_D_addLetter_20 hl (by decide) rfl (fun ls hl => ?_)
  have loop : ∀ (q i : Nat), i + q = w + 1 → 0 < i → i ≤ w → ∀ (H : Heap) (locs : List Loc), va_P D vCl [(y, .inr (1, [.ref b, .int (nI (n + i)), .int (nI p)])), (b, .inl (cB, M, .inl (fun j => sb_b ((wr B n i (ltb z w)) j))))] H → va_D A [(y, .inr (1, [.ref b, .int (nI (n + i)), .int (nI p)])), (b, .inl (cB, M, .inl (fun j => sb_b ((wr B n i (ltb z w)) j))))] → va_S A s.heap H locs → ∀ (ls : Array Slot), lv_has ls 5 [(4, .int (nI i)), (0, .ref y), (1, .int (nI z)), (2, .int (nI w)), (3, .int (nI (6 * (w - 1))))] → W p9 l e9 (headSpec w_D_addLetter ({ frames := 1, cells := 0, slots := 0, locals := 21 })).room s m [.ref y, .int (nI z), .int (nI w)].toArray below meth c9 H locs 0 0 (MQ below (va_Qv (fun _ : Unit => True) (fun _ => ow D [(cB, .byte)] A [(y, .inr (1, [.ref b, .int (nI (n + w)), .int (nI p)])), (b, .inl (cB, M, .inl (fun j => sb_b ((wr B n w (ltb z w)) j))))]) A) [.ref y, .int (nI z), .int (nI w)].toArray s 0 0 A) (F0 m 22 ls []) := by
    intro q
    induction q with
    | zero =>
      intro i hq hi0 hi H locs hP hD hS ls hl
      exact absurd hq (by omega)
    | succ q ih_loop =>
      intro i hq hi0 hi H locs hP hD hS ls hl
      refine lv_iload hx hb d_D_addLetter_22 (lv_at hl 0 rfl) ?_
      refine lv_iload_n hx hb d_D_addLetter_24 rfl (lv_at hl 3 rfl) ?_
      refine lv_icmp_ge (tgt := 54) hx hb d_D_addLetter_25 (by decide) (fun c25 => ?_) (fun c25 => ?_)
      · obtain rfl : i = w := by have := (nI_leI (a := w) (b := i) (by omega) (by omega)).mp c25; omega
        exact W.vret hx hb hr (fun t ht hW => ⟨⟨(), rfl, trivial, by rw [ht]; exact hP, va_K.moved hW.alike hK, hD⟩, hS.F ht⟩) hS.2.2 d_D_addLetter_54
      · have hi2 : i < w := by have := mt (nI_leI (a := w) (b := i) (by omega) (by omega)).mpr c25; omega
        refine lv_aload_n hx hb d_D_addLetter_28 rfl (lv_at hl 1 rfl) ?_
        refine lv_sipush (v := 128) hx hb d_D_addLetter_29 (by decide) ?_
        refine lv_iload_n hx hb d_D_addLetter_32 rfl (lv_at hl 2 rfl) ?_
        refine lv_iload_n hx hb d_D_addLetter_33 rfl (lv_at hl 4 rfl) ?_
        refine lv_bipush (v := 6) hx hb d_D_addLetter_34 (by decide) ?_
        refine lv_iload hx hb d_D_addLetter_36 (lv_at hl 0 rfl) ?_
        refine lv_imul hx hb d_D_addLetter_38 ?_
        refine lv_topi (fun v38 ev38 => ?_)
        have ev38 : v38 = nI (6 * i) := by rw [ev38]; exact sw_6 i
        subst ev38
        refine lv_isub hx hb d_D_addLetter_39 ?_
        refine lv_topi (fun v39 ev39 => ?_)
        have ev39 : v39 = nI (6 * (w - 1 - i)) := by rw [ev39, pk_sub (by omega)]; congr 1; omega
        subst ev39
        refine lv_iushr hx hb d_D_addLetter_40 rfl ?_
        refine lv_topi (fun v40 ev40 => ?_)
        have ev40 : v40 = nI (z / 2 ^ (6 * (w - 1 - i))) := by rw [ev40]; exact us_n (by omega) (by omega)
        subst ev40
        refine lv_bipush (v := 63) hx hb d_D_addLetter_41 (by decide) ?_
        refine lv_iand hx hb d_D_addLetter_43 ?_
        refine lv_topi (fun v43 ev43 => ?_)
        have ev43 : v43 = nI (z / 2 ^ (6 * (w - 1 - i)) % 64) := by rw [ev43]; exact pk_andN (Nat.lt_of_le_of_lt (Nat.div_le_self _ _) (by omega)) 6 (by decide)
        subst ev43
        refine lv_ior hx hb d_D_addLetter_44 ?_
        refine lv_topi (fun v44 ev44 => ?_)
        subst ev44
        have hPc := hP.sub (ws' := [(y, .inr (1, [.ref b, .int (nI (n + i)), .int (nI p)])), (b, .inl (cB, M, .inl (fun j => sb_b ((wr B n i (ltb z w)) j))))]) [0, 1] rfl
        have hDc := hD.sub (ws' := [(y, .inr (1, [.ref b, .int (nI (n + i)), .int (nI p)])), (b, .inl (cB, M, .inl (fun j => sb_b ((wr B n i (ltb z w)) j))))]) [0, 1] (by decide) rfl
        have hKc := hK.sub (tys' := [(cB, .byte)]) [0] rfl
        have hFc := va_free (wc := [(y, .inr (1, [.ref b, .int (nI (n + i)), .int (nI p)])), (b, .inl (cB, M, .inl (fun j => sb_b ((wr B n i (ltb z w)) j))))]) hD hS hAq [0, 1] rfl
        refine va_callv (va_runV (As := [.int ((128 : Int32) ||| nI (z / 2 ^ (6 * (w - 1 - i)) % 64))]) (rest := []) ⟨hx, hb, hml, hown, hA⟩ (c_R_add l D cB y b M (wr B n i (ltb z w)) (n + i) p H.size ((128 : Int32) ||| nI (z / 2 ^ (6 * (w - 1 - i)) % 64)) (by omega) hM) (q_R_add hA k1_180 rfl rfl ⟨(Nat.le_of_ble_eq_true rfl), (Nat.le_of_ble_eq_true rfl)⟩) (ox_V (va_recv hKc hPc (ci := 1) (q0 := 0) rfl rfl) (oxw_S hPc hKc hDc)) rfl rfl hl.1 rfl (lv_room (Nat.le_of_ble_eq_true rfl)) d_D_addLetter_45 ⟨(Nat.le_of_ble_eq_true rfl), (Nat.le_of_ble_eq_true rfl)⟩) hS (fun q _ h => hFc q h) hFc (fun u9 t9 H1 locs ht9 hvm9 hw9 hB9 hz1 hk1 hS => ?_)
        obtain ⟨hP1, hK1, hD1⟩ := hB9
        rw [ht9] at hP1
        obtain ⟨hP, hD⟩ := va_join (wr := []) (w1 := [(y, .inr (1, [.ref b, .int (nI (n + i + 1)), .int (nI p)])), (b, .inl (cB, M, .inl (fun j => sb_b ((va_up (wr B n i (ltb z w)) (n + i) (((128 : Int32) ||| nI (z / 2 ^ (6 * (w - 1 - i)) % 64)).toBitVec.toNat % 256)) j))))]) hP hD [0, 1] [] rfl rfl (by decide) (by decide) hk1 hFc hP1 hD1
        generalize H1 = H at hP hS ⊢
        have hP : va_P D vCl [(y, .inr (1, [.ref b, .int (nI (n + i + 1)), .int (nI p)])), (b, .inl (cB, M, .inl (fun j => sb_b ((va_up (wr B n i (ltb z w)) (n + i) (((128 : Int32) ||| nI (z / 2 ^ (6 * (w - 1 - i)) % 64)).toBitVec.toNat % 256)) j))))] H := hP.sub [0, 1] rfl
        have hD : va_D A [(y, .inr (1, [.ref b, .int (nI (n + i + 1)), .int (nI p)])), (b, .inl (cB, M, .inl (fun j => sb_b ((va_up (wr B n i (ltb z w)) (n + i) (((128 : Int32) ||| nI (z / 2 ^ (6 * (w - 1 - i)) % 64)).toBitVec.toNat % 256)) j))))] := hD.sub [0, 1] (by decide) rfl
        rw [ltb_i (by omega), wr_s] at hP hD
        obtain ⟨v48, ev48⟩ : ∃ y : Int32, y = nI i + 1 := ⟨_, rfl⟩
        refine lv_iinc (v := v48) (lv' := [(4, .int v48), (0, .ref y), (1, .int (nI z)), (2, .int (nI w)), (3, .int (nI (6 * (w - 1))))]) hx hb d_D_addLetter_48 hl (k := 0) rfl (by rw [ev48]; rfl) (by decide) rfl (fun ls hl => ?_)
        have ev48 : v48 = nI (i + 1) := by rw [ev48]; exact nI_1 i
        subst ev48
        refine lv_goto (tgt := 22) hx hb d_D_addLetter_51 (by decide) ?_
        exact ih_loop (i + 1) (by omega) (by omega) (by omega) _ _ (hP.sub [0, 1] rfl) (hD.sub [0, 1] (by decide) rfl) hS ls (lv_sub hl [0, 1, 2, 3, 4] rfl)
  exact loop w 1 (by omega) (by omega) (by omega) _ _ (hP.sub [0, 1] rfl) (hD.sub [0, 1] (by decide) rfl) hS ls (lv_sub hl [0, 2, 3, 4, 1] rfl)
end
section
/-! THE CLASS: A LETTER READ -/
set_option maxHeartbeats 3000000 in
set_option maxRecDepth 100000 in
/-- letterAt -/
theorem c_D_letterAt (l : Launch) (D : va_G) (cB : ClassId) (y b M : Nat) (B : Nat → Nat) (nv pv : Int32) (a e1 : Nat) (he : e1 ≤ M) (ha : a ≤ M) (hM : M ≤ 65536) (hB : ∀ j, B j < 256) : Met l y_D_letterAt w_D_letterAt ({ frames := 1, cells := 0, slots := 0, locals := 21 }) (va_Pc [.ref y, .int (nI a), .int (nI e1)] (ox D [(cB, .byte)] [(y, .inr (1, [.ref b, .int nv, .int pv])), (b, .inl (cB, M, .inl (fun j => sb_b (B j))))])) (vp_Si (fun r => r.toInt = la B a e1)) 0 0 (fun _ => False) := by
  refine Met.ofW (cc := b_D_letterAt) (maxL := 8) (ret := (some .int)) (by decide) rfl ?_
  intro p9 e9 s m args below meth c9 s₁ BL hml hv
  obtain ⟨rfl, hP, hK⟩ := hv
  have hx := BL.exec
  have hb := BL.bytes
  have hr := BL.returns
  have hts := atoms_spec (ws := w_D_letterAt) BL.pre
  have hA : ∀ w ∈ wsA, w.before _ s = true := fun w h => hts w (List.mem_cons_of_mem _ h)
  have hown : s.vm.findClass R_D = some m.cls := findClass_of_methodNamed BL.named
  have hlocks := BL.notSynchronized
  have hP : va_P D vCl [(y, .inr (1, [.ref b, .int nv, .int pv])), (b, .inl (cB, M, .inl (fun j => sb_b (B j))))] s.heap := hP
  have hl := lv_entry ([.ref y, .int (nI a), .int (nI e1)]) (n := 8) (Nat.le_of_ble_eq_true rfl)
  rw [lg_entry_eq]
  generalize (lg_sl ([.ref y, .int (nI a), .int (nI e1)]) ++ List.replicate (8 - (lg_sl ([.ref y, .int (nI a), .int (nI e1)])).length) Slot.unset).toArray = ls at hl ⊢
  have hl : lv_has ls 8 [(0, .ref y), (1, .int (nI a)), (2, .int (nI e1))] := hl
  refine lv_iload_n hx hb d_D_letterAt_0 rfl (lv_at hl 1 rfl) ?_
  refine lv_iload_n hx hb d_D_letterAt_1 rfl (lv_at hl 2 rfl) ?_
  refine lv_icmp_lt (tgt := 8) hx hb d_D_letterAt_2 (by decide) (fun c2 => ?_) (fun c2 => ?_)
  · have q2 : a < e1 := (nI_ltI (a := a) (b := e1) (by omega) (by omega)).mp c2
    have hb0 := hB a
    have hb1 := hB (a + 1)
    have hb2 := hB (a + 2)
    have hb3 := hB (a + 3)
    refine lv_aload_n hx hb d_D_letterAt_8 rfl (lv_at hl 0 rfl) ?_
    refine lv_iload_n hx hb d_D_letterAt_9 rfl (lv_at hl 1 rfl) ?_
    have hPc := hP.sub (ws' := [(y, .inr (1, [.ref b, .int nv, .int pv])), (b, .inl (cB, M, .inl (fun j => sb_b (B j))))]) [0, 1] rfl
    have hKc := hK.sub (tys' := [(cB, .byte)]) [0] rfl
    refine vp_callSi (W.runV (As := [.int (nI a)]) (rest := []) ⟨hx, hb, hml, hown, hA⟩ (c_R_get l D cB y b M B nv pv a (by omega) hM hB) (q_R_get hA k2_21 rfl rfl ⟨(Nat.le_of_ble_eq_true rfl), (Nat.le_of_ble_eq_true rfl)⟩) (ox_V (va_recv hKc hPc (ci := 1) (q0 := 0) rfl rfl) (ox_S hPc hKc)) rfl rfl hl.1 rfl (lv_room (Nat.le_of_ble_eq_true rfl)) d_D_letterAt_10 ⟨(Nat.le_of_ble_eq_true rfl), (Nat.le_of_ble_eq_true rfl)⟩) (fun r10 hr10 => ?_)
    have er10 : r10 = nI (B a) := hr10
    subst er10
    refine lv_istore_n (lv' := [(3, .int (nI (B a))), (0, .ref y), (1, .int (nI a)), (2, .int (nI e1))]) hx hb d_D_letterAt_13 rfl hl (by decide) rfl (fun ls hl => ?_)
    refine lv_iload_n hx hb d_D_letterAt_14 rfl (lv_at hl 0 rfl) ?_
    refine vp_callSi (W.runS (As := [.int (nI (B a))]) (rest := []) ⟨hx, hb, hml, hown, hA⟩ (c_D_widthByFirst l (B a) hb0) (q_D_widthByFirst hA k2_118 rfl rfl ⟨(Nat.le_of_ble_eq_true rfl), (Nat.le_of_ble_eq_true rfl)⟩) (⟨fun a U g mk q => q, fun U hU hW => ⟨rfl, trivial⟩⟩) rfl rfl hl.1 rfl (lv_room (Nat.le_of_ble_eq_true rfl)) d_D_letterAt_15 ⟨(Nat.le_of_ble_eq_true rfl), (Nat.le_of_ble_eq_true rfl)⟩) (fun r15 hr15 => ?_)
    have er15 : r15 = nI (wfN (B a)) := hr15
    subst er15
    rcases (show (B a < 128 ∧ wfN (B a) = 1) ∨ ((¬ B a < 128 ∧ (B a < 194 ∨ 244 < B a)) ∧ wfN (B a) = 0) ∨ ((194 ≤ B a ∧ B a < 224) ∧ wfN (B a) = 2) ∨ ((224 ≤ B a ∧ B a < 240) ∧ wfN (B a) = 3) ∨ ((240 ≤ B a ∧ B a ≤ 244) ∧ wfN (B a) = 4) by unfold wfN; (repeat' split) <;> omega) with ⟨q1, ew⟩ | ⟨q1, ew⟩ | ⟨q1, ew⟩ | ⟨q1, ew⟩ | ⟨q1, ew⟩
    · rw [ew]
      refine lv_istore (lv' := [(4, .int (nI 1)), (3, .int (nI (B a))), (0, .ref y), (1, .int (nI a)), (2, .int (nI e1))]) hx hb d_D_letterAt_18 hl (by decide) rfl (fun ls hl => ?_)
      refine lv_iload hx hb d_D_letterAt_20 (lv_at hl 0 rfl) ?_
      refine lv_if_ne (tgt := 27) hx hb d_D_letterAt_22 (by decide) (fun _ => ?_) (fun q9 => absurd q9 (by decide))
      refine lv_iload_n hx hb d_D_letterAt_27 rfl (lv_at hl 1 rfl) ?_
      refine lv_iload hx hb d_D_letterAt_28 (lv_at hl 0 rfl) ?_
      refine vp_callSi (W.runS (As := [.int (nI 1)]) (rest := [.int (nI (B a))]) ⟨hx, hb, hml, hown, hA⟩ (c_D_firstMark l 1 (by decide)) (q_D_firstMark hA k1_224 rfl rfl ⟨(Nat.le_of_ble_eq_true rfl), (Nat.le_of_ble_eq_true rfl)⟩) (⟨fun a U g mk q => q, fun U hU hW => ⟨rfl, trivial⟩⟩) rfl rfl hl.1 rfl (lv_room (Nat.le_of_ble_eq_true rfl)) d_D_letterAt_30 ⟨(Nat.le_of_ble_eq_true rfl), (Nat.le_of_ble_eq_true rfl)⟩) (fun r30 hr30 => ?_)
      have er30 : r30 = nI 0 := by rw [hr30]; rfl
      subst er30
      refine lv_isub hx hb d_D_letterAt_33 ?_
      refine lv_topi (fun v33 ev33 => ?_)
      have ev33 : v33 = nI (B a - 0) := by rw [ev33]; exact pk_sub (by omega)
      subst ev33
      refine lv_istore (lv' := [(5, .int (nI (B a - 0))), (4, .int (nI 1)), (3, .int (nI (B a))), (0, .ref y), (1, .int (nI a)), (2, .int (nI e1))]) hx hb d_D_letterAt_34 hl (by decide) rfl (fun ls hl => ?_)
      refine lv_iconst (v := 1) hx hb d_D_letterAt_36 (by decide) ?_
      refine lv_istore (lv' := [(6, .int 1), (5, .int (nI (B a - 0))), (4, .int (nI 1)), (3, .int (nI (B a))), (0, .ref y), (1, .int (nI a)), (2, .int (nI e1))]) hx hb d_D_letterAt_37 hl (by decide) rfl (fun ls hl => ?_)
      refine lv_iload hx hb d_D_letterAt_39 (lv_at hl 0 rfl) ?_
      refine lv_iload hx hb d_D_letterAt_41 (lv_at hl 2 rfl) ?_
      refine lv_icmp_ge (tgt := 127) hx hb d_D_letterAt_43 (by decide) (fun _ => ?_) (fun q9 => absurd (by decide) q9)
      refine lv_iload hx hb d_D_letterAt_127 (lv_at hl 1 rfl) ?_
      exact W.iret (v := nI (B a - 0)) hx hb hr (fun t ht hW => ⟨_, rfl, (by show Int32.toInt _ = la B a e1; rw [nI_toInt (by omega)]; exact (la_1 q2 q1).symm), ht⟩) (fun q h => by cases h) d_D_letterAt_129
    · rw [ew]
      refine lv_istore (lv' := [(4, .int (nI 0)), (3, .int (nI (B a))), (0, .ref y), (1, .int (nI a)), (2, .int (nI e1))]) hx hb d_D_letterAt_18 hl (by decide) rfl (fun ls hl => ?_)
      refine lv_iload hx hb d_D_letterAt_20 (lv_at hl 0 rfl) ?_
      refine lv_if_ne (tgt := 27) hx hb d_D_letterAt_22 (by decide) (fun q9 => absurd (by decide) q9) (fun _ => ?_)
      refine lv_iconst (v := (-1)) hx hb d_D_letterAt_25 (by decide) ?_
      exact W.iret (v := (-1)) hx hb hr (fun t ht hW => ⟨_, rfl, (by show Int32.toInt _ = la B a e1; rw [li_m1]; exact (la_b0 q2 q1.1 q1.2).symm), ht⟩) (fun q h => by cases h) d_D_letterAt_26
    · rw [ew]
      refine lv_istore (lv' := [(4, .int (nI 2)), (3, .int (nI (B a))), (0, .ref y), (1, .int (nI a)), (2, .int (nI e1))]) hx hb d_D_letterAt_18 hl (by decide) rfl (fun ls hl => ?_)
      refine lv_iload hx hb d_D_letterAt_20 (lv_at hl 0 rfl) ?_
      refine lv_if_ne (tgt := 27) hx hb d_D_letterAt_22 (by decide) (fun _ => ?_) (fun q9 => absurd q9 (by decide))
      refine lv_iload_n hx hb d_D_letterAt_27 rfl (lv_at hl 1 rfl) ?_
      refine lv_iload hx hb d_D_letterAt_28 (lv_at hl 0 rfl) ?_
      refine vp_callSi (W.runS (As := [.int (nI 2)]) (rest := [.int (nI (B a))]) ⟨hx, hb, hml, hown, hA⟩ (c_D_firstMark l 2 (by decide)) (q_D_firstMark hA k1_224 rfl rfl ⟨(Nat.le_of_ble_eq_true rfl), (Nat.le_of_ble_eq_true rfl)⟩) (⟨fun a U g mk q => q, fun U hU hW => ⟨rfl, trivial⟩⟩) rfl rfl hl.1 rfl (lv_room (Nat.le_of_ble_eq_true rfl)) d_D_letterAt_30 ⟨(Nat.le_of_ble_eq_true rfl), (Nat.le_of_ble_eq_true rfl)⟩) (fun r30 hr30 => ?_)
      have er30 : r30 = nI 192 := by rw [hr30]; rfl
      subst er30
      refine lv_isub hx hb d_D_letterAt_33 ?_
      refine lv_topi (fun v33 ev33 => ?_)
      have ev33 : v33 = nI (B a - 192) := by rw [ev33]; exact pk_sub (by omega)
      subst ev33
      refine lv_istore (lv' := [(5, .int (nI (B a - 192))), (4, .int (nI 2)), (3, .int (nI (B a))), (0, .ref y), (1, .int (nI a)), (2, .int (nI e1))]) hx hb d_D_letterAt_34 hl (by decide) rfl (fun ls hl => ?_)
      refine lv_iconst (v := 1) hx hb d_D_letterAt_36 (by decide) ?_
      refine lv_istore (lv' := [(6, .int 1), (5, .int (nI (B a - 192))), (4, .int (nI 2)), (3, .int (nI (B a))), (0, .ref y), (1, .int (nI a)), (2, .int (nI e1))]) hx hb d_D_letterAt_37 hl (by decide) rfl (fun ls hl => ?_)
      refine lv_iload hx hb d_D_letterAt_39 (lv_at hl 0 rfl) ?_
      refine lv_iload hx hb d_D_letterAt_41 (lv_at hl 2 rfl) ?_
      refine lv_icmp_ge (tgt := 127) hx hb d_D_letterAt_43 (by decide) (fun q9 => absurd q9 (by decide)) (fun _ => ?_)
      refine lv_iload_n hx hb d_D_letterAt_46 rfl (lv_at hl 5 rfl) ?_
      refine lv_iload hx hb d_D_letterAt_47 (lv_at hl 0 rfl) ?_
      refine lv_iadd hx hb d_D_letterAt_49 ?_
      refine lv_topi (fun v49 ev49 => ?_)
      have ev49 : v49 = nI (a + 1) := by rw [ev49]; exact nI_add a 1
      subst ev49
      refine lv_iload_n hx hb d_D_letterAt_50 rfl (lv_at hl 6 rfl) ?_
      refine lv_icmp_lt (tgt := 57) hx hb d_D_letterAt_51 (by decide) (fun c51 => ?_) (fun c51 => ?_)
      · have q51_1 : a + 1 < e1 := (nI_ltI (a := a + 1) (b := e1) (by omega) (by omega)).mp c51
        refine lv_aload_n hx hb d_D_letterAt_57 rfl (lv_at hl 4 rfl) ?_
        refine lv_iload_n hx hb d_D_letterAt_58 rfl (lv_at hl 5 rfl) ?_
        refine lv_iload hx hb d_D_letterAt_59 (lv_at hl 0 rfl) ?_
        refine lv_iadd hx hb d_D_letterAt_61 ?_
        refine lv_topi (fun v61 ev61 => ?_)
        have ev61 : v61 = nI (a + 1) := by rw [ev61]; exact nI_add a 1
        subst ev61
        have hPc := hP.sub (ws' := [(y, .inr (1, [.ref b, .int nv, .int pv])), (b, .inl (cB, M, .inl (fun j => sb_b (B j))))]) [0, 1] rfl
        have hKc := hK.sub (tys' := [(cB, .byte)]) [0] rfl
        refine vp_callSi (W.runV (As := [.int (nI (a + 1))]) (rest := []) ⟨hx, hb, hml, hown, hA⟩ (c_R_get l D cB y b M B nv pv (a + 1) (by omega) hM hB) (q_R_get hA k2_21 rfl rfl ⟨(Nat.le_of_ble_eq_true rfl), (Nat.le_of_ble_eq_true rfl)⟩) (ox_V (va_recv hKc hPc (ci := 1) (q0 := 0) rfl rfl) (ox_S hPc hKc)) rfl rfl hl.1 rfl (lv_room (Nat.le_of_ble_eq_true rfl)) d_D_letterAt_62 ⟨(Nat.le_of_ble_eq_true rfl), (Nat.le_of_ble_eq_true rfl)⟩) (fun r62 hr62 => ?_)
        have er62 : r62 = nI (B (a + 1)) := hr62
        subst er62
        refine lv_istore (lv' := [(7, .int (nI (B (a + 1)))), (6, .int 1), (5, .int (nI (B a - 192))), (4, .int (nI 2)), (3, .int (nI (B a))), (0, .ref y), (1, .int (nI a)), (2, .int (nI e1))]) hx hb d_D_letterAt_65 hl (by decide) rfl (fun ls hl => ?_)
        refine lv_iload hx hb d_D_letterAt_67 (lv_at hl 0 rfl) ?_
        refine lv_sipush (v := 128) hx hb d_D_letterAt_69 (by decide) ?_
        refine lv_icmp_lt (tgt := 83) hx hb d_D_letterAt_72 (by decide) (fun c72 => ?_) (fun c72 => ?_)
        · have q83_1 : B (a + 1) < 128 ∨ 191 < B (a + 1) := by
            first
            | exact Or.inl ((nI_ltI (b := 128) (by omega) (by omega)).mp c72)
            | exact Or.inr (by have := mt (nI_leI (a := B (a + 1)) (b := 191) (by omega) (by omega)).mpr c80; omega)
          refine lv_iconst (v := (-1)) hx hb d_D_letterAt_83 (by decide) ?_
          exact W.iret (v := (-1)) hx hb hr (fun t ht hW => ⟨_, rfl, (by show Int32.toInt _ = la B a e1; rw [li_m1]; exact (la_b1 (by omega) (by omega) (by omega) (by omega)).symm), ht⟩) (fun q h => by cases h) d_D_letterAt_84
        · refine lv_iload hx hb d_D_letterAt_75 (lv_at hl 0 rfl) ?_
          refine lv_sipush (v := 191) hx hb d_D_letterAt_77 (by decide) ?_
          refine lv_icmp_le (tgt := 85) hx hb d_D_letterAt_80 (by decide) (fun c80 => ?_) (fun c80 => ?_)
          · have q85_1 : 128 ≤ B (a + 1) := by have := mt (nI_ltI (a := B (a + 1)) (b := 128) (by omega) (by omega)).mpr c72; omega
            have q86_1 : B (a + 1) ≤ 191 := (nI_leI (a := B (a + 1)) (b := 191) (by omega) (by omega)).mp c80
            refine lv_iload hx hb d_D_letterAt_85 (lv_at hl 2 rfl) ?_
            refine lv_bipush (v := 6) hx hb d_D_letterAt_87 (by decide) ?_
            refine lv_ishl hx hb d_D_letterAt_89 ?_
            refine lv_topi (fun v89 ev89 => ?_)
            have ev89 : v89 = nI ((B a - 192) * 64) := by rw [ev89]; exact sh_n (k := 6) (by decide) (by omega)
            subst ev89
            refine lv_iload hx hb d_D_letterAt_90 (lv_at hl 0 rfl) ?_
            refine lv_bipush (v := 63) hx hb d_D_letterAt_92 (by decide) ?_
            refine lv_iand hx hb d_D_letterAt_94 ?_
            refine lv_topi (fun v94 ev94 => ?_)
            have ev94 : v94 = nI (B (a + 1) - 128) := by rw [ev94, pk_andN (n := B (a + 1)) (by omega) 6 (by decide)]; congr 1; omega
            subst ev94
            refine lv_ior hx hb d_D_letterAt_95 ?_
            refine lv_topi (fun v95 ev95 => ?_)
            have ev95 : v95 = nI ((B a - 192) * 64 + (B (a + 1) - 128)) := by rw [ev95]; exact or64 (by omega) (by omega)
            subst ev95
            refine lv_istore (lv' := [(5, .int (nI ((B a - 192) * 64 + (B (a + 1) - 128)))), (7, .int (nI (B (a + 1)))), (6, .int 1), (4, .int (nI 2)), (3, .int (nI (B a))), (0, .ref y), (1, .int (nI a)), (2, .int (nI e1))]) hx hb d_D_letterAt_96 hl (by decide) rfl (fun ls hl => ?_)
            refine lv_iload hx hb d_D_letterAt_98 (lv_at hl 0 rfl) ?_
            refine lv_bipush (v := 6) hx hb d_D_letterAt_100 (by decide) ?_
            refine lv_iload hx hb d_D_letterAt_102 (lv_at hl 3 rfl) ?_
            refine lv_iconst (v := 1) hx hb d_D_letterAt_104 (by decide) ?_
            refine lv_isub hx hb d_D_letterAt_105 ?_
            refine lv_topi (fun v105 ev105 => ?_)
            have ev105 : v105 = 1 := by rw [ev105]; decide
            subst ev105
            refine lv_iload hx hb d_D_letterAt_106 (lv_at hl 2 rfl) ?_
            refine lv_isub hx hb d_D_letterAt_108 ?_
            refine lv_topi (fun v108 ev108 => ?_)
            have ev108 : v108 = 0 := by rw [ev108]; decide
            subst ev108
            refine lv_imul hx hb d_D_letterAt_109 ?_
            refine lv_topi (fun v109 ev109 => ?_)
            have ev109 : v109 = 0 := by rw [ev109]; decide
            subst ev109
            refine lv_ishl hx hb d_D_letterAt_110 ?_
            refine lv_topi (fun v110 ev110 => ?_)
            have ev110 : v110 = nI (((B a - 192) * 64 + (B (a + 1) - 128)) * 2 ^ 0) := by rw [ev110]; exact sh_n (k := 0) (by decide) (by omega)
            subst ev110
            refine vp_callSi (W.runS (As := [.int (nI (((B a - 192) * 64 + (B (a + 1) - 128)) * 2 ^ 0))]) (rest := []) ⟨hx, hb, hml, hown, hA⟩ (c_D_letterWidth l (nI (((B a - 192) * 64 + (B (a + 1) - 128)) * 2 ^ 0))) (q_D_letterWidth hA k1_214 rfl rfl ⟨(Nat.le_of_ble_eq_true rfl), (Nat.le_of_ble_eq_true rfl)⟩) (⟨fun a U g mk q => q, fun U hU hW => ⟨rfl, trivial⟩⟩) rfl rfl hl.1 rfl (lv_room (Nat.le_of_ble_eq_true rfl)) d_D_letterAt_111 ⟨(Nat.le_of_ble_eq_true rfl), (Nat.le_of_ble_eq_true rfl)⟩) (fun r111 hr111 => ?_)
            have er111 : r111 = nI (lwI ((((B a - 192) * 64 + (B (a + 1) - 128)) * 2 ^ 0 : Nat) : Int)) := by rw [hr111, nI_toInt (by omega)]
            subst er111
            refine lv_iload hx hb d_D_letterAt_114 (lv_at hl 3 rfl) ?_
            refine lv_icmp_eq (tgt := 121) hx hb d_D_letterAt_116 (by decide) (fun c116 => ?_) (fun c116 => ?_)
            · have q116_1 := (lwI_2 (((B a - 192) * 64 + (B (a + 1) - 128)) * 2 ^ 0)).mp ((nI_eq (b := 2) (by have := lwI_le ((((B a - 192) * 64 + (B (a + 1) - 128)) * 2 ^ 0 : Nat) : Int); omega) (by omega)).mp c116)
              obtain ⟨v121, ev121⟩ : ∃ y : Int32, y = 1 + 1 := ⟨_, rfl⟩
              refine lv_iinc (v := v121) (lv' := [(6, .int v121), (5, .int (nI ((B a - 192) * 64 + (B (a + 1) - 128)))), (7, .int (nI (B (a + 1)))), (4, .int (nI 2)), (3, .int (nI (B a))), (0, .ref y), (1, .int (nI a)), (2, .int (nI e1))]) hx hb d_D_letterAt_121 hl (k := 2) rfl (by rw [ev121]; rfl) (by decide) rfl (fun ls hl => ?_)
              have ev121 : v121 = 2 := by rw [ev121]; rfl
              subst ev121
              refine lv_goto (tgt := 39) hx hb d_D_letterAt_124 (by decide) ?_
              refine lv_iload hx hb d_D_letterAt_39 (lv_at hl 0 rfl) ?_
              refine lv_iload hx hb d_D_letterAt_41 (lv_at hl 3 rfl) ?_
              refine lv_icmp_ge (tgt := 127) hx hb d_D_letterAt_43 (by decide) (fun _ => ?_) (fun q9 => absurd (by decide) q9)
              refine lv_iload hx hb d_D_letterAt_127 (lv_at hl 1 rfl) ?_
              exact W.iret (v := nI ((B a - 192) * 64 + (B (a + 1) - 128))) hx hb hr (fun t ht hW => ⟨_, rfl, (by show Int32.toInt _ = la B a e1; rw [nI_toInt (by omega)]; exact (la_2 (by omega) (by omega) (by omega) (by omega) (by omega)).symm), ht⟩) (fun q h => by cases h) d_D_letterAt_129
            · have q116_1 := mt (lwI_2 (((B a - 192) * 64 + (B (a + 1) - 128)) * 2 ^ 0)).mpr (fun z9 => c116 (by rw [z9]))
              refine lv_iconst (v := (-1)) hx hb d_D_letterAt_119 (by decide) ?_
              exact W.iret (v := (-1)) hx hb hr (fun t ht hW => ⟨_, rfl, (by show Int32.toInt _ = la B a e1; rw [li_m1]; exfalso; omega), ht⟩) (fun q h => by cases h) d_D_letterAt_120
          · have q83_1 : B (a + 1) < 128 ∨ 191 < B (a + 1) := by
              first
              | exact Or.inl ((nI_ltI (b := 128) (by omega) (by omega)).mp c72)
              | exact Or.inr (by have := mt (nI_leI (a := B (a + 1)) (b := 191) (by omega) (by omega)).mpr c80; omega)
            refine lv_iconst (v := (-1)) hx hb d_D_letterAt_83 (by decide) ?_
            exact W.iret (v := (-1)) hx hb hr (fun t ht hW => ⟨_, rfl, (by show Int32.toInt _ = la B a e1; rw [li_m1]; exact (la_b1 (by omega) (by omega) (by omega) (by omega)).symm), ht⟩) (fun q h => by cases h) d_D_letterAt_84
      · have q51_1 : e1 ≤ a + 1 := by have := mt (nI_ltI (a := a + 1) (b := e1) (by omega) (by omega)).mpr c51; omega
        refine lv_bipush (v := (-2)) hx hb d_D_letterAt_54 (by decide) ?_
        exact W.iret (v := (-2)) hx hb hr (fun t ht hW => ⟨_, rfl, (by show Int32.toInt _ = la B a e1; rw [li_m2]; exact (la_e1 q2 (by omega) (by omega) (by omega)).symm), ht⟩) (fun q h => by cases h) d_D_letterAt_56
    · rw [ew]
      refine lv_istore (lv' := [(4, .int (nI 3)), (3, .int (nI (B a))), (0, .ref y), (1, .int (nI a)), (2, .int (nI e1))]) hx hb d_D_letterAt_18 hl (by decide) rfl (fun ls hl => ?_)
      refine lv_iload hx hb d_D_letterAt_20 (lv_at hl 0 rfl) ?_
      refine lv_if_ne (tgt := 27) hx hb d_D_letterAt_22 (by decide) (fun _ => ?_) (fun q9 => absurd q9 (by decide))
      refine lv_iload_n hx hb d_D_letterAt_27 rfl (lv_at hl 1 rfl) ?_
      refine lv_iload hx hb d_D_letterAt_28 (lv_at hl 0 rfl) ?_
      refine vp_callSi (W.runS (As := [.int (nI 3)]) (rest := [.int (nI (B a))]) ⟨hx, hb, hml, hown, hA⟩ (c_D_firstMark l 3 (by decide)) (q_D_firstMark hA k1_224 rfl rfl ⟨(Nat.le_of_ble_eq_true rfl), (Nat.le_of_ble_eq_true rfl)⟩) (⟨fun a U g mk q => q, fun U hU hW => ⟨rfl, trivial⟩⟩) rfl rfl hl.1 rfl (lv_room (Nat.le_of_ble_eq_true rfl)) d_D_letterAt_30 ⟨(Nat.le_of_ble_eq_true rfl), (Nat.le_of_ble_eq_true rfl)⟩) (fun r30 hr30 => ?_)
      have er30 : r30 = nI 224 := by rw [hr30]; rfl
      subst er30
      refine lv_isub hx hb d_D_letterAt_33 ?_
      refine lv_topi (fun v33 ev33 => ?_)
      have ev33 : v33 = nI (B a - 224) := by rw [ev33]; exact pk_sub (by omega)
      subst ev33
      refine lv_istore (lv' := [(5, .int (nI (B a - 224))), (4, .int (nI 3)), (3, .int (nI (B a))), (0, .ref y), (1, .int (nI a)), (2, .int (nI e1))]) hx hb d_D_letterAt_34 hl (by decide) rfl (fun ls hl => ?_)
      refine lv_iconst (v := 1) hx hb d_D_letterAt_36 (by decide) ?_
      refine lv_istore (lv' := [(6, .int 1), (5, .int (nI (B a - 224))), (4, .int (nI 3)), (3, .int (nI (B a))), (0, .ref y), (1, .int (nI a)), (2, .int (nI e1))]) hx hb d_D_letterAt_37 hl (by decide) rfl (fun ls hl => ?_)
      refine lv_iload hx hb d_D_letterAt_39 (lv_at hl 0 rfl) ?_
      refine lv_iload hx hb d_D_letterAt_41 (lv_at hl 2 rfl) ?_
      refine lv_icmp_ge (tgt := 127) hx hb d_D_letterAt_43 (by decide) (fun q9 => absurd q9 (by decide)) (fun _ => ?_)
      refine lv_iload_n hx hb d_D_letterAt_46 rfl (lv_at hl 5 rfl) ?_
      refine lv_iload hx hb d_D_letterAt_47 (lv_at hl 0 rfl) ?_
      refine lv_iadd hx hb d_D_letterAt_49 ?_
      refine lv_topi (fun v49 ev49 => ?_)
      have ev49 : v49 = nI (a + 1) := by rw [ev49]; exact nI_add a 1
      subst ev49
      refine lv_iload_n hx hb d_D_letterAt_50 rfl (lv_at hl 6 rfl) ?_
      refine lv_icmp_lt (tgt := 57) hx hb d_D_letterAt_51 (by decide) (fun c51 => ?_) (fun c51 => ?_)
      · have q51_1 : a + 1 < e1 := (nI_ltI (a := a + 1) (b := e1) (by omega) (by omega)).mp c51
        refine lv_aload_n hx hb d_D_letterAt_57 rfl (lv_at hl 4 rfl) ?_
        refine lv_iload_n hx hb d_D_letterAt_58 rfl (lv_at hl 5 rfl) ?_
        refine lv_iload hx hb d_D_letterAt_59 (lv_at hl 0 rfl) ?_
        refine lv_iadd hx hb d_D_letterAt_61 ?_
        refine lv_topi (fun v61 ev61 => ?_)
        have ev61 : v61 = nI (a + 1) := by rw [ev61]; exact nI_add a 1
        subst ev61
        have hPc := hP.sub (ws' := [(y, .inr (1, [.ref b, .int nv, .int pv])), (b, .inl (cB, M, .inl (fun j => sb_b (B j))))]) [0, 1] rfl
        have hKc := hK.sub (tys' := [(cB, .byte)]) [0] rfl
        refine vp_callSi (W.runV (As := [.int (nI (a + 1))]) (rest := []) ⟨hx, hb, hml, hown, hA⟩ (c_R_get l D cB y b M B nv pv (a + 1) (by omega) hM hB) (q_R_get hA k2_21 rfl rfl ⟨(Nat.le_of_ble_eq_true rfl), (Nat.le_of_ble_eq_true rfl)⟩) (ox_V (va_recv hKc hPc (ci := 1) (q0 := 0) rfl rfl) (ox_S hPc hKc)) rfl rfl hl.1 rfl (lv_room (Nat.le_of_ble_eq_true rfl)) d_D_letterAt_62 ⟨(Nat.le_of_ble_eq_true rfl), (Nat.le_of_ble_eq_true rfl)⟩) (fun r62 hr62 => ?_)
        have er62 : r62 = nI (B (a + 1)) := hr62
        subst er62
        refine lv_istore (lv' := [(7, .int (nI (B (a + 1)))), (6, .int 1), (5, .int (nI (B a - 224))), (4, .int (nI 3)), (3, .int (nI (B a))), (0, .ref y), (1, .int (nI a)), (2, .int (nI e1))]) hx hb d_D_letterAt_65 hl (by decide) rfl (fun ls hl => ?_)
        refine lv_iload hx hb d_D_letterAt_67 (lv_at hl 0 rfl) ?_
        refine lv_sipush (v := 128) hx hb d_D_letterAt_69 (by decide) ?_
        refine lv_icmp_lt (tgt := 83) hx hb d_D_letterAt_72 (by decide) (fun c72 => ?_) (fun c72 => ?_)
        · have q83_1 : B (a + 1) < 128 ∨ 191 < B (a + 1) := by
            first
            | exact Or.inl ((nI_ltI (b := 128) (by omega) (by omega)).mp c72)
            | exact Or.inr (by have := mt (nI_leI (a := B (a + 1)) (b := 191) (by omega) (by omega)).mpr c80; omega)
          refine lv_iconst (v := (-1)) hx hb d_D_letterAt_83 (by decide) ?_
          exact W.iret (v := (-1)) hx hb hr (fun t ht hW => ⟨_, rfl, (by show Int32.toInt _ = la B a e1; rw [li_m1]; exact (la_b1 (by omega) (by omega) (by omega) (by omega)).symm), ht⟩) (fun q h => by cases h) d_D_letterAt_84
        · refine lv_iload hx hb d_D_letterAt_75 (lv_at hl 0 rfl) ?_
          refine lv_sipush (v := 191) hx hb d_D_letterAt_77 (by decide) ?_
          refine lv_icmp_le (tgt := 85) hx hb d_D_letterAt_80 (by decide) (fun c80 => ?_) (fun c80 => ?_)
          · have q85_1 : 128 ≤ B (a + 1) := by have := mt (nI_ltI (a := B (a + 1)) (b := 128) (by omega) (by omega)).mpr c72; omega
            have q86_1 : B (a + 1) ≤ 191 := (nI_leI (a := B (a + 1)) (b := 191) (by omega) (by omega)).mp c80
            refine lv_iload hx hb d_D_letterAt_85 (lv_at hl 2 rfl) ?_
            refine lv_bipush (v := 6) hx hb d_D_letterAt_87 (by decide) ?_
            refine lv_ishl hx hb d_D_letterAt_89 ?_
            refine lv_topi (fun v89 ev89 => ?_)
            have ev89 : v89 = nI ((B a - 224) * 64) := by rw [ev89]; exact sh_n (k := 6) (by decide) (by omega)
            subst ev89
            refine lv_iload hx hb d_D_letterAt_90 (lv_at hl 0 rfl) ?_
            refine lv_bipush (v := 63) hx hb d_D_letterAt_92 (by decide) ?_
            refine lv_iand hx hb d_D_letterAt_94 ?_
            refine lv_topi (fun v94 ev94 => ?_)
            have ev94 : v94 = nI (B (a + 1) - 128) := by rw [ev94, pk_andN (n := B (a + 1)) (by omega) 6 (by decide)]; congr 1; omega
            subst ev94
            refine lv_ior hx hb d_D_letterAt_95 ?_
            refine lv_topi (fun v95 ev95 => ?_)
            have ev95 : v95 = nI ((B a - 224) * 64 + (B (a + 1) - 128)) := by rw [ev95]; exact or64 (by omega) (by omega)
            subst ev95
            refine lv_istore (lv' := [(5, .int (nI ((B a - 224) * 64 + (B (a + 1) - 128)))), (7, .int (nI (B (a + 1)))), (6, .int 1), (4, .int (nI 3)), (3, .int (nI (B a))), (0, .ref y), (1, .int (nI a)), (2, .int (nI e1))]) hx hb d_D_letterAt_96 hl (by decide) rfl (fun ls hl => ?_)
            refine lv_iload hx hb d_D_letterAt_98 (lv_at hl 0 rfl) ?_
            refine lv_bipush (v := 6) hx hb d_D_letterAt_100 (by decide) ?_
            refine lv_iload hx hb d_D_letterAt_102 (lv_at hl 3 rfl) ?_
            refine lv_iconst (v := 1) hx hb d_D_letterAt_104 (by decide) ?_
            refine lv_isub hx hb d_D_letterAt_105 ?_
            refine lv_topi (fun v105 ev105 => ?_)
            have ev105 : v105 = 2 := by rw [ev105]; decide
            subst ev105
            refine lv_iload hx hb d_D_letterAt_106 (lv_at hl 2 rfl) ?_
            refine lv_isub hx hb d_D_letterAt_108 ?_
            refine lv_topi (fun v108 ev108 => ?_)
            have ev108 : v108 = 1 := by rw [ev108]; decide
            subst ev108
            refine lv_imul hx hb d_D_letterAt_109 ?_
            refine lv_topi (fun v109 ev109 => ?_)
            have ev109 : v109 = 6 := by rw [ev109]; decide
            subst ev109
            refine lv_ishl hx hb d_D_letterAt_110 ?_
            refine lv_topi (fun v110 ev110 => ?_)
            have ev110 : v110 = nI (((B a - 224) * 64 + (B (a + 1) - 128)) * 2 ^ 6) := by rw [ev110]; exact sh_n (k := 6) (by decide) (by omega)
            subst ev110
            refine vp_callSi (W.runS (As := [.int (nI (((B a - 224) * 64 + (B (a + 1) - 128)) * 2 ^ 6))]) (rest := []) ⟨hx, hb, hml, hown, hA⟩ (c_D_letterWidth l (nI (((B a - 224) * 64 + (B (a + 1) - 128)) * 2 ^ 6))) (q_D_letterWidth hA k1_214 rfl rfl ⟨(Nat.le_of_ble_eq_true rfl), (Nat.le_of_ble_eq_true rfl)⟩) (⟨fun a U g mk q => q, fun U hU hW => ⟨rfl, trivial⟩⟩) rfl rfl hl.1 rfl (lv_room (Nat.le_of_ble_eq_true rfl)) d_D_letterAt_111 ⟨(Nat.le_of_ble_eq_true rfl), (Nat.le_of_ble_eq_true rfl)⟩) (fun r111 hr111 => ?_)
            have er111 : r111 = nI (lwI ((((B a - 224) * 64 + (B (a + 1) - 128)) * 2 ^ 6 : Nat) : Int)) := by rw [hr111, nI_toInt (by omega)]
            subst er111
            refine lv_iload hx hb d_D_letterAt_114 (lv_at hl 3 rfl) ?_
            refine lv_icmp_eq (tgt := 121) hx hb d_D_letterAt_116 (by decide) (fun c116 => ?_) (fun c116 => ?_)
            · have q116_1 := (lwI_3 (((B a - 224) * 64 + (B (a + 1) - 128)) * 2 ^ 6)).mp ((nI_eq (b := 3) (by have := lwI_le ((((B a - 224) * 64 + (B (a + 1) - 128)) * 2 ^ 6 : Nat) : Int); omega) (by omega)).mp c116)
              obtain ⟨v121, ev121⟩ : ∃ y : Int32, y = 1 + 1 := ⟨_, rfl⟩
              refine lv_iinc (v := v121) (lv' := [(6, .int v121), (5, .int (nI ((B a - 224) * 64 + (B (a + 1) - 128)))), (7, .int (nI (B (a + 1)))), (4, .int (nI 3)), (3, .int (nI (B a))), (0, .ref y), (1, .int (nI a)), (2, .int (nI e1))]) hx hb d_D_letterAt_121 hl (k := 2) rfl (by rw [ev121]; rfl) (by decide) rfl (fun ls hl => ?_)
              have ev121 : v121 = 2 := by rw [ev121]; rfl
              subst ev121
              refine lv_goto (tgt := 39) hx hb d_D_letterAt_124 (by decide) ?_
              refine lv_iload hx hb d_D_letterAt_39 (lv_at hl 0 rfl) ?_
              refine lv_iload hx hb d_D_letterAt_41 (lv_at hl 3 rfl) ?_
              refine lv_icmp_ge (tgt := 127) hx hb d_D_letterAt_43 (by decide) (fun q9 => absurd q9 (by decide)) (fun _ => ?_)
              refine lv_iload_n hx hb d_D_letterAt_46 rfl (lv_at hl 6 rfl) ?_
              refine lv_iload hx hb d_D_letterAt_47 (lv_at hl 0 rfl) ?_
              refine lv_iadd hx hb d_D_letterAt_49 ?_
              refine lv_topi (fun v49 ev49 => ?_)
              have ev49 : v49 = nI (a + 2) := by rw [ev49]; exact nI_add a 2
              subst ev49
              refine lv_iload_n hx hb d_D_letterAt_50 rfl (lv_at hl 7 rfl) ?_
              refine lv_icmp_lt (tgt := 57) hx hb d_D_letterAt_51 (by decide) (fun c51 => ?_) (fun c51 => ?_)
              · have q51_2 : a + 2 < e1 := (nI_ltI (a := a + 2) (b := e1) (by omega) (by omega)).mp c51
                refine lv_aload_n hx hb d_D_letterAt_57 rfl (lv_at hl 5 rfl) ?_
                refine lv_iload_n hx hb d_D_letterAt_58 rfl (lv_at hl 6 rfl) ?_
                refine lv_iload hx hb d_D_letterAt_59 (lv_at hl 0 rfl) ?_
                refine lv_iadd hx hb d_D_letterAt_61 ?_
                refine lv_topi (fun v61 ev61 => ?_)
                have ev61 : v61 = nI (a + 2) := by rw [ev61]; exact nI_add a 2
                subst ev61
                have hPc := hP.sub (ws' := [(y, .inr (1, [.ref b, .int nv, .int pv])), (b, .inl (cB, M, .inl (fun j => sb_b (B j))))]) [0, 1] rfl
                have hKc := hK.sub (tys' := [(cB, .byte)]) [0] rfl
                refine vp_callSi (W.runV (As := [.int (nI (a + 2))]) (rest := []) ⟨hx, hb, hml, hown, hA⟩ (c_R_get l D cB y b M B nv pv (a + 2) (by omega) hM hB) (q_R_get hA k2_21 rfl rfl ⟨(Nat.le_of_ble_eq_true rfl), (Nat.le_of_ble_eq_true rfl)⟩) (ox_V (va_recv hKc hPc (ci := 1) (q0 := 0) rfl rfl) (ox_S hPc hKc)) rfl rfl hl.1 rfl (lv_room (Nat.le_of_ble_eq_true rfl)) d_D_letterAt_62 ⟨(Nat.le_of_ble_eq_true rfl), (Nat.le_of_ble_eq_true rfl)⟩) (fun r62 hr62 => ?_)
                have er62 : r62 = nI (B (a + 2)) := hr62
                subst er62
                refine lv_istore (lv' := [(7, .int (nI (B (a + 2)))), (6, .int 2), (5, .int (nI ((B a - 224) * 64 + (B (a + 1) - 128)))), (4, .int (nI 3)), (3, .int (nI (B a))), (0, .ref y), (1, .int (nI a)), (2, .int (nI e1))]) hx hb d_D_letterAt_65 hl (by decide) rfl (fun ls hl => ?_)
                refine lv_iload hx hb d_D_letterAt_67 (lv_at hl 0 rfl) ?_
                refine lv_sipush (v := 128) hx hb d_D_letterAt_69 (by decide) ?_
                refine lv_icmp_lt (tgt := 83) hx hb d_D_letterAt_72 (by decide) (fun c72 => ?_) (fun c72 => ?_)
                · have q83_2 : B (a + 2) < 128 ∨ 191 < B (a + 2) := by
                    first
                    | exact Or.inl ((nI_ltI (b := 128) (by omega) (by omega)).mp c72)
                    | exact Or.inr (by have := mt (nI_leI (a := B (a + 2)) (b := 191) (by omega) (by omega)).mpr c80; omega)
                  refine lv_iconst (v := (-1)) hx hb d_D_letterAt_83 (by decide) ?_
                  exact W.iret (v := (-1)) hx hb hr (fun t ht hW => ⟨_, rfl, (by show Int32.toInt _ = la B a e1; rw [li_m1]; rw [la_3 (by omega) (by omega) (by omega) (by omega) (by omega), if_neg (by omega), if_neg (by omega), if_pos (by omega)]), ht⟩) (fun q h => by cases h) d_D_letterAt_84
                · refine lv_iload hx hb d_D_letterAt_75 (lv_at hl 0 rfl) ?_
                  refine lv_sipush (v := 191) hx hb d_D_letterAt_77 (by decide) ?_
                  refine lv_icmp_le (tgt := 85) hx hb d_D_letterAt_80 (by decide) (fun c80 => ?_) (fun c80 => ?_)
                  · have q85_2 : 128 ≤ B (a + 2) := by have := mt (nI_ltI (a := B (a + 2)) (b := 128) (by omega) (by omega)).mpr c72; omega
                    have q86_2 : B (a + 2) ≤ 191 := (nI_leI (a := B (a + 2)) (b := 191) (by omega) (by omega)).mp c80
                    refine lv_iload hx hb d_D_letterAt_85 (lv_at hl 2 rfl) ?_
                    refine lv_bipush (v := 6) hx hb d_D_letterAt_87 (by decide) ?_
                    refine lv_ishl hx hb d_D_letterAt_89 ?_
                    refine lv_topi (fun v89 ev89 => ?_)
                    have ev89 : v89 = nI (((B a - 224) * 64 + (B (a + 1) - 128)) * 64) := by rw [ev89]; exact sh_n (k := 6) (by decide) (by omega)
                    subst ev89
                    refine lv_iload hx hb d_D_letterAt_90 (lv_at hl 0 rfl) ?_
                    refine lv_bipush (v := 63) hx hb d_D_letterAt_92 (by decide) ?_
                    refine lv_iand hx hb d_D_letterAt_94 ?_
                    refine lv_topi (fun v94 ev94 => ?_)
                    have ev94 : v94 = nI (B (a + 2) - 128) := by rw [ev94, pk_andN (n := B (a + 2)) (by omega) 6 (by decide)]; congr 1; omega
                    subst ev94
                    refine lv_ior hx hb d_D_letterAt_95 ?_
                    refine lv_topi (fun v95 ev95 => ?_)
                    have ev95 : v95 = nI (((B a - 224) * 64 + (B (a + 1) - 128)) * 64 + (B (a + 2) - 128)) := by rw [ev95]; exact or64 (by omega) (by omega)
                    subst ev95
                    refine lv_istore (lv' := [(5, .int (nI (((B a - 224) * 64 + (B (a + 1) - 128)) * 64 + (B (a + 2) - 128)))), (7, .int (nI (B (a + 2)))), (6, .int 2), (4, .int (nI 3)), (3, .int (nI (B a))), (0, .ref y), (1, .int (nI a)), (2, .int (nI e1))]) hx hb d_D_letterAt_96 hl (by decide) rfl (fun ls hl => ?_)
                    refine lv_iload hx hb d_D_letterAt_98 (lv_at hl 0 rfl) ?_
                    refine lv_bipush (v := 6) hx hb d_D_letterAt_100 (by decide) ?_
                    refine lv_iload hx hb d_D_letterAt_102 (lv_at hl 3 rfl) ?_
                    refine lv_iconst (v := 1) hx hb d_D_letterAt_104 (by decide) ?_
                    refine lv_isub hx hb d_D_letterAt_105 ?_
                    refine lv_topi (fun v105 ev105 => ?_)
                    have ev105 : v105 = 2 := by rw [ev105]; decide
                    subst ev105
                    refine lv_iload hx hb d_D_letterAt_106 (lv_at hl 2 rfl) ?_
                    refine lv_isub hx hb d_D_letterAt_108 ?_
                    refine lv_topi (fun v108 ev108 => ?_)
                    have ev108 : v108 = 0 := by rw [ev108]; decide
                    subst ev108
                    refine lv_imul hx hb d_D_letterAt_109 ?_
                    refine lv_topi (fun v109 ev109 => ?_)
                    have ev109 : v109 = 0 := by rw [ev109]; decide
                    subst ev109
                    refine lv_ishl hx hb d_D_letterAt_110 ?_
                    refine lv_topi (fun v110 ev110 => ?_)
                    have ev110 : v110 = nI ((((B a - 224) * 64 + (B (a + 1) - 128)) * 64 + (B (a + 2) - 128)) * 2 ^ 0) := by rw [ev110]; exact sh_n (k := 0) (by decide) (by omega)
                    subst ev110
                    refine vp_callSi (W.runS (As := [.int (nI ((((B a - 224) * 64 + (B (a + 1) - 128)) * 64 + (B (a + 2) - 128)) * 2 ^ 0))]) (rest := []) ⟨hx, hb, hml, hown, hA⟩ (c_D_letterWidth l (nI ((((B a - 224) * 64 + (B (a + 1) - 128)) * 64 + (B (a + 2) - 128)) * 2 ^ 0))) (q_D_letterWidth hA k1_214 rfl rfl ⟨(Nat.le_of_ble_eq_true rfl), (Nat.le_of_ble_eq_true rfl)⟩) (⟨fun a U g mk q => q, fun U hU hW => ⟨rfl, trivial⟩⟩) rfl rfl hl.1 rfl (lv_room (Nat.le_of_ble_eq_true rfl)) d_D_letterAt_111 ⟨(Nat.le_of_ble_eq_true rfl), (Nat.le_of_ble_eq_true rfl)⟩) (fun r111 hr111 => ?_)
                    have er111 : r111 = nI (lwI (((((B a - 224) * 64 + (B (a + 1) - 128)) * 64 + (B (a + 2) - 128)) * 2 ^ 0 : Nat) : Int)) := by rw [hr111, nI_toInt (by omega)]
                    subst er111
                    refine lv_iload hx hb d_D_letterAt_114 (lv_at hl 3 rfl) ?_
                    refine lv_icmp_eq (tgt := 121) hx hb d_D_letterAt_116 (by decide) (fun c116 => ?_) (fun c116 => ?_)
                    · have q116_2 := (lwI_3 ((((B a - 224) * 64 + (B (a + 1) - 128)) * 64 + (B (a + 2) - 128)) * 2 ^ 0)).mp ((nI_eq (b := 3) (by have := lwI_le (((((B a - 224) * 64 + (B (a + 1) - 128)) * 64 + (B (a + 2) - 128)) * 2 ^ 0 : Nat) : Int); omega) (by omega)).mp c116)
                      obtain ⟨v121, ev121⟩ : ∃ y : Int32, y = 2 + 1 := ⟨_, rfl⟩
                      refine lv_iinc (v := v121) (lv' := [(6, .int v121), (5, .int (nI (((B a - 224) * 64 + (B (a + 1) - 128)) * 64 + (B (a + 2) - 128)))), (7, .int (nI (B (a + 2)))), (4, .int (nI 3)), (3, .int (nI (B a))), (0, .ref y), (1, .int (nI a)), (2, .int (nI e1))]) hx hb d_D_letterAt_121 hl (k := 2) rfl (by rw [ev121]; rfl) (by decide) rfl (fun ls hl => ?_)
                      have ev121 : v121 = 3 := by rw [ev121]; rfl
                      subst ev121
                      refine lv_goto (tgt := 39) hx hb d_D_letterAt_124 (by decide) ?_
                      refine lv_iload hx hb d_D_letterAt_39 (lv_at hl 0 rfl) ?_
                      refine lv_iload hx hb d_D_letterAt_41 (lv_at hl 3 rfl) ?_
                      refine lv_icmp_ge (tgt := 127) hx hb d_D_letterAt_43 (by decide) (fun _ => ?_) (fun q9 => absurd (by decide) q9)
                      refine lv_iload hx hb d_D_letterAt_127 (lv_at hl 1 rfl) ?_
                      exact W.iret (v := nI (((B a - 224) * 64 + (B (a + 1) - 128)) * 64 + (B (a + 2) - 128))) hx hb hr (fun t ht hW => ⟨_, rfl, (by show Int32.toInt _ = la B a e1; rw [nI_toInt (by omega)]; rw [la_3 (by omega) (by omega) (by omega) (by omega) (by omega), if_neg (by omega), if_neg (by omega), if_neg (by omega)]), ht⟩) (fun q h => by cases h) d_D_letterAt_129
                    · have q116_2 := mt (lwI_3 ((((B a - 224) * 64 + (B (a + 1) - 128)) * 64 + (B (a + 2) - 128)) * 2 ^ 0)).mpr (fun z9 => c116 (by rw [z9]))
                      refine lv_iconst (v := (-1)) hx hb d_D_letterAt_119 (by decide) ?_
                      exact W.iret (v := (-1)) hx hb hr (fun t ht hW => ⟨_, rfl, (by show Int32.toInt _ = la B a e1; rw [li_m1]; exfalso; omega), ht⟩) (fun q h => by cases h) d_D_letterAt_120
                  · have q83_2 : B (a + 2) < 128 ∨ 191 < B (a + 2) := by
                      first
                      | exact Or.inl ((nI_ltI (b := 128) (by omega) (by omega)).mp c72)
                      | exact Or.inr (by have := mt (nI_leI (a := B (a + 2)) (b := 191) (by omega) (by omega)).mpr c80; omega)
                    refine lv_iconst (v := (-1)) hx hb d_D_letterAt_83 (by decide) ?_
                    exact W.iret (v := (-1)) hx hb hr (fun t ht hW => ⟨_, rfl, (by show Int32.toInt _ = la B a e1; rw [li_m1]; rw [la_3 (by omega) (by omega) (by omega) (by omega) (by omega), if_neg (by omega), if_neg (by omega), if_pos (by omega)]), ht⟩) (fun q h => by cases h) d_D_letterAt_84
              · have q51_2 : e1 ≤ a + 2 := by have := mt (nI_ltI (a := a + 2) (b := e1) (by omega) (by omega)).mpr c51; omega
                refine lv_bipush (v := (-2)) hx hb d_D_letterAt_54 (by decide) ?_
                exact W.iret (v := (-2)) hx hb hr (fun t ht hW => ⟨_, rfl, (by show Int32.toInt _ = la B a e1; rw [li_m2]; rw [la_3 (by omega) (by omega) (by omega) (by omega) (by omega), if_neg (by omega), if_pos (by omega)]), ht⟩) (fun q h => by cases h) d_D_letterAt_56
            · have q116_1 := mt (lwI_3 (((B a - 224) * 64 + (B (a + 1) - 128)) * 2 ^ 6)).mpr (fun z9 => c116 (by rw [z9]))
              refine lv_iconst (v := (-1)) hx hb d_D_letterAt_119 (by decide) ?_
              exact W.iret (v := (-1)) hx hb hr (fun t ht hW => ⟨_, rfl, (by show Int32.toInt _ = la B a e1; rw [li_m1]; rw [la_3 (by omega) (by omega) (by omega) (by omega) (by omega), if_pos (by omega)]), ht⟩) (fun q h => by cases h) d_D_letterAt_120
          · have q83_1 : B (a + 1) < 128 ∨ 191 < B (a + 1) := by
              first
              | exact Or.inl ((nI_ltI (b := 128) (by omega) (by omega)).mp c72)
              | exact Or.inr (by have := mt (nI_leI (a := B (a + 1)) (b := 191) (by omega) (by omega)).mpr c80; omega)
            refine lv_iconst (v := (-1)) hx hb d_D_letterAt_83 (by decide) ?_
            exact W.iret (v := (-1)) hx hb hr (fun t ht hW => ⟨_, rfl, (by show Int32.toInt _ = la B a e1; rw [li_m1]; exact (la_b1 (by omega) (by omega) (by omega) (by omega)).symm), ht⟩) (fun q h => by cases h) d_D_letterAt_84
      · have q51_1 : e1 ≤ a + 1 := by have := mt (nI_ltI (a := a + 1) (b := e1) (by omega) (by omega)).mpr c51; omega
        refine lv_bipush (v := (-2)) hx hb d_D_letterAt_54 (by decide) ?_
        exact W.iret (v := (-2)) hx hb hr (fun t ht hW => ⟨_, rfl, (by show Int32.toInt _ = la B a e1; rw [li_m2]; exact (la_e1 q2 (by omega) (by omega) (by omega)).symm), ht⟩) (fun q h => by cases h) d_D_letterAt_56
    · rw [ew]
      refine lv_istore (lv' := [(4, .int (nI 4)), (3, .int (nI (B a))), (0, .ref y), (1, .int (nI a)), (2, .int (nI e1))]) hx hb d_D_letterAt_18 hl (by decide) rfl (fun ls hl => ?_)
      refine lv_iload hx hb d_D_letterAt_20 (lv_at hl 0 rfl) ?_
      refine lv_if_ne (tgt := 27) hx hb d_D_letterAt_22 (by decide) (fun _ => ?_) (fun q9 => absurd q9 (by decide))
      refine lv_iload_n hx hb d_D_letterAt_27 rfl (lv_at hl 1 rfl) ?_
      refine lv_iload hx hb d_D_letterAt_28 (lv_at hl 0 rfl) ?_
      refine vp_callSi (W.runS (As := [.int (nI 4)]) (rest := [.int (nI (B a))]) ⟨hx, hb, hml, hown, hA⟩ (c_D_firstMark l 4 (by decide)) (q_D_firstMark hA k1_224 rfl rfl ⟨(Nat.le_of_ble_eq_true rfl), (Nat.le_of_ble_eq_true rfl)⟩) (⟨fun a U g mk q => q, fun U hU hW => ⟨rfl, trivial⟩⟩) rfl rfl hl.1 rfl (lv_room (Nat.le_of_ble_eq_true rfl)) d_D_letterAt_30 ⟨(Nat.le_of_ble_eq_true rfl), (Nat.le_of_ble_eq_true rfl)⟩) (fun r30 hr30 => ?_)
      have er30 : r30 = nI 240 := by rw [hr30]; rfl
      subst er30
      refine lv_isub hx hb d_D_letterAt_33 ?_
      refine lv_topi (fun v33 ev33 => ?_)
      have ev33 : v33 = nI (B a - 240) := by rw [ev33]; exact pk_sub (by omega)
      subst ev33
      refine lv_istore (lv' := [(5, .int (nI (B a - 240))), (4, .int (nI 4)), (3, .int (nI (B a))), (0, .ref y), (1, .int (nI a)), (2, .int (nI e1))]) hx hb d_D_letterAt_34 hl (by decide) rfl (fun ls hl => ?_)
      refine lv_iconst (v := 1) hx hb d_D_letterAt_36 (by decide) ?_
      refine lv_istore (lv' := [(6, .int 1), (5, .int (nI (B a - 240))), (4, .int (nI 4)), (3, .int (nI (B a))), (0, .ref y), (1, .int (nI a)), (2, .int (nI e1))]) hx hb d_D_letterAt_37 hl (by decide) rfl (fun ls hl => ?_)
      refine lv_iload hx hb d_D_letterAt_39 (lv_at hl 0 rfl) ?_
      refine lv_iload hx hb d_D_letterAt_41 (lv_at hl 2 rfl) ?_
      refine lv_icmp_ge (tgt := 127) hx hb d_D_letterAt_43 (by decide) (fun q9 => absurd q9 (by decide)) (fun _ => ?_)
      refine lv_iload_n hx hb d_D_letterAt_46 rfl (lv_at hl 5 rfl) ?_
      refine lv_iload hx hb d_D_letterAt_47 (lv_at hl 0 rfl) ?_
      refine lv_iadd hx hb d_D_letterAt_49 ?_
      refine lv_topi (fun v49 ev49 => ?_)
      have ev49 : v49 = nI (a + 1) := by rw [ev49]; exact nI_add a 1
      subst ev49
      refine lv_iload_n hx hb d_D_letterAt_50 rfl (lv_at hl 6 rfl) ?_
      refine lv_icmp_lt (tgt := 57) hx hb d_D_letterAt_51 (by decide) (fun c51 => ?_) (fun c51 => ?_)
      · have q51_1 : a + 1 < e1 := (nI_ltI (a := a + 1) (b := e1) (by omega) (by omega)).mp c51
        refine lv_aload_n hx hb d_D_letterAt_57 rfl (lv_at hl 4 rfl) ?_
        refine lv_iload_n hx hb d_D_letterAt_58 rfl (lv_at hl 5 rfl) ?_
        refine lv_iload hx hb d_D_letterAt_59 (lv_at hl 0 rfl) ?_
        refine lv_iadd hx hb d_D_letterAt_61 ?_
        refine lv_topi (fun v61 ev61 => ?_)
        have ev61 : v61 = nI (a + 1) := by rw [ev61]; exact nI_add a 1
        subst ev61
        have hPc := hP.sub (ws' := [(y, .inr (1, [.ref b, .int nv, .int pv])), (b, .inl (cB, M, .inl (fun j => sb_b (B j))))]) [0, 1] rfl
        have hKc := hK.sub (tys' := [(cB, .byte)]) [0] rfl
        refine vp_callSi (W.runV (As := [.int (nI (a + 1))]) (rest := []) ⟨hx, hb, hml, hown, hA⟩ (c_R_get l D cB y b M B nv pv (a + 1) (by omega) hM hB) (q_R_get hA k2_21 rfl rfl ⟨(Nat.le_of_ble_eq_true rfl), (Nat.le_of_ble_eq_true rfl)⟩) (ox_V (va_recv hKc hPc (ci := 1) (q0 := 0) rfl rfl) (ox_S hPc hKc)) rfl rfl hl.1 rfl (lv_room (Nat.le_of_ble_eq_true rfl)) d_D_letterAt_62 ⟨(Nat.le_of_ble_eq_true rfl), (Nat.le_of_ble_eq_true rfl)⟩) (fun r62 hr62 => ?_)
        have er62 : r62 = nI (B (a + 1)) := hr62
        subst er62
        refine lv_istore (lv' := [(7, .int (nI (B (a + 1)))), (6, .int 1), (5, .int (nI (B a - 240))), (4, .int (nI 4)), (3, .int (nI (B a))), (0, .ref y), (1, .int (nI a)), (2, .int (nI e1))]) hx hb d_D_letterAt_65 hl (by decide) rfl (fun ls hl => ?_)
        refine lv_iload hx hb d_D_letterAt_67 (lv_at hl 0 rfl) ?_
        refine lv_sipush (v := 128) hx hb d_D_letterAt_69 (by decide) ?_
        refine lv_icmp_lt (tgt := 83) hx hb d_D_letterAt_72 (by decide) (fun c72 => ?_) (fun c72 => ?_)
        · have q83_1 : B (a + 1) < 128 ∨ 191 < B (a + 1) := by
            first
            | exact Or.inl ((nI_ltI (b := 128) (by omega) (by omega)).mp c72)
            | exact Or.inr (by have := mt (nI_leI (a := B (a + 1)) (b := 191) (by omega) (by omega)).mpr c80; omega)
          refine lv_iconst (v := (-1)) hx hb d_D_letterAt_83 (by decide) ?_
          exact W.iret (v := (-1)) hx hb hr (fun t ht hW => ⟨_, rfl, (by show Int32.toInt _ = la B a e1; rw [li_m1]; exact (la_b1 (by omega) (by omega) (by omega) (by omega)).symm), ht⟩) (fun q h => by cases h) d_D_letterAt_84
        · refine lv_iload hx hb d_D_letterAt_75 (lv_at hl 0 rfl) ?_
          refine lv_sipush (v := 191) hx hb d_D_letterAt_77 (by decide) ?_
          refine lv_icmp_le (tgt := 85) hx hb d_D_letterAt_80 (by decide) (fun c80 => ?_) (fun c80 => ?_)
          · have q85_1 : 128 ≤ B (a + 1) := by have := mt (nI_ltI (a := B (a + 1)) (b := 128) (by omega) (by omega)).mpr c72; omega
            have q86_1 : B (a + 1) ≤ 191 := (nI_leI (a := B (a + 1)) (b := 191) (by omega) (by omega)).mp c80
            refine lv_iload hx hb d_D_letterAt_85 (lv_at hl 2 rfl) ?_
            refine lv_bipush (v := 6) hx hb d_D_letterAt_87 (by decide) ?_
            refine lv_ishl hx hb d_D_letterAt_89 ?_
            refine lv_topi (fun v89 ev89 => ?_)
            have ev89 : v89 = nI ((B a - 240) * 64) := by rw [ev89]; exact sh_n (k := 6) (by decide) (by omega)
            subst ev89
            refine lv_iload hx hb d_D_letterAt_90 (lv_at hl 0 rfl) ?_
            refine lv_bipush (v := 63) hx hb d_D_letterAt_92 (by decide) ?_
            refine lv_iand hx hb d_D_letterAt_94 ?_
            refine lv_topi (fun v94 ev94 => ?_)
            have ev94 : v94 = nI (B (a + 1) - 128) := by rw [ev94, pk_andN (n := B (a + 1)) (by omega) 6 (by decide)]; congr 1; omega
            subst ev94
            refine lv_ior hx hb d_D_letterAt_95 ?_
            refine lv_topi (fun v95 ev95 => ?_)
            have ev95 : v95 = nI ((B a - 240) * 64 + (B (a + 1) - 128)) := by rw [ev95]; exact or64 (by omega) (by omega)
            subst ev95
            refine lv_istore (lv' := [(5, .int (nI ((B a - 240) * 64 + (B (a + 1) - 128)))), (7, .int (nI (B (a + 1)))), (6, .int 1), (4, .int (nI 4)), (3, .int (nI (B a))), (0, .ref y), (1, .int (nI a)), (2, .int (nI e1))]) hx hb d_D_letterAt_96 hl (by decide) rfl (fun ls hl => ?_)
            refine lv_iload hx hb d_D_letterAt_98 (lv_at hl 0 rfl) ?_
            refine lv_bipush (v := 6) hx hb d_D_letterAt_100 (by decide) ?_
            refine lv_iload hx hb d_D_letterAt_102 (lv_at hl 3 rfl) ?_
            refine lv_iconst (v := 1) hx hb d_D_letterAt_104 (by decide) ?_
            refine lv_isub hx hb d_D_letterAt_105 ?_
            refine lv_topi (fun v105 ev105 => ?_)
            have ev105 : v105 = 3 := by rw [ev105]; decide
            subst ev105
            refine lv_iload hx hb d_D_letterAt_106 (lv_at hl 2 rfl) ?_
            refine lv_isub hx hb d_D_letterAt_108 ?_
            refine lv_topi (fun v108 ev108 => ?_)
            have ev108 : v108 = 2 := by rw [ev108]; decide
            subst ev108
            refine lv_imul hx hb d_D_letterAt_109 ?_
            refine lv_topi (fun v109 ev109 => ?_)
            have ev109 : v109 = 12 := by rw [ev109]; decide
            subst ev109
            refine lv_ishl hx hb d_D_letterAt_110 ?_
            refine lv_topi (fun v110 ev110 => ?_)
            have ev110 : v110 = nI (((B a - 240) * 64 + (B (a + 1) - 128)) * 2 ^ 12) := by rw [ev110]; exact sh_n (k := 12) (by decide) (by omega)
            subst ev110
            refine vp_callSi (W.runS (As := [.int (nI (((B a - 240) * 64 + (B (a + 1) - 128)) * 2 ^ 12))]) (rest := []) ⟨hx, hb, hml, hown, hA⟩ (c_D_letterWidth l (nI (((B a - 240) * 64 + (B (a + 1) - 128)) * 2 ^ 12))) (q_D_letterWidth hA k1_214 rfl rfl ⟨(Nat.le_of_ble_eq_true rfl), (Nat.le_of_ble_eq_true rfl)⟩) (⟨fun a U g mk q => q, fun U hU hW => ⟨rfl, trivial⟩⟩) rfl rfl hl.1 rfl (lv_room (Nat.le_of_ble_eq_true rfl)) d_D_letterAt_111 ⟨(Nat.le_of_ble_eq_true rfl), (Nat.le_of_ble_eq_true rfl)⟩) (fun r111 hr111 => ?_)
            have er111 : r111 = nI (lwI ((((B a - 240) * 64 + (B (a + 1) - 128)) * 2 ^ 12 : Nat) : Int)) := by rw [hr111, nI_toInt (by omega)]
            subst er111
            refine lv_iload hx hb d_D_letterAt_114 (lv_at hl 3 rfl) ?_
            refine lv_icmp_eq (tgt := 121) hx hb d_D_letterAt_116 (by decide) (fun c116 => ?_) (fun c116 => ?_)
            · have q116_1 := (lwI_4 (((B a - 240) * 64 + (B (a + 1) - 128)) * 2 ^ 12)).mp ((nI_eq (b := 4) (by have := lwI_le ((((B a - 240) * 64 + (B (a + 1) - 128)) * 2 ^ 12 : Nat) : Int); omega) (by omega)).mp c116)
              obtain ⟨v121, ev121⟩ : ∃ y : Int32, y = 1 + 1 := ⟨_, rfl⟩
              refine lv_iinc (v := v121) (lv' := [(6, .int v121), (5, .int (nI ((B a - 240) * 64 + (B (a + 1) - 128)))), (7, .int (nI (B (a + 1)))), (4, .int (nI 4)), (3, .int (nI (B a))), (0, .ref y), (1, .int (nI a)), (2, .int (nI e1))]) hx hb d_D_letterAt_121 hl (k := 2) rfl (by rw [ev121]; rfl) (by decide) rfl (fun ls hl => ?_)
              have ev121 : v121 = 2 := by rw [ev121]; rfl
              subst ev121
              refine lv_goto (tgt := 39) hx hb d_D_letterAt_124 (by decide) ?_
              refine lv_iload hx hb d_D_letterAt_39 (lv_at hl 0 rfl) ?_
              refine lv_iload hx hb d_D_letterAt_41 (lv_at hl 3 rfl) ?_
              refine lv_icmp_ge (tgt := 127) hx hb d_D_letterAt_43 (by decide) (fun q9 => absurd q9 (by decide)) (fun _ => ?_)
              refine lv_iload_n hx hb d_D_letterAt_46 rfl (lv_at hl 6 rfl) ?_
              refine lv_iload hx hb d_D_letterAt_47 (lv_at hl 0 rfl) ?_
              refine lv_iadd hx hb d_D_letterAt_49 ?_
              refine lv_topi (fun v49 ev49 => ?_)
              have ev49 : v49 = nI (a + 2) := by rw [ev49]; exact nI_add a 2
              subst ev49
              refine lv_iload_n hx hb d_D_letterAt_50 rfl (lv_at hl 7 rfl) ?_
              refine lv_icmp_lt (tgt := 57) hx hb d_D_letterAt_51 (by decide) (fun c51 => ?_) (fun c51 => ?_)
              · have q51_2 : a + 2 < e1 := (nI_ltI (a := a + 2) (b := e1) (by omega) (by omega)).mp c51
                refine lv_aload_n hx hb d_D_letterAt_57 rfl (lv_at hl 5 rfl) ?_
                refine lv_iload_n hx hb d_D_letterAt_58 rfl (lv_at hl 6 rfl) ?_
                refine lv_iload hx hb d_D_letterAt_59 (lv_at hl 0 rfl) ?_
                refine lv_iadd hx hb d_D_letterAt_61 ?_
                refine lv_topi (fun v61 ev61 => ?_)
                have ev61 : v61 = nI (a + 2) := by rw [ev61]; exact nI_add a 2
                subst ev61
                have hPc := hP.sub (ws' := [(y, .inr (1, [.ref b, .int nv, .int pv])), (b, .inl (cB, M, .inl (fun j => sb_b (B j))))]) [0, 1] rfl
                have hKc := hK.sub (tys' := [(cB, .byte)]) [0] rfl
                refine vp_callSi (W.runV (As := [.int (nI (a + 2))]) (rest := []) ⟨hx, hb, hml, hown, hA⟩ (c_R_get l D cB y b M B nv pv (a + 2) (by omega) hM hB) (q_R_get hA k2_21 rfl rfl ⟨(Nat.le_of_ble_eq_true rfl), (Nat.le_of_ble_eq_true rfl)⟩) (ox_V (va_recv hKc hPc (ci := 1) (q0 := 0) rfl rfl) (ox_S hPc hKc)) rfl rfl hl.1 rfl (lv_room (Nat.le_of_ble_eq_true rfl)) d_D_letterAt_62 ⟨(Nat.le_of_ble_eq_true rfl), (Nat.le_of_ble_eq_true rfl)⟩) (fun r62 hr62 => ?_)
                have er62 : r62 = nI (B (a + 2)) := hr62
                subst er62
                refine lv_istore (lv' := [(7, .int (nI (B (a + 2)))), (6, .int 2), (5, .int (nI ((B a - 240) * 64 + (B (a + 1) - 128)))), (4, .int (nI 4)), (3, .int (nI (B a))), (0, .ref y), (1, .int (nI a)), (2, .int (nI e1))]) hx hb d_D_letterAt_65 hl (by decide) rfl (fun ls hl => ?_)
                refine lv_iload hx hb d_D_letterAt_67 (lv_at hl 0 rfl) ?_
                refine lv_sipush (v := 128) hx hb d_D_letterAt_69 (by decide) ?_
                refine lv_icmp_lt (tgt := 83) hx hb d_D_letterAt_72 (by decide) (fun c72 => ?_) (fun c72 => ?_)
                · have q83_2 : B (a + 2) < 128 ∨ 191 < B (a + 2) := by
                    first
                    | exact Or.inl ((nI_ltI (b := 128) (by omega) (by omega)).mp c72)
                    | exact Or.inr (by have := mt (nI_leI (a := B (a + 2)) (b := 191) (by omega) (by omega)).mpr c80; omega)
                  refine lv_iconst (v := (-1)) hx hb d_D_letterAt_83 (by decide) ?_
                  exact W.iret (v := (-1)) hx hb hr (fun t ht hW => ⟨_, rfl, (by show Int32.toInt _ = la B a e1; rw [li_m1]; rw [la_4 (by omega) (by omega) (by omega) (by omega) (by omega), if_neg (by omega), if_neg (by omega), if_pos (by omega)]), ht⟩) (fun q h => by cases h) d_D_letterAt_84
                · refine lv_iload hx hb d_D_letterAt_75 (lv_at hl 0 rfl) ?_
                  refine lv_sipush (v := 191) hx hb d_D_letterAt_77 (by decide) ?_
                  refine lv_icmp_le (tgt := 85) hx hb d_D_letterAt_80 (by decide) (fun c80 => ?_) (fun c80 => ?_)
                  · have q85_2 : 128 ≤ B (a + 2) := by have := mt (nI_ltI (a := B (a + 2)) (b := 128) (by omega) (by omega)).mpr c72; omega
                    have q86_2 : B (a + 2) ≤ 191 := (nI_leI (a := B (a + 2)) (b := 191) (by omega) (by omega)).mp c80
                    refine lv_iload hx hb d_D_letterAt_85 (lv_at hl 2 rfl) ?_
                    refine lv_bipush (v := 6) hx hb d_D_letterAt_87 (by decide) ?_
                    refine lv_ishl hx hb d_D_letterAt_89 ?_
                    refine lv_topi (fun v89 ev89 => ?_)
                    have ev89 : v89 = nI (((B a - 240) * 64 + (B (a + 1) - 128)) * 64) := by rw [ev89]; exact sh_n (k := 6) (by decide) (by omega)
                    subst ev89
                    refine lv_iload hx hb d_D_letterAt_90 (lv_at hl 0 rfl) ?_
                    refine lv_bipush (v := 63) hx hb d_D_letterAt_92 (by decide) ?_
                    refine lv_iand hx hb d_D_letterAt_94 ?_
                    refine lv_topi (fun v94 ev94 => ?_)
                    have ev94 : v94 = nI (B (a + 2) - 128) := by rw [ev94, pk_andN (n := B (a + 2)) (by omega) 6 (by decide)]; congr 1; omega
                    subst ev94
                    refine lv_ior hx hb d_D_letterAt_95 ?_
                    refine lv_topi (fun v95 ev95 => ?_)
                    have ev95 : v95 = nI (((B a - 240) * 64 + (B (a + 1) - 128)) * 64 + (B (a + 2) - 128)) := by rw [ev95]; exact or64 (by omega) (by omega)
                    subst ev95
                    refine lv_istore (lv' := [(5, .int (nI (((B a - 240) * 64 + (B (a + 1) - 128)) * 64 + (B (a + 2) - 128)))), (7, .int (nI (B (a + 2)))), (6, .int 2), (4, .int (nI 4)), (3, .int (nI (B a))), (0, .ref y), (1, .int (nI a)), (2, .int (nI e1))]) hx hb d_D_letterAt_96 hl (by decide) rfl (fun ls hl => ?_)
                    refine lv_iload hx hb d_D_letterAt_98 (lv_at hl 0 rfl) ?_
                    refine lv_bipush (v := 6) hx hb d_D_letterAt_100 (by decide) ?_
                    refine lv_iload hx hb d_D_letterAt_102 (lv_at hl 3 rfl) ?_
                    refine lv_iconst (v := 1) hx hb d_D_letterAt_104 (by decide) ?_
                    refine lv_isub hx hb d_D_letterAt_105 ?_
                    refine lv_topi (fun v105 ev105 => ?_)
                    have ev105 : v105 = 3 := by rw [ev105]; decide
                    subst ev105
                    refine lv_iload hx hb d_D_letterAt_106 (lv_at hl 2 rfl) ?_
                    refine lv_isub hx hb d_D_letterAt_108 ?_
                    refine lv_topi (fun v108 ev108 => ?_)
                    have ev108 : v108 = 1 := by rw [ev108]; decide
                    subst ev108
                    refine lv_imul hx hb d_D_letterAt_109 ?_
                    refine lv_topi (fun v109 ev109 => ?_)
                    have ev109 : v109 = 6 := by rw [ev109]; decide
                    subst ev109
                    refine lv_ishl hx hb d_D_letterAt_110 ?_
                    refine lv_topi (fun v110 ev110 => ?_)
                    have ev110 : v110 = nI ((((B a - 240) * 64 + (B (a + 1) - 128)) * 64 + (B (a + 2) - 128)) * 2 ^ 6) := by rw [ev110]; exact sh_n (k := 6) (by decide) (by omega)
                    subst ev110
                    refine vp_callSi (W.runS (As := [.int (nI ((((B a - 240) * 64 + (B (a + 1) - 128)) * 64 + (B (a + 2) - 128)) * 2 ^ 6))]) (rest := []) ⟨hx, hb, hml, hown, hA⟩ (c_D_letterWidth l (nI ((((B a - 240) * 64 + (B (a + 1) - 128)) * 64 + (B (a + 2) - 128)) * 2 ^ 6))) (q_D_letterWidth hA k1_214 rfl rfl ⟨(Nat.le_of_ble_eq_true rfl), (Nat.le_of_ble_eq_true rfl)⟩) (⟨fun a U g mk q => q, fun U hU hW => ⟨rfl, trivial⟩⟩) rfl rfl hl.1 rfl (lv_room (Nat.le_of_ble_eq_true rfl)) d_D_letterAt_111 ⟨(Nat.le_of_ble_eq_true rfl), (Nat.le_of_ble_eq_true rfl)⟩) (fun r111 hr111 => ?_)
                    have er111 : r111 = nI (lwI (((((B a - 240) * 64 + (B (a + 1) - 128)) * 64 + (B (a + 2) - 128)) * 2 ^ 6 : Nat) : Int)) := by rw [hr111, nI_toInt (by omega)]
                    subst er111
                    refine lv_iload hx hb d_D_letterAt_114 (lv_at hl 3 rfl) ?_
                    refine lv_icmp_eq (tgt := 121) hx hb d_D_letterAt_116 (by decide) (fun c116 => ?_) (fun c116 => ?_)
                    · have q116_2 := (lwI_4 ((((B a - 240) * 64 + (B (a + 1) - 128)) * 64 + (B (a + 2) - 128)) * 2 ^ 6)).mp ((nI_eq (b := 4) (by have := lwI_le (((((B a - 240) * 64 + (B (a + 1) - 128)) * 64 + (B (a + 2) - 128)) * 2 ^ 6 : Nat) : Int); omega) (by omega)).mp c116)
                      obtain ⟨v121, ev121⟩ : ∃ y : Int32, y = 2 + 1 := ⟨_, rfl⟩
                      refine lv_iinc (v := v121) (lv' := [(6, .int v121), (5, .int (nI (((B a - 240) * 64 + (B (a + 1) - 128)) * 64 + (B (a + 2) - 128)))), (7, .int (nI (B (a + 2)))), (4, .int (nI 4)), (3, .int (nI (B a))), (0, .ref y), (1, .int (nI a)), (2, .int (nI e1))]) hx hb d_D_letterAt_121 hl (k := 2) rfl (by rw [ev121]; rfl) (by decide) rfl (fun ls hl => ?_)
                      have ev121 : v121 = 3 := by rw [ev121]; rfl
                      subst ev121
                      refine lv_goto (tgt := 39) hx hb d_D_letterAt_124 (by decide) ?_
                      refine lv_iload hx hb d_D_letterAt_39 (lv_at hl 0 rfl) ?_
                      refine lv_iload hx hb d_D_letterAt_41 (lv_at hl 3 rfl) ?_
                      refine lv_icmp_ge (tgt := 127) hx hb d_D_letterAt_43 (by decide) (fun q9 => absurd q9 (by decide)) (fun _ => ?_)
                      refine lv_iload_n hx hb d_D_letterAt_46 rfl (lv_at hl 6 rfl) ?_
                      refine lv_iload hx hb d_D_letterAt_47 (lv_at hl 0 rfl) ?_
                      refine lv_iadd hx hb d_D_letterAt_49 ?_
                      refine lv_topi (fun v49 ev49 => ?_)
                      have ev49 : v49 = nI (a + 3) := by rw [ev49]; exact nI_add a 3
                      subst ev49
                      refine lv_iload_n hx hb d_D_letterAt_50 rfl (lv_at hl 7 rfl) ?_
                      refine lv_icmp_lt (tgt := 57) hx hb d_D_letterAt_51 (by decide) (fun c51 => ?_) (fun c51 => ?_)
                      · have q51_3 : a + 3 < e1 := (nI_ltI (a := a + 3) (b := e1) (by omega) (by omega)).mp c51
                        refine lv_aload_n hx hb d_D_letterAt_57 rfl (lv_at hl 5 rfl) ?_
                        refine lv_iload_n hx hb d_D_letterAt_58 rfl (lv_at hl 6 rfl) ?_
                        refine lv_iload hx hb d_D_letterAt_59 (lv_at hl 0 rfl) ?_
                        refine lv_iadd hx hb d_D_letterAt_61 ?_
                        refine lv_topi (fun v61 ev61 => ?_)
                        have ev61 : v61 = nI (a + 3) := by rw [ev61]; exact nI_add a 3
                        subst ev61
                        have hPc := hP.sub (ws' := [(y, .inr (1, [.ref b, .int nv, .int pv])), (b, .inl (cB, M, .inl (fun j => sb_b (B j))))]) [0, 1] rfl
                        have hKc := hK.sub (tys' := [(cB, .byte)]) [0] rfl
                        refine vp_callSi (W.runV (As := [.int (nI (a + 3))]) (rest := []) ⟨hx, hb, hml, hown, hA⟩ (c_R_get l D cB y b M B nv pv (a + 3) (by omega) hM hB) (q_R_get hA k2_21 rfl rfl ⟨(Nat.le_of_ble_eq_true rfl), (Nat.le_of_ble_eq_true rfl)⟩) (ox_V (va_recv hKc hPc (ci := 1) (q0 := 0) rfl rfl) (ox_S hPc hKc)) rfl rfl hl.1 rfl (lv_room (Nat.le_of_ble_eq_true rfl)) d_D_letterAt_62 ⟨(Nat.le_of_ble_eq_true rfl), (Nat.le_of_ble_eq_true rfl)⟩) (fun r62 hr62 => ?_)
                        have er62 : r62 = nI (B (a + 3)) := hr62
                        subst er62
                        refine lv_istore (lv' := [(7, .int (nI (B (a + 3)))), (6, .int 3), (5, .int (nI (((B a - 240) * 64 + (B (a + 1) - 128)) * 64 + (B (a + 2) - 128)))), (4, .int (nI 4)), (3, .int (nI (B a))), (0, .ref y), (1, .int (nI a)), (2, .int (nI e1))]) hx hb d_D_letterAt_65 hl (by decide) rfl (fun ls hl => ?_)
                        refine lv_iload hx hb d_D_letterAt_67 (lv_at hl 0 rfl) ?_
                        refine lv_sipush (v := 128) hx hb d_D_letterAt_69 (by decide) ?_
                        refine lv_icmp_lt (tgt := 83) hx hb d_D_letterAt_72 (by decide) (fun c72 => ?_) (fun c72 => ?_)
                        · have q83_3 : B (a + 3) < 128 ∨ 191 < B (a + 3) := by
                            first
                            | exact Or.inl ((nI_ltI (b := 128) (by omega) (by omega)).mp c72)
                            | exact Or.inr (by have := mt (nI_leI (a := B (a + 3)) (b := 191) (by omega) (by omega)).mpr c80; omega)
                          refine lv_iconst (v := (-1)) hx hb d_D_letterAt_83 (by decide) ?_
                          exact W.iret (v := (-1)) hx hb hr (fun t ht hW => ⟨_, rfl, (by show Int32.toInt _ = la B a e1; rw [li_m1]; rw [la_4 (by omega) (by omega) (by omega) (by omega) (by omega), if_neg (by omega), if_neg (by omega), if_neg (by omega), if_neg (by omega), if_pos (by omega)]), ht⟩) (fun q h => by cases h) d_D_letterAt_84
                        · refine lv_iload hx hb d_D_letterAt_75 (lv_at hl 0 rfl) ?_
                          refine lv_sipush (v := 191) hx hb d_D_letterAt_77 (by decide) ?_
                          refine lv_icmp_le (tgt := 85) hx hb d_D_letterAt_80 (by decide) (fun c80 => ?_) (fun c80 => ?_)
                          · have q85_3 : 128 ≤ B (a + 3) := by have := mt (nI_ltI (a := B (a + 3)) (b := 128) (by omega) (by omega)).mpr c72; omega
                            have q86_3 : B (a + 3) ≤ 191 := (nI_leI (a := B (a + 3)) (b := 191) (by omega) (by omega)).mp c80
                            refine lv_iload hx hb d_D_letterAt_85 (lv_at hl 2 rfl) ?_
                            refine lv_bipush (v := 6) hx hb d_D_letterAt_87 (by decide) ?_
                            refine lv_ishl hx hb d_D_letterAt_89 ?_
                            refine lv_topi (fun v89 ev89 => ?_)
                            have ev89 : v89 = nI ((((B a - 240) * 64 + (B (a + 1) - 128)) * 64 + (B (a + 2) - 128)) * 64) := by rw [ev89]; exact sh_n (k := 6) (by decide) (by omega)
                            subst ev89
                            refine lv_iload hx hb d_D_letterAt_90 (lv_at hl 0 rfl) ?_
                            refine lv_bipush (v := 63) hx hb d_D_letterAt_92 (by decide) ?_
                            refine lv_iand hx hb d_D_letterAt_94 ?_
                            refine lv_topi (fun v94 ev94 => ?_)
                            have ev94 : v94 = nI (B (a + 3) - 128) := by rw [ev94, pk_andN (n := B (a + 3)) (by omega) 6 (by decide)]; congr 1; omega
                            subst ev94
                            refine lv_ior hx hb d_D_letterAt_95 ?_
                            refine lv_topi (fun v95 ev95 => ?_)
                            have ev95 : v95 = nI ((((B a - 240) * 64 + (B (a + 1) - 128)) * 64 + (B (a + 2) - 128)) * 64 + (B (a + 3) - 128)) := by rw [ev95]; exact or64 (by omega) (by omega)
                            subst ev95
                            refine lv_istore (lv' := [(5, .int (nI ((((B a - 240) * 64 + (B (a + 1) - 128)) * 64 + (B (a + 2) - 128)) * 64 + (B (a + 3) - 128)))), (7, .int (nI (B (a + 3)))), (6, .int 3), (4, .int (nI 4)), (3, .int (nI (B a))), (0, .ref y), (1, .int (nI a)), (2, .int (nI e1))]) hx hb d_D_letterAt_96 hl (by decide) rfl (fun ls hl => ?_)
                            refine lv_iload hx hb d_D_letterAt_98 (lv_at hl 0 rfl) ?_
                            refine lv_bipush (v := 6) hx hb d_D_letterAt_100 (by decide) ?_
                            refine lv_iload hx hb d_D_letterAt_102 (lv_at hl 3 rfl) ?_
                            refine lv_iconst (v := 1) hx hb d_D_letterAt_104 (by decide) ?_
                            refine lv_isub hx hb d_D_letterAt_105 ?_
                            refine lv_topi (fun v105 ev105 => ?_)
                            have ev105 : v105 = 3 := by rw [ev105]; decide
                            subst ev105
                            refine lv_iload hx hb d_D_letterAt_106 (lv_at hl 2 rfl) ?_
                            refine lv_isub hx hb d_D_letterAt_108 ?_
                            refine lv_topi (fun v108 ev108 => ?_)
                            have ev108 : v108 = 0 := by rw [ev108]; decide
                            subst ev108
                            refine lv_imul hx hb d_D_letterAt_109 ?_
                            refine lv_topi (fun v109 ev109 => ?_)
                            have ev109 : v109 = 0 := by rw [ev109]; decide
                            subst ev109
                            refine lv_ishl hx hb d_D_letterAt_110 ?_
                            refine lv_topi (fun v110 ev110 => ?_)
                            have ev110 : v110 = nI (((((B a - 240) * 64 + (B (a + 1) - 128)) * 64 + (B (a + 2) - 128)) * 64 + (B (a + 3) - 128)) * 2 ^ 0) := by rw [ev110]; exact sh_n (k := 0) (by decide) (by omega)
                            subst ev110
                            refine vp_callSi (W.runS (As := [.int (nI (((((B a - 240) * 64 + (B (a + 1) - 128)) * 64 + (B (a + 2) - 128)) * 64 + (B (a + 3) - 128)) * 2 ^ 0))]) (rest := []) ⟨hx, hb, hml, hown, hA⟩ (c_D_letterWidth l (nI (((((B a - 240) * 64 + (B (a + 1) - 128)) * 64 + (B (a + 2) - 128)) * 64 + (B (a + 3) - 128)) * 2 ^ 0))) (q_D_letterWidth hA k1_214 rfl rfl ⟨(Nat.le_of_ble_eq_true rfl), (Nat.le_of_ble_eq_true rfl)⟩) (⟨fun a U g mk q => q, fun U hU hW => ⟨rfl, trivial⟩⟩) rfl rfl hl.1 rfl (lv_room (Nat.le_of_ble_eq_true rfl)) d_D_letterAt_111 ⟨(Nat.le_of_ble_eq_true rfl), (Nat.le_of_ble_eq_true rfl)⟩) (fun r111 hr111 => ?_)
                            have er111 : r111 = nI (lwI ((((((B a - 240) * 64 + (B (a + 1) - 128)) * 64 + (B (a + 2) - 128)) * 64 + (B (a + 3) - 128)) * 2 ^ 0 : Nat) : Int)) := by rw [hr111, nI_toInt (by omega)]
                            subst er111
                            refine lv_iload hx hb d_D_letterAt_114 (lv_at hl 3 rfl) ?_
                            refine lv_icmp_eq (tgt := 121) hx hb d_D_letterAt_116 (by decide) (fun c116 => ?_) (fun c116 => ?_)
                            · have q116_3 := (lwI_4 (((((B a - 240) * 64 + (B (a + 1) - 128)) * 64 + (B (a + 2) - 128)) * 64 + (B (a + 3) - 128)) * 2 ^ 0)).mp ((nI_eq (b := 4) (by have := lwI_le ((((((B a - 240) * 64 + (B (a + 1) - 128)) * 64 + (B (a + 2) - 128)) * 64 + (B (a + 3) - 128)) * 2 ^ 0 : Nat) : Int); omega) (by omega)).mp c116)
                              obtain ⟨v121, ev121⟩ : ∃ y : Int32, y = 3 + 1 := ⟨_, rfl⟩
                              refine lv_iinc (v := v121) (lv' := [(6, .int v121), (5, .int (nI ((((B a - 240) * 64 + (B (a + 1) - 128)) * 64 + (B (a + 2) - 128)) * 64 + (B (a + 3) - 128)))), (7, .int (nI (B (a + 3)))), (4, .int (nI 4)), (3, .int (nI (B a))), (0, .ref y), (1, .int (nI a)), (2, .int (nI e1))]) hx hb d_D_letterAt_121 hl (k := 2) rfl (by rw [ev121]; rfl) (by decide) rfl (fun ls hl => ?_)
                              have ev121 : v121 = 4 := by rw [ev121]; rfl
                              subst ev121
                              refine lv_goto (tgt := 39) hx hb d_D_letterAt_124 (by decide) ?_
                              refine lv_iload hx hb d_D_letterAt_39 (lv_at hl 0 rfl) ?_
                              refine lv_iload hx hb d_D_letterAt_41 (lv_at hl 3 rfl) ?_
                              refine lv_icmp_ge (tgt := 127) hx hb d_D_letterAt_43 (by decide) (fun _ => ?_) (fun q9 => absurd (by decide) q9)
                              refine lv_iload hx hb d_D_letterAt_127 (lv_at hl 1 rfl) ?_
                              exact W.iret (v := nI ((((B a - 240) * 64 + (B (a + 1) - 128)) * 64 + (B (a + 2) - 128)) * 64 + (B (a + 3) - 128))) hx hb hr (fun t ht hW => ⟨_, rfl, (by show Int32.toInt _ = la B a e1; rw [nI_toInt (by omega)]; rw [la_4 (by omega) (by omega) (by omega) (by omega) (by omega), if_neg (by omega), if_neg (by omega), if_neg (by omega), if_neg (by omega), if_neg (by omega)]), ht⟩) (fun q h => by cases h) d_D_letterAt_129
                            · have q116_3 := mt (lwI_4 (((((B a - 240) * 64 + (B (a + 1) - 128)) * 64 + (B (a + 2) - 128)) * 64 + (B (a + 3) - 128)) * 2 ^ 0)).mpr (fun z9 => c116 (by rw [z9]))
                              refine lv_iconst (v := (-1)) hx hb d_D_letterAt_119 (by decide) ?_
                              exact W.iret (v := (-1)) hx hb hr (fun t ht hW => ⟨_, rfl, (by show Int32.toInt _ = la B a e1; rw [li_m1]; exfalso; omega), ht⟩) (fun q h => by cases h) d_D_letterAt_120
                          · have q83_3 : B (a + 3) < 128 ∨ 191 < B (a + 3) := by
                              first
                              | exact Or.inl ((nI_ltI (b := 128) (by omega) (by omega)).mp c72)
                              | exact Or.inr (by have := mt (nI_leI (a := B (a + 3)) (b := 191) (by omega) (by omega)).mpr c80; omega)
                            refine lv_iconst (v := (-1)) hx hb d_D_letterAt_83 (by decide) ?_
                            exact W.iret (v := (-1)) hx hb hr (fun t ht hW => ⟨_, rfl, (by show Int32.toInt _ = la B a e1; rw [li_m1]; rw [la_4 (by omega) (by omega) (by omega) (by omega) (by omega), if_neg (by omega), if_neg (by omega), if_neg (by omega), if_neg (by omega), if_pos (by omega)]), ht⟩) (fun q h => by cases h) d_D_letterAt_84
                      · have q51_3 : e1 ≤ a + 3 := by have := mt (nI_ltI (a := a + 3) (b := e1) (by omega) (by omega)).mpr c51; omega
                        refine lv_bipush (v := (-2)) hx hb d_D_letterAt_54 (by decide) ?_
                        exact W.iret (v := (-2)) hx hb hr (fun t ht hW => ⟨_, rfl, (by show Int32.toInt _ = la B a e1; rw [li_m2]; rw [la_4 (by omega) (by omega) (by omega) (by omega) (by omega), if_neg (by omega), if_neg (by omega), if_neg (by omega), if_pos (by omega)]), ht⟩) (fun q h => by cases h) d_D_letterAt_56
                    · have q116_2 := mt (lwI_4 ((((B a - 240) * 64 + (B (a + 1) - 128)) * 64 + (B (a + 2) - 128)) * 2 ^ 6)).mpr (fun z9 => c116 (by rw [z9]))
                      refine lv_iconst (v := (-1)) hx hb d_D_letterAt_119 (by decide) ?_
                      exact W.iret (v := (-1)) hx hb hr (fun t ht hW => ⟨_, rfl, (by show Int32.toInt _ = la B a e1; rw [li_m1]; exfalso; omega), ht⟩) (fun q h => by cases h) d_D_letterAt_120
                  · have q83_2 : B (a + 2) < 128 ∨ 191 < B (a + 2) := by
                      first
                      | exact Or.inl ((nI_ltI (b := 128) (by omega) (by omega)).mp c72)
                      | exact Or.inr (by have := mt (nI_leI (a := B (a + 2)) (b := 191) (by omega) (by omega)).mpr c80; omega)
                    refine lv_iconst (v := (-1)) hx hb d_D_letterAt_83 (by decide) ?_
                    exact W.iret (v := (-1)) hx hb hr (fun t ht hW => ⟨_, rfl, (by show Int32.toInt _ = la B a e1; rw [li_m1]; rw [la_4 (by omega) (by omega) (by omega) (by omega) (by omega), if_neg (by omega), if_neg (by omega), if_pos (by omega)]), ht⟩) (fun q h => by cases h) d_D_letterAt_84
              · have q51_2 : e1 ≤ a + 2 := by have := mt (nI_ltI (a := a + 2) (b := e1) (by omega) (by omega)).mpr c51; omega
                refine lv_bipush (v := (-2)) hx hb d_D_letterAt_54 (by decide) ?_
                exact W.iret (v := (-2)) hx hb hr (fun t ht hW => ⟨_, rfl, (by show Int32.toInt _ = la B a e1; rw [li_m2]; rw [la_4 (by omega) (by omega) (by omega) (by omega) (by omega), if_neg (by omega), if_pos (by omega)]), ht⟩) (fun q h => by cases h) d_D_letterAt_56
            · have q116_1 := mt (lwI_4 (((B a - 240) * 64 + (B (a + 1) - 128)) * 2 ^ 12)).mpr (fun z9 => c116 (by rw [z9]))
              refine lv_iconst (v := (-1)) hx hb d_D_letterAt_119 (by decide) ?_
              exact W.iret (v := (-1)) hx hb hr (fun t ht hW => ⟨_, rfl, (by show Int32.toInt _ = la B a e1; rw [li_m1]; rw [la_4 (by omega) (by omega) (by omega) (by omega) (by omega), if_pos (by omega)]), ht⟩) (fun q h => by cases h) d_D_letterAt_120
          · have q83_1 : B (a + 1) < 128 ∨ 191 < B (a + 1) := by
              first
              | exact Or.inl ((nI_ltI (b := 128) (by omega) (by omega)).mp c72)
              | exact Or.inr (by have := mt (nI_leI (a := B (a + 1)) (b := 191) (by omega) (by omega)).mpr c80; omega)
            refine lv_iconst (v := (-1)) hx hb d_D_letterAt_83 (by decide) ?_
            exact W.iret (v := (-1)) hx hb hr (fun t ht hW => ⟨_, rfl, (by show Int32.toInt _ = la B a e1; rw [li_m1]; exact (la_b1 (by omega) (by omega) (by omega) (by omega)).symm), ht⟩) (fun q h => by cases h) d_D_letterAt_84
      · have q51_1 : e1 ≤ a + 1 := by have := mt (nI_ltI (a := a + 1) (b := e1) (by omega) (by omega)).mpr c51; omega
        refine lv_bipush (v := (-2)) hx hb d_D_letterAt_54 (by decide) ?_
        exact W.iret (v := (-2)) hx hb hr (fun t ht hW => ⟨_, rfl, (by show Int32.toInt _ = la B a e1; rw [li_m2]; exact (la_e1 q2 (by omega) (by omega) (by omega)).symm), ht⟩) (fun q h => by cases h) d_D_letterAt_56
  · refine lv_bipush (v := (-2)) hx hb d_D_letterAt_5 (by decide) ?_
    have q2 : e1 ≤ a := by have := mt (nI_ltI (a := a) (b := e1) (by omega) (by omega)).mpr c2; omega
    exact W.iret (v := (-2)) hx hb hr (fun t ht hW => ⟨_, rfl, (by show Int32.toInt _ = la B a e1; rw [li_m2]; exact (la_e0 (by omega)).symm), ht⟩) (fun q h => by cases h) d_D_letterAt_7
end
section
/-! WHAT EACH CALL ANSWERS AND DOES: (code, answer, rows behind it); code 0: it returns -/
abbrev isR (x : Int32) : Prop := 0 ≤ x.toInt ∧ x.toInt < 4
def rj (x : Int32) : Nat := x.toInt.toNat
/-- rows as they may be -/
def dkok (M : Nat) (σ : dkS) : Prop := M ≤ 65536 ∧ ∀ i, i < 4 → (σ i).2.2 ≤ (σ i).2.1 ∧ (σ i).2.1 ≤ M ∧ ∀ j, (σ i).1 j < 256
theorem isR_n {j : Nat} (h : j < 4) : isR (nI j) := by
  have := nI_toInt (n := j) (by omega)
  unfold isR
  omega
theorem rj_n {j : Nat} (h : j < 4) : rj (nI j) = j := by
  unfold rj
  rw [nI_toInt (by omega)]
  rfl
def uNl (v : Int64) : Nat := v.toBitVec.toNat
theorem uNl_lt (v : Int64) : uNl v < 2 ^ 64 := v.toBitVec.isLt
theorem lN_u (v : Int64) : lN (uNl v) = v := wb_inj (by rw [wb_tb]; simp [uNl])
def spFixed (M : Nat) (σ : dkS) (x : Int32) (u : Nat) (z : Int32) : Nat × Int32 × dkS :=
  if ¬ isR x then (1, 0, σ) else if ¬ (1 ≤ z.toInt ∧ z.toInt ≤ 8) then (2, 0, σ) else if M < (σ (rj x)).2.1 + z.toInt.toNat then (3, 0, σ) else
  (0, nI ((σ (rj x)).2.1 + z.toInt.toNat), va_up σ (rj x) (wr (σ (rj x)).1 (σ (rj x)).2.1 z.toInt.toNat (fb u), (σ (rj x)).2.1 + z.toInt.toNat, (σ (rj x)).2.2))
def spSevens (M : Nat) (σ : dkS) (x : Int32) (u : Nat) : Nat × Int32 × dkS :=
  if ¬ isR x then (1, 0, σ) else if M < (σ (rj x)).2.1 + sw u then (2, 0, σ) else
  (0, nI (sw u), va_up σ (rj x) (wr (σ (rj x)).1 (σ (rj x)).2.1 (sw u) (sv u), (σ (rj x)).2.1 + sw u, (σ (rj x)).2.2))
def zz (v : Int64) : Int64 := (v <<< ((1 : Int32).toInt64 &&& 63)) ^^^ (v >>> ((63 : Int32).toInt64 &&& 63))
def spLetter (M : Nat) (σ : dkS) (x c : Int32) : Nat × Int32 × dkS :=
  if ¬ isR x then (1, 0, σ) else if lwI c.toInt = 0 then (2, 0, σ) else if M < (σ (rj x)).2.1 + lwI c.toInt then (3, 0, σ) else
  (0, nI (lwI c.toInt), va_up σ (rj x) (wr (σ (rj x)).1 (σ (rj x)).2.1 (lwI c.toInt) (ltb c.toInt.toNat (lwI c.toInt)), (σ (rj x)).2.1 + lwI c.toInt, (σ (rj x)).2.2))
/-- n bytes from a on are there -/
abbrev inr (n : Nat) (a k : Int32) : Prop := 0 ≤ a.toInt ∧ 0 ≤ k.toInt ∧ a.toInt + k.toInt ≤ (n : Int)
def spCopy (M : Nat) (σ : dkS) (x f a k : Int32) : Nat × Int32 × dkS :=
  if ¬ (isR x ∧ isR f) then (1, 0, σ) else if ¬ inr (σ (rj f)).2.1 a k then (2, 0, σ) else if M < (σ (rj x)).2.1 + k.toInt.toNat then (3, 0, σ) else
  (0, nI ((σ (rj x)).2.1 + k.toInt.toNat), va_up σ (rj x) (wr (σ (rj x)).1 (σ (rj x)).2.1 k.toInt.toNat (fun i => (σ (rj f)).1 (a.toInt.toNat + i)), (σ (rj x)).2.1 + k.toInt.toNat, (σ (rj x)).2.2))
def spCut (σ : dkS) (x z : Int32) : Nat × Int32 × dkS :=
  if ¬ isR x then (1, 0, σ) else if ¬ (0 ≤ z.toInt ∧ z.toInt ≤ ((σ (rj x)).2.1 : Int)) then (2, 0, σ) else
  (0, nI (σ (rj x)).2.1, va_up σ (rj x) ((σ (rj x)).1, z.toInt.toNat, min (σ (rj x)).2.2 z.toInt.toNat))
def spPlace (σ : dkS) (x z : Int32) : Nat × Int32 × dkS :=
  if ¬ isR x then (1, 0, σ) else if ¬ (0 ≤ z.toInt ∧ z.toInt ≤ ((σ (rj x)).2.1 : Int)) then (2, 0, σ) else
  (0, nI (σ (rj x)).2.2, va_up σ (rj x) ((σ (rj x)).1, (σ (rj x)).2.1, z.toInt.toNat))
def spReadFixed (σ : dkS) (x z : Int32) : Nat × Int64 × dkS :=
  if ¬ isR x then (1, 0, σ) else if ¬ (1 ≤ z.toInt ∧ z.toInt ≤ 8) then (2, 0, σ) else if (σ (rj x)).2.1 < (σ (rj x)).2.2 + z.toInt.toNat then (3, 0, σ) else
  (0, lN (fx (σ (rj x)).1 (σ (rj x)).2.2 z.toInt.toNat), va_up σ (rj x) ((σ (rj x)).1, (σ (rj x)).2.1, (σ (rj x)).2.2 + z.toInt.toNat))
abbrev gwσ (σ : dkS) (x : Int32) : Int := gw (σ (rj x)).1 (σ (rj x)).2.2 (σ (rj x)).2.1 10
def spReadSevens (σ : dkS) (x : Int32) : Nat × Int64 × dkS :=
  if ¬ isR x then (1, 0, σ) else if gwσ σ x = -2 then (2, 0, σ) else if gwσ σ x = -3 then (3, 0, σ) else
  (0, lN (gs (σ (rj x)).1 (σ (rj x)).2.2 (gwσ σ x).toNat), va_up σ (rj x) ((σ (rj x)).1, (σ (rj x)).2.1, (σ (rj x)).2.2 + (gwσ σ x).toNat))
def unzz (v : Int64) : Int64 := (v.toUInt64 >>> ((1 : Int32).toInt64.toUInt64 &&& Int64.toUInt64 63)).toInt64 ^^^ (-(v &&& 1))
def spReadSigned (σ : dkS) (x : Int32) : Nat × Int64 × dkS := ((spReadSevens σ x).1, unzz (spReadSevens σ x).2.1, (spReadSevens σ x).2.2)
abbrev laσ (σ : dkS) (x : Int32) : Int := la (σ (rj x)).1 (σ (rj x)).2.2 (σ (rj x)).2.1
def spReadLetter (σ : dkS) (x : Int32) : Nat × Int32 × dkS :=
  if ¬ isR x then (1, 0, σ) else if laσ σ x = -1 then (2, 0, σ) else if laσ σ x = -2 then (3, 0, σ) else
  (0, nI (laσ σ x).toNat, va_up σ (rj x) ((σ (rj x)).1, (σ (rj x)).2.1, (σ (rj x)).2.2 + lwI (laσ σ x)))
def spSum (σ : dkS) (x a k : Int32) : Nat × Int32 × dkS :=
  if ¬ isR x then (1, 0, σ) else if ¬ inr (σ (rj x)).2.1 a k then (2, 0, σ) else (0, crcs (σ (rj x)).1 a.toInt.toNat k.toInt.toNat ^^^ (-1), σ)
def spRow (σ : dkS) (x z : Int32) : Nat × Int32 × dkS :=
  if ¬ isR x then (1, 0, σ) else if ¬ (0 ≤ z.toInt ∧ z.toInt ≤ 2) then (2, 0, σ) else
  (0, (if z.toInt = 0 then nI (σ (rj x)).2.1 else if z.toInt = 1 then nI (σ (rj x)).2.2 else nI ((σ (rj x)).2.1 - (σ (rj x)).2.2)), σ)
def spByteAt (σ : dkS) (x z : Int32) : Nat × Int32 × dkS :=
  if ¬ isR x then (1, 0, σ) else if ¬ (0 ≤ z.toInt ∧ z.toInt < ((σ (rj x)).2.1 : Int)) then (2, 0, σ) else (0, nI ((σ (rj x)).1 z.toInt.toNat), σ)
def spTurn (σ : dkS) (x z : Int32) : Nat × Int32 × dkS :=
  if ¬ isR x then (1, 0, σ) else if ¬ (0 ≤ z.toInt ∧ z.toInt.toNat / 8 < (σ (rj x)).2.1) then (2, 0, σ) else
  (0, nI ((σ (rj x)).1 (z.toInt.toNat / 8) ^^^ 2 ^ (z.toInt.toNat % 8)), va_up σ (rj x) (va_up (σ (rj x)).1 (z.toInt.toNat / 8) ((σ (rj x)).1 (z.toInt.toNat / 8) ^^^ 2 ^ (z.toInt.toNat % 8)), (σ (rj x)).2.1, (σ (rj x)).2.2))
/-- letters from a on, before e: how many, with those before; f: the fuel -/
def lcs (B : Nat → Nat) (e : Nat) : Nat → Nat → Nat → Option Nat
  | 0, _, m => some m
  | f + 1, a, m => if e ≤ a then some m else if la B a e < 0 then none else lcs B e f (a + lwI (la B a e)) (m + 1)
def spLetters (σ : dkS) (x a k : Int32) : Nat × Int32 × dkS :=
  if ¬ isR x then (1, 0, σ) else if ¬ inr (σ (rj x)).2.1 a k then (2, 0, σ) else
  match lcs (σ (rj x)).1 (a.toInt.toNat + k.toInt.toNat) (k.toInt.toNat + 1) a.toInt.toNat 0 with
  | none => (2, 0, σ)
  | some m => (0, nI m, σ)
/-- bytes behind a head of w bytes h, then k bytes g -/
abbrev wr2 (B : Nat → Nat) (n w : Nat) (h : Nat → Nat) (k : Nat) (g : Nat → Nat) : Nat → Nat := wr (wr B n w h) (n + w) k g
def spBlock (M : Nat) (σ : dkS) (x f : Int32) : Nat × Int32 × dkS :=
  if ¬ (isR x ∧ isR f) then (1, 0, σ) else if M < (σ (rj x)).2.1 + (sw (σ (rj f)).2.1 + (σ (rj f)).2.1) then (2, 0, σ) else
  (0, nI (sw (σ (rj f)).2.1 + (σ (rj f)).2.1), va_up σ (rj x) (wr2 (σ (rj x)).1 (σ (rj x)).2.1 (sw (σ (rj f)).2.1) (sv (σ (rj f)).2.1) (σ (rj f)).2.1 (σ (rj f)).1, (σ (rj x)).2.1 + sw (σ (rj f)).2.1 + (σ (rj f)).2.1, (σ (rj x)).2.2))
/-- the sum of k bytes from a on -/
def smb (B : Nat → Nat) (a k : Nat) : Int32 := crcs B a k ^^^ (-1)
def spFrame (M : Nat) (σ : dkS) (x f : Int32) : Nat × Int32 × dkS :=
  if ¬ (isR x ∧ isR f) then (1, 0, σ) else if M < (σ (rj x)).2.1 + (sw (σ (rj f)).2.1 + 4 + (σ (rj f)).2.1) then (2, 0, σ) else
  (0, nI (sw (σ (rj f)).2.1 + 4 + (σ (rj f)).2.1), va_up σ (rj x) (wr (wr2 (σ (rj x)).1 (σ (rj x)).2.1 (sw (σ (rj f)).2.1) (sv (σ (rj f)).2.1) 4 (fb (uNl (smb (σ (rj f)).1 0 (σ (rj f)).2.1).toInt64))) ((σ (rj x)).2.1 + sw (σ (rj f)).2.1 + 4) (σ (rj f)).2.1 (σ (rj f)).1, (σ (rj x)).2.1 + sw (σ (rj f)).2.1 + 4 + (σ (rj f)).2.1, (σ (rj x)).2.2))
/-- how many bytes the head at the place says -/
abbrev gmσ (σ : dkS) (x : Int32) : Nat := gs (σ (rj x)).1 (σ (rj x)).2.2 (gwσ σ x).toNat
/-- the rows behind a block or frame that was read: w bytes of head, then the bytes -/
def mvσ (σ : dkS) (x t : Int32) (w : Nat) : dkS :=
  va_up (va_up σ (rj x) ((σ (rj x)).1, (σ (rj x)).2.1, (σ (rj x)).2.2 + w + gmσ σ x)) (rj t) (wr (σ (rj t)).1 0 (gmσ σ x) (fun i => (σ (rj x)).1 ((σ (rj x)).2.2 + w + i)), gmσ σ x, 0)
def spReadBlock (σ : dkS) (x t : Int32) : Nat × Int32 × dkS :=
  if ¬ (isR x ∧ isR t) then (1, 0, σ) else if x = t then (2, 0, σ) else if gwσ σ x = -2 then (2, 0, σ) else if gwσ σ x = -3 then (3, 0, σ) else
  if 65536 < gmσ σ x then (2, 0, σ) else if (σ (rj x)).2.1 < (σ (rj x)).2.2 + ((gwσ σ x).toNat + gmσ σ x) then (3, 0, σ) else
  (0, nI (gmσ σ x), mvσ σ x t (gwσ σ x).toNat)
def spReadFrame (σ : dkS) (x t : Int32) : Nat × Int32 × dkS :=
  if ¬ (isR x ∧ isR t) then (1, 0, σ) else if x = t then (2, 0, σ) else if gwσ σ x = -2 then (2, 0, σ) else if gwσ σ x = -3 then (3, 0, σ) else
  if 65536 < gmσ σ x then (2, 0, σ) else if (σ (rj x)).2.1 < (σ (rj x)).2.2 + ((gwσ σ x).toNat + 4 + gmσ σ x) then (3, 0, σ) else
  if ¬ (lN (fx (σ (rj x)).1 ((σ (rj x)).2.2 + (gwσ σ x).toNat) 4)).toInt32 = smb (σ (rj x)).1 ((σ (rj x)).2.2 + ((gwσ σ x).toNat + 4)) (gmσ σ x) then (4, 0, σ) else
  (0, nI (gmσ σ x), mvσ σ x t ((gwσ σ x).toNat + 4))
def eqb (B C : Nat → Nat) : Nat → Bool
  | 0 => true
  | n + 1 => eqb B C n && (B n == C n)
theorem eqb_iff (B C : Nat → Nat) (n : Nat) : eqb B C n = true ↔ ∀ i, i < n → B i = C i := by
  induction n with
  | zero => exact ⟨fun _ i h => absurd h (by omega), fun _ => rfl⟩
  | succ n ih =>
    unfold eqb
    rw [Bool.and_eq_true, ih, beq_iff_eq]
    constructor
    · rintro ⟨h1, h2⟩ i hi
      rcases Nat.lt_or_ge i n with q | q
      · exact h1 i q
      · rw [show i = n by omega]; exact h2
    · exact fun h => ⟨fun i hi => h i (by omega), h n (by omega)⟩
def spSame (σ : dkS) (x f : Int32) : Nat × Int32 × dkS :=
  if ¬ (isR x ∧ isR f) then (1, 0, σ) else (0, (if (σ (rj x)).2.1 = (σ (rj f)).2.1 ∧ eqb (σ (rj x)).1 (σ (rj f)).1 (σ (rj x)).2.1 = true then 1 else 0), σ)
end
section
/-! THE CLASS: PUBLIC METHODS OF ONE ROW -/
set_option maxHeartbeats 600000 in
set_option maxRecDepth 100000 in
/-- place -/
theorem c_D_place (l : Launch) (hL0 : l.stackTraces = false) (D : va_G) (cR cB : ClassId) (h ra : Nat) (g : Nat → Option Nat) (M : Nat) (y b : Nat → Nat) (σ : dkS) (sz : Nat) (x z : Int32) (hg : ∀ i, i < 4 → g i = some (y i)) (hσ : dkok M σ) : tx_Met l y_D_place w_D_place ({ frames := 7, cells := 1, slots := 6, locals := 111 }) (va_Pc [.ref h, .int x, .int z] (oxv sz D [(cB, .byte), (cR, .object "PacketDesk$Row")] [(h, .inr (0, [.ref ra])), (ra, .inl (cR, 4, .inr (.inr (.inr (.inr g))))), ((y 0), .inr (1, [.ref (b 0), .int (nI (σ 0).2.1), .int (nI (σ 0).2.2)])), ((b 0), .inl (cB, M, .inl (fun j => sb_b ((σ 0).1 j)))), ((y 1), .inr (1, [.ref (b 1), .int (nI (σ 1).2.1), .int (nI (σ 1).2.2)])), ((b 1), .inl (cB, M, .inl (fun j => sb_b ((σ 1).1 j)))), ((y 2), .inr (1, [.ref (b 2), .int (nI (σ 2).2.1), .int (nI (σ 2).2.2)])), ((b 2), .inl (cB, M, .inl (fun j => sb_b ((σ 2).1 j)))), ((y 3), .inr (1, [.ref (b 3), .int (nI (σ 3).2.1), .int (nI (σ 3).2.2)])), ((b 3), .inl (cB, M, .inl (fun j => sb_b ((σ 3).1 j))))])) (tx_Q (fun E => (E = X_IOOBE ∧ (spPlace σ x z).1 = 1) ∨ (E = X_IAE ∧ (spPlace σ x z).1 = 2)) (va_Qi (fun r (τ : dkS) => spPlace σ x z = (0, r, τ)) (fun τ => ow D [(cB, .byte), (cR, .object "PacketDesk$Row")] (va_A [(h, .inr (0, [.ref ra])), (ra, .inl (cR, 4, .inr (.inr (.inr (.inr g))))), ((y 0), .inr (1, [.ref (b 0), .int (nI (σ 0).2.1), .int (nI (σ 0).2.2)])), ((b 0), .inl (cB, M, .inl (fun j => sb_b ((σ 0).1 j)))), ((y 1), .inr (1, [.ref (b 1), .int (nI (σ 1).2.1), .int (nI (σ 1).2.2)])), ((b 1), .inl (cB, M, .inl (fun j => sb_b ((σ 1).1 j)))), ((y 2), .inr (1, [.ref (b 2), .int (nI (σ 2).2.1), .int (nI (σ 2).2.2)])), ((b 2), .inl (cB, M, .inl (fun j => sb_b ((σ 2).1 j)))), ((y 3), .inr (1, [.ref (b 3), .int (nI (σ 3).2.1), .int (nI (σ 3).2.2)])), ((b 3), .inl (cB, M, .inl (fun j => sb_b ((σ 3).1 j))))] sz) (dk cR cB h ra g M y b τ)) (va_A [(h, .inr (0, [.ref ra])), (ra, .inl (cR, 4, .inr (.inr (.inr (.inr g))))), ((y 0), .inr (1, [.ref (b 0), .int (nI (σ 0).2.1), .int (nI (σ 0).2.2)])), ((b 0), .inl (cB, M, .inl (fun j => sb_b ((σ 0).1 j)))), ((y 1), .inr (1, [.ref (b 1), .int (nI (σ 1).2.1), .int (nI (σ 1).2.2)])), ((b 1), .inl (cB, M, .inl (fun j => sb_b ((σ 1).1 j)))), ((y 2), .inr (1, [.ref (b 2), .int (nI (σ 2).2.1), .int (nI (σ 2).2.2)])), ((b 2), .inl (cB, M, .inl (fun j => sb_b ((σ 2).1 j)))), ((y 3), .inr (1, [.ref (b 3), .int (nI (σ 3).2.1), .int (nI (σ 3).2.2)])), ((b 3), .inl (cB, M, .inl (fun j => sb_b ((σ 3).1 j))))] sz))) 0 0 (va_A [(h, .inr (0, [.ref ra])), (ra, .inl (cR, 4, .inr (.inr (.inr (.inr g))))), ((y 0), .inr (1, [.ref (b 0), .int (nI (σ 0).2.1), .int (nI (σ 0).2.2)])), ((b 0), .inl (cB, M, .inl (fun j => sb_b ((σ 0).1 j)))), ((y 1), .inr (1, [.ref (b 1), .int (nI (σ 1).2.1), .int (nI (σ 1).2.2)])), ((b 1), .inl (cB, M, .inl (fun j => sb_b ((σ 1).1 j)))), ((y 2), .inr (1, [.ref (b 2), .int (nI (σ 2).2.1), .int (nI (σ 2).2.2)])), ((b 2), .inl (cB, M, .inl (fun j => sb_b ((σ 2).1 j)))), ((y 3), .inr (1, [.ref (b 3), .int (nI (σ 3).2.1), .int (nI (σ 3).2.2)])), ((b 3), .inl (cB, M, .inl (fun j => sb_b ((σ 3).1 j))))] sz) := by
  refine tx_ofW (cc := b_D_place) (maxL := 5) (ret := (some .int)) (by decide) rfl ?_
  intro p9 e9 s m args below meth c9 s₁ BL hml hce hadm hv
  obtain ⟨rfl, hsz, hP, hK, hD0, hG⟩ := hv
  have hx := BL.exec
  have hb := BL.bytes
  have hr := BL.returns
  have hts := atoms_spec (ws := w_D_place) BL.pre
  have hA : ∀ w ∈ wsA, w.before _ s = true := fun w h => hts w (List.mem_cons_of_mem _ h)
  have hown : s.vm.findClass R_D = some m.cls := findClass_of_methodNamed BL.named
  have hlocks := BL.notSynchronized
  have htr : e9.platform.stackTraces = false := by rw [hadm.platform]; exact hL0
  subst hsz
  have hD := hD0.self (sz := s.heap.size)
  generalize hAe : va_A [(h, .inr (0, [.ref ra])), (ra, .inl (cR, 4, .inr (.inr (.inr (.inr g))))), ((y 0), .inr (1, [.ref (b 0), .int (nI (σ 0).2.1), .int (nI (σ 0).2.2)])), ((b 0), .inl (cB, M, .inl (fun j => sb_b ((σ 0).1 j)))), ((y 1), .inr (1, [.ref (b 1), .int (nI (σ 1).2.1), .int (nI (σ 1).2.2)])), ((b 1), .inl (cB, M, .inl (fun j => sb_b ((σ 1).1 j)))), ((y 2), .inr (1, [.ref (b 2), .int (nI (σ 2).2.1), .int (nI (σ 2).2.2)])), ((b 2), .inl (cB, M, .inl (fun j => sb_b ((σ 2).1 j)))), ((y 3), .inr (1, [.ref (b 3), .int (nI (σ 3).2.1), .int (nI (σ 3).2.2)])), ((b 3), .inl (cB, M, .inl (fun j => sb_b ((σ 3).1 j))))] s.heap.size = A at hD ⊢
  have hAq : ∀ q : Nat, s.heap.size ≤ q → A q := fun q h => by rw [← hAe]; exact Or.inr h
  have hS : va_S A s.heap s.heap [] := va_S.rf
  have hP : va_P D vCl [(h, .inr (0, [.ref ra])), (ra, .inl (cR, 4, .inr (.inr (.inr (.inr g))))), ((y 0), .inr (1, [.ref (b 0), .int (nI (σ 0).2.1), .int (nI (σ 0).2.2)])), ((b 0), .inl (cB, M, .inl (fun j => sb_b ((σ 0).1 j)))), ((y 1), .inr (1, [.ref (b 1), .int (nI (σ 1).2.1), .int (nI (σ 1).2.2)])), ((b 1), .inl (cB, M, .inl (fun j => sb_b ((σ 1).1 j)))), ((y 2), .inr (1, [.ref (b 2), .int (nI (σ 2).2.1), .int (nI (σ 2).2.2)])), ((b 2), .inl (cB, M, .inl (fun j => sb_b ((σ 2).1 j)))), ((y 3), .inr (1, [.ref (b 3), .int (nI (σ 3).2.1), .int (nI (σ 3).2.2)])), ((b 3), .inl (cB, M, .inl (fun j => sb_b ((σ 3).1 j))))] s.heap := hP
  have hl := lv_entry ([.ref h, .int x, .int z]) (n := 5) (Nat.le_of_ble_eq_true rfl)
  rw [lg_entry_eq]
  generalize (lg_sl ([.ref h, .int x, .int z]) ++ List.replicate (5 - (lg_sl ([.ref h, .int x, .int z])).length) Slot.unset).toArray = ls at hl ⊢
  have hl : lv_has ls 5 [(0, .ref h), (1, .int x), (2, .int z)] := hl
  refine lv_aload_n hx hb d_D_place_0 rfl (lv_at hl 0 rfl) ?_
  refine lv_iload_n hx hb d_D_place_1 rfl (lv_at hl 1 rfl) ?_
  have hPc := hP.sub (ws' := [(h, .inr (0, [.ref ra])), (ra, .inl (cR, 4, .inr (.inr (.inr (.inr g)))))]) [0, 1] rfl
  have hKc := hK.sub (tys' := [(cR, .object "PacketDesk$Row")]) [1] rfl
  refine tx_sr (tx_runV (As := [.int x]) (rest := []) ⟨hx, hb, hml, hown, hA⟩ (c_D_rowOf l hL0 D cR h ra g y hg x) (q_D_rowOf hA k1_66 rfl rfl ⟨(Nat.le_of_ble_eq_true rfl), (Nat.le_of_ble_eq_true rfl)⟩) (ox_V (va_recv hKc hPc (ci := 0) (q0 := 0) rfl rfl) (oxg_S hPc hKc hG (fun _ _ => rfl))) rfl rfl hl.1 rfl (lv_room (Nat.le_of_ble_eq_true rfl)) d_D_place_2 ⟨(Nat.le_of_ble_eq_true rfl), (Nat.le_of_ble_eq_true rfl)⟩) (fun x9 E9 H9 ht9 hE9 => tx_prop hlocks hce hE9 (Nat.le_refl _) (fun _ _ => rfl) (Or.inl (⟨ht9.1, by unfold spPlace; rw [if_pos ht9.2]⟩)) (fun q h => by cases h)) (fun j hj => ?_)
  obtain ⟨hj, hxj⟩ := hj
  refine lv_astore_n (lv' := [(3, .ref (y j)), (0, .ref h), (1, .int x), (2, .int z)]) hx hb d_D_place_5 rfl hl (by decide) rfl (fun ls hl => ?_)
  obtain ⟨c2_, c3_, c4_, c5_, c6_, c7_, c8_, c9_, hi1, hi2, ho1, ho2⟩ := dk_1 D vCl cR cB h ra g M y b σ hj
  have hP : va_P D vCl [(y j, .inr (1, [.ref (b j), .int (nI (σ j).2.1), .int (nI (σ j).2.2)])), (b j, .inl (cB, M, .inl (fun j9 => sb_b ((σ j).1 j9)))), c2_, c3_, c4_, c5_, c6_, c7_, c8_, c9_] s.heap := hi1 _ hP
  have hD : va_D A [(y j, .inr (1, [.ref (b j), .int (nI (σ j).2.1), .int (nI (σ j).2.2)])), (b j, .inl (cB, M, .inl (fun j9 => sb_b ((σ j).1 j9)))), c2_, c3_, c4_, c5_, c6_, c7_, c8_, c9_] := hi2 _ hD
  obtain ⟨⟨B, n, p⟩, hρ⟩ : ∃ ρ, σ j = ρ := ⟨_, rfl⟩
  have hk := hσ.2 j hj
  have hM := hσ.1
  rw [hρ] at hP hk hD
  obtain ⟨hp, hn, hB⟩ := hk
  have hp : p ≤ n := hp
  have hn : n ≤ M := hn
  have hB : ∀ j, B j < 256 := hB
  have hP : va_P D vCl [((y j), .inr (1, [.ref (b j), .int (nI n), .int (nI p)])), ((b j), .inl (cB, M, .inl (fun j => sb_b (B j)))), c2_, c3_, c4_, c5_, c6_, c7_, c8_, c9_] s.heap := hP
  have hD : va_D A [((y j), .inr (1, [.ref (b j), .int (nI n), .int (nI p)])), ((b j), .inl (cB, M, .inl (fun j => sb_b (B j)))), c2_, c3_, c4_, c5_, c6_, c7_, c8_, c9_] := hD
  have hrj : rj x = j := by rw [hxj]; exact rj_n hj
  have hir : isR x := by rw [hxj]; exact isR_n hj
  refine lv_iload_n hx hb d_D_place_6 rfl (lv_at hl 3 rfl) ?_
  refine lv_if_lt (tgt := 18) hx hb d_D_place_7 (by decide) (fun c7 => ?_) (fun c7 => ?_)
  · have hni : (nI n).toInt = (n : Int) := nI_toInt (by omega)
    have hz2 : ¬ (0 ≤ z.toInt ∧ z.toInt ≤ (n : Int)) := by simp only [Int32.lt_iff_toInt_lt, Int32.le_iff_toInt_le, li_0, li_1, li_2, li_3, li_4, li_8, li_10, li_16, li_63, li_127, li_128, li_191, li_192, li_194, li_224, li_240, li_244, li_255, li_2048, li_55296, li_57343, li_65536, li_1114111, li_m1, li_m2] at *; omega
    exact th_IAE hx hb hml hlocks hce htr hown hA hG hl.1 (Nat.le_of_ble_eq_true rfl) (tx := "no such place") (by decide) d_D_place_18 d_D_place_21 d_D_place_22 d_D_place_24 d_D_place_27 (Nat.le_of_ble_eq_true rfl) (Nat.le_of_ble_eq_true rfl) (Nat.le_of_ble_eq_true rfl) (Nat.le_of_ble_eq_true rfl) (by exact Or.inr (⟨rfl, by unfold spPlace; rw [if_neg (fun h9 => h9 hir), hrj, hρ, if_pos hz2]⟩))
  · refine lv_iload_n hx hb d_D_place_10 rfl (lv_at hl 3 rfl) ?_
    refine lv_aload_n hx hb d_D_place_11 rfl (lv_at hl 0 rfl) ?_
    refine va_get (D := D) (ci := 1) (v := .int (nI n)) (C := R_R) (T := F_R) (N := 3) hx hb hA i_R hown hK hP 0 rfl rfl 1 (by decide) (hA _ k1_38) (fun _ h9 => h9) rfl d_D_place_12 ?_
    refine lv_icmp_le (tgt := 28) hx hb d_D_place_15 (by decide) (fun c15 => ?_) (fun c15 => ?_)
    · have hni : (nI n).toInt = (n : Int) := nI_toInt (by omega)
      have hz2 : 0 ≤ z.toInt ∧ z.toInt ≤ (n : Int) := by simp only [Int32.lt_iff_toInt_lt, Int32.le_iff_toInt_le, li_0, li_1, li_2, li_3, li_4, li_8, li_10, li_16, li_63, li_127, li_128, li_191, li_192, li_194, li_224, li_240, li_244, li_255, li_2048, li_55296, li_57343, li_65536, li_1114111, li_m1, li_m2] at *; omega
      obtain ⟨q, hq0, rfl⟩ := nI_of c7
      have hqi : (nI q).toInt = (q : Int) := nI_toInt hq0
      have hqn : (nI q).toInt.toNat = q := by rw [hqi]; rfl
      refine lv_aload_n hx hb d_D_place_28 rfl (lv_at hl 0 rfl) ?_
      refine va_get (D := D) (ci := 1) (v := .int (nI p)) (C := R_R) (T := F_R) (N := 3) hx hb hA i_R hown hK hP 0 rfl rfl 2 (by decide) (hA _ k1_40) (fun _ h9 => h9) rfl d_D_place_29 ?_
      refine lv_istore (lv' := [(4, .int (nI p)), (3, .ref (y j)), (0, .ref h), (1, .int x), (2, .int (nI q))]) hx hb d_D_place_32 hl (by decide) rfl (fun ls hl => ?_)
      refine lv_aload_n hx hb d_D_place_34 rfl (lv_at hl 1 rfl) ?_
      refine lv_iload_n hx hb d_D_place_35 rfl (lv_at hl 4 rfl) ?_
      refine va_put (D := D) (ci := 1) (v := .int (nI q)) (ty := .int) (C := R_R) (T := F_R) (N := 3) hx hb hA i_R t_R t_R_ok n_R hown hK hP hD hS 0 rfl rfl 2 (by decide) (hA _ k1_40) (fun _ h9 => h9) rfl (by decide +kernel) rfl rfl (Nat.le_of_ble_eq_true rfl) d_D_place_36 (fun H locs hP hD hS => ?_)
      have hP : va_P D vCl [((y j), .inr (1, [.ref (b j), .int (nI n), .int (nI q)])), ((b j), .inl (cB, M, .inl (fun j => sb_b (B j)))), c2_, c3_, c4_, c5_, c6_, c7_, c8_, c9_] H := hP
      have hD : va_D A [((y j), .inr (1, [.ref (b j), .int (nI n), .int (nI q)])), ((b j), .inl (cB, M, .inl (fun j => sb_b (B j)))), c2_, c3_, c4_, c5_, c6_, c7_, c8_, c9_] := hD
      refine lv_iload hx hb d_D_place_39 (lv_at hl 0 rfl) ?_
      exact tx_ret (W.iret (v := nI p) hx hb hr (fun t ht hW => Or.inl ⟨_, rfl, ⟨⟨_, va_up σ j (B, n, q), rfl, (by unfold spPlace; rw [if_neg (fun h9 => h9 hir), hrj, hρ, if_neg (fun h9 => h9 hz2), hqn]), by rw [ht]; exact ho1 (B, n, q) _ hP, va_K.moved hW.alike hK, ho2 (B, n, q) _ hD⟩, hS.F ht⟩⟩) hS.2.2 d_D_place_41)
    · have hni : (nI n).toInt = (n : Int) := nI_toInt (by omega)
      have hz2 : ¬ (0 ≤ z.toInt ∧ z.toInt ≤ (n : Int)) := by simp only [Int32.lt_iff_toInt_lt, Int32.le_iff_toInt_le, li_0, li_1, li_2, li_3, li_4, li_8, li_10, li_16, li_63, li_127, li_128, li_191, li_192, li_194, li_224, li_240, li_244, li_255, li_2048, li_55296, li_57343, li_65536, li_1114111, li_m1, li_m2] at *; omega
      exact th_IAE hx hb hml hlocks hce htr hown hA hG hl.1 (Nat.le_of_ble_eq_true rfl) (tx := "no such place") (by decide) d_D_place_18 d_D_place_21 d_D_place_22 d_D_place_24 d_D_place_27 (Nat.le_of_ble_eq_true rfl) (Nat.le_of_ble_eq_true rfl) (Nat.le_of_ble_eq_true rfl) (Nat.le_of_ble_eq_true rfl) (by exact Or.inr (⟨rfl, by unfold spPlace; rw [if_neg (fun h9 => h9 hir), hrj, hρ, if_pos hz2]⟩))
set_option maxHeartbeats 600000 in
set_option maxRecDepth 100000 in
/-- fixed -/
theorem c_D_fixed (l : Launch) (hL0 : l.stackTraces = false) (D : va_G) (cR cB : ClassId) (h ra : Nat) (g : Nat → Option Nat) (M : Nat) (y b : Nat → Nat) (σ : dkS) (sz : Nat) (x : Int32) (u : Nat) (hu : u < 2 ^ 64) (z : Int32) (hg : ∀ i, i < 4 → g i = some (y i)) (hσ : dkok M σ) : tx_Met l y_D_fixed w_D_fixed ({ frames := 7, cells := 1, slots := 6, locals := 111 }) (va_Pc [.ref h, .int x, .long (lN u), .int z] (oxv sz D [(cB, .byte), (cR, .object "PacketDesk$Row")] [(h, .inr (0, [.ref ra])), (ra, .inl (cR, 4, .inr (.inr (.inr (.inr g))))), ((y 0), .inr (1, [.ref (b 0), .int (nI (σ 0).2.1), .int (nI (σ 0).2.2)])), ((b 0), .inl (cB, M, .inl (fun j => sb_b ((σ 0).1 j)))), ((y 1), .inr (1, [.ref (b 1), .int (nI (σ 1).2.1), .int (nI (σ 1).2.2)])), ((b 1), .inl (cB, M, .inl (fun j => sb_b ((σ 1).1 j)))), ((y 2), .inr (1, [.ref (b 2), .int (nI (σ 2).2.1), .int (nI (σ 2).2.2)])), ((b 2), .inl (cB, M, .inl (fun j => sb_b ((σ 2).1 j)))), ((y 3), .inr (1, [.ref (b 3), .int (nI (σ 3).2.1), .int (nI (σ 3).2.2)])), ((b 3), .inl (cB, M, .inl (fun j => sb_b ((σ 3).1 j))))])) (tx_Q (fun E => (E = X_IOOBE ∧ (spFixed M σ x u z).1 = 1) ∨ (E = X_IAE ∧ (spFixed M σ x u z).1 = 2) ∨ (E = X_ISE ∧ (spFixed M σ x u z).1 = 3)) (va_Qi (fun r (τ : dkS) => spFixed M σ x u z = (0, r, τ)) (fun τ => ow D [(cB, .byte), (cR, .object "PacketDesk$Row")] (va_A [(h, .inr (0, [.ref ra])), (ra, .inl (cR, 4, .inr (.inr (.inr (.inr g))))), ((y 0), .inr (1, [.ref (b 0), .int (nI (σ 0).2.1), .int (nI (σ 0).2.2)])), ((b 0), .inl (cB, M, .inl (fun j => sb_b ((σ 0).1 j)))), ((y 1), .inr (1, [.ref (b 1), .int (nI (σ 1).2.1), .int (nI (σ 1).2.2)])), ((b 1), .inl (cB, M, .inl (fun j => sb_b ((σ 1).1 j)))), ((y 2), .inr (1, [.ref (b 2), .int (nI (σ 2).2.1), .int (nI (σ 2).2.2)])), ((b 2), .inl (cB, M, .inl (fun j => sb_b ((σ 2).1 j)))), ((y 3), .inr (1, [.ref (b 3), .int (nI (σ 3).2.1), .int (nI (σ 3).2.2)])), ((b 3), .inl (cB, M, .inl (fun j => sb_b ((σ 3).1 j))))] sz) (dk cR cB h ra g M y b τ)) (va_A [(h, .inr (0, [.ref ra])), (ra, .inl (cR, 4, .inr (.inr (.inr (.inr g))))), ((y 0), .inr (1, [.ref (b 0), .int (nI (σ 0).2.1), .int (nI (σ 0).2.2)])), ((b 0), .inl (cB, M, .inl (fun j => sb_b ((σ 0).1 j)))), ((y 1), .inr (1, [.ref (b 1), .int (nI (σ 1).2.1), .int (nI (σ 1).2.2)])), ((b 1), .inl (cB, M, .inl (fun j => sb_b ((σ 1).1 j)))), ((y 2), .inr (1, [.ref (b 2), .int (nI (σ 2).2.1), .int (nI (σ 2).2.2)])), ((b 2), .inl (cB, M, .inl (fun j => sb_b ((σ 2).1 j)))), ((y 3), .inr (1, [.ref (b 3), .int (nI (σ 3).2.1), .int (nI (σ 3).2.2)])), ((b 3), .inl (cB, M, .inl (fun j => sb_b ((σ 3).1 j))))] sz))) 0 0 (va_A [(h, .inr (0, [.ref ra])), (ra, .inl (cR, 4, .inr (.inr (.inr (.inr g))))), ((y 0), .inr (1, [.ref (b 0), .int (nI (σ 0).2.1), .int (nI (σ 0).2.2)])), ((b 0), .inl (cB, M, .inl (fun j => sb_b ((σ 0).1 j)))), ((y 1), .inr (1, [.ref (b 1), .int (nI (σ 1).2.1), .int (nI (σ 1).2.2)])), ((b 1), .inl (cB, M, .inl (fun j => sb_b ((σ 1).1 j)))), ((y 2), .inr (1, [.ref (b 2), .int (nI (σ 2).2.1), .int (nI (σ 2).2.2)])), ((b 2), .inl (cB, M, .inl (fun j => sb_b ((σ 2).1 j)))), ((y 3), .inr (1, [.ref (b 3), .int (nI (σ 3).2.1), .int (nI (σ 3).2.2)])), ((b 3), .inl (cB, M, .inl (fun j => sb_b ((σ 3).1 j))))] sz) := by
  refine tx_ofW (cc := b_D_fixed) (maxL := 6) (ret := (some .int)) (by decide) rfl ?_
  intro p9 e9 s m args below meth c9 s₁ BL hml hce hadm hv
  obtain ⟨rfl, hsz, hP, hK, hD0, hG⟩ := hv
  have hx := BL.exec
  have hb := BL.bytes
  have hr := BL.returns
  have hts := atoms_spec (ws := w_D_fixed) BL.pre
  have hA : ∀ w ∈ wsA, w.before _ s = true := fun w h => hts w (List.mem_cons_of_mem _ h)
  have hown : s.vm.findClass R_D = some m.cls := findClass_of_methodNamed BL.named
  have hlocks := BL.notSynchronized
  have htr : e9.platform.stackTraces = false := by rw [hadm.platform]; exact hL0
  subst hsz
  have hD := hD0.self (sz := s.heap.size)
  generalize hAe : va_A [(h, .inr (0, [.ref ra])), (ra, .inl (cR, 4, .inr (.inr (.inr (.inr g))))), ((y 0), .inr (1, [.ref (b 0), .int (nI (σ 0).2.1), .int (nI (σ 0).2.2)])), ((b 0), .inl (cB, M, .inl (fun j => sb_b ((σ 0).1 j)))), ((y 1), .inr (1, [.ref (b 1), .int (nI (σ 1).2.1), .int (nI (σ 1).2.2)])), ((b 1), .inl (cB, M, .inl (fun j => sb_b ((σ 1).1 j)))), ((y 2), .inr (1, [.ref (b 2), .int (nI (σ 2).2.1), .int (nI (σ 2).2.2)])), ((b 2), .inl (cB, M, .inl (fun j => sb_b ((σ 2).1 j)))), ((y 3), .inr (1, [.ref (b 3), .int (nI (σ 3).2.1), .int (nI (σ 3).2.2)])), ((b 3), .inl (cB, M, .inl (fun j => sb_b ((σ 3).1 j))))] s.heap.size = A at hD ⊢
  have hAq : ∀ q : Nat, s.heap.size ≤ q → A q := fun q h => by rw [← hAe]; exact Or.inr h
  have hS : va_S A s.heap s.heap [] := va_S.rf
  have hP : va_P D vCl [(h, .inr (0, [.ref ra])), (ra, .inl (cR, 4, .inr (.inr (.inr (.inr g))))), ((y 0), .inr (1, [.ref (b 0), .int (nI (σ 0).2.1), .int (nI (σ 0).2.2)])), ((b 0), .inl (cB, M, .inl (fun j => sb_b ((σ 0).1 j)))), ((y 1), .inr (1, [.ref (b 1), .int (nI (σ 1).2.1), .int (nI (σ 1).2.2)])), ((b 1), .inl (cB, M, .inl (fun j => sb_b ((σ 1).1 j)))), ((y 2), .inr (1, [.ref (b 2), .int (nI (σ 2).2.1), .int (nI (σ 2).2.2)])), ((b 2), .inl (cB, M, .inl (fun j => sb_b ((σ 2).1 j)))), ((y 3), .inr (1, [.ref (b 3), .int (nI (σ 3).2.1), .int (nI (σ 3).2.2)])), ((b 3), .inl (cB, M, .inl (fun j => sb_b ((σ 3).1 j))))] s.heap := hP
  have hl := lv_entry ([.ref h, .int x, .long (lN u), .int z]) (n := 6) (Nat.le_of_ble_eq_true rfl)
  rw [lg_entry_eq]
  generalize (lg_sl ([.ref h, .int x, .long (lN u), .int z]) ++ List.replicate (6 - (lg_sl ([.ref h, .int x, .long (lN u), .int z])).length) Slot.unset).toArray = ls at hl ⊢
  have hl : lv_has ls 6 [(0, .ref h), (1, .int x), (2, .long (lN u)), (4, .int z)] := hl
  refine lv_aload_n hx hb d_D_fixed_0 rfl (lv_at hl 0 rfl) ?_
  refine lv_iload_n hx hb d_D_fixed_1 rfl (lv_at hl 1 rfl) ?_
  have hPc := hP.sub (ws' := [(h, .inr (0, [.ref ra])), (ra, .inl (cR, 4, .inr (.inr (.inr (.inr g)))))]) [0, 1] rfl
  have hKc := hK.sub (tys' := [(cR, .object "PacketDesk$Row")]) [1] rfl
  refine tx_sr (tx_runV (As := [.int x]) (rest := []) ⟨hx, hb, hml, hown, hA⟩ (c_D_rowOf l hL0 D cR h ra g y hg x) (q_D_rowOf hA k1_66 rfl rfl ⟨(Nat.le_of_ble_eq_true rfl), (Nat.le_of_ble_eq_true rfl)⟩) (ox_V (va_recv hKc hPc (ci := 0) (q0 := 0) rfl rfl) (oxg_S hPc hKc hG (fun _ _ => rfl))) rfl rfl hl.1 rfl (lv_room (Nat.le_of_ble_eq_true rfl)) d_D_fixed_2 ⟨(Nat.le_of_ble_eq_true rfl), (Nat.le_of_ble_eq_true rfl)⟩) (fun x9 E9 H9 ht9 hE9 => tx_prop hlocks hce hE9 (Nat.le_refl _) (fun _ _ => rfl) (Or.inl (⟨ht9.1, by unfold spFixed; rw [if_pos ht9.2]⟩)) (fun q h => by cases h)) (fun j hj => ?_)
  obtain ⟨hj, hxj⟩ := hj
  refine lv_astore (lv' := [(5, .ref (y j)), (0, .ref h), (1, .int x), (2, .long (lN u)), (4, .int z)]) hx hb d_D_fixed_5 hl (by decide) rfl (fun ls hl => ?_)
  obtain ⟨c2_, c3_, c4_, c5_, c6_, c7_, c8_, c9_, hi1, hi2, ho1, ho2⟩ := dk_1 D vCl cR cB h ra g M y b σ hj
  have hP : va_P D vCl [(y j, .inr (1, [.ref (b j), .int (nI (σ j).2.1), .int (nI (σ j).2.2)])), (b j, .inl (cB, M, .inl (fun j9 => sb_b ((σ j).1 j9)))), c2_, c3_, c4_, c5_, c6_, c7_, c8_, c9_] s.heap := hi1 _ hP
  have hD : va_D A [(y j, .inr (1, [.ref (b j), .int (nI (σ j).2.1), .int (nI (σ j).2.2)])), (b j, .inl (cB, M, .inl (fun j9 => sb_b ((σ j).1 j9)))), c2_, c3_, c4_, c5_, c6_, c7_, c8_, c9_] := hi2 _ hD
  obtain ⟨⟨B, n, p⟩, hρ⟩ : ∃ ρ, σ j = ρ := ⟨_, rfl⟩
  have hk := hσ.2 j hj
  have hM := hσ.1
  rw [hρ] at hP hk hD
  obtain ⟨hp, hn, hB⟩ := hk
  have hp : p ≤ n := hp
  have hn : n ≤ M := hn
  have hB : ∀ j, B j < 256 := hB
  have hP : va_P D vCl [((y j), .inr (1, [.ref (b j), .int (nI n), .int (nI p)])), ((b j), .inl (cB, M, .inl (fun j => sb_b (B j)))), c2_, c3_, c4_, c5_, c6_, c7_, c8_, c9_] s.heap := hP
  have hD : va_D A [((y j), .inr (1, [.ref (b j), .int (nI n), .int (nI p)])), ((b j), .inl (cB, M, .inl (fun j => sb_b (B j)))), c2_, c3_, c4_, c5_, c6_, c7_, c8_, c9_] := hD
  have hrj : rj x = j := by rw [hxj]; exact rj_n hj
  have hir : isR x := by rw [hxj]; exact isR_n hj
  refine lv_iload hx hb d_D_fixed_7 (lv_at hl 4 rfl) ?_
  refine tx_sv (tx_runS (As := [.int z]) (rest := []) ⟨hx, hb, hml, hown, hA⟩ (c_D_needFixedWidth l hL0 z) (q_D_needFixedWidth hA k1_139 rfl rfl ⟨(Nat.le_of_ble_eq_true rfl), (Nat.le_of_ble_eq_true rfl)⟩) (g_S hG (fun _ _ => rfl)) rfl rfl hl.1 rfl (lv_room (Nat.le_of_ble_eq_true rfl)) d_D_fixed_9 ⟨(Nat.le_of_ble_eq_true rfl), (Nat.le_of_ble_eq_true rfl)⟩) (fun x9 E9 H9 ht9 hE9 => tx_prop hlocks hce hE9 (Nat.le_refl _) (fun _ _ => rfl) (Or.inr (Or.inl (⟨ht9.1, by unfold spFixed; rw [if_neg (fun h9 => h9 hir), if_pos ht9.2]⟩))) (fun q h => by cases h)) (fun hr9 => ?_)
  obtain ⟨k, hk0, rfl⟩ := nI_of (show ¬ z < 0 by rw [Int32.lt_iff_toInt_lt, li_0]; omega)
  have hki : (nI k).toInt = (k : Int) := nI_toInt hk0
  have hkn : (nI k).toInt.toNat = k := by rw [hki]; rfl
  refine lv_aload hx hb d_D_fixed_12 (lv_at hl 0 rfl) ?_
  refine lv_iload hx hb d_D_fixed_14 (lv_at hl 4 rfl) ?_
  have hPc := hP.sub (ws' := [((y j), .inr (1, [.ref (b j), .int (nI n), .int (nI p)])), ((b j), .inl (cB, M, .inl (fun j => sb_b (B j))))]) [0, 1] rfl
  have hKc := hK.sub (tys' := [(cB, .byte)]) [0] rfl
  refine tx_sv (tx_runS (As := [.ref (y j), .int (nI k)]) (rest := []) ⟨hx, hb, hml, hown, hA⟩ (c_D_needRoom l hL0 D cB (y j) (b j) M B n p hn hM k (by omega)) (q_D_needRoom hA k1_158 rfl rfl ⟨(Nat.le_of_ble_eq_true rfl), (Nat.le_of_ble_eq_true rfl)⟩) (oxg_S hPc hKc hG (fun _ _ => rfl)) rfl rfl hl.1 rfl (lv_room (Nat.le_of_ble_eq_true rfl)) d_D_fixed_16 ⟨(Nat.le_of_ble_eq_true rfl), (Nat.le_of_ble_eq_true rfl)⟩) (fun x9 E9 H9 ht9 hE9 => tx_prop hlocks hce hE9 (Nat.le_refl _) (fun _ _ => rfl) (Or.inr (Or.inr (⟨ht9.1, by unfold spFixed; rw [if_neg (fun h9 => h9 hir), if_neg (fun h9 => h9 hr9), hrj, hρ, hkn, if_pos ht9.2]⟩))) (fun q h => by cases h)) (fun hr16 => ?_)
  refine lv_aload hx hb d_D_fixed_19 (lv_at hl 0 rfl) ?_
  refine lv_lload_n hx hb d_D_fixed_21 rfl (lv_at hl 3 rfl) ?_
  refine lv_iload hx hb d_D_fixed_22 (lv_at hl 4 rfl) ?_
  have hPc := hP.sub (ws' := [((y j), .inr (1, [.ref (b j), .int (nI n), .int (nI p)])), ((b j), .inl (cB, M, .inl (fun j => sb_b (B j))))]) [0, 1] rfl
  have hDc := hD.sub (ws' := [((y j), .inr (1, [.ref (b j), .int (nI n), .int (nI p)])), ((b j), .inl (cB, M, .inl (fun j => sb_b (B j))))]) [0, 1] (by decide) rfl
  have hKc := hK.sub (tys' := [(cB, .byte)]) [0] rfl
  have hFc := va_free (wc := [((y j), .inr (1, [.ref (b j), .int (nI n), .int (nI p)])), ((b j), .inl (cB, M, .inl (fun j => sb_b (B j))))]) hD hS hAq [0, 1] rfl
  refine va_callv (va_runS (As := [.ref (y j), .long (lN u), .int (nI k)]) (rest := []) ⟨hx, hb, hml, hown, hA⟩ (c_D_addFixed l D cB (y j) (b j) M B n p s.heap.size u k hu (by omega) hr16 hM) (q_D_addFixed hA k1_177 rfl rfl ⟨(Nat.le_of_ble_eq_true rfl), (Nat.le_of_ble_eq_true rfl)⟩) (oxw_S hPc hKc hDc) rfl rfl hl.1 rfl (lv_room (Nat.le_of_ble_eq_true rfl)) d_D_fixed_24 ⟨(Nat.le_of_ble_eq_true rfl), (Nat.le_of_ble_eq_true rfl)⟩) hS (fun q _ h => hFc q h) hFc (fun u9 t9 H1 locs ht9 hvm9 hw9 hB9 hz1 hk1 hS => ?_)
  obtain ⟨hP1, hK1, hD1⟩ := hB9
  rw [ht9] at hP1
  obtain ⟨hP, hD⟩ := va_join (wr := [c2_, c3_, c4_, c5_, c6_, c7_, c8_, c9_]) (w1 := [((y j), .inr (1, [.ref (b j), .int (nI (n + k)), .int (nI p)])), ((b j), .inl (cB, M, .inl (fun j => sb_b ((wr B n k (fb u)) j))))]) hP hD [0, 1] [2, 3, 4, 5, 6, 7, 8, 9] rfl rfl (by decide) (by decide) hk1 hFc hP1 hD1
  generalize H1 = H at hP hS ⊢
  have hP : va_P D vCl [((y j), .inr (1, [.ref (b j), .int (nI (n + k)), .int (nI p)])), ((b j), .inl (cB, M, .inl (fun j => sb_b ((wr B n k (fb u)) j)))), c2_, c3_, c4_, c5_, c6_, c7_, c8_, c9_] H := hP.sub [8, 9, 0, 1, 2, 3, 4, 5, 6, 7] rfl
  have hD : va_D A [((y j), .inr (1, [.ref (b j), .int (nI (n + k)), .int (nI p)])), ((b j), .inl (cB, M, .inl (fun j => sb_b ((wr B n k (fb u)) j)))), c2_, c3_, c4_, c5_, c6_, c7_, c8_, c9_] := hD.sub [8, 9, 0, 1, 2, 3, 4, 5, 6, 7] (by decide) rfl
  refine lv_aload hx hb d_D_fixed_27 (lv_at hl 0 rfl) ?_
  refine va_get (D := D) (ci := 1) (v := .int (nI (n + k))) (C := R_R) (T := F_R) (N := 3) hx hb hA i_R hown hK hP 0 rfl rfl 1 (by decide) (hA _ k1_38) (fun _ h9 => h9) rfl d_D_fixed_29 ?_
  exact tx_ret (W.iret (v := nI (n + k)) hx hb hr (fun t ht hW => Or.inl ⟨_, rfl, ⟨⟨_, va_up σ j (wr B n k (fb u), n + k, p), rfl, (by unfold spFixed; rw [if_neg (fun h9 => h9 hir), if_neg (fun h9 => h9 hr9), hrj, hρ, hkn, if_neg (Nat.not_lt.mpr hr16)]), by rw [ht]; exact ho1 (wr B n k (fb u), n + k, p) _ hP, va_K.moved hW.alike hK, ho2 (wr B n k (fb u), n + k, p) _ hD⟩, hS.F ht⟩⟩) hS.2.2 d_D_fixed_32)
set_option maxHeartbeats 600000 in
set_option maxRecDepth 100000 in
/-- sevens -/
theorem c_D_sevens (l : Launch) (hL0 : l.stackTraces = false) (D : va_G) (cR cB : ClassId) (h ra : Nat) (g : Nat → Option Nat) (M : Nat) (y b : Nat → Nat) (σ : dkS) (sz : Nat) (x : Int32) (u : Nat) (hu : u < 2 ^ 64) (hg : ∀ i, i < 4 → g i = some (y i)) (hσ : dkok M σ) : tx_Met l y_D_sevens w_D_sevens ({ frames := 8, cells := 1, slots := 6, locals := 134 }) (va_Pc [.ref h, .int x, .long (lN u)] (oxv sz D [(cB, .byte), (cR, .object "PacketDesk$Row")] [(h, .inr (0, [.ref ra])), (ra, .inl (cR, 4, .inr (.inr (.inr (.inr g))))), ((y 0), .inr (1, [.ref (b 0), .int (nI (σ 0).2.1), .int (nI (σ 0).2.2)])), ((b 0), .inl (cB, M, .inl (fun j => sb_b ((σ 0).1 j)))), ((y 1), .inr (1, [.ref (b 1), .int (nI (σ 1).2.1), .int (nI (σ 1).2.2)])), ((b 1), .inl (cB, M, .inl (fun j => sb_b ((σ 1).1 j)))), ((y 2), .inr (1, [.ref (b 2), .int (nI (σ 2).2.1), .int (nI (σ 2).2.2)])), ((b 2), .inl (cB, M, .inl (fun j => sb_b ((σ 2).1 j)))), ((y 3), .inr (1, [.ref (b 3), .int (nI (σ 3).2.1), .int (nI (σ 3).2.2)])), ((b 3), .inl (cB, M, .inl (fun j => sb_b ((σ 3).1 j))))])) (tx_Q (fun E => (E = X_IOOBE ∧ (spSevens M σ x u).1 = 1) ∨ (E = X_ISE ∧ (spSevens M σ x u).1 = 2)) (va_Qi (fun r (τ : dkS) => spSevens M σ x u = (0, r, τ)) (fun τ => ow D [(cB, .byte), (cR, .object "PacketDesk$Row")] (va_A [(h, .inr (0, [.ref ra])), (ra, .inl (cR, 4, .inr (.inr (.inr (.inr g))))), ((y 0), .inr (1, [.ref (b 0), .int (nI (σ 0).2.1), .int (nI (σ 0).2.2)])), ((b 0), .inl (cB, M, .inl (fun j => sb_b ((σ 0).1 j)))), ((y 1), .inr (1, [.ref (b 1), .int (nI (σ 1).2.1), .int (nI (σ 1).2.2)])), ((b 1), .inl (cB, M, .inl (fun j => sb_b ((σ 1).1 j)))), ((y 2), .inr (1, [.ref (b 2), .int (nI (σ 2).2.1), .int (nI (σ 2).2.2)])), ((b 2), .inl (cB, M, .inl (fun j => sb_b ((σ 2).1 j)))), ((y 3), .inr (1, [.ref (b 3), .int (nI (σ 3).2.1), .int (nI (σ 3).2.2)])), ((b 3), .inl (cB, M, .inl (fun j => sb_b ((σ 3).1 j))))] sz) (dk cR cB h ra g M y b τ)) (va_A [(h, .inr (0, [.ref ra])), (ra, .inl (cR, 4, .inr (.inr (.inr (.inr g))))), ((y 0), .inr (1, [.ref (b 0), .int (nI (σ 0).2.1), .int (nI (σ 0).2.2)])), ((b 0), .inl (cB, M, .inl (fun j => sb_b ((σ 0).1 j)))), ((y 1), .inr (1, [.ref (b 1), .int (nI (σ 1).2.1), .int (nI (σ 1).2.2)])), ((b 1), .inl (cB, M, .inl (fun j => sb_b ((σ 1).1 j)))), ((y 2), .inr (1, [.ref (b 2), .int (nI (σ 2).2.1), .int (nI (σ 2).2.2)])), ((b 2), .inl (cB, M, .inl (fun j => sb_b ((σ 2).1 j)))), ((y 3), .inr (1, [.ref (b 3), .int (nI (σ 3).2.1), .int (nI (σ 3).2.2)])), ((b 3), .inl (cB, M, .inl (fun j => sb_b ((σ 3).1 j))))] sz))) 0 0 (va_A [(h, .inr (0, [.ref ra])), (ra, .inl (cR, 4, .inr (.inr (.inr (.inr g))))), ((y 0), .inr (1, [.ref (b 0), .int (nI (σ 0).2.1), .int (nI (σ 0).2.2)])), ((b 0), .inl (cB, M, .inl (fun j => sb_b ((σ 0).1 j)))), ((y 1), .inr (1, [.ref (b 1), .int (nI (σ 1).2.1), .int (nI (σ 1).2.2)])), ((b 1), .inl (cB, M, .inl (fun j => sb_b ((σ 1).1 j)))), ((y 2), .inr (1, [.ref (b 2), .int (nI (σ 2).2.1), .int (nI (σ 2).2.2)])), ((b 2), .inl (cB, M, .inl (fun j => sb_b ((σ 2).1 j)))), ((y 3), .inr (1, [.ref (b 3), .int (nI (σ 3).2.1), .int (nI (σ 3).2.2)])), ((b 3), .inl (cB, M, .inl (fun j => sb_b ((σ 3).1 j))))] sz) := by
  refine tx_ofW (cc := b_D_sevens) (maxL := 4) (ret := (some .int)) (by decide) rfl ?_
  intro p9 e9 s m args below meth c9 s₁ BL hml hce hadm hv
  obtain ⟨rfl, hsz, hP, hK, hD0, hG⟩ := hv
  have hx := BL.exec
  have hb := BL.bytes
  have hr := BL.returns
  have hts := atoms_spec (ws := w_D_sevens) BL.pre
  have hA : ∀ w ∈ wsA, w.before _ s = true := fun w h => hts w (List.mem_cons_of_mem _ h)
  have hown : s.vm.findClass R_D = some m.cls := findClass_of_methodNamed BL.named
  have hlocks := BL.notSynchronized
  have htr : e9.platform.stackTraces = false := by rw [hadm.platform]; exact hL0
  subst hsz
  have hD := hD0.self (sz := s.heap.size)
  generalize hAe : va_A [(h, .inr (0, [.ref ra])), (ra, .inl (cR, 4, .inr (.inr (.inr (.inr g))))), ((y 0), .inr (1, [.ref (b 0), .int (nI (σ 0).2.1), .int (nI (σ 0).2.2)])), ((b 0), .inl (cB, M, .inl (fun j => sb_b ((σ 0).1 j)))), ((y 1), .inr (1, [.ref (b 1), .int (nI (σ 1).2.1), .int (nI (σ 1).2.2)])), ((b 1), .inl (cB, M, .inl (fun j => sb_b ((σ 1).1 j)))), ((y 2), .inr (1, [.ref (b 2), .int (nI (σ 2).2.1), .int (nI (σ 2).2.2)])), ((b 2), .inl (cB, M, .inl (fun j => sb_b ((σ 2).1 j)))), ((y 3), .inr (1, [.ref (b 3), .int (nI (σ 3).2.1), .int (nI (σ 3).2.2)])), ((b 3), .inl (cB, M, .inl (fun j => sb_b ((σ 3).1 j))))] s.heap.size = A at hD ⊢
  have hAq : ∀ q : Nat, s.heap.size ≤ q → A q := fun q h => by rw [← hAe]; exact Or.inr h
  have hS : va_S A s.heap s.heap [] := va_S.rf
  have hP : va_P D vCl [(h, .inr (0, [.ref ra])), (ra, .inl (cR, 4, .inr (.inr (.inr (.inr g))))), ((y 0), .inr (1, [.ref (b 0), .int (nI (σ 0).2.1), .int (nI (σ 0).2.2)])), ((b 0), .inl (cB, M, .inl (fun j => sb_b ((σ 0).1 j)))), ((y 1), .inr (1, [.ref (b 1), .int (nI (σ 1).2.1), .int (nI (σ 1).2.2)])), ((b 1), .inl (cB, M, .inl (fun j => sb_b ((σ 1).1 j)))), ((y 2), .inr (1, [.ref (b 2), .int (nI (σ 2).2.1), .int (nI (σ 2).2.2)])), ((b 2), .inl (cB, M, .inl (fun j => sb_b ((σ 2).1 j)))), ((y 3), .inr (1, [.ref (b 3), .int (nI (σ 3).2.1), .int (nI (σ 3).2.2)])), ((b 3), .inl (cB, M, .inl (fun j => sb_b ((σ 3).1 j))))] s.heap := hP
  have hl := lv_entry ([.ref h, .int x, .long (lN u)]) (n := 4) (Nat.le_of_ble_eq_true rfl)
  rw [lg_entry_eq]
  generalize (lg_sl ([.ref h, .int x, .long (lN u)]) ++ List.replicate (4 - (lg_sl ([.ref h, .int x, .long (lN u)])).length) Slot.unset).toArray = ls at hl ⊢
  have hl : lv_has ls 4 [(0, .ref h), (1, .int x), (2, .long (lN u))] := hl
  refine lv_aload_n hx hb d_D_sevens_0 rfl (lv_at hl 0 rfl) ?_
  refine lv_iload_n hx hb d_D_sevens_1 rfl (lv_at hl 1 rfl) ?_
  have hPc := hP.sub (ws' := [(h, .inr (0, [.ref ra])), (ra, .inl (cR, 4, .inr (.inr (.inr (.inr g)))))]) [0, 1] rfl
  have hKc := hK.sub (tys' := [(cR, .object "PacketDesk$Row")]) [1] rfl
  refine tx_sr (tx_runV (As := [.int x]) (rest := []) ⟨hx, hb, hml, hown, hA⟩ (c_D_rowOf l hL0 D cR h ra g y hg x) (q_D_rowOf hA k1_66 rfl rfl ⟨(Nat.le_of_ble_eq_true rfl), (Nat.le_of_ble_eq_true rfl)⟩) (ox_V (va_recv hKc hPc (ci := 0) (q0 := 0) rfl rfl) (oxg_S hPc hKc hG (fun _ _ => rfl))) rfl rfl hl.1 rfl (lv_room (Nat.le_of_ble_eq_true rfl)) d_D_sevens_2 ⟨(Nat.le_of_ble_eq_true rfl), (Nat.le_of_ble_eq_true rfl)⟩) (fun x9 E9 H9 ht9 hE9 => tx_prop hlocks hce hE9 (Nat.le_refl _) (fun _ _ => rfl) (Or.inl (⟨ht9.1, by unfold spSevens; rw [if_pos ht9.2]⟩)) (fun q h => by cases h)) (fun j hj => ?_)
  obtain ⟨hj, hxj⟩ := hj
  obtain ⟨c2_, c3_, c4_, c5_, c6_, c7_, c8_, c9_, hi1, hi2, ho1, ho2⟩ := dk_1 D vCl cR cB h ra g M y b σ hj
  have hP : va_P D vCl [(y j, .inr (1, [.ref (b j), .int (nI (σ j).2.1), .int (nI (σ j).2.2)])), (b j, .inl (cB, M, .inl (fun j9 => sb_b ((σ j).1 j9)))), c2_, c3_, c4_, c5_, c6_, c7_, c8_, c9_] s.heap := hi1 _ hP
  have hD : va_D A [(y j, .inr (1, [.ref (b j), .int (nI (σ j).2.1), .int (nI (σ j).2.2)])), (b j, .inl (cB, M, .inl (fun j9 => sb_b ((σ j).1 j9)))), c2_, c3_, c4_, c5_, c6_, c7_, c8_, c9_] := hi2 _ hD
  obtain ⟨⟨B, n, p⟩, hρ⟩ : ∃ ρ, σ j = ρ := ⟨_, rfl⟩
  have hk := hσ.2 j hj
  have hM := hσ.1
  rw [hρ] at hP hk hD
  obtain ⟨hp, hn, hB⟩ := hk
  have hp : p ≤ n := hp
  have hn : n ≤ M := hn
  have hB : ∀ j, B j < 256 := hB
  have hP : va_P D vCl [((y j), .inr (1, [.ref (b j), .int (nI n), .int (nI p)])), ((b j), .inl (cB, M, .inl (fun j => sb_b (B j)))), c2_, c3_, c4_, c5_, c6_, c7_, c8_, c9_] s.heap := hP
  have hD : va_D A [((y j), .inr (1, [.ref (b j), .int (nI n), .int (nI p)])), ((b j), .inl (cB, M, .inl (fun j => sb_b (B j)))), c2_, c3_, c4_, c5_, c6_, c7_, c8_, c9_] := hD
  have hrj : rj x = j := by rw [hxj]; exact rj_n hj
  have hir : isR x := by rw [hxj]; exact isR_n hj
  refine lv_lload_n hx hb d_D_sevens_5 rfl (lv_at hl 2 rfl) ?_
  have hPc := hP.sub (ws' := [((y j), .inr (1, [.ref (b j), .int (nI n), .int (nI p)])), ((b j), .inl (cB, M, .inl (fun j => sb_b (B j))))]) [0, 1] rfl
  have hDc := hD.sub (ws' := [((y j), .inr (1, [.ref (b j), .int (nI n), .int (nI p)])), ((b j), .inl (cB, M, .inl (fun j => sb_b (B j))))]) [0, 1] (by decide) rfl
  have hKc := hK.sub (tys' := [(cB, .byte)]) [0] rfl
  have hFc := va_free (wc := [((y j), .inr (1, [.ref (b j), .int (nI n), .int (nI p)])), ((b j), .inl (cB, M, .inl (fun j => sb_b (B j))))]) hD hS hAq [0, 1] rfl
  refine tx_wi (tx_runS (As := [.ref (y j), .long (lN u)]) (rest := []) ⟨hx, hb, hml, hown, hA⟩ (c_D_writeSevens l hL0 D cB (y j) (b j) M B n p s.heap.size u hu hn hM) (q_D_writeSevens hA k1_191 rfl rfl ⟨(Nat.le_of_ble_eq_true rfl), (Nat.le_of_ble_eq_true rfl)⟩) (oxv_S hPc hKc hDc hG (fun _ _ => rfl)) rfl rfl hl.1 rfl (lv_room (Nat.le_of_ble_eq_true rfl)) d_D_sevens_6 ⟨(Nat.le_of_ble_eq_true rfl), (Nat.le_of_ble_eq_true rfl)⟩) hS (fun q _ h => hFc q h) hFc (fun x9 E9 H9 L9 ht9 hE9 hL9 => tx_prop hlocks hce hE9 (Nat.le_refl _) (fun _ _ => rfl) (Or.inr (⟨ht9.1, by unfold spSevens; rw [if_neg (fun h9 => h9 hir), hrj, hρ, if_pos ht9.2]⟩)) (fun q h => hFc _ (hL9 q h))) (fun r6 u9 t9 H1 locs ht9 hvm9 hw9 hB9 hz1 hk1 hS => ?_)
  obtain ⟨hP1, hK1, hD1⟩ := hB9
  rw [ht9] at hP1
  obtain ⟨hP, hD⟩ := va_join (wr := [c2_, c3_, c4_, c5_, c6_, c7_, c8_, c9_]) (w1 := [((y j), .inr (1, [.ref (b j), .int (nI (n + sw u)), .int (nI p)])), ((b j), .inl (cB, M, .inl (fun j => sb_b ((wr B n (sw u) (sv u)) j))))]) hP hD [0, 1] [2, 3, 4, 5, 6, 7, 8, 9] rfl rfl (by decide) (by decide) hk1 hFc hP1 hD1
  generalize H1 = H at hP hS ⊢
  have hP : va_P D vCl [((y j), .inr (1, [.ref (b j), .int (nI (n + sw u)), .int (nI p)])), ((b j), .inl (cB, M, .inl (fun j => sb_b ((wr B n (sw u) (sv u)) j)))), c2_, c3_, c4_, c5_, c6_, c7_, c8_, c9_] H := hP.sub [8, 9, 0, 1, 2, 3, 4, 5, 6, 7] rfl
  have hD : va_D A [((y j), .inr (1, [.ref (b j), .int (nI (n + sw u)), .int (nI p)])), ((b j), .inl (cB, M, .inl (fun j => sb_b ((wr B n (sw u) (sv u)) j)))), c2_, c3_, c4_, c5_, c6_, c7_, c8_, c9_] := hD.sub [8, 9, 0, 1, 2, 3, 4, 5, 6, 7] (by decide) rfl
  obtain ⟨hr6, rfl⟩ := hw9
  exact tx_ret (W.iret (v := nI (sw u)) hx hb hr (fun t ht hW => Or.inl ⟨_, rfl, ⟨⟨_, va_up σ j (wr B n (sw u) (sv u), n + sw u, p), rfl, (by unfold spSevens; rw [if_neg (fun h9 => h9 hir), hrj, hρ, if_neg (Nat.not_lt.mpr hr6)]), by rw [ht]; exact ho1 (wr B n (sw u) (sv u), n + sw u, p) _ hP, va_K.moved hW.alike hK, ho2 (wr B n (sw u) (sv u), n + sw u, p) _ hD⟩, hS.F ht⟩⟩) hS.2.2 d_D_sevens_9)
set_option maxHeartbeats 600000 in
set_option maxRecDepth 100000 in
/-- signed -/
theorem c_D_signed (l : Launch) (hL0 : l.stackTraces = false) (D : va_G) (cR cB : ClassId) (h ra : Nat) (g : Nat → Option Nat) (M : Nat) (y b : Nat → Nat) (σ : dkS) (sz : Nat) (x : Int32) (v : Int64) (hg : ∀ i, i < 4 → g i = some (y i)) (hσ : dkok M σ) : tx_Met l y_D_signed w_D_signed ({ frames := 8, cells := 1, slots := 6, locals := 134 }) (va_Pc [.ref h, .int x, .long v] (oxv sz D [(cB, .byte), (cR, .object "PacketDesk$Row")] [(h, .inr (0, [.ref ra])), (ra, .inl (cR, 4, .inr (.inr (.inr (.inr g))))), ((y 0), .inr (1, [.ref (b 0), .int (nI (σ 0).2.1), .int (nI (σ 0).2.2)])), ((b 0), .inl (cB, M, .inl (fun j => sb_b ((σ 0).1 j)))), ((y 1), .inr (1, [.ref (b 1), .int (nI (σ 1).2.1), .int (nI (σ 1).2.2)])), ((b 1), .inl (cB, M, .inl (fun j => sb_b ((σ 1).1 j)))), ((y 2), .inr (1, [.ref (b 2), .int (nI (σ 2).2.1), .int (nI (σ 2).2.2)])), ((b 2), .inl (cB, M, .inl (fun j => sb_b ((σ 2).1 j)))), ((y 3), .inr (1, [.ref (b 3), .int (nI (σ 3).2.1), .int (nI (σ 3).2.2)])), ((b 3), .inl (cB, M, .inl (fun j => sb_b ((σ 3).1 j))))])) (tx_Q (fun E => (E = X_IOOBE ∧ (spSevens M σ x (uNl (zz v))).1 = 1) ∨ (E = X_ISE ∧ (spSevens M σ x (uNl (zz v))).1 = 2)) (va_Qi (fun r (τ : dkS) => spSevens M σ x (uNl (zz v)) = (0, r, τ)) (fun τ => ow D [(cB, .byte), (cR, .object "PacketDesk$Row")] (va_A [(h, .inr (0, [.ref ra])), (ra, .inl (cR, 4, .inr (.inr (.inr (.inr g))))), ((y 0), .inr (1, [.ref (b 0), .int (nI (σ 0).2.1), .int (nI (σ 0).2.2)])), ((b 0), .inl (cB, M, .inl (fun j => sb_b ((σ 0).1 j)))), ((y 1), .inr (1, [.ref (b 1), .int (nI (σ 1).2.1), .int (nI (σ 1).2.2)])), ((b 1), .inl (cB, M, .inl (fun j => sb_b ((σ 1).1 j)))), ((y 2), .inr (1, [.ref (b 2), .int (nI (σ 2).2.1), .int (nI (σ 2).2.2)])), ((b 2), .inl (cB, M, .inl (fun j => sb_b ((σ 2).1 j)))), ((y 3), .inr (1, [.ref (b 3), .int (nI (σ 3).2.1), .int (nI (σ 3).2.2)])), ((b 3), .inl (cB, M, .inl (fun j => sb_b ((σ 3).1 j))))] sz) (dk cR cB h ra g M y b τ)) (va_A [(h, .inr (0, [.ref ra])), (ra, .inl (cR, 4, .inr (.inr (.inr (.inr g))))), ((y 0), .inr (1, [.ref (b 0), .int (nI (σ 0).2.1), .int (nI (σ 0).2.2)])), ((b 0), .inl (cB, M, .inl (fun j => sb_b ((σ 0).1 j)))), ((y 1), .inr (1, [.ref (b 1), .int (nI (σ 1).2.1), .int (nI (σ 1).2.2)])), ((b 1), .inl (cB, M, .inl (fun j => sb_b ((σ 1).1 j)))), ((y 2), .inr (1, [.ref (b 2), .int (nI (σ 2).2.1), .int (nI (σ 2).2.2)])), ((b 2), .inl (cB, M, .inl (fun j => sb_b ((σ 2).1 j)))), ((y 3), .inr (1, [.ref (b 3), .int (nI (σ 3).2.1), .int (nI (σ 3).2.2)])), ((b 3), .inl (cB, M, .inl (fun j => sb_b ((σ 3).1 j))))] sz))) 0 0 (va_A [(h, .inr (0, [.ref ra])), (ra, .inl (cR, 4, .inr (.inr (.inr (.inr g))))), ((y 0), .inr (1, [.ref (b 0), .int (nI (σ 0).2.1), .int (nI (σ 0).2.2)])), ((b 0), .inl (cB, M, .inl (fun j => sb_b ((σ 0).1 j)))), ((y 1), .inr (1, [.ref (b 1), .int (nI (σ 1).2.1), .int (nI (σ 1).2.2)])), ((b 1), .inl (cB, M, .inl (fun j => sb_b ((σ 1).1 j)))), ((y 2), .inr (1, [.ref (b 2), .int (nI (σ 2).2.1), .int (nI (σ 2).2.2)])), ((b 2), .inl (cB, M, .inl (fun j => sb_b ((σ 2).1 j)))), ((y 3), .inr (1, [.ref (b 3), .int (nI (σ 3).2.1), .int (nI (σ 3).2.2)])), ((b 3), .inl (cB, M, .inl (fun j => sb_b ((σ 3).1 j))))] sz) := by
  refine tx_ofW (cc := b_D_signed) (maxL := 4) (ret := (some .int)) (by decide) rfl ?_
  intro p9 e9 s m args below meth c9 s₁ BL hml hce hadm hv
  obtain ⟨rfl, hsz, hP, hK, hD0, hG⟩ := hv
  have hx := BL.exec
  have hb := BL.bytes
  have hr := BL.returns
  have hts := atoms_spec (ws := w_D_signed) BL.pre
  have hA : ∀ w ∈ wsA, w.before _ s = true := fun w h => hts w (List.mem_cons_of_mem _ h)
  have hown : s.vm.findClass R_D = some m.cls := findClass_of_methodNamed BL.named
  have hlocks := BL.notSynchronized
  have htr : e9.platform.stackTraces = false := by rw [hadm.platform]; exact hL0
  subst hsz
  have hD := hD0.self (sz := s.heap.size)
  generalize hAe : va_A [(h, .inr (0, [.ref ra])), (ra, .inl (cR, 4, .inr (.inr (.inr (.inr g))))), ((y 0), .inr (1, [.ref (b 0), .int (nI (σ 0).2.1), .int (nI (σ 0).2.2)])), ((b 0), .inl (cB, M, .inl (fun j => sb_b ((σ 0).1 j)))), ((y 1), .inr (1, [.ref (b 1), .int (nI (σ 1).2.1), .int (nI (σ 1).2.2)])), ((b 1), .inl (cB, M, .inl (fun j => sb_b ((σ 1).1 j)))), ((y 2), .inr (1, [.ref (b 2), .int (nI (σ 2).2.1), .int (nI (σ 2).2.2)])), ((b 2), .inl (cB, M, .inl (fun j => sb_b ((σ 2).1 j)))), ((y 3), .inr (1, [.ref (b 3), .int (nI (σ 3).2.1), .int (nI (σ 3).2.2)])), ((b 3), .inl (cB, M, .inl (fun j => sb_b ((σ 3).1 j))))] s.heap.size = A at hD ⊢
  have hAq : ∀ q : Nat, s.heap.size ≤ q → A q := fun q h => by rw [← hAe]; exact Or.inr h
  have hS : va_S A s.heap s.heap [] := va_S.rf
  have hP : va_P D vCl [(h, .inr (0, [.ref ra])), (ra, .inl (cR, 4, .inr (.inr (.inr (.inr g))))), ((y 0), .inr (1, [.ref (b 0), .int (nI (σ 0).2.1), .int (nI (σ 0).2.2)])), ((b 0), .inl (cB, M, .inl (fun j => sb_b ((σ 0).1 j)))), ((y 1), .inr (1, [.ref (b 1), .int (nI (σ 1).2.1), .int (nI (σ 1).2.2)])), ((b 1), .inl (cB, M, .inl (fun j => sb_b ((σ 1).1 j)))), ((y 2), .inr (1, [.ref (b 2), .int (nI (σ 2).2.1), .int (nI (σ 2).2.2)])), ((b 2), .inl (cB, M, .inl (fun j => sb_b ((σ 2).1 j)))), ((y 3), .inr (1, [.ref (b 3), .int (nI (σ 3).2.1), .int (nI (σ 3).2.2)])), ((b 3), .inl (cB, M, .inl (fun j => sb_b ((σ 3).1 j))))] s.heap := hP
  have hl := lv_entry ([.ref h, .int x, .long v]) (n := 4) (Nat.le_of_ble_eq_true rfl)
  rw [lg_entry_eq]
  generalize (lg_sl ([.ref h, .int x, .long v]) ++ List.replicate (4 - (lg_sl ([.ref h, .int x, .long v])).length) Slot.unset).toArray = ls at hl ⊢
  have hl : lv_has ls 4 [(0, .ref h), (1, .int x), (2, .long v)] := hl
  refine lv_aload_n hx hb d_D_signed_0 rfl (lv_at hl 0 rfl) ?_
  refine lv_iload_n hx hb d_D_signed_1 rfl (lv_at hl 1 rfl) ?_
  have hPc := hP.sub (ws' := [(h, .inr (0, [.ref ra])), (ra, .inl (cR, 4, .inr (.inr (.inr (.inr g)))))]) [0, 1] rfl
  have hKc := hK.sub (tys' := [(cR, .object "PacketDesk$Row")]) [1] rfl
  refine tx_sr (tx_runV (As := [.int x]) (rest := []) ⟨hx, hb, hml, hown, hA⟩ (c_D_rowOf l hL0 D cR h ra g y hg x) (q_D_rowOf hA k1_66 rfl rfl ⟨(Nat.le_of_ble_eq_true rfl), (Nat.le_of_ble_eq_true rfl)⟩) (ox_V (va_recv hKc hPc (ci := 0) (q0 := 0) rfl rfl) (oxg_S hPc hKc hG (fun _ _ => rfl))) rfl rfl hl.1 rfl (lv_room (Nat.le_of_ble_eq_true rfl)) d_D_signed_2 ⟨(Nat.le_of_ble_eq_true rfl), (Nat.le_of_ble_eq_true rfl)⟩) (fun x9 E9 H9 ht9 hE9 => tx_prop hlocks hce hE9 (Nat.le_refl _) (fun _ _ => rfl) (Or.inl (⟨ht9.1, by unfold spSevens; rw [if_pos ht9.2]⟩)) (fun q h => by cases h)) (fun j hj => ?_)
  obtain ⟨hj, hxj⟩ := hj
  obtain ⟨c2_, c3_, c4_, c5_, c6_, c7_, c8_, c9_, hi1, hi2, ho1, ho2⟩ := dk_1 D vCl cR cB h ra g M y b σ hj
  have hP : va_P D vCl [(y j, .inr (1, [.ref (b j), .int (nI (σ j).2.1), .int (nI (σ j).2.2)])), (b j, .inl (cB, M, .inl (fun j9 => sb_b ((σ j).1 j9)))), c2_, c3_, c4_, c5_, c6_, c7_, c8_, c9_] s.heap := hi1 _ hP
  have hD : va_D A [(y j, .inr (1, [.ref (b j), .int (nI (σ j).2.1), .int (nI (σ j).2.2)])), (b j, .inl (cB, M, .inl (fun j9 => sb_b ((σ j).1 j9)))), c2_, c3_, c4_, c5_, c6_, c7_, c8_, c9_] := hi2 _ hD
  obtain ⟨⟨B, n, p⟩, hρ⟩ : ∃ ρ, σ j = ρ := ⟨_, rfl⟩
  have hk := hσ.2 j hj
  have hM := hσ.1
  rw [hρ] at hP hk hD
  obtain ⟨hp, hn, hB⟩ := hk
  have hp : p ≤ n := hp
  have hn : n ≤ M := hn
  have hB : ∀ j, B j < 256 := hB
  have hP : va_P D vCl [((y j), .inr (1, [.ref (b j), .int (nI n), .int (nI p)])), ((b j), .inl (cB, M, .inl (fun j => sb_b (B j)))), c2_, c3_, c4_, c5_, c6_, c7_, c8_, c9_] s.heap := hP
  have hD : va_D A [((y j), .inr (1, [.ref (b j), .int (nI n), .int (nI p)])), ((b j), .inl (cB, M, .inl (fun j => sb_b (B j)))), c2_, c3_, c4_, c5_, c6_, c7_, c8_, c9_] := hD
  have hrj : rj x = j := by rw [hxj]; exact rj_n hj
  have hir : isR x := by rw [hxj]; exact isR_n hj
  refine lv_lload_n hx hb d_D_signed_5 rfl (lv_at hl 2 rfl) ?_
  refine lv_iconst (v := 1) hx hb d_D_signed_6 (by decide) ?_
  refine lv_lshl hx hb d_D_signed_7 rfl ?_
  refine lv_topl (fun v7 ev7 => ?_)
  refine lv_lload_n hx hb d_D_signed_8 rfl (lv_at hl 2 rfl) ?_
  refine lv_bipush (v := 63) hx hb d_D_signed_9 (by decide) ?_
  refine lv_lshr hx hb d_D_signed_11 rfl ?_
  refine lv_topl (fun v11 ev11 => ?_)
  refine lv_lxor hx hb d_D_signed_12 ?_
  refine lv_topl (fun v12 ev12 => ?_)
  have ev12 : v12 = lN (uNl (zz v)) := by rw [lN_u, ev12, ev7, ev11]; rfl
  subst ev12
  have hPc := hP.sub (ws' := [((y j), .inr (1, [.ref (b j), .int (nI n), .int (nI p)])), ((b j), .inl (cB, M, .inl (fun j => sb_b (B j))))]) [0, 1] rfl
  have hDc := hD.sub (ws' := [((y j), .inr (1, [.ref (b j), .int (nI n), .int (nI p)])), ((b j), .inl (cB, M, .inl (fun j => sb_b (B j))))]) [0, 1] (by decide) rfl
  have hKc := hK.sub (tys' := [(cB, .byte)]) [0] rfl
  have hFc := va_free (wc := [((y j), .inr (1, [.ref (b j), .int (nI n), .int (nI p)])), ((b j), .inl (cB, M, .inl (fun j => sb_b (B j))))]) hD hS hAq [0, 1] rfl
  refine tx_wi (tx_runS (As := [.ref (y j), .long (lN (uNl (zz v)))]) (rest := []) ⟨hx, hb, hml, hown, hA⟩ (c_D_writeSevens l hL0 D cB (y j) (b j) M B n p s.heap.size (uNl (zz v)) (uNl_lt _) hn hM) (q_D_writeSevens hA k1_191 rfl rfl ⟨(Nat.le_of_ble_eq_true rfl), (Nat.le_of_ble_eq_true rfl)⟩) (oxv_S hPc hKc hDc hG (fun _ _ => rfl)) rfl rfl hl.1 rfl (lv_room (Nat.le_of_ble_eq_true rfl)) d_D_signed_13 ⟨(Nat.le_of_ble_eq_true rfl), (Nat.le_of_ble_eq_true rfl)⟩) hS (fun q _ h => hFc q h) hFc (fun x9 E9 H9 L9 ht9 hE9 hL9 => tx_prop hlocks hce hE9 (Nat.le_refl _) (fun _ _ => rfl) (Or.inr (⟨ht9.1, by unfold spSevens; rw [if_neg (fun h9 => h9 hir), hrj, hρ, if_pos ht9.2]⟩)) (fun q h => hFc _ (hL9 q h))) (fun r13 u9 t9 H1 locs ht9 hvm9 hw9 hB9 hz1 hk1 hS => ?_)
  obtain ⟨hP1, hK1, hD1⟩ := hB9
  rw [ht9] at hP1
  obtain ⟨hP, hD⟩ := va_join (wr := [c2_, c3_, c4_, c5_, c6_, c7_, c8_, c9_]) (w1 := [((y j), .inr (1, [.ref (b j), .int (nI (n + sw (uNl (zz v)))), .int (nI p)])), ((b j), .inl (cB, M, .inl (fun j => sb_b ((wr B n (sw (uNl (zz v))) (sv (uNl (zz v)))) j))))]) hP hD [0, 1] [2, 3, 4, 5, 6, 7, 8, 9] rfl rfl (by decide) (by decide) hk1 hFc hP1 hD1
  generalize H1 = H at hP hS ⊢
  have hP : va_P D vCl [((y j), .inr (1, [.ref (b j), .int (nI (n + sw (uNl (zz v)))), .int (nI p)])), ((b j), .inl (cB, M, .inl (fun j => sb_b ((wr B n (sw (uNl (zz v))) (sv (uNl (zz v)))) j)))), c2_, c3_, c4_, c5_, c6_, c7_, c8_, c9_] H := hP.sub [8, 9, 0, 1, 2, 3, 4, 5, 6, 7] rfl
  have hD : va_D A [((y j), .inr (1, [.ref (b j), .int (nI (n + sw (uNl (zz v)))), .int (nI p)])), ((b j), .inl (cB, M, .inl (fun j => sb_b ((wr B n (sw (uNl (zz v))) (sv (uNl (zz v)))) j)))), c2_, c3_, c4_, c5_, c6_, c7_, c8_, c9_] := hD.sub [8, 9, 0, 1, 2, 3, 4, 5, 6, 7] (by decide) rfl
  obtain ⟨hr6, rfl⟩ := hw9
  exact tx_ret (W.iret (v := nI (sw (uNl (zz v)))) hx hb hr (fun t ht hW => Or.inl ⟨_, rfl, ⟨⟨_, va_up σ j (wr B n (sw (uNl (zz v))) (sv (uNl (zz v))), n + sw (uNl (zz v)), p), rfl, (by unfold spSevens; rw [if_neg (fun h9 => h9 hir), hrj, hρ, if_neg (Nat.not_lt.mpr hr6)]), by rw [ht]; exact ho1 (wr B n (sw (uNl (zz v))) (sv (uNl (zz v))), n + sw (uNl (zz v)), p) _ hP, va_K.moved hW.alike hK, ho2 (wr B n (sw (uNl (zz v))) (sv (uNl (zz v))), n + sw (uNl (zz v)), p) _ hD⟩, hS.F ht⟩⟩) hS.2.2 d_D_signed_16)
set_option maxHeartbeats 600000 in
set_option maxRecDepth 100000 in
/-- letter -/
theorem c_D_letter (l : Launch) (hL0 : l.stackTraces = false) (D : va_G) (cR cB : ClassId) (h ra : Nat) (g : Nat → Option Nat) (M : Nat) (y b : Nat → Nat) (σ : dkS) (sz : Nat) (x c : Int32) (hg : ∀ i, i < 4 → g i = some (y i)) (hσ : dkok M σ) : tx_Met l y_D_letter w_D_letter ({ frames := 7, cells := 1, slots := 6, locals := 111 }) (va_Pc [.ref h, .int x, .int c] (oxv sz D [(cB, .byte), (cR, .object "PacketDesk$Row")] [(h, .inr (0, [.ref ra])), (ra, .inl (cR, 4, .inr (.inr (.inr (.inr g))))), ((y 0), .inr (1, [.ref (b 0), .int (nI (σ 0).2.1), .int (nI (σ 0).2.2)])), ((b 0), .inl (cB, M, .inl (fun j => sb_b ((σ 0).1 j)))), ((y 1), .inr (1, [.ref (b 1), .int (nI (σ 1).2.1), .int (nI (σ 1).2.2)])), ((b 1), .inl (cB, M, .inl (fun j => sb_b ((σ 1).1 j)))), ((y 2), .inr (1, [.ref (b 2), .int (nI (σ 2).2.1), .int (nI (σ 2).2.2)])), ((b 2), .inl (cB, M, .inl (fun j => sb_b ((σ 2).1 j)))), ((y 3), .inr (1, [.ref (b 3), .int (nI (σ 3).2.1), .int (nI (σ 3).2.2)])), ((b 3), .inl (cB, M, .inl (fun j => sb_b ((σ 3).1 j))))])) (tx_Q (fun E => (E = X_IOOBE ∧ (spLetter M σ x c).1 = 1) ∨ (E = X_IAE ∧ (spLetter M σ x c).1 = 2) ∨ (E = X_ISE ∧ (spLetter M σ x c).1 = 3)) (va_Qi (fun r (τ : dkS) => spLetter M σ x c = (0, r, τ)) (fun τ => ow D [(cB, .byte), (cR, .object "PacketDesk$Row")] (va_A [(h, .inr (0, [.ref ra])), (ra, .inl (cR, 4, .inr (.inr (.inr (.inr g))))), ((y 0), .inr (1, [.ref (b 0), .int (nI (σ 0).2.1), .int (nI (σ 0).2.2)])), ((b 0), .inl (cB, M, .inl (fun j => sb_b ((σ 0).1 j)))), ((y 1), .inr (1, [.ref (b 1), .int (nI (σ 1).2.1), .int (nI (σ 1).2.2)])), ((b 1), .inl (cB, M, .inl (fun j => sb_b ((σ 1).1 j)))), ((y 2), .inr (1, [.ref (b 2), .int (nI (σ 2).2.1), .int (nI (σ 2).2.2)])), ((b 2), .inl (cB, M, .inl (fun j => sb_b ((σ 2).1 j)))), ((y 3), .inr (1, [.ref (b 3), .int (nI (σ 3).2.1), .int (nI (σ 3).2.2)])), ((b 3), .inl (cB, M, .inl (fun j => sb_b ((σ 3).1 j))))] sz) (dk cR cB h ra g M y b τ)) (va_A [(h, .inr (0, [.ref ra])), (ra, .inl (cR, 4, .inr (.inr (.inr (.inr g))))), ((y 0), .inr (1, [.ref (b 0), .int (nI (σ 0).2.1), .int (nI (σ 0).2.2)])), ((b 0), .inl (cB, M, .inl (fun j => sb_b ((σ 0).1 j)))), ((y 1), .inr (1, [.ref (b 1), .int (nI (σ 1).2.1), .int (nI (σ 1).2.2)])), ((b 1), .inl (cB, M, .inl (fun j => sb_b ((σ 1).1 j)))), ((y 2), .inr (1, [.ref (b 2), .int (nI (σ 2).2.1), .int (nI (σ 2).2.2)])), ((b 2), .inl (cB, M, .inl (fun j => sb_b ((σ 2).1 j)))), ((y 3), .inr (1, [.ref (b 3), .int (nI (σ 3).2.1), .int (nI (σ 3).2.2)])), ((b 3), .inl (cB, M, .inl (fun j => sb_b ((σ 3).1 j))))] sz))) 0 0 (va_A [(h, .inr (0, [.ref ra])), (ra, .inl (cR, 4, .inr (.inr (.inr (.inr g))))), ((y 0), .inr (1, [.ref (b 0), .int (nI (σ 0).2.1), .int (nI (σ 0).2.2)])), ((b 0), .inl (cB, M, .inl (fun j => sb_b ((σ 0).1 j)))), ((y 1), .inr (1, [.ref (b 1), .int (nI (σ 1).2.1), .int (nI (σ 1).2.2)])), ((b 1), .inl (cB, M, .inl (fun j => sb_b ((σ 1).1 j)))), ((y 2), .inr (1, [.ref (b 2), .int (nI (σ 2).2.1), .int (nI (σ 2).2.2)])), ((b 2), .inl (cB, M, .inl (fun j => sb_b ((σ 2).1 j)))), ((y 3), .inr (1, [.ref (b 3), .int (nI (σ 3).2.1), .int (nI (σ 3).2.2)])), ((b 3), .inl (cB, M, .inl (fun j => sb_b ((σ 3).1 j))))] sz) := by
  refine tx_ofW (cc := b_D_letter) (maxL := 5) (ret := (some .int)) (by decide) rfl ?_
  intro p9 e9 s m args below meth c9 s₁ BL hml hce hadm hv
  obtain ⟨rfl, hsz, hP, hK, hD0, hG⟩ := hv
  have hx := BL.exec
  have hb := BL.bytes
  have hr := BL.returns
  have hts := atoms_spec (ws := w_D_letter) BL.pre
  have hA : ∀ w ∈ wsA, w.before _ s = true := fun w h => hts w (List.mem_cons_of_mem _ h)
  have hown : s.vm.findClass R_D = some m.cls := findClass_of_methodNamed BL.named
  have hlocks := BL.notSynchronized
  have htr : e9.platform.stackTraces = false := by rw [hadm.platform]; exact hL0
  subst hsz
  have hD := hD0.self (sz := s.heap.size)
  generalize hAe : va_A [(h, .inr (0, [.ref ra])), (ra, .inl (cR, 4, .inr (.inr (.inr (.inr g))))), ((y 0), .inr (1, [.ref (b 0), .int (nI (σ 0).2.1), .int (nI (σ 0).2.2)])), ((b 0), .inl (cB, M, .inl (fun j => sb_b ((σ 0).1 j)))), ((y 1), .inr (1, [.ref (b 1), .int (nI (σ 1).2.1), .int (nI (σ 1).2.2)])), ((b 1), .inl (cB, M, .inl (fun j => sb_b ((σ 1).1 j)))), ((y 2), .inr (1, [.ref (b 2), .int (nI (σ 2).2.1), .int (nI (σ 2).2.2)])), ((b 2), .inl (cB, M, .inl (fun j => sb_b ((σ 2).1 j)))), ((y 3), .inr (1, [.ref (b 3), .int (nI (σ 3).2.1), .int (nI (σ 3).2.2)])), ((b 3), .inl (cB, M, .inl (fun j => sb_b ((σ 3).1 j))))] s.heap.size = A at hD ⊢
  have hAq : ∀ q : Nat, s.heap.size ≤ q → A q := fun q h => by rw [← hAe]; exact Or.inr h
  have hS : va_S A s.heap s.heap [] := va_S.rf
  have hP : va_P D vCl [(h, .inr (0, [.ref ra])), (ra, .inl (cR, 4, .inr (.inr (.inr (.inr g))))), ((y 0), .inr (1, [.ref (b 0), .int (nI (σ 0).2.1), .int (nI (σ 0).2.2)])), ((b 0), .inl (cB, M, .inl (fun j => sb_b ((σ 0).1 j)))), ((y 1), .inr (1, [.ref (b 1), .int (nI (σ 1).2.1), .int (nI (σ 1).2.2)])), ((b 1), .inl (cB, M, .inl (fun j => sb_b ((σ 1).1 j)))), ((y 2), .inr (1, [.ref (b 2), .int (nI (σ 2).2.1), .int (nI (σ 2).2.2)])), ((b 2), .inl (cB, M, .inl (fun j => sb_b ((σ 2).1 j)))), ((y 3), .inr (1, [.ref (b 3), .int (nI (σ 3).2.1), .int (nI (σ 3).2.2)])), ((b 3), .inl (cB, M, .inl (fun j => sb_b ((σ 3).1 j))))] s.heap := hP
  have hl := lv_entry ([.ref h, .int x, .int c]) (n := 5) (Nat.le_of_ble_eq_true rfl)
  rw [lg_entry_eq]
  generalize (lg_sl ([.ref h, .int x, .int c]) ++ List.replicate (5 - (lg_sl ([.ref h, .int x, .int c])).length) Slot.unset).toArray = ls at hl ⊢
  have hl : lv_has ls 5 [(0, .ref h), (1, .int x), (2, .int c)] := hl
  refine lv_aload_n hx hb d_D_letter_0 rfl (lv_at hl 0 rfl) ?_
  refine lv_iload_n hx hb d_D_letter_1 rfl (lv_at hl 1 rfl) ?_
  have hPc := hP.sub (ws' := [(h, .inr (0, [.ref ra])), (ra, .inl (cR, 4, .inr (.inr (.inr (.inr g)))))]) [0, 1] rfl
  have hKc := hK.sub (tys' := [(cR, .object "PacketDesk$Row")]) [1] rfl
  refine tx_sr (tx_runV (As := [.int x]) (rest := []) ⟨hx, hb, hml, hown, hA⟩ (c_D_rowOf l hL0 D cR h ra g y hg x) (q_D_rowOf hA k1_66 rfl rfl ⟨(Nat.le_of_ble_eq_true rfl), (Nat.le_of_ble_eq_true rfl)⟩) (ox_V (va_recv hKc hPc (ci := 0) (q0 := 0) rfl rfl) (oxg_S hPc hKc hG (fun _ _ => rfl))) rfl rfl hl.1 rfl (lv_room (Nat.le_of_ble_eq_true rfl)) d_D_letter_2 ⟨(Nat.le_of_ble_eq_true rfl), (Nat.le_of_ble_eq_true rfl)⟩) (fun x9 E9 H9 ht9 hE9 => tx_prop hlocks hce hE9 (Nat.le_refl _) (fun _ _ => rfl) (Or.inl (⟨ht9.1, by unfold spLetter; rw [if_pos ht9.2]⟩)) (fun q h => by cases h)) (fun j hj => ?_)
  obtain ⟨hj, hxj⟩ := hj
  refine lv_astore_n (lv' := [(3, .ref (y j)), (0, .ref h), (1, .int x), (2, .int c)]) hx hb d_D_letter_5 rfl hl (by decide) rfl (fun ls hl => ?_)
  obtain ⟨c2_, c3_, c4_, c5_, c6_, c7_, c8_, c9_, hi1, hi2, ho1, ho2⟩ := dk_1 D vCl cR cB h ra g M y b σ hj
  have hP : va_P D vCl [(y j, .inr (1, [.ref (b j), .int (nI (σ j).2.1), .int (nI (σ j).2.2)])), (b j, .inl (cB, M, .inl (fun j9 => sb_b ((σ j).1 j9)))), c2_, c3_, c4_, c5_, c6_, c7_, c8_, c9_] s.heap := hi1 _ hP
  have hD : va_D A [(y j, .inr (1, [.ref (b j), .int (nI (σ j).2.1), .int (nI (σ j).2.2)])), (b j, .inl (cB, M, .inl (fun j9 => sb_b ((σ j).1 j9)))), c2_, c3_, c4_, c5_, c6_, c7_, c8_, c9_] := hi2 _ hD
  obtain ⟨⟨B, n, p⟩, hρ⟩ : ∃ ρ, σ j = ρ := ⟨_, rfl⟩
  have hk := hσ.2 j hj
  have hM := hσ.1
  rw [hρ] at hP hk hD
  obtain ⟨hp, hn, hB⟩ := hk
  have hp : p ≤ n := hp
  have hn : n ≤ M := hn
  have hB : ∀ j, B j < 256 := hB
  have hP : va_P D vCl [((y j), .inr (1, [.ref (b j), .int (nI n), .int (nI p)])), ((b j), .inl (cB, M, .inl (fun j => sb_b (B j)))), c2_, c3_, c4_, c5_, c6_, c7_, c8_, c9_] s.heap := hP
  have hD : va_D A [((y j), .inr (1, [.ref (b j), .int (nI n), .int (nI p)])), ((b j), .inl (cB, M, .inl (fun j => sb_b (B j)))), c2_, c3_, c4_, c5_, c6_, c7_, c8_, c9_] := hD
  have hrj : rj x = j := by rw [hxj]; exact rj_n hj
  have hir : isR x := by rw [hxj]; exact isR_n hj
  refine lv_iload_n hx hb d_D_letter_6 rfl (lv_at hl 3 rfl) ?_
  refine vp_callSi (W.runS (As := [.int c]) (rest := []) ⟨hx, hb, hml, hown, hA⟩ (c_D_letterWidth l c) (q_D_letterWidth hA k1_214 rfl rfl ⟨(Nat.le_of_ble_eq_true rfl), (Nat.le_of_ble_eq_true rfl)⟩) (⟨fun a U g mk q => q, fun U hU hW => ⟨rfl, trivial⟩⟩) rfl rfl hl.1 rfl (lv_room (Nat.le_of_ble_eq_true rfl)) d_D_letter_7 ⟨(Nat.le_of_ble_eq_true rfl), (Nat.le_of_ble_eq_true rfl)⟩) (fun r7 hr7 => ?_)
  have er7 : r7 = nI (lwI c.toInt) := hr7
  subst er7
  refine lv_istore (lv' := [(4, .int (nI (lwI c.toInt))), (3, .ref (y j)), (0, .ref h), (1, .int x), (2, .int c)]) hx hb d_D_letter_10 hl (by decide) rfl (fun ls hl => ?_)
  refine lv_iload hx hb d_D_letter_12 (lv_at hl 0 rfl) ?_
  refine lv_if_ne (tgt := 27) hx hb d_D_letter_14 (by decide) (fun c14 => ?_) (fun c14 => ?_)
  · have hw0 : ¬ lwI c.toInt = 0 := fun q9 => c14 (by rw [q9]; rfl)
    have hc0 : 0 ≤ c.toInt ∧ c.toInt ≤ 1114111 := by unfold lwI at hw0; split at hw0 <;> omega
    obtain ⟨z, hz0, rfl⟩ := nI_of (show ¬ c < 0 by rw [Int32.lt_iff_toInt_lt, li_0]; omega)
    have hzi : (nI z).toInt = (z : Int) := nI_toInt hz0
    have hzn : (nI z).toInt.toNat = z := by rw [hzi]; rfl
    have h4 := lwI_le (nI z).toInt
    have hlz : lz (lwI (nI z).toInt) z := by
      rw [hzi] at hw0 h4 ⊢
      have h1 := lwI_1 z
      have h2 := lwI_2 z
      have h3 := lwI_3 z
      have h5 := lwI_4 z
      unfold lz
      omega
    refine lv_aload_n hx hb d_D_letter_27 rfl (lv_at hl 1 rfl) ?_
    refine lv_iload hx hb d_D_letter_28 (lv_at hl 0 rfl) ?_
    have hPc := hP.sub (ws' := [((y j), .inr (1, [.ref (b j), .int (nI n), .int (nI p)])), ((b j), .inl (cB, M, .inl (fun j => sb_b (B j))))]) [0, 1] rfl
    have hKc := hK.sub (tys' := [(cB, .byte)]) [0] rfl
    refine tx_sv (tx_runS (As := [.ref (y j), .int (nI (lwI (nI z).toInt))]) (rest := []) ⟨hx, hb, hml, hown, hA⟩ (c_D_needRoom l hL0 D cB (y j) (b j) M B n p hn hM (lwI (nI z).toInt) (by omega)) (q_D_needRoom hA k1_158 rfl rfl ⟨(Nat.le_of_ble_eq_true rfl), (Nat.le_of_ble_eq_true rfl)⟩) (oxg_S hPc hKc hG (fun _ _ => rfl)) rfl rfl hl.1 rfl (lv_room (Nat.le_of_ble_eq_true rfl)) d_D_letter_30 ⟨(Nat.le_of_ble_eq_true rfl), (Nat.le_of_ble_eq_true rfl)⟩) (fun x9 E9 H9 ht9 hE9 => tx_prop hlocks hce hE9 (Nat.le_refl _) (fun _ _ => rfl) (Or.inr (Or.inr (⟨ht9.1, by unfold spLetter; rw [if_neg (fun h9 => h9 hir), if_neg hw0, hrj, hρ, if_pos ht9.2]⟩))) (fun q h => by cases h)) (fun hr30 => ?_)
    refine lv_aload_n hx hb d_D_letter_33 rfl (lv_at hl 1 rfl) ?_
    refine lv_iload_n hx hb d_D_letter_34 rfl (lv_at hl 4 rfl) ?_
    refine lv_iload hx hb d_D_letter_35 (lv_at hl 0 rfl) ?_
    have hPc := hP.sub (ws' := [((y j), .inr (1, [.ref (b j), .int (nI n), .int (nI p)])), ((b j), .inl (cB, M, .inl (fun j => sb_b (B j))))]) [0, 1] rfl
    have hDc := hD.sub (ws' := [((y j), .inr (1, [.ref (b j), .int (nI n), .int (nI p)])), ((b j), .inl (cB, M, .inl (fun j => sb_b (B j))))]) [0, 1] (by decide) rfl
    have hKc := hK.sub (tys' := [(cB, .byte)]) [0] rfl
    have hFc := va_free (wc := [((y j), .inr (1, [.ref (b j), .int (nI n), .int (nI p)])), ((b j), .inl (cB, M, .inl (fun j => sb_b (B j))))]) hD hS hAq [0, 1] rfl
    refine va_callv (va_runS (As := [.ref (y j), .int (nI z), .int (nI (lwI (nI z).toInt))]) (rest := []) ⟨hx, hb, hml, hown, hA⟩ (c_D_addLetter l D cB (y j) (b j) M B n p s.heap.size (lwI (nI z).toInt) z hlz hr30 hM) (q_D_addLetter hA k1_221 rfl rfl ⟨(Nat.le_of_ble_eq_true rfl), (Nat.le_of_ble_eq_true rfl)⟩) (oxw_S hPc hKc hDc) rfl rfl hl.1 rfl (lv_room (Nat.le_of_ble_eq_true rfl)) d_D_letter_37 ⟨(Nat.le_of_ble_eq_true rfl), (Nat.le_of_ble_eq_true rfl)⟩) hS (fun q _ h => hFc q h) hFc (fun u9 t9 H1 locs ht9 hvm9 hw9 hB9 hz1 hk1 hS => ?_)
    obtain ⟨hP1, hK1, hD1⟩ := hB9
    rw [ht9] at hP1
    obtain ⟨hP, hD⟩ := va_join (wr := [c2_, c3_, c4_, c5_, c6_, c7_, c8_, c9_]) (w1 := [((y j), .inr (1, [.ref (b j), .int (nI (n + (lwI (nI z).toInt))), .int (nI p)])), ((b j), .inl (cB, M, .inl (fun j => sb_b ((wr B n (lwI (nI z).toInt) (ltb z (lwI (nI z).toInt))) j))))]) hP hD [0, 1] [2, 3, 4, 5, 6, 7, 8, 9] rfl rfl (by decide) (by decide) hk1 hFc hP1 hD1
    generalize H1 = H at hP hS ⊢
    have hP : va_P D vCl [((y j), .inr (1, [.ref (b j), .int (nI (n + (lwI (nI z).toInt))), .int (nI p)])), ((b j), .inl (cB, M, .inl (fun j => sb_b ((wr B n (lwI (nI z).toInt) (ltb z (lwI (nI z).toInt))) j)))), c2_, c3_, c4_, c5_, c6_, c7_, c8_, c9_] H := hP.sub [8, 9, 0, 1, 2, 3, 4, 5, 6, 7] rfl
    have hD : va_D A [((y j), .inr (1, [.ref (b j), .int (nI (n + (lwI (nI z).toInt))), .int (nI p)])), ((b j), .inl (cB, M, .inl (fun j => sb_b ((wr B n (lwI (nI z).toInt) (ltb z (lwI (nI z).toInt))) j)))), c2_, c3_, c4_, c5_, c6_, c7_, c8_, c9_] := hD.sub [8, 9, 0, 1, 2, 3, 4, 5, 6, 7] (by decide) rfl
    refine lv_iload hx hb d_D_letter_40 (lv_at hl 0 rfl) ?_
    exact tx_ret (W.iret (v := nI (lwI (nI z).toInt)) hx hb hr (fun t ht hW => Or.inl ⟨_, rfl, ⟨⟨_, va_up σ j (wr B n (lwI (nI z).toInt) (ltb z (lwI (nI z).toInt)), n + (lwI (nI z).toInt), p), rfl, (by unfold spLetter; rw [if_neg (fun h9 => h9 hir), if_neg hw0, hrj, hρ, if_neg (Nat.not_lt.mpr hr30), hzn]), by rw [ht]; exact ho1 (wr B n (lwI (nI z).toInt) (ltb z (lwI (nI z).toInt)), n + (lwI (nI z).toInt), p) _ hP, va_K.moved hW.alike hK, ho2 (wr B n (lwI (nI z).toInt) (ltb z (lwI (nI z).toInt)), n + (lwI (nI z).toInt), p) _ hD⟩, hS.F ht⟩⟩) hS.2.2 d_D_letter_42)
  · have hw0 : lwI c.toInt = 0 := by have h4 := lwI_le c.toInt; have h5 := congrArg Int32.toInt c14; rw [nI_toInt (by omega), li_0] at h5; omega
    exact th_IAE hx hb hml hlocks hce htr hown hA hG hl.1 (Nat.le_of_ble_eq_true rfl) (tx := "no such letter") (by decide) d_D_letter_17 d_D_letter_20 d_D_letter_21 d_D_letter_23 d_D_letter_26 (Nat.le_of_ble_eq_true rfl) (Nat.le_of_ble_eq_true rfl) (Nat.le_of_ble_eq_true rfl) (Nat.le_of_ble_eq_true rfl) (by exact Or.inr (Or.inl (⟨rfl, by unfold spLetter; rw [if_neg (fun h9 => h9 hir), if_pos hw0]⟩)))
end
section
/-! THE CLASS: PUBLIC METHODS OF ONE ROW -/
theorem nI_xor {a b : Nat} (ha : a < 2 ^ 32) (hb : b < 2 ^ 32) : nI a ^^^ nI b = nI (a ^^^ b) := by
  apply Int32.toBitVec_inj.mp
  rw [Int32.toBitVec_xor]
  apply BitVec.eq_of_toNat_eq
  rw [BitVec.toNat_xor, pk_tn ha, pk_tn hb, pk_tn (Nat.xor_lt_two_pow ha hb)]
theorem xor_256 {a k : Nat} (ha : a < 256) (hk : k < 8) : a ^^^ 2 ^ k < 256 := Nat.xor_lt_two_pow (n := 8) ha (Nat.pow_lt_pow_right (by decide) hk)
theorem la_in {B : Nat → Nat} (hB : ∀ j, B j < 256) (a e : Nat) : la B a e = -1 ∨ la B a e = -2 ∨ (0 ≤ la B a e ∧ la B a e ≤ 1114111 ∧ ¬ (55296 ≤ la B a e ∧ la B a e ≤ 57343)) := by
  have h0 := hB a
  have h1 := hB (a + 1)
  have h2 := hB (a + 2)
  have h3 := hB (a + 3)
  unfold la
  (repeat' split) <;> omega
theorem la_len {B : Nat → Nat} (hB : ∀ j, B j < 256) {a e : Nat} (h : 0 ≤ la B a e) : 1 ≤ lwI (la B a e) ∧ a + lwI (la B a e) ≤ e := by
  have h0 := hB a
  have h1 := hB (a + 1)
  have h2 := hB (a + 2)
  have h3 := hB (a + 3)
  have hin := la_in hB a e
  have hu : lwI (la B a e) = if la B a e < 128 then 1 else if la B a e < 2048 then 2 else if la B a e < 65536 then 3 else 4 := by
    unfold lwI
    rw [if_neg (by omega)]
  rw [hu]
  clear hu
  obtain ⟨r, hr⟩ : ∃ r, la B a e = r := ⟨_, rfl⟩
  rw [hr] at h hin ⊢
  unfold la at hr
  (repeat' split at hr) <;> (repeat' split) <;> omega
theorem la_nI {B : Nat → Nat} (hB : ∀ j, B j < 256) {a e : Nat} {r : Int32} (hr : r.toInt = la B a e) (h1 : ¬ r = -1) (h2 : ¬ r = -2) : 0 ≤ la B a e ∧ r = nI (la B a e).toNat := by
  have hin := la_in hB a e
  have g1 : ¬ la B a e = -1 := fun q => h1 (Int32.toInt_inj.mp (by rw [hr, q]; rfl))
  have g2 : ¬ la B a e = -2 := fun q => h2 (Int32.toInt_inj.mp (by rw [hr, q]; rfl))
  refine ⟨by omega, Int32.toInt_inj.mp ?_⟩
  rw [hr, nI_toInt (by omega)]
  omega
set_option maxHeartbeats 600000 in
set_option maxRecDepth 100000 in
/-- cut -/
theorem c_D_cut (l : Launch) (hL0 : l.stackTraces = false) (D : va_G) (cR cB : ClassId) (h ra : Nat) (g : Nat → Option Nat) (M : Nat) (y b : Nat → Nat) (σ : dkS) (sz : Nat) (x z : Int32) (hg : ∀ i, i < 4 → g i = some (y i)) (hσ : dkok M σ) : tx_Met l y_D_cut w_D_cut ({ frames := 7, cells := 1, slots := 6, locals := 111 }) (va_Pc [.ref h, .int x, .int z] (oxv sz D [(cB, .byte), (cR, .object "PacketDesk$Row")] [(h, .inr (0, [.ref ra])), (ra, .inl (cR, 4, .inr (.inr (.inr (.inr g))))), ((y 0), .inr (1, [.ref (b 0), .int (nI (σ 0).2.1), .int (nI (σ 0).2.2)])), ((b 0), .inl (cB, M, .inl (fun j => sb_b ((σ 0).1 j)))), ((y 1), .inr (1, [.ref (b 1), .int (nI (σ 1).2.1), .int (nI (σ 1).2.2)])), ((b 1), .inl (cB, M, .inl (fun j => sb_b ((σ 1).1 j)))), ((y 2), .inr (1, [.ref (b 2), .int (nI (σ 2).2.1), .int (nI (σ 2).2.2)])), ((b 2), .inl (cB, M, .inl (fun j => sb_b ((σ 2).1 j)))), ((y 3), .inr (1, [.ref (b 3), .int (nI (σ 3).2.1), .int (nI (σ 3).2.2)])), ((b 3), .inl (cB, M, .inl (fun j => sb_b ((σ 3).1 j))))])) (tx_Q (fun E => (E = X_IOOBE ∧ (spCut σ x z).1 = 1) ∨ (E = X_IAE ∧ (spCut σ x z).1 = 2)) (va_Qi (fun r (τ : dkS) => spCut σ x z = (0, r, τ)) (fun τ => ow D [(cB, .byte), (cR, .object "PacketDesk$Row")] (va_A [(h, .inr (0, [.ref ra])), (ra, .inl (cR, 4, .inr (.inr (.inr (.inr g))))), ((y 0), .inr (1, [.ref (b 0), .int (nI (σ 0).2.1), .int (nI (σ 0).2.2)])), ((b 0), .inl (cB, M, .inl (fun j => sb_b ((σ 0).1 j)))), ((y 1), .inr (1, [.ref (b 1), .int (nI (σ 1).2.1), .int (nI (σ 1).2.2)])), ((b 1), .inl (cB, M, .inl (fun j => sb_b ((σ 1).1 j)))), ((y 2), .inr (1, [.ref (b 2), .int (nI (σ 2).2.1), .int (nI (σ 2).2.2)])), ((b 2), .inl (cB, M, .inl (fun j => sb_b ((σ 2).1 j)))), ((y 3), .inr (1, [.ref (b 3), .int (nI (σ 3).2.1), .int (nI (σ 3).2.2)])), ((b 3), .inl (cB, M, .inl (fun j => sb_b ((σ 3).1 j))))] sz) (dk cR cB h ra g M y b τ)) (va_A [(h, .inr (0, [.ref ra])), (ra, .inl (cR, 4, .inr (.inr (.inr (.inr g))))), ((y 0), .inr (1, [.ref (b 0), .int (nI (σ 0).2.1), .int (nI (σ 0).2.2)])), ((b 0), .inl (cB, M, .inl (fun j => sb_b ((σ 0).1 j)))), ((y 1), .inr (1, [.ref (b 1), .int (nI (σ 1).2.1), .int (nI (σ 1).2.2)])), ((b 1), .inl (cB, M, .inl (fun j => sb_b ((σ 1).1 j)))), ((y 2), .inr (1, [.ref (b 2), .int (nI (σ 2).2.1), .int (nI (σ 2).2.2)])), ((b 2), .inl (cB, M, .inl (fun j => sb_b ((σ 2).1 j)))), ((y 3), .inr (1, [.ref (b 3), .int (nI (σ 3).2.1), .int (nI (σ 3).2.2)])), ((b 3), .inl (cB, M, .inl (fun j => sb_b ((σ 3).1 j))))] sz))) 0 0 (va_A [(h, .inr (0, [.ref ra])), (ra, .inl (cR, 4, .inr (.inr (.inr (.inr g))))), ((y 0), .inr (1, [.ref (b 0), .int (nI (σ 0).2.1), .int (nI (σ 0).2.2)])), ((b 0), .inl (cB, M, .inl (fun j => sb_b ((σ 0).1 j)))), ((y 1), .inr (1, [.ref (b 1), .int (nI (σ 1).2.1), .int (nI (σ 1).2.2)])), ((b 1), .inl (cB, M, .inl (fun j => sb_b ((σ 1).1 j)))), ((y 2), .inr (1, [.ref (b 2), .int (nI (σ 2).2.1), .int (nI (σ 2).2.2)])), ((b 2), .inl (cB, M, .inl (fun j => sb_b ((σ 2).1 j)))), ((y 3), .inr (1, [.ref (b 3), .int (nI (σ 3).2.1), .int (nI (σ 3).2.2)])), ((b 3), .inl (cB, M, .inl (fun j => sb_b ((σ 3).1 j))))] sz) := by
  refine tx_ofW (cc := b_D_cut) (maxL := 5) (ret := (some .int)) (by decide) rfl ?_
  intro p9 e9 s m args below meth c9 s₁ BL hml hce hadm hv
  obtain ⟨rfl, hsz, hP, hK, hD0, hG⟩ := hv
  have hx := BL.exec
  have hb := BL.bytes
  have hr := BL.returns
  have hts := atoms_spec (ws := w_D_cut) BL.pre
  have hA : ∀ w ∈ wsA, w.before _ s = true := fun w h => hts w (List.mem_cons_of_mem _ h)
  have hown : s.vm.findClass R_D = some m.cls := findClass_of_methodNamed BL.named
  have hlocks := BL.notSynchronized
  have htr : e9.platform.stackTraces = false := by rw [hadm.platform]; exact hL0
  subst hsz
  have hD := hD0.self (sz := s.heap.size)
  generalize hAe : va_A [(h, .inr (0, [.ref ra])), (ra, .inl (cR, 4, .inr (.inr (.inr (.inr g))))), ((y 0), .inr (1, [.ref (b 0), .int (nI (σ 0).2.1), .int (nI (σ 0).2.2)])), ((b 0), .inl (cB, M, .inl (fun j => sb_b ((σ 0).1 j)))), ((y 1), .inr (1, [.ref (b 1), .int (nI (σ 1).2.1), .int (nI (σ 1).2.2)])), ((b 1), .inl (cB, M, .inl (fun j => sb_b ((σ 1).1 j)))), ((y 2), .inr (1, [.ref (b 2), .int (nI (σ 2).2.1), .int (nI (σ 2).2.2)])), ((b 2), .inl (cB, M, .inl (fun j => sb_b ((σ 2).1 j)))), ((y 3), .inr (1, [.ref (b 3), .int (nI (σ 3).2.1), .int (nI (σ 3).2.2)])), ((b 3), .inl (cB, M, .inl (fun j => sb_b ((σ 3).1 j))))] s.heap.size = A at hD ⊢
  have hAq : ∀ q : Nat, s.heap.size ≤ q → A q := fun q h => by rw [← hAe]; exact Or.inr h
  have hS : va_S A s.heap s.heap [] := va_S.rf
  have hP : va_P D vCl [(h, .inr (0, [.ref ra])), (ra, .inl (cR, 4, .inr (.inr (.inr (.inr g))))), ((y 0), .inr (1, [.ref (b 0), .int (nI (σ 0).2.1), .int (nI (σ 0).2.2)])), ((b 0), .inl (cB, M, .inl (fun j => sb_b ((σ 0).1 j)))), ((y 1), .inr (1, [.ref (b 1), .int (nI (σ 1).2.1), .int (nI (σ 1).2.2)])), ((b 1), .inl (cB, M, .inl (fun j => sb_b ((σ 1).1 j)))), ((y 2), .inr (1, [.ref (b 2), .int (nI (σ 2).2.1), .int (nI (σ 2).2.2)])), ((b 2), .inl (cB, M, .inl (fun j => sb_b ((σ 2).1 j)))), ((y 3), .inr (1, [.ref (b 3), .int (nI (σ 3).2.1), .int (nI (σ 3).2.2)])), ((b 3), .inl (cB, M, .inl (fun j => sb_b ((σ 3).1 j))))] s.heap := hP
  have hl := lv_entry ([.ref h, .int x, .int z]) (n := 5) (Nat.le_of_ble_eq_true rfl)
  rw [lg_entry_eq]
  generalize (lg_sl ([.ref h, .int x, .int z]) ++ List.replicate (5 - (lg_sl ([.ref h, .int x, .int z])).length) Slot.unset).toArray = ls at hl ⊢
  have hl : lv_has ls 5 [(0, .ref h), (1, .int x), (2, .int z)] := hl
  refine lv_aload_n hx hb d_D_cut_0 rfl (lv_at hl 0 rfl) ?_
  refine lv_iload_n hx hb d_D_cut_1 rfl (lv_at hl 1 rfl) ?_
  have hPc := hP.sub (ws' := [(h, .inr (0, [.ref ra])), (ra, .inl (cR, 4, .inr (.inr (.inr (.inr g)))))]) [0, 1] rfl
  have hKc := hK.sub (tys' := [(cR, .object "PacketDesk$Row")]) [1] rfl
  refine tx_sr (tx_runV (As := [.int x]) (rest := []) ⟨hx, hb, hml, hown, hA⟩ (c_D_rowOf l hL0 D cR h ra g y hg x) (q_D_rowOf hA k1_66 rfl rfl ⟨(Nat.le_of_ble_eq_true rfl), (Nat.le_of_ble_eq_true rfl)⟩) (ox_V (va_recv hKc hPc (ci := 0) (q0 := 0) rfl rfl) (oxg_S hPc hKc hG (fun _ _ => rfl))) rfl rfl hl.1 rfl (lv_room (Nat.le_of_ble_eq_true rfl)) d_D_cut_2 ⟨(Nat.le_of_ble_eq_true rfl), (Nat.le_of_ble_eq_true rfl)⟩) (fun x9 E9 H9 ht9 hE9 => tx_prop hlocks hce hE9 (Nat.le_refl _) (fun _ _ => rfl) (Or.inl (⟨ht9.1, by unfold spCut; rw [if_pos ht9.2]⟩)) (fun q h => by cases h)) (fun j hj => ?_)
  obtain ⟨hj, hxj⟩ := hj
  refine lv_astore_n (lv' := [(3, .ref (y j)), (0, .ref h), (1, .int x), (2, .int z)]) hx hb d_D_cut_5 rfl hl (by decide) rfl (fun ls hl => ?_)
  obtain ⟨c2_, c3_, c4_, c5_, c6_, c7_, c8_, c9_, hi1, hi2, ho1, ho2⟩ := dk_1 D vCl cR cB h ra g M y b σ hj
  have hP : va_P D vCl [(y j, .inr (1, [.ref (b j), .int (nI (σ j).2.1), .int (nI (σ j).2.2)])), (b j, .inl (cB, M, .inl (fun j9 => sb_b ((σ j).1 j9)))), c2_, c3_, c4_, c5_, c6_, c7_, c8_, c9_] s.heap := hi1 _ hP
  have hD : va_D A [(y j, .inr (1, [.ref (b j), .int (nI (σ j).2.1), .int (nI (σ j).2.2)])), (b j, .inl (cB, M, .inl (fun j9 => sb_b ((σ j).1 j9)))), c2_, c3_, c4_, c5_, c6_, c7_, c8_, c9_] := hi2 _ hD
  obtain ⟨⟨B, n, p⟩, hρ⟩ : ∃ ρ, σ j = ρ := ⟨_, rfl⟩
  have hk := hσ.2 j hj
  have hM := hσ.1
  rw [hρ] at hP hk hD
  obtain ⟨hp, hn, hB⟩ := hk
  have hp : p ≤ n := hp
  have hn : n ≤ M := hn
  have hB : ∀ j, B j < 256 := hB
  have hP : va_P D vCl [((y j), .inr (1, [.ref (b j), .int (nI n), .int (nI p)])), ((b j), .inl (cB, M, .inl (fun j => sb_b (B j)))), c2_, c3_, c4_, c5_, c6_, c7_, c8_, c9_] s.heap := hP
  have hD : va_D A [((y j), .inr (1, [.ref (b j), .int (nI n), .int (nI p)])), ((b j), .inl (cB, M, .inl (fun j => sb_b (B j)))), c2_, c3_, c4_, c5_, c6_, c7_, c8_, c9_] := hD
  have hrj : rj x = j := by rw [hxj]; exact rj_n hj
  have hir : isR x := by rw [hxj]; exact isR_n hj
  refine lv_iload_n hx hb d_D_cut_6 rfl (lv_at hl 3 rfl) ?_
  refine lv_if_lt (tgt := 18) hx hb d_D_cut_7 (by decide) (fun c7 => ?_) (fun c7 => ?_)
  · have hni : (nI n).toInt = (n : Int) := nI_toInt (by omega)
    have hz2 : ¬ (0 ≤ z.toInt ∧ z.toInt ≤ (n : Int)) := by simp only [Int32.lt_iff_toInt_lt, Int32.le_iff_toInt_le, li_0, li_1, li_2, li_3, li_4, li_8, li_10, li_16, li_63, li_127, li_128, li_191, li_192, li_194, li_224, li_240, li_244, li_255, li_2048, li_55296, li_57343, li_65536, li_1114111, li_m1, li_m2] at *; omega
    exact th_IAE hx hb hml hlocks hce htr hown hA hG hl.1 (Nat.le_of_ble_eq_true rfl) (tx := "the row has not so many bytes") (by decide) d_D_cut_18 d_D_cut_21 d_D_cut_22 d_D_cut_24 d_D_cut_27 (Nat.le_of_ble_eq_true rfl) (Nat.le_of_ble_eq_true rfl) (Nat.le_of_ble_eq_true rfl) (Nat.le_of_ble_eq_true rfl) (by exact Or.inr (⟨rfl, by unfold spCut; rw [if_neg (fun h9 => h9 hir), hrj, hρ, if_pos hz2]⟩))
  · refine lv_iload_n hx hb d_D_cut_10 rfl (lv_at hl 3 rfl) ?_
    refine lv_aload_n hx hb d_D_cut_11 rfl (lv_at hl 0 rfl) ?_
    refine va_get (D := D) (ci := 1) (v := .int (nI n)) (C := R_R) (T := F_R) (N := 3) hx hb hA i_R hown hK hP 0 rfl rfl 1 (by decide) (hA _ k1_38) (fun _ h9 => h9) rfl d_D_cut_12 ?_
    refine lv_icmp_le (tgt := 28) hx hb d_D_cut_15 (by decide) (fun c15 => ?_) (fun c15 => ?_)
    · have hni : (nI n).toInt = (n : Int) := nI_toInt (by omega)
      have hz2 : 0 ≤ z.toInt ∧ z.toInt ≤ (n : Int) := by simp only [Int32.lt_iff_toInt_lt, Int32.le_iff_toInt_le, li_0, li_1, li_2, li_3, li_4, li_8, li_10, li_16, li_63, li_127, li_128, li_191, li_192, li_194, li_224, li_240, li_244, li_255, li_2048, li_55296, li_57343, li_65536, li_1114111, li_m1, li_m2] at *; omega
      obtain ⟨q, hq0, rfl⟩ := nI_of c7
      have hqi : (nI q).toInt = (q : Int) := nI_toInt hq0
      have hqn : (nI q).toInt.toNat = q := by rw [hqi]; rfl
      refine lv_aload_n hx hb d_D_cut_28 rfl (lv_at hl 0 rfl) ?_
      refine va_get (D := D) (ci := 1) (v := .int (nI n)) (C := R_R) (T := F_R) (N := 3) hx hb hA i_R hown hK hP 0 rfl rfl 1 (by decide) (hA _ k1_38) (fun _ h9 => h9) rfl d_D_cut_29 ?_
      refine lv_istore (lv' := [(4, .int (nI n)), (3, .ref (y j)), (0, .ref h), (1, .int x), (2, .int (nI q))]) hx hb d_D_cut_32 hl (by decide) rfl (fun ls hl => ?_)
      refine lv_aload_n hx hb d_D_cut_34 rfl (lv_at hl 1 rfl) ?_
      refine lv_iload_n hx hb d_D_cut_35 rfl (lv_at hl 4 rfl) ?_
      refine va_put (D := D) (ci := 1) (v := .int (nI q)) (ty := .int) (C := R_R) (T := F_R) (N := 3) hx hb hA i_R t_R t_R_ok n_R hown hK hP hD hS 0 rfl rfl 1 (by decide) (hA _ k1_38) (fun _ h9 => h9) rfl (by decide +kernel) rfl rfl (Nat.le_of_ble_eq_true rfl) d_D_cut_36 (fun H locs hP hD hS => ?_)
      have hP : va_P D vCl [((y j), .inr (1, [.ref (b j), .int (nI q), .int (nI p)])), ((b j), .inl (cB, M, .inl (fun j => sb_b (B j)))), c2_, c3_, c4_, c5_, c6_, c7_, c8_, c9_] H := hP
      have hD : va_D A [((y j), .inr (1, [.ref (b j), .int (nI q), .int (nI p)])), ((b j), .inl (cB, M, .inl (fun j => sb_b (B j)))), c2_, c3_, c4_, c5_, c6_, c7_, c8_, c9_] := hD
      refine lv_aload_n hx hb d_D_cut_39 rfl (lv_at hl 1 rfl) ?_
      refine lv_aload_n hx hb d_D_cut_40 rfl (lv_at hl 1 rfl) ?_
      refine va_get (D := D) (ci := 1) (v := .int (nI p)) (C := R_R) (T := F_R) (N := 3) hx hb hA i_R hown hK hP 0 rfl rfl 2 (by decide) (hA _ k1_40) (fun _ h9 => h9) rfl d_D_cut_41 ?_
      refine lv_iload_n hx hb d_D_cut_44 rfl (lv_at hl 4 rfl) ?_
      refine va_mmin hx hb (hml.trans hl.1.symm) hown (hA _ k1_23) (hA _ k1_24) (hA _ k1_2) (hA _ k1_25) (Nat.le_of_ble_eq_true rfl) (Nat.le_of_ble_eq_true rfl) (Nat.le_of_ble_eq_true rfl) (Nat.le_of_ble_eq_true rfl) d_D_cut_45 ?_
      refine lv_topi (fun v45 ev45 => ?_)
      have ev45 : v45 = nI (min p q) := by
        rw [ev45]
        by_cases h9 : q < p
        · rw [if_pos (nI_lt h9 (by omega)), Nat.min_eq_right (by omega)]
        · rw [if_neg (nI_nlt (by omega) (by omega)), Nat.min_eq_left (by omega)]
      subst ev45
      refine va_put (D := D) (ci := 1) (v := .int (nI (min p q))) (ty := .int) (C := R_R) (T := F_R) (N := 3) hx hb hA i_R t_R t_R_ok n_R hown hK hP hD hS 0 rfl rfl 2 (by decide) (hA _ k1_40) (fun _ h9 => h9) rfl (by decide +kernel) rfl rfl (Nat.le_of_ble_eq_true rfl) d_D_cut_48 (fun H locs hP hD hS => ?_)
      have hP : va_P D vCl [((y j), .inr (1, [.ref (b j), .int (nI q), .int (nI (min p q))])), ((b j), .inl (cB, M, .inl (fun j => sb_b (B j)))), c2_, c3_, c4_, c5_, c6_, c7_, c8_, c9_] H := hP
      have hD : va_D A [((y j), .inr (1, [.ref (b j), .int (nI q), .int (nI (min p q))])), ((b j), .inl (cB, M, .inl (fun j => sb_b (B j)))), c2_, c3_, c4_, c5_, c6_, c7_, c8_, c9_] := hD
      refine lv_iload hx hb d_D_cut_51 (lv_at hl 0 rfl) ?_
      exact tx_ret (W.iret (v := nI n) hx hb hr (fun t ht hW => Or.inl ⟨_, rfl, ⟨⟨_, va_up σ j (B, q, min p q), rfl, (by unfold spCut; rw [if_neg (fun h9 => h9 hir), hrj, hρ, if_neg (fun h9 => h9 hz2), hqn]), by rw [ht]; exact ho1 (B, q, min p q) _ hP, va_K.moved hW.alike hK, ho2 (B, q, min p q) _ hD⟩, hS.F ht⟩⟩) hS.2.2 d_D_cut_53)
    · have hni : (nI n).toInt = (n : Int) := nI_toInt (by omega)
      have hz2 : ¬ (0 ≤ z.toInt ∧ z.toInt ≤ (n : Int)) := by simp only [Int32.lt_iff_toInt_lt, Int32.le_iff_toInt_le, li_0, li_1, li_2, li_3, li_4, li_8, li_10, li_16, li_63, li_127, li_128, li_191, li_192, li_194, li_224, li_240, li_244, li_255, li_2048, li_55296, li_57343, li_65536, li_1114111, li_m1, li_m2] at *; omega
      exact th_IAE hx hb hml hlocks hce htr hown hA hG hl.1 (Nat.le_of_ble_eq_true rfl) (tx := "the row has not so many bytes") (by decide) d_D_cut_18 d_D_cut_21 d_D_cut_22 d_D_cut_24 d_D_cut_27 (Nat.le_of_ble_eq_true rfl) (Nat.le_of_ble_eq_true rfl) (Nat.le_of_ble_eq_true rfl) (Nat.le_of_ble_eq_true rfl) (by exact Or.inr (⟨rfl, by unfold spCut; rw [if_neg (fun h9 => h9 hir), hrj, hρ, if_pos hz2]⟩))
set_option maxHeartbeats 600000 in
set_option maxRecDepth 100000 in
/-- turn -/
theorem c_D_turn (l : Launch) (hL0 : l.stackTraces = false) (D : va_G) (cR cB : ClassId) (h ra : Nat) (g : Nat → Option Nat) (M : Nat) (y b : Nat → Nat) (σ : dkS) (sz : Nat) (x z : Int32) (hg : ∀ i, i < 4 → g i = some (y i)) (hσ : dkok M σ) : tx_Met l y_D_turn w_D_turn ({ frames := 7, cells := 1, slots := 6, locals := 111 }) (va_Pc [.ref h, .int x, .int z] (oxv sz D [(cB, .byte), (cR, .object "PacketDesk$Row")] [(h, .inr (0, [.ref ra])), (ra, .inl (cR, 4, .inr (.inr (.inr (.inr g))))), ((y 0), .inr (1, [.ref (b 0), .int (nI (σ 0).2.1), .int (nI (σ 0).2.2)])), ((b 0), .inl (cB, M, .inl (fun j => sb_b ((σ 0).1 j)))), ((y 1), .inr (1, [.ref (b 1), .int (nI (σ 1).2.1), .int (nI (σ 1).2.2)])), ((b 1), .inl (cB, M, .inl (fun j => sb_b ((σ 1).1 j)))), ((y 2), .inr (1, [.ref (b 2), .int (nI (σ 2).2.1), .int (nI (σ 2).2.2)])), ((b 2), .inl (cB, M, .inl (fun j => sb_b ((σ 2).1 j)))), ((y 3), .inr (1, [.ref (b 3), .int (nI (σ 3).2.1), .int (nI (σ 3).2.2)])), ((b 3), .inl (cB, M, .inl (fun j => sb_b ((σ 3).1 j))))])) (tx_Q (fun E => (E = X_IOOBE ∧ (spTurn σ x z).1 = 1) ∨ (E = X_IAE ∧ (spTurn σ x z).1 = 2)) (va_Qi (fun r (τ : dkS) => spTurn σ x z = (0, r, τ)) (fun τ => ow D [(cB, .byte), (cR, .object "PacketDesk$Row")] (va_A [(h, .inr (0, [.ref ra])), (ra, .inl (cR, 4, .inr (.inr (.inr (.inr g))))), ((y 0), .inr (1, [.ref (b 0), .int (nI (σ 0).2.1), .int (nI (σ 0).2.2)])), ((b 0), .inl (cB, M, .inl (fun j => sb_b ((σ 0).1 j)))), ((y 1), .inr (1, [.ref (b 1), .int (nI (σ 1).2.1), .int (nI (σ 1).2.2)])), ((b 1), .inl (cB, M, .inl (fun j => sb_b ((σ 1).1 j)))), ((y 2), .inr (1, [.ref (b 2), .int (nI (σ 2).2.1), .int (nI (σ 2).2.2)])), ((b 2), .inl (cB, M, .inl (fun j => sb_b ((σ 2).1 j)))), ((y 3), .inr (1, [.ref (b 3), .int (nI (σ 3).2.1), .int (nI (σ 3).2.2)])), ((b 3), .inl (cB, M, .inl (fun j => sb_b ((σ 3).1 j))))] sz) (dk cR cB h ra g M y b τ)) (va_A [(h, .inr (0, [.ref ra])), (ra, .inl (cR, 4, .inr (.inr (.inr (.inr g))))), ((y 0), .inr (1, [.ref (b 0), .int (nI (σ 0).2.1), .int (nI (σ 0).2.2)])), ((b 0), .inl (cB, M, .inl (fun j => sb_b ((σ 0).1 j)))), ((y 1), .inr (1, [.ref (b 1), .int (nI (σ 1).2.1), .int (nI (σ 1).2.2)])), ((b 1), .inl (cB, M, .inl (fun j => sb_b ((σ 1).1 j)))), ((y 2), .inr (1, [.ref (b 2), .int (nI (σ 2).2.1), .int (nI (σ 2).2.2)])), ((b 2), .inl (cB, M, .inl (fun j => sb_b ((σ 2).1 j)))), ((y 3), .inr (1, [.ref (b 3), .int (nI (σ 3).2.1), .int (nI (σ 3).2.2)])), ((b 3), .inl (cB, M, .inl (fun j => sb_b ((σ 3).1 j))))] sz))) 0 0 (va_A [(h, .inr (0, [.ref ra])), (ra, .inl (cR, 4, .inr (.inr (.inr (.inr g))))), ((y 0), .inr (1, [.ref (b 0), .int (nI (σ 0).2.1), .int (nI (σ 0).2.2)])), ((b 0), .inl (cB, M, .inl (fun j => sb_b ((σ 0).1 j)))), ((y 1), .inr (1, [.ref (b 1), .int (nI (σ 1).2.1), .int (nI (σ 1).2.2)])), ((b 1), .inl (cB, M, .inl (fun j => sb_b ((σ 1).1 j)))), ((y 2), .inr (1, [.ref (b 2), .int (nI (σ 2).2.1), .int (nI (σ 2).2.2)])), ((b 2), .inl (cB, M, .inl (fun j => sb_b ((σ 2).1 j)))), ((y 3), .inr (1, [.ref (b 3), .int (nI (σ 3).2.1), .int (nI (σ 3).2.2)])), ((b 3), .inl (cB, M, .inl (fun j => sb_b ((σ 3).1 j))))] sz) := by
  refine tx_ofW (cc := b_D_turn) (maxL := 5) (ret := (some .int)) (by decide) rfl ?_
  intro p9 e9 s m args below meth c9 s₁ BL hml hce hadm hv
  obtain ⟨rfl, hsz, hP, hK, hD0, hG⟩ := hv
  have hx := BL.exec
  have hb := BL.bytes
  have hr := BL.returns
  have hts := atoms_spec (ws := w_D_turn) BL.pre
  have hA : ∀ w ∈ wsA, w.before _ s = true := fun w h => hts w (List.mem_cons_of_mem _ h)
  have hown : s.vm.findClass R_D = some m.cls := findClass_of_methodNamed BL.named
  have hlocks := BL.notSynchronized
  have htr : e9.platform.stackTraces = false := by rw [hadm.platform]; exact hL0
  subst hsz
  have hD := hD0.self (sz := s.heap.size)
  generalize hAe : va_A [(h, .inr (0, [.ref ra])), (ra, .inl (cR, 4, .inr (.inr (.inr (.inr g))))), ((y 0), .inr (1, [.ref (b 0), .int (nI (σ 0).2.1), .int (nI (σ 0).2.2)])), ((b 0), .inl (cB, M, .inl (fun j => sb_b ((σ 0).1 j)))), ((y 1), .inr (1, [.ref (b 1), .int (nI (σ 1).2.1), .int (nI (σ 1).2.2)])), ((b 1), .inl (cB, M, .inl (fun j => sb_b ((σ 1).1 j)))), ((y 2), .inr (1, [.ref (b 2), .int (nI (σ 2).2.1), .int (nI (σ 2).2.2)])), ((b 2), .inl (cB, M, .inl (fun j => sb_b ((σ 2).1 j)))), ((y 3), .inr (1, [.ref (b 3), .int (nI (σ 3).2.1), .int (nI (σ 3).2.2)])), ((b 3), .inl (cB, M, .inl (fun j => sb_b ((σ 3).1 j))))] s.heap.size = A at hD ⊢
  have hAq : ∀ q : Nat, s.heap.size ≤ q → A q := fun q h => by rw [← hAe]; exact Or.inr h
  have hS : va_S A s.heap s.heap [] := va_S.rf
  have hP : va_P D vCl [(h, .inr (0, [.ref ra])), (ra, .inl (cR, 4, .inr (.inr (.inr (.inr g))))), ((y 0), .inr (1, [.ref (b 0), .int (nI (σ 0).2.1), .int (nI (σ 0).2.2)])), ((b 0), .inl (cB, M, .inl (fun j => sb_b ((σ 0).1 j)))), ((y 1), .inr (1, [.ref (b 1), .int (nI (σ 1).2.1), .int (nI (σ 1).2.2)])), ((b 1), .inl (cB, M, .inl (fun j => sb_b ((σ 1).1 j)))), ((y 2), .inr (1, [.ref (b 2), .int (nI (σ 2).2.1), .int (nI (σ 2).2.2)])), ((b 2), .inl (cB, M, .inl (fun j => sb_b ((σ 2).1 j)))), ((y 3), .inr (1, [.ref (b 3), .int (nI (σ 3).2.1), .int (nI (σ 3).2.2)])), ((b 3), .inl (cB, M, .inl (fun j => sb_b ((σ 3).1 j))))] s.heap := hP
  have hl := lv_entry ([.ref h, .int x, .int z]) (n := 5) (Nat.le_of_ble_eq_true rfl)
  rw [lg_entry_eq]
  generalize (lg_sl ([.ref h, .int x, .int z]) ++ List.replicate (5 - (lg_sl ([.ref h, .int x, .int z])).length) Slot.unset).toArray = ls at hl ⊢
  have hl : lv_has ls 5 [(0, .ref h), (1, .int x), (2, .int z)] := hl
  refine lv_aload_n hx hb d_D_turn_0 rfl (lv_at hl 0 rfl) ?_
  refine lv_iload_n hx hb d_D_turn_1 rfl (lv_at hl 1 rfl) ?_
  have hPc := hP.sub (ws' := [(h, .inr (0, [.ref ra])), (ra, .inl (cR, 4, .inr (.inr (.inr (.inr g)))))]) [0, 1] rfl
  have hKc := hK.sub (tys' := [(cR, .object "PacketDesk$Row")]) [1] rfl
  refine tx_sr (tx_runV (As := [.int x]) (rest := []) ⟨hx, hb, hml, hown, hA⟩ (c_D_rowOf l hL0 D cR h ra g y hg x) (q_D_rowOf hA k1_66 rfl rfl ⟨(Nat.le_of_ble_eq_true rfl), (Nat.le_of_ble_eq_true rfl)⟩) (ox_V (va_recv hKc hPc (ci := 0) (q0 := 0) rfl rfl) (oxg_S hPc hKc hG (fun _ _ => rfl))) rfl rfl hl.1 rfl (lv_room (Nat.le_of_ble_eq_true rfl)) d_D_turn_2 ⟨(Nat.le_of_ble_eq_true rfl), (Nat.le_of_ble_eq_true rfl)⟩) (fun x9 E9 H9 ht9 hE9 => tx_prop hlocks hce hE9 (Nat.le_refl _) (fun _ _ => rfl) (Or.inl (⟨ht9.1, by unfold spTurn; rw [if_pos ht9.2]⟩)) (fun q h => by cases h)) (fun j hj => ?_)
  obtain ⟨hj, hxj⟩ := hj
  refine lv_astore_n (lv' := [(3, .ref (y j)), (0, .ref h), (1, .int x), (2, .int z)]) hx hb d_D_turn_5 rfl hl (by decide) rfl (fun ls hl => ?_)
  obtain ⟨c2_, c3_, c4_, c5_, c6_, c7_, c8_, c9_, hi1, hi2, ho1, ho2⟩ := dk_1 D vCl cR cB h ra g M y b σ hj
  have hP : va_P D vCl [(y j, .inr (1, [.ref (b j), .int (nI (σ j).2.1), .int (nI (σ j).2.2)])), (b j, .inl (cB, M, .inl (fun j9 => sb_b ((σ j).1 j9)))), c2_, c3_, c4_, c5_, c6_, c7_, c8_, c9_] s.heap := hi1 _ hP
  have hD : va_D A [(y j, .inr (1, [.ref (b j), .int (nI (σ j).2.1), .int (nI (σ j).2.2)])), (b j, .inl (cB, M, .inl (fun j9 => sb_b ((σ j).1 j9)))), c2_, c3_, c4_, c5_, c6_, c7_, c8_, c9_] := hi2 _ hD
  obtain ⟨⟨B, n, p⟩, hρ⟩ : ∃ ρ, σ j = ρ := ⟨_, rfl⟩
  have hk := hσ.2 j hj
  have hM := hσ.1
  rw [hρ] at hP hk hD
  obtain ⟨hp, hn, hB⟩ := hk
  have hp : p ≤ n := hp
  have hn : n ≤ M := hn
  have hB : ∀ j, B j < 256 := hB
  have hP : va_P D vCl [((y j), .inr (1, [.ref (b j), .int (nI n), .int (nI p)])), ((b j), .inl (cB, M, .inl (fun j => sb_b (B j)))), c2_, c3_, c4_, c5_, c6_, c7_, c8_, c9_] s.heap := hP
  have hD : va_D A [((y j), .inr (1, [.ref (b j), .int (nI n), .int (nI p)])), ((b j), .inl (cB, M, .inl (fun j => sb_b (B j)))), c2_, c3_, c4_, c5_, c6_, c7_, c8_, c9_] := hD
  have hrj : rj x = j := by rw [hxj]; exact rj_n hj
  have hir : isR x := by rw [hxj]; exact isR_n hj
  refine lv_iload_n hx hb d_D_turn_6 rfl (lv_at hl 3 rfl) ?_
  refine lv_if_lt (tgt := 21) hx hb d_D_turn_7 (by decide) (fun c7 => ?_) (fun c7 => ?_)
  · have hz2 : ¬ (0 ≤ z.toInt ∧ z.toInt.toNat / 8 < n) := by rw [Int32.lt_iff_toInt_lt, li_0] at c7; omega
    exact th_IAE hx hb hml hlocks hce htr hown hA hG hl.1 (Nat.le_of_ble_eq_true rfl) (tx := "no such bit") (by decide) d_D_turn_21 d_D_turn_24 d_D_turn_25 d_D_turn_27 d_D_turn_30 (Nat.le_of_ble_eq_true rfl) (Nat.le_of_ble_eq_true rfl) (Nat.le_of_ble_eq_true rfl) (Nat.le_of_ble_eq_true rfl) (by exact Or.inr (⟨rfl, by unfold spTurn; rw [if_neg (fun h9 => h9 hir), hrj, hρ, if_pos hz2]⟩))
  · obtain ⟨q, hq0, rfl⟩ := nI_of c7
    have hqi : (nI q).toInt = (q : Int) := nI_toInt hq0
    have hqn : (nI q).toInt.toNat = q := by rw [hqi]; rfl
    have hd : nI q / 8 = nI (q / 8) := pk_div (d := 8) hq0 (by decide) (by decide)
    refine lv_iload_n hx hb d_D_turn_10 rfl (lv_at hl 3 rfl) ?_
    refine lv_bipush (v := 8) hx hb d_D_turn_11 (by decide) ?_
    refine lv_idiv hx hb d_D_turn_13 (by decide) ?_
    refine lv_topi (fun v13 ev13 => ?_)
    have ev13 : v13 = nI (q / 8) := by rw [ev13]; exact hd
    subst ev13
    refine lv_aload_n hx hb d_D_turn_14 rfl (lv_at hl 0 rfl) ?_
    refine va_get (D := D) (ci := 1) (v := .int (nI n)) (C := R_R) (T := F_R) (N := 3) hx hb hA i_R hown hK hP 0 rfl rfl 1 (by decide) (hA _ k1_38) (fun _ h9 => h9) rfl d_D_turn_15 ?_
    refine lv_icmp_lt (tgt := 31) hx hb d_D_turn_18 (by decide) (fun c18 => ?_) (fun c18 => ?_)
    · have hqn8 : q / 8 < n := (nI_ltI (a := q / 8) (b := n) (by omega) (by omega)).mp c18
      have hz2 : 0 ≤ (nI q).toInt ∧ (nI q).toInt.toNat / 8 < n := by rw [hqn, hqi]; omega
      refine lv_aload_n hx hb d_D_turn_31 rfl (lv_at hl 0 rfl) ?_
      refine lv_iload_n hx hb d_D_turn_32 rfl (lv_at hl 3 rfl) ?_
      refine lv_bipush (v := 8) hx hb d_D_turn_33 (by decide) ?_
      refine lv_idiv hx hb d_D_turn_35 (by decide) ?_
      refine lv_topi (fun v35 ev35 => ?_)
      have ev35 : v35 = nI (q / 8) := by rw [ev35]; exact hd
      subst ev35
      have hPc := hP.sub (ws' := [((y j), .inr (1, [.ref (b j), .int (nI n), .int (nI p)])), ((b j), .inl (cB, M, .inl (fun j => sb_b (B j))))]) [0, 1] rfl
      have hKc := hK.sub (tys' := [(cB, .byte)]) [0] rfl
      refine vp_callSi (W.runV (As := [.int (nI (q / 8))]) (rest := []) ⟨hx, hb, hml, hown, hA⟩ (c_R_get l D cB (y j) (b j) M B (nI n) (nI p) (q / 8) (by omega) hM hB) (q_R_get hA k2_21 rfl rfl ⟨(Nat.le_of_ble_eq_true rfl), (Nat.le_of_ble_eq_true rfl)⟩) (ox_V (va_recv hKc hPc (ci := 1) (q0 := 0) rfl rfl) (ox_S hPc hKc)) rfl rfl hl.1 rfl (lv_room (Nat.le_of_ble_eq_true rfl)) d_D_turn_36 ⟨(Nat.le_of_ble_eq_true rfl), (Nat.le_of_ble_eq_true rfl)⟩) (fun r36 hr36 => ?_)
      have er36 : r36 = nI (B (q / 8)) := hr36
      subst er36
      refine lv_iconst (v := 1) hx hb d_D_turn_39 (by decide) ?_
      refine lv_iload_n hx hb d_D_turn_40 rfl (lv_at hl 3 rfl) ?_
      refine lv_bipush (v := 8) hx hb d_D_turn_41 (by decide) ?_
      refine lv_irem hx hb d_D_turn_43 (by decide) ?_
      refine lv_topi (fun v43 ev43 => ?_)
      have ev43 : v43 = nI (q % 8) := by rw [ev43]; exact pk_rem (d := 8) hq0 (by decide) (by decide)
      subst ev43
      refine lv_ishl hx hb d_D_turn_44 ?_
      refine lv_topi (fun v44 ev44 => ?_)
      have ev44 : v44 = nI (2 ^ (q % 8)) := by rw [ev44]; exact (sh_n (n := 1) (k := q % 8) (by omega) (by have : 2 ^ (q % 8) < 2 ^ 8 := Nat.pow_lt_pow_right (by decide) (by omega); omega)).trans (by rw [Nat.one_mul])
      subst ev44
      refine lv_ixor hx hb d_D_turn_45 ?_
      refine lv_topi (fun v45 ev45 => ?_)
      have hp2 : 2 ^ (q % 8) < 2 ^ 8 := Nat.pow_lt_pow_right (by decide) (by omega)
      have hB8 := hB (q / 8)
      have hx8 : (B (q / 8) ^^^ 2 ^ (q % 8)) < 256 := xor_256 hB8 (by omega)
      have ev45 : v45 = nI (B (q / 8) ^^^ 2 ^ (q % 8)) := by rw [ev45]; exact nI_xor (by omega) (by omega)
      subst ev45
      refine lv_istore (lv' := [(4, .int (nI (B (q / 8) ^^^ 2 ^ (q % 8)))), (3, .ref (y j)), (0, .ref h), (1, .int x), (2, .int (nI q))]) hx hb d_D_turn_46 hl (by decide) rfl (fun ls hl => ?_)
      refine lv_aload_n hx hb d_D_turn_48 rfl (lv_at hl 1 rfl) ?_
      refine va_get (D := D) (ci := 1) (v := .ref (b j)) (C := R_R) (T := F_R) (N := 3) hx hb hA i_R hown hK hP 0 rfl rfl 0 (by decide) (hA _ k1_37) (fun _ h9 => h9) rfl d_D_turn_49 ?_
      refine lv_iload_n hx hb d_D_turn_52 rfl (lv_at hl 4 rfl) ?_
      refine lv_bipush (v := 8) hx hb d_D_turn_53 (by decide) ?_
      refine lv_idiv hx hb d_D_turn_55 (by decide) ?_
      refine lv_topi (fun v55 ev55 => ?_)
      have ev55 : v55 = nI (q / 8) := by rw [ev55]; exact hd
      subst ev55
      refine lv_iload hx hb d_D_turn_56 (lv_at hl 0 rfl) ?_
      refine lv_i2b hx hb d_D_turn_58 rfl ?_
      refine lv_topi (fun v58 ev58 => ?_)
      subst ev58
      refine va_bast hx hb hK hP hD hS 1 0 rfl rfl (vp_in_nI (n := q / 8) (N := M) (by omega) (by omega)) d_D_turn_59 (fun H locs hP hD hS => ?_)
      have hP : va_P D vCl [((y j), .inr (1, [.ref (b j), .int (nI n), .int (nI p)])), ((b j), .inl (cB, M, .inl (upd (fun j => sb_b (B j)) (nI (q / 8)).toNatClampNeg (vp_nar .byte ((nI (B (q / 8) ^^^ 2 ^ (q % 8))).toInt8.toInt32))))), c2_, c3_, c4_, c5_, c6_, c7_, c8_, c9_] H := hP
      have hD : va_D A [((y j), .inr (1, [.ref (b j), .int (nI n), .int (nI p)])), ((b j), .inl (cB, M, .inl (upd (fun j => sb_b (B j)) (nI (q / 8)).toNatClampNeg (vp_nar .byte ((nI (B (q / 8) ^^^ 2 ^ (q % 8))).toInt8.toInt32))))), c2_, c3_, c4_, c5_, c6_, c7_, c8_, c9_] := hD
      rw [show upd (fun j => sb_b (B j)) (nI (q / 8)).toNatClampNeg (vp_nar .byte ((nI (B (q / 8) ^^^ 2 ^ (q % 8))).toInt8.toInt32)) = fun j9 => sb_b (va_up B (q / 8) (B (q / 8) ^^^ 2 ^ (q % 8)) j9) from by rw [by_up B (by omega), pk_tn (by omega), Nat.mod_eq_of_lt hx8]] at hP hD
      refine lv_iload hx hb d_D_turn_60 (lv_at hl 0 rfl) ?_
      exact tx_ret (W.iret (v := nI (B (q / 8) ^^^ 2 ^ (q % 8))) hx hb hr (fun t ht hW => Or.inl ⟨_, rfl, ⟨⟨_, va_up σ j (va_up B (q / 8) (B (q / 8) ^^^ 2 ^ (q % 8)), n, p), rfl, (by unfold spTurn; rw [if_neg (fun h9 => h9 hir), hrj, hρ, if_neg (fun h9 => h9 hz2), hqn]), by rw [ht]; exact ho1 (va_up B (q / 8) (B (q / 8) ^^^ 2 ^ (q % 8)), n, p) _ hP, va_K.moved hW.alike hK, ho2 (va_up B (q / 8) (B (q / 8) ^^^ 2 ^ (q % 8)), n, p) _ hD⟩, hS.F ht⟩⟩) hS.2.2 d_D_turn_62)
    · have hz2 : ¬ (0 ≤ (nI q).toInt ∧ (nI q).toInt.toNat / 8 < n) := by rw [hqn]; have := mt (nI_ltI (a := q / 8) (b := n) (by omega) (by omega)).mpr c18; omega
      exact th_IAE hx hb hml hlocks hce htr hown hA hG hl.1 (Nat.le_of_ble_eq_true rfl) (tx := "no such bit") (by decide) d_D_turn_21 d_D_turn_24 d_D_turn_25 d_D_turn_27 d_D_turn_30 (Nat.le_of_ble_eq_true rfl) (Nat.le_of_ble_eq_true rfl) (Nat.le_of_ble_eq_true rfl) (Nat.le_of_ble_eq_true rfl) (by exact Or.inr (⟨rfl, by unfold spTurn; rw [if_neg (fun h9 => h9 hir), hrj, hρ, if_pos hz2]⟩))
set_option maxHeartbeats 600000 in
set_option maxRecDepth 100000 in
/-- readFixed -/
theorem c_D_readFixed (l : Launch) (hL0 : l.stackTraces = false) (D : va_G) (cR cB : ClassId) (h ra : Nat) (g : Nat → Option Nat) (M : Nat) (y b : Nat → Nat) (σ : dkS) (sz : Nat) (x z : Int32) (hg : ∀ i, i < 4 → g i = some (y i)) (hσ : dkok M σ) : tx_Met l y_D_readFixed w_D_readFixed ({ frames := 7, cells := 1, slots := 6, locals := 111 }) (va_Pc [.ref h, .int x, .int z] (oxv sz D [(cB, .byte), (cR, .object "PacketDesk$Row")] [(h, .inr (0, [.ref ra])), (ra, .inl (cR, 4, .inr (.inr (.inr (.inr g))))), ((y 0), .inr (1, [.ref (b 0), .int (nI (σ 0).2.1), .int (nI (σ 0).2.2)])), ((b 0), .inl (cB, M, .inl (fun j => sb_b ((σ 0).1 j)))), ((y 1), .inr (1, [.ref (b 1), .int (nI (σ 1).2.1), .int (nI (σ 1).2.2)])), ((b 1), .inl (cB, M, .inl (fun j => sb_b ((σ 1).1 j)))), ((y 2), .inr (1, [.ref (b 2), .int (nI (σ 2).2.1), .int (nI (σ 2).2.2)])), ((b 2), .inl (cB, M, .inl (fun j => sb_b ((σ 2).1 j)))), ((y 3), .inr (1, [.ref (b 3), .int (nI (σ 3).2.1), .int (nI (σ 3).2.2)])), ((b 3), .inl (cB, M, .inl (fun j => sb_b ((σ 3).1 j))))])) (tx_Q (fun E => (E = X_IOOBE ∧ (spReadFixed σ x z).1 = 1) ∨ (E = X_IAE ∧ (spReadFixed σ x z).1 = 2) ∨ (E = X_NSEE ∧ (spReadFixed σ x z).1 = 3)) (va_Ql (fun r (τ : dkS) => spReadFixed σ x z = (0, r, τ)) (fun τ => ow D [(cB, .byte), (cR, .object "PacketDesk$Row")] (va_A [(h, .inr (0, [.ref ra])), (ra, .inl (cR, 4, .inr (.inr (.inr (.inr g))))), ((y 0), .inr (1, [.ref (b 0), .int (nI (σ 0).2.1), .int (nI (σ 0).2.2)])), ((b 0), .inl (cB, M, .inl (fun j => sb_b ((σ 0).1 j)))), ((y 1), .inr (1, [.ref (b 1), .int (nI (σ 1).2.1), .int (nI (σ 1).2.2)])), ((b 1), .inl (cB, M, .inl (fun j => sb_b ((σ 1).1 j)))), ((y 2), .inr (1, [.ref (b 2), .int (nI (σ 2).2.1), .int (nI (σ 2).2.2)])), ((b 2), .inl (cB, M, .inl (fun j => sb_b ((σ 2).1 j)))), ((y 3), .inr (1, [.ref (b 3), .int (nI (σ 3).2.1), .int (nI (σ 3).2.2)])), ((b 3), .inl (cB, M, .inl (fun j => sb_b ((σ 3).1 j))))] sz) (dk cR cB h ra g M y b τ)) (va_A [(h, .inr (0, [.ref ra])), (ra, .inl (cR, 4, .inr (.inr (.inr (.inr g))))), ((y 0), .inr (1, [.ref (b 0), .int (nI (σ 0).2.1), .int (nI (σ 0).2.2)])), ((b 0), .inl (cB, M, .inl (fun j => sb_b ((σ 0).1 j)))), ((y 1), .inr (1, [.ref (b 1), .int (nI (σ 1).2.1), .int (nI (σ 1).2.2)])), ((b 1), .inl (cB, M, .inl (fun j => sb_b ((σ 1).1 j)))), ((y 2), .inr (1, [.ref (b 2), .int (nI (σ 2).2.1), .int (nI (σ 2).2.2)])), ((b 2), .inl (cB, M, .inl (fun j => sb_b ((σ 2).1 j)))), ((y 3), .inr (1, [.ref (b 3), .int (nI (σ 3).2.1), .int (nI (σ 3).2.2)])), ((b 3), .inl (cB, M, .inl (fun j => sb_b ((σ 3).1 j))))] sz))) 0 0 (va_A [(h, .inr (0, [.ref ra])), (ra, .inl (cR, 4, .inr (.inr (.inr (.inr g))))), ((y 0), .inr (1, [.ref (b 0), .int (nI (σ 0).2.1), .int (nI (σ 0).2.2)])), ((b 0), .inl (cB, M, .inl (fun j => sb_b ((σ 0).1 j)))), ((y 1), .inr (1, [.ref (b 1), .int (nI (σ 1).2.1), .int (nI (σ 1).2.2)])), ((b 1), .inl (cB, M, .inl (fun j => sb_b ((σ 1).1 j)))), ((y 2), .inr (1, [.ref (b 2), .int (nI (σ 2).2.1), .int (nI (σ 2).2.2)])), ((b 2), .inl (cB, M, .inl (fun j => sb_b ((σ 2).1 j)))), ((y 3), .inr (1, [.ref (b 3), .int (nI (σ 3).2.1), .int (nI (σ 3).2.2)])), ((b 3), .inl (cB, M, .inl (fun j => sb_b ((σ 3).1 j))))] sz) := by
  refine tx_ofW (cc := b_D_readFixed) (maxL := 6) (ret := (some .long)) (by decide) rfl ?_
  intro p9 e9 s m args below meth c9 s₁ BL hml hce hadm hv
  obtain ⟨rfl, hsz, hP, hK, hD0, hG⟩ := hv
  have hx := BL.exec
  have hb := BL.bytes
  have hr := BL.returns
  have hts := atoms_spec (ws := w_D_readFixed) BL.pre
  have hA : ∀ w ∈ wsA, w.before _ s = true := fun w h => hts w (List.mem_cons_of_mem _ h)
  have hown : s.vm.findClass R_D = some m.cls := findClass_of_methodNamed BL.named
  have hlocks := BL.notSynchronized
  have htr : e9.platform.stackTraces = false := by rw [hadm.platform]; exact hL0
  subst hsz
  have hD := hD0.self (sz := s.heap.size)
  generalize hAe : va_A [(h, .inr (0, [.ref ra])), (ra, .inl (cR, 4, .inr (.inr (.inr (.inr g))))), ((y 0), .inr (1, [.ref (b 0), .int (nI (σ 0).2.1), .int (nI (σ 0).2.2)])), ((b 0), .inl (cB, M, .inl (fun j => sb_b ((σ 0).1 j)))), ((y 1), .inr (1, [.ref (b 1), .int (nI (σ 1).2.1), .int (nI (σ 1).2.2)])), ((b 1), .inl (cB, M, .inl (fun j => sb_b ((σ 1).1 j)))), ((y 2), .inr (1, [.ref (b 2), .int (nI (σ 2).2.1), .int (nI (σ 2).2.2)])), ((b 2), .inl (cB, M, .inl (fun j => sb_b ((σ 2).1 j)))), ((y 3), .inr (1, [.ref (b 3), .int (nI (σ 3).2.1), .int (nI (σ 3).2.2)])), ((b 3), .inl (cB, M, .inl (fun j => sb_b ((σ 3).1 j))))] s.heap.size = A at hD ⊢
  have hAq : ∀ q : Nat, s.heap.size ≤ q → A q := fun q h => by rw [← hAe]; exact Or.inr h
  have hS : va_S A s.heap s.heap [] := va_S.rf
  have hP : va_P D vCl [(h, .inr (0, [.ref ra])), (ra, .inl (cR, 4, .inr (.inr (.inr (.inr g))))), ((y 0), .inr (1, [.ref (b 0), .int (nI (σ 0).2.1), .int (nI (σ 0).2.2)])), ((b 0), .inl (cB, M, .inl (fun j => sb_b ((σ 0).1 j)))), ((y 1), .inr (1, [.ref (b 1), .int (nI (σ 1).2.1), .int (nI (σ 1).2.2)])), ((b 1), .inl (cB, M, .inl (fun j => sb_b ((σ 1).1 j)))), ((y 2), .inr (1, [.ref (b 2), .int (nI (σ 2).2.1), .int (nI (σ 2).2.2)])), ((b 2), .inl (cB, M, .inl (fun j => sb_b ((σ 2).1 j)))), ((y 3), .inr (1, [.ref (b 3), .int (nI (σ 3).2.1), .int (nI (σ 3).2.2)])), ((b 3), .inl (cB, M, .inl (fun j => sb_b ((σ 3).1 j))))] s.heap := hP
  have hl := lv_entry ([.ref h, .int x, .int z]) (n := 6) (Nat.le_of_ble_eq_true rfl)
  rw [lg_entry_eq]
  generalize (lg_sl ([.ref h, .int x, .int z]) ++ List.replicate (6 - (lg_sl ([.ref h, .int x, .int z])).length) Slot.unset).toArray = ls at hl ⊢
  have hl : lv_has ls 6 [(0, .ref h), (1, .int x), (2, .int z)] := hl
  refine lv_aload_n hx hb d_D_readFixed_0 rfl (lv_at hl 0 rfl) ?_
  refine lv_iload_n hx hb d_D_readFixed_1 rfl (lv_at hl 1 rfl) ?_
  have hPc := hP.sub (ws' := [(h, .inr (0, [.ref ra])), (ra, .inl (cR, 4, .inr (.inr (.inr (.inr g)))))]) [0, 1] rfl
  have hKc := hK.sub (tys' := [(cR, .object "PacketDesk$Row")]) [1] rfl
  refine tx_sr (tx_runV (As := [.int x]) (rest := []) ⟨hx, hb, hml, hown, hA⟩ (c_D_rowOf l hL0 D cR h ra g y hg x) (q_D_rowOf hA k1_66 rfl rfl ⟨(Nat.le_of_ble_eq_true rfl), (Nat.le_of_ble_eq_true rfl)⟩) (ox_V (va_recv hKc hPc (ci := 0) (q0 := 0) rfl rfl) (oxg_S hPc hKc hG (fun _ _ => rfl))) rfl rfl hl.1 rfl (lv_room (Nat.le_of_ble_eq_true rfl)) d_D_readFixed_2 ⟨(Nat.le_of_ble_eq_true rfl), (Nat.le_of_ble_eq_true rfl)⟩) (fun x9 E9 H9 ht9 hE9 => tx_prop hlocks hce hE9 (Nat.le_refl _) (fun _ _ => rfl) (Or.inl (⟨ht9.1, by unfold spReadFixed; rw [if_pos ht9.2]⟩)) (fun q h => by cases h)) (fun j hj => ?_)
  obtain ⟨hj, hxj⟩ := hj
  refine lv_astore_n (lv' := [(3, .ref (y j)), (0, .ref h), (1, .int x), (2, .int z)]) hx hb d_D_readFixed_5 rfl hl (by decide) rfl (fun ls hl => ?_)
  obtain ⟨c2_, c3_, c4_, c5_, c6_, c7_, c8_, c9_, hi1, hi2, ho1, ho2⟩ := dk_1 D vCl cR cB h ra g M y b σ hj
  have hP : va_P D vCl [(y j, .inr (1, [.ref (b j), .int (nI (σ j).2.1), .int (nI (σ j).2.2)])), (b j, .inl (cB, M, .inl (fun j9 => sb_b ((σ j).1 j9)))), c2_, c3_, c4_, c5_, c6_, c7_, c8_, c9_] s.heap := hi1 _ hP
  have hD : va_D A [(y j, .inr (1, [.ref (b j), .int (nI (σ j).2.1), .int (nI (σ j).2.2)])), (b j, .inl (cB, M, .inl (fun j9 => sb_b ((σ j).1 j9)))), c2_, c3_, c4_, c5_, c6_, c7_, c8_, c9_] := hi2 _ hD
  obtain ⟨⟨B, n, p⟩, hρ⟩ : ∃ ρ, σ j = ρ := ⟨_, rfl⟩
  have hk := hσ.2 j hj
  have hM := hσ.1
  rw [hρ] at hP hk hD
  obtain ⟨hp, hn, hB⟩ := hk
  have hp : p ≤ n := hp
  have hn : n ≤ M := hn
  have hB : ∀ j, B j < 256 := hB
  have hP : va_P D vCl [((y j), .inr (1, [.ref (b j), .int (nI n), .int (nI p)])), ((b j), .inl (cB, M, .inl (fun j => sb_b (B j)))), c2_, c3_, c4_, c5_, c6_, c7_, c8_, c9_] s.heap := hP
  have hD : va_D A [((y j), .inr (1, [.ref (b j), .int (nI n), .int (nI p)])), ((b j), .inl (cB, M, .inl (fun j => sb_b (B j)))), c2_, c3_, c4_, c5_, c6_, c7_, c8_, c9_] := hD
  have hrj : rj x = j := by rw [hxj]; exact rj_n hj
  have hir : isR x := by rw [hxj]; exact isR_n hj
  refine lv_iload_n hx hb d_D_readFixed_6 rfl (lv_at hl 3 rfl) ?_
  refine tx_sv (tx_runS (As := [.int z]) (rest := []) ⟨hx, hb, hml, hown, hA⟩ (c_D_needFixedWidth l hL0 z) (q_D_needFixedWidth hA k1_139 rfl rfl ⟨(Nat.le_of_ble_eq_true rfl), (Nat.le_of_ble_eq_true rfl)⟩) (g_S hG (fun _ _ => rfl)) rfl rfl hl.1 rfl (lv_room (Nat.le_of_ble_eq_true rfl)) d_D_readFixed_7 ⟨(Nat.le_of_ble_eq_true rfl), (Nat.le_of_ble_eq_true rfl)⟩) (fun x9 E9 H9 ht9 hE9 => tx_prop hlocks hce hE9 (Nat.le_refl _) (fun _ _ => rfl) (Or.inr (Or.inl (⟨ht9.1, by unfold spReadFixed; rw [if_neg (fun h9 => h9 hir), if_pos ht9.2]⟩))) (fun q h => by cases h)) (fun hr7 => ?_)
  obtain ⟨k, hk0, rfl⟩ := nI_of (show ¬ z < 0 by rw [Int32.lt_iff_toInt_lt, li_0]; omega)
  have hki : (nI k).toInt = (k : Int) := nI_toInt hk0
  have hkn : (nI k).toInt.toNat = k := by rw [hki]; rfl
  refine lv_aload_n hx hb d_D_readFixed_10 rfl (lv_at hl 0 rfl) ?_
  refine lv_iload_n hx hb d_D_readFixed_11 rfl (lv_at hl 3 rfl) ?_
  have hPc := hP.sub (ws' := [((y j), .inr (1, [.ref (b j), .int (nI n), .int (nI p)])), ((b j), .inl (cB, M, .inl (fun j => sb_b (B j))))]) [0, 1] rfl
  have hKc := hK.sub (tys' := [(cB, .byte)]) [0] rfl
  refine tx_sv (tx_runS (As := [.ref (y j), .int (nI k)]) (rest := []) ⟨hx, hb, hml, hown, hA⟩ (c_D_needLeft l hL0 D cB (y j) (b j) M B n p hn hM hp k (by omega)) (q_D_needLeft hA k2_57 rfl rfl ⟨(Nat.le_of_ble_eq_true rfl), (Nat.le_of_ble_eq_true rfl)⟩) (oxg_S hPc hKc hG (fun _ _ => rfl)) rfl rfl hl.1 rfl (lv_room (Nat.le_of_ble_eq_true rfl)) d_D_readFixed_12 ⟨(Nat.le_of_ble_eq_true rfl), (Nat.le_of_ble_eq_true rfl)⟩) (fun x9 E9 H9 ht9 hE9 => tx_prop hlocks hce hE9 (Nat.le_refl _) (fun _ _ => rfl) (Or.inr (Or.inr (⟨ht9.1, by unfold spReadFixed; rw [if_neg (fun h9 => h9 hir), if_neg (fun h9 => h9 hr7), hrj, hρ, hkn, if_pos ht9.2]⟩))) (fun q h => by cases h)) (fun hr12 => ?_)
  refine lv_aload_n hx hb d_D_readFixed_15 rfl (lv_at hl 0 rfl) ?_
  refine lv_aload_n hx hb d_D_readFixed_16 rfl (lv_at hl 0 rfl) ?_
  refine va_get (D := D) (ci := 1) (v := .int (nI p)) (C := R_R) (T := F_R) (N := 3) hx hb hA i_R hown hK hP 0 rfl rfl 2 (by decide) (hA _ k1_40) (fun _ h9 => h9) rfl d_D_readFixed_17 ?_
  refine lv_iload_n hx hb d_D_readFixed_20 rfl (lv_at hl 3 rfl) ?_
  have hPc := hP.sub (ws' := [((y j), .inr (1, [.ref (b j), .int (nI n), .int (nI p)])), ((b j), .inl (cB, M, .inl (fun j => sb_b (B j))))]) [0, 1] rfl
  have hKc := hK.sub (tys' := [(cB, .byte)]) [0] rfl
  refine vp_callSl (W.runS (As := [.ref (y j), .int (nI p), .int (nI k)]) (rest := []) ⟨hx, hb, hml, hown, hA⟩ (c_D_fixedAt l D cB (y j) (b j) M B (nI n) (nI p) p k (by omega) (by omega) hM hB) (q_D_fixedAt hA k2_76 rfl rfl ⟨(Nat.le_of_ble_eq_true rfl), (Nat.le_of_ble_eq_true rfl)⟩) (ox_S hPc hKc) rfl rfl hl.1 rfl (lv_room (Nat.le_of_ble_eq_true rfl)) d_D_readFixed_21 ⟨(Nat.le_of_ble_eq_true rfl), (Nat.le_of_ble_eq_true rfl)⟩) (fun r21 hr21 => ?_)
  have er21 : r21 = lN (fx B p k) := hr21
  subst er21
  refine lv_lstore (lv' := [(4, .long (lN (fx B p k))), (3, .ref (y j)), (0, .ref h), (1, .int x), (2, .int (nI k))]) hx hb d_D_readFixed_24 hl (by decide) rfl (fun ls hl => ?_)
  refine lv_aload_n hx hb d_D_readFixed_26 rfl (lv_at hl 1 rfl) ?_
  refine lv_dup hx hb d_D_readFixed_27 rfl ?_
  refine va_get (D := D) (ci := 1) (v := .int (nI p)) (C := R_R) (T := F_R) (N := 3) hx hb hA i_R hown hK hP 0 rfl rfl 2 (by decide) (hA _ k1_40) (fun _ h9 => h9) rfl d_D_readFixed_28 ?_
  refine lv_iload_n hx hb d_D_readFixed_31 rfl (lv_at hl 4 rfl) ?_
  refine lv_iadd hx hb d_D_readFixed_32 ?_
  refine lv_topi (fun v32 ev32 => ?_)
  have ev32 : v32 = nI (p + k) := by rw [ev32]; exact nI_add p k
  subst ev32
  refine va_put (D := D) (ci := 1) (v := .int (nI (p + k))) (ty := .int) (C := R_R) (T := F_R) (N := 3) hx hb hA i_R t_R t_R_ok n_R hown hK hP hD hS 0 rfl rfl 2 (by decide) (hA _ k1_40) (fun _ h9 => h9) rfl (by decide +kernel) rfl rfl (Nat.le_of_ble_eq_true rfl) d_D_readFixed_33 (fun H locs hP hD hS => ?_)
  have hP : va_P D vCl [((y j), .inr (1, [.ref (b j), .int (nI n), .int (nI (p + k))])), ((b j), .inl (cB, M, .inl (fun j => sb_b (B j)))), c2_, c3_, c4_, c5_, c6_, c7_, c8_, c9_] H := hP
  have hD : va_D A [((y j), .inr (1, [.ref (b j), .int (nI n), .int (nI (p + k))])), ((b j), .inl (cB, M, .inl (fun j => sb_b (B j)))), c2_, c3_, c4_, c5_, c6_, c7_, c8_, c9_] := hD
  refine lv_lload hx hb d_D_readFixed_36 (lv_at hl 0 rfl) ?_
  exact tx_ret (W.lret (v := lN (fx B p k)) hx hb hr (fun t ht hW => Or.inl ⟨_, rfl, ⟨⟨_, va_up σ j (B, n, p + k), rfl, (by unfold spReadFixed; rw [if_neg (fun h9 => h9 hir), if_neg (fun h9 => h9 hr7), hrj, hρ, hkn, if_neg (Nat.not_lt.mpr hr12)]), by rw [ht]; exact ho1 (B, n, p + k) _ hP, va_K.moved hW.alike hK, ho2 (B, n, p + k) _ hD⟩, hS.F ht⟩⟩) hS.2.2 d_D_readFixed_38)
end
section
/-! THE CLASS: PUBLIC METHODS OF ONE ROW -/
set_option maxHeartbeats 600000 in
set_option maxRecDepth 100000 in
/-- readSevens -/
theorem c_D_readSevens (l : Launch) (hL0 : l.stackTraces = false) (D : va_G) (cR cB : ClassId) (h ra : Nat) (g : Nat → Option Nat) (M : Nat) (y b : Nat → Nat) (σ : dkS) (sz : Nat) (x : Int32) (hg : ∀ i, i < 4 → g i = some (y i)) (hσ : dkok M σ) : tx_Met l y_D_readSevens w_D_readSevens ({ frames := 9, cells := 1, slots := 6, locals := 156 }) (va_Pc [.ref h, .int x] (oxv sz D [(cB, .byte), (cR, .object "PacketDesk$Row")] [(h, .inr (0, [.ref ra])), (ra, .inl (cR, 4, .inr (.inr (.inr (.inr g))))), ((y 0), .inr (1, [.ref (b 0), .int (nI (σ 0).2.1), .int (nI (σ 0).2.2)])), ((b 0), .inl (cB, M, .inl (fun j => sb_b ((σ 0).1 j)))), ((y 1), .inr (1, [.ref (b 1), .int (nI (σ 1).2.1), .int (nI (σ 1).2.2)])), ((b 1), .inl (cB, M, .inl (fun j => sb_b ((σ 1).1 j)))), ((y 2), .inr (1, [.ref (b 2), .int (nI (σ 2).2.1), .int (nI (σ 2).2.2)])), ((b 2), .inl (cB, M, .inl (fun j => sb_b ((σ 2).1 j)))), ((y 3), .inr (1, [.ref (b 3), .int (nI (σ 3).2.1), .int (nI (σ 3).2.2)])), ((b 3), .inl (cB, M, .inl (fun j => sb_b ((σ 3).1 j))))])) (tx_Q (fun E => (E = X_IOOBE ∧ (spReadSevens σ x).1 = 1) ∨ (E = X_IAE ∧ (spReadSevens σ x).1 = 2) ∨ (E = X_NSEE ∧ (spReadSevens σ x).1 = 3)) (va_Ql (fun r (τ : dkS) => spReadSevens σ x = (0, r, τ)) (fun τ => ow D [(cB, .byte), (cR, .object "PacketDesk$Row")] (va_A [(h, .inr (0, [.ref ra])), (ra, .inl (cR, 4, .inr (.inr (.inr (.inr g))))), ((y 0), .inr (1, [.ref (b 0), .int (nI (σ 0).2.1), .int (nI (σ 0).2.2)])), ((b 0), .inl (cB, M, .inl (fun j => sb_b ((σ 0).1 j)))), ((y 1), .inr (1, [.ref (b 1), .int (nI (σ 1).2.1), .int (nI (σ 1).2.2)])), ((b 1), .inl (cB, M, .inl (fun j => sb_b ((σ 1).1 j)))), ((y 2), .inr (1, [.ref (b 2), .int (nI (σ 2).2.1), .int (nI (σ 2).2.2)])), ((b 2), .inl (cB, M, .inl (fun j => sb_b ((σ 2).1 j)))), ((y 3), .inr (1, [.ref (b 3), .int (nI (σ 3).2.1), .int (nI (σ 3).2.2)])), ((b 3), .inl (cB, M, .inl (fun j => sb_b ((σ 3).1 j))))] sz) (dk cR cB h ra g M y b τ)) (va_A [(h, .inr (0, [.ref ra])), (ra, .inl (cR, 4, .inr (.inr (.inr (.inr g))))), ((y 0), .inr (1, [.ref (b 0), .int (nI (σ 0).2.1), .int (nI (σ 0).2.2)])), ((b 0), .inl (cB, M, .inl (fun j => sb_b ((σ 0).1 j)))), ((y 1), .inr (1, [.ref (b 1), .int (nI (σ 1).2.1), .int (nI (σ 1).2.2)])), ((b 1), .inl (cB, M, .inl (fun j => sb_b ((σ 1).1 j)))), ((y 2), .inr (1, [.ref (b 2), .int (nI (σ 2).2.1), .int (nI (σ 2).2.2)])), ((b 2), .inl (cB, M, .inl (fun j => sb_b ((σ 2).1 j)))), ((y 3), .inr (1, [.ref (b 3), .int (nI (σ 3).2.1), .int (nI (σ 3).2.2)])), ((b 3), .inl (cB, M, .inl (fun j => sb_b ((σ 3).1 j))))] sz))) 0 0 (va_A [(h, .inr (0, [.ref ra])), (ra, .inl (cR, 4, .inr (.inr (.inr (.inr g))))), ((y 0), .inr (1, [.ref (b 0), .int (nI (σ 0).2.1), .int (nI (σ 0).2.2)])), ((b 0), .inl (cB, M, .inl (fun j => sb_b ((σ 0).1 j)))), ((y 1), .inr (1, [.ref (b 1), .int (nI (σ 1).2.1), .int (nI (σ 1).2.2)])), ((b 1), .inl (cB, M, .inl (fun j => sb_b ((σ 1).1 j)))), ((y 2), .inr (1, [.ref (b 2), .int (nI (σ 2).2.1), .int (nI (σ 2).2.2)])), ((b 2), .inl (cB, M, .inl (fun j => sb_b ((σ 2).1 j)))), ((y 3), .inr (1, [.ref (b 3), .int (nI (σ 3).2.1), .int (nI (σ 3).2.2)])), ((b 3), .inl (cB, M, .inl (fun j => sb_b ((σ 3).1 j))))] sz) := by
  refine tx_ofW (cc := b_D_readSevens) (maxL := 2) (ret := (some .long)) (by decide) rfl ?_
  intro p9 e9 s m args below meth c9 s₁ BL hml hce hadm hv
  obtain ⟨rfl, hsz, hP, hK, hD0, hG⟩ := hv
  have hx := BL.exec
  have hb := BL.bytes
  have hr := BL.returns
  have hts := atoms_spec (ws := w_D_readSevens) BL.pre
  have hA : ∀ w ∈ wsA, w.before _ s = true := fun w h => hts w (List.mem_cons_of_mem _ h)
  have hown : s.vm.findClass R_D = some m.cls := findClass_of_methodNamed BL.named
  have hlocks := BL.notSynchronized
  have htr : e9.platform.stackTraces = false := by rw [hadm.platform]; exact hL0
  subst hsz
  have hD := hD0.self (sz := s.heap.size)
  generalize hAe : va_A [(h, .inr (0, [.ref ra])), (ra, .inl (cR, 4, .inr (.inr (.inr (.inr g))))), ((y 0), .inr (1, [.ref (b 0), .int (nI (σ 0).2.1), .int (nI (σ 0).2.2)])), ((b 0), .inl (cB, M, .inl (fun j => sb_b ((σ 0).1 j)))), ((y 1), .inr (1, [.ref (b 1), .int (nI (σ 1).2.1), .int (nI (σ 1).2.2)])), ((b 1), .inl (cB, M, .inl (fun j => sb_b ((σ 1).1 j)))), ((y 2), .inr (1, [.ref (b 2), .int (nI (σ 2).2.1), .int (nI (σ 2).2.2)])), ((b 2), .inl (cB, M, .inl (fun j => sb_b ((σ 2).1 j)))), ((y 3), .inr (1, [.ref (b 3), .int (nI (σ 3).2.1), .int (nI (σ 3).2.2)])), ((b 3), .inl (cB, M, .inl (fun j => sb_b ((σ 3).1 j))))] s.heap.size = A at hD ⊢
  have hAq : ∀ q : Nat, s.heap.size ≤ q → A q := fun q h => by rw [← hAe]; exact Or.inr h
  have hS : va_S A s.heap s.heap [] := va_S.rf
  have hP : va_P D vCl [(h, .inr (0, [.ref ra])), (ra, .inl (cR, 4, .inr (.inr (.inr (.inr g))))), ((y 0), .inr (1, [.ref (b 0), .int (nI (σ 0).2.1), .int (nI (σ 0).2.2)])), ((b 0), .inl (cB, M, .inl (fun j => sb_b ((σ 0).1 j)))), ((y 1), .inr (1, [.ref (b 1), .int (nI (σ 1).2.1), .int (nI (σ 1).2.2)])), ((b 1), .inl (cB, M, .inl (fun j => sb_b ((σ 1).1 j)))), ((y 2), .inr (1, [.ref (b 2), .int (nI (σ 2).2.1), .int (nI (σ 2).2.2)])), ((b 2), .inl (cB, M, .inl (fun j => sb_b ((σ 2).1 j)))), ((y 3), .inr (1, [.ref (b 3), .int (nI (σ 3).2.1), .int (nI (σ 3).2.2)])), ((b 3), .inl (cB, M, .inl (fun j => sb_b ((σ 3).1 j))))] s.heap := hP
  have hl := lv_entry ([.ref h, .int x]) (n := 2) (Nat.le_of_ble_eq_true rfl)
  rw [lg_entry_eq]
  generalize (lg_sl ([.ref h, .int x]) ++ List.replicate (2 - (lg_sl ([.ref h, .int x])).length) Slot.unset).toArray = ls at hl ⊢
  have hl : lv_has ls 2 [(0, .ref h), (1, .int x)] := hl
  refine lv_aload_n hx hb d_D_readSevens_0 rfl (lv_at hl 0 rfl) ?_
  refine lv_iload_n hx hb d_D_readSevens_1 rfl (lv_at hl 1 rfl) ?_
  have hPc := hP.sub (ws' := [(h, .inr (0, [.ref ra])), (ra, .inl (cR, 4, .inr (.inr (.inr (.inr g)))))]) [0, 1] rfl
  have hKc := hK.sub (tys' := [(cR, .object "PacketDesk$Row")]) [1] rfl
  refine tx_sr (tx_runV (As := [.int x]) (rest := []) ⟨hx, hb, hml, hown, hA⟩ (c_D_rowOf l hL0 D cR h ra g y hg x) (q_D_rowOf hA k1_66 rfl rfl ⟨(Nat.le_of_ble_eq_true rfl), (Nat.le_of_ble_eq_true rfl)⟩) (ox_V (va_recv hKc hPc (ci := 0) (q0 := 0) rfl rfl) (oxg_S hPc hKc hG (fun _ _ => rfl))) rfl rfl hl.1 rfl (lv_room (Nat.le_of_ble_eq_true rfl)) d_D_readSevens_2 ⟨(Nat.le_of_ble_eq_true rfl), (Nat.le_of_ble_eq_true rfl)⟩) (fun x9 E9 H9 ht9 hE9 => tx_prop hlocks hce hE9 (Nat.le_refl _) (fun _ _ => rfl) (Or.inl (⟨ht9.1, by unfold spReadSevens; rw [if_pos ht9.2]⟩)) (fun q h => by cases h)) (fun j hj => ?_)
  obtain ⟨hj, hxj⟩ := hj
  obtain ⟨c2_, c3_, c4_, c5_, c6_, c7_, c8_, c9_, hi1, hi2, ho1, ho2⟩ := dk_1 D vCl cR cB h ra g M y b σ hj
  have hP : va_P D vCl [(y j, .inr (1, [.ref (b j), .int (nI (σ j).2.1), .int (nI (σ j).2.2)])), (b j, .inl (cB, M, .inl (fun j9 => sb_b ((σ j).1 j9)))), c2_, c3_, c4_, c5_, c6_, c7_, c8_, c9_] s.heap := hi1 _ hP
  have hD : va_D A [(y j, .inr (1, [.ref (b j), .int (nI (σ j).2.1), .int (nI (σ j).2.2)])), (b j, .inl (cB, M, .inl (fun j9 => sb_b ((σ j).1 j9)))), c2_, c3_, c4_, c5_, c6_, c7_, c8_, c9_] := hi2 _ hD
  obtain ⟨⟨B, n, p⟩, hρ⟩ : ∃ ρ, σ j = ρ := ⟨_, rfl⟩
  have hk := hσ.2 j hj
  have hM := hσ.1
  rw [hρ] at hP hk hD
  obtain ⟨hp, hn, hB⟩ := hk
  have hp : p ≤ n := hp
  have hn : n ≤ M := hn
  have hB : ∀ j, B j < 256 := hB
  have hP : va_P D vCl [((y j), .inr (1, [.ref (b j), .int (nI n), .int (nI p)])), ((b j), .inl (cB, M, .inl (fun j => sb_b (B j)))), c2_, c3_, c4_, c5_, c6_, c7_, c8_, c9_] s.heap := hP
  have hD : va_D A [((y j), .inr (1, [.ref (b j), .int (nI n), .int (nI p)])), ((b j), .inl (cB, M, .inl (fun j => sb_b (B j)))), c2_, c3_, c4_, c5_, c6_, c7_, c8_, c9_] := hD
  have hrj : rj x = j := by rw [hxj]; exact rj_n hj
  have hir : isR x := by rw [hxj]; exact isR_n hj
  have hs2 : gw B p n 10 = -2 → (spReadSevens σ x).1 = 2 := fun h9 => by unfold spReadSevens gwσ; simp only [hrj, hρ]; rw [if_neg (fun h8 => h8 hir), if_pos h9]
  have hs3 : gw B p n 10 = -3 → (spReadSevens σ x).1 = 3 := fun h9 => by unfold spReadSevens gwσ; simp only [hrj, hρ]; rw [if_neg (fun h8 => h8 hir), if_neg (by rw [h9]; decide), if_pos h9]
  have hs0 : ∀ w9 : Nat, gw B p n 10 = (w9 : Int) → spReadSevens σ x = (0, lN (gs B p w9), va_up σ j (B, n, p + w9)) := fun w9 h9 => by unfold spReadSevens gwσ; simp only [hrj, hρ]; rw [if_neg (fun h8 => h8 hir), if_neg (by rw [h9]; omega), if_neg (by rw [h9]; omega), h9]; rfl
  have hPc := hP.sub (ws' := [((y j), .inr (1, [.ref (b j), .int (nI n), .int (nI p)])), ((b j), .inl (cB, M, .inl (fun j => sb_b (B j))))]) [0, 1] rfl
  have hDc := hD.sub (ws' := [((y j), .inr (1, [.ref (b j), .int (nI n), .int (nI p)])), ((b j), .inl (cB, M, .inl (fun j => sb_b (B j))))]) [0, 1] (by decide) rfl
  have hKc := hK.sub (tys' := [(cB, .byte)]) [0] rfl
  have hFc := va_free (wc := [((y j), .inr (1, [.ref (b j), .int (nI n), .int (nI p)])), ((b j), .inl (cB, M, .inl (fun j => sb_b (B j))))]) hD hS hAq [0, 1] rfl
  refine tx_wl (tx_runS (As := [.ref (y j)]) (rest := []) ⟨hx, hb, hml, hown, hA⟩ (c_D_takeSevens l hL0 D cB (y j) (b j) M B n p s.heap.size hn hp hM hB) (q_D_takeSevens hA k2_86 rfl rfl ⟨(Nat.le_of_ble_eq_true rfl), (Nat.le_of_ble_eq_true rfl)⟩) (oxv_S hPc hKc hDc hG (fun _ _ => rfl)) rfl rfl hl.1 rfl (lv_room (Nat.le_of_ble_eq_true rfl)) d_D_readSevens_5 ⟨(Nat.le_of_ble_eq_true rfl), (Nat.le_of_ble_eq_true rfl)⟩) hS (fun q _ h => hFc q h) hFc (fun x9 E9 H9 L9 ht9 hE9 hL9 => tx_prop hlocks hce hE9 (Nat.le_refl _) (fun _ _ => rfl) (ht9.elim (fun q9 => Or.inr (Or.inr (⟨q9.1, hs3 q9.2⟩))) (fun q9 => Or.inr (Or.inl (⟨q9.1, hs2 q9.2⟩)))) (fun q h => hFc _ (hL9 q h))) (fun r5 u9 t9 H1 locs ht9 hvm9 hw9 hB9 hz1 hk1 hS => ?_)
  obtain ⟨hP1, hK1, hD1⟩ := hB9
  rw [ht9] at hP1
  obtain ⟨hP, hD⟩ := va_join (wr := [c2_, c3_, c4_, c5_, c6_, c7_, c8_, c9_]) (w1 := [((y j), .inr (1, [.ref (b j), .int (nI n), .int (nI (p + u9))])), ((b j), .inl (cB, M, .inl (fun j => sb_b (B j))))]) hP hD [0, 1] [2, 3, 4, 5, 6, 7, 8, 9] rfl rfl (by decide) (by decide) hk1 hFc hP1 hD1
  generalize H1 = H at hP hS ⊢
  have hP : va_P D vCl [((y j), .inr (1, [.ref (b j), .int (nI n), .int (nI (p + u9))])), ((b j), .inl (cB, M, .inl (fun j => sb_b (B j)))), c2_, c3_, c4_, c5_, c6_, c7_, c8_, c9_] H := hP.sub [8, 9, 0, 1, 2, 3, 4, 5, 6, 7] rfl
  have hD : va_D A [((y j), .inr (1, [.ref (b j), .int (nI n), .int (nI (p + u9))])), ((b j), .inl (cB, M, .inl (fun j => sb_b (B j)))), c2_, c3_, c4_, c5_, c6_, c7_, c8_, c9_] := hD.sub [8, 9, 0, 1, 2, 3, 4, 5, 6, 7] (by decide) rfl
  obtain ⟨hgw, rfl⟩ := hw9
  exact tx_ret (W.lret (v := lN (gs B p u9)) hx hb hr (fun t ht hW => Or.inl ⟨_, rfl, ⟨⟨_, va_up σ j (B, n, p + u9), rfl, (hs0 u9 hgw), by rw [ht]; exact ho1 (B, n, p + u9) _ hP, va_K.moved hW.alike hK, ho2 (B, n, p + u9) _ hD⟩, hS.F ht⟩⟩) hS.2.2 d_D_readSevens_8)
set_option maxHeartbeats 600000 in
set_option maxRecDepth 100000 in
/-- readSigned -/
theorem c_D_readSigned (l : Launch) (hL0 : l.stackTraces = false) (D : va_G) (cR cB : ClassId) (h ra : Nat) (g : Nat → Option Nat) (M : Nat) (y b : Nat → Nat) (σ : dkS) (sz : Nat) (x : Int32) (hg : ∀ i, i < 4 → g i = some (y i)) (hσ : dkok M σ) : tx_Met l y_D_readSigned w_D_readSigned ({ frames := 9, cells := 1, slots := 6, locals := 156 }) (va_Pc [.ref h, .int x] (oxv sz D [(cB, .byte), (cR, .object "PacketDesk$Row")] [(h, .inr (0, [.ref ra])), (ra, .inl (cR, 4, .inr (.inr (.inr (.inr g))))), ((y 0), .inr (1, [.ref (b 0), .int (nI (σ 0).2.1), .int (nI (σ 0).2.2)])), ((b 0), .inl (cB, M, .inl (fun j => sb_b ((σ 0).1 j)))), ((y 1), .inr (1, [.ref (b 1), .int (nI (σ 1).2.1), .int (nI (σ 1).2.2)])), ((b 1), .inl (cB, M, .inl (fun j => sb_b ((σ 1).1 j)))), ((y 2), .inr (1, [.ref (b 2), .int (nI (σ 2).2.1), .int (nI (σ 2).2.2)])), ((b 2), .inl (cB, M, .inl (fun j => sb_b ((σ 2).1 j)))), ((y 3), .inr (1, [.ref (b 3), .int (nI (σ 3).2.1), .int (nI (σ 3).2.2)])), ((b 3), .inl (cB, M, .inl (fun j => sb_b ((σ 3).1 j))))])) (tx_Q (fun E => (E = X_IOOBE ∧ (spReadSigned σ x).1 = 1) ∨ (E = X_IAE ∧ (spReadSigned σ x).1 = 2) ∨ (E = X_NSEE ∧ (spReadSigned σ x).1 = 3)) (va_Ql (fun r (τ : dkS) => spReadSigned σ x = (0, r, τ)) (fun τ => ow D [(cB, .byte), (cR, .object "PacketDesk$Row")] (va_A [(h, .inr (0, [.ref ra])), (ra, .inl (cR, 4, .inr (.inr (.inr (.inr g))))), ((y 0), .inr (1, [.ref (b 0), .int (nI (σ 0).2.1), .int (nI (σ 0).2.2)])), ((b 0), .inl (cB, M, .inl (fun j => sb_b ((σ 0).1 j)))), ((y 1), .inr (1, [.ref (b 1), .int (nI (σ 1).2.1), .int (nI (σ 1).2.2)])), ((b 1), .inl (cB, M, .inl (fun j => sb_b ((σ 1).1 j)))), ((y 2), .inr (1, [.ref (b 2), .int (nI (σ 2).2.1), .int (nI (σ 2).2.2)])), ((b 2), .inl (cB, M, .inl (fun j => sb_b ((σ 2).1 j)))), ((y 3), .inr (1, [.ref (b 3), .int (nI (σ 3).2.1), .int (nI (σ 3).2.2)])), ((b 3), .inl (cB, M, .inl (fun j => sb_b ((σ 3).1 j))))] sz) (dk cR cB h ra g M y b τ)) (va_A [(h, .inr (0, [.ref ra])), (ra, .inl (cR, 4, .inr (.inr (.inr (.inr g))))), ((y 0), .inr (1, [.ref (b 0), .int (nI (σ 0).2.1), .int (nI (σ 0).2.2)])), ((b 0), .inl (cB, M, .inl (fun j => sb_b ((σ 0).1 j)))), ((y 1), .inr (1, [.ref (b 1), .int (nI (σ 1).2.1), .int (nI (σ 1).2.2)])), ((b 1), .inl (cB, M, .inl (fun j => sb_b ((σ 1).1 j)))), ((y 2), .inr (1, [.ref (b 2), .int (nI (σ 2).2.1), .int (nI (σ 2).2.2)])), ((b 2), .inl (cB, M, .inl (fun j => sb_b ((σ 2).1 j)))), ((y 3), .inr (1, [.ref (b 3), .int (nI (σ 3).2.1), .int (nI (σ 3).2.2)])), ((b 3), .inl (cB, M, .inl (fun j => sb_b ((σ 3).1 j))))] sz))) 0 0 (va_A [(h, .inr (0, [.ref ra])), (ra, .inl (cR, 4, .inr (.inr (.inr (.inr g))))), ((y 0), .inr (1, [.ref (b 0), .int (nI (σ 0).2.1), .int (nI (σ 0).2.2)])), ((b 0), .inl (cB, M, .inl (fun j => sb_b ((σ 0).1 j)))), ((y 1), .inr (1, [.ref (b 1), .int (nI (σ 1).2.1), .int (nI (σ 1).2.2)])), ((b 1), .inl (cB, M, .inl (fun j => sb_b ((σ 1).1 j)))), ((y 2), .inr (1, [.ref (b 2), .int (nI (σ 2).2.1), .int (nI (σ 2).2.2)])), ((b 2), .inl (cB, M, .inl (fun j => sb_b ((σ 2).1 j)))), ((y 3), .inr (1, [.ref (b 3), .int (nI (σ 3).2.1), .int (nI (σ 3).2.2)])), ((b 3), .inl (cB, M, .inl (fun j => sb_b ((σ 3).1 j))))] sz) := by
  refine tx_ofW (cc := b_D_readSigned) (maxL := 4) (ret := (some .long)) (by decide) rfl ?_
  intro p9 e9 s m args below meth c9 s₁ BL hml hce hadm hv
  obtain ⟨rfl, hsz, hP, hK, hD0, hG⟩ := hv
  have hx := BL.exec
  have hb := BL.bytes
  have hr := BL.returns
  have hts := atoms_spec (ws := w_D_readSigned) BL.pre
  have hA : ∀ w ∈ wsA, w.before _ s = true := fun w h => hts w (List.mem_cons_of_mem _ h)
  have hown : s.vm.findClass R_D = some m.cls := findClass_of_methodNamed BL.named
  have hlocks := BL.notSynchronized
  have htr : e9.platform.stackTraces = false := by rw [hadm.platform]; exact hL0
  subst hsz
  have hD := hD0.self (sz := s.heap.size)
  generalize hAe : va_A [(h, .inr (0, [.ref ra])), (ra, .inl (cR, 4, .inr (.inr (.inr (.inr g))))), ((y 0), .inr (1, [.ref (b 0), .int (nI (σ 0).2.1), .int (nI (σ 0).2.2)])), ((b 0), .inl (cB, M, .inl (fun j => sb_b ((σ 0).1 j)))), ((y 1), .inr (1, [.ref (b 1), .int (nI (σ 1).2.1), .int (nI (σ 1).2.2)])), ((b 1), .inl (cB, M, .inl (fun j => sb_b ((σ 1).1 j)))), ((y 2), .inr (1, [.ref (b 2), .int (nI (σ 2).2.1), .int (nI (σ 2).2.2)])), ((b 2), .inl (cB, M, .inl (fun j => sb_b ((σ 2).1 j)))), ((y 3), .inr (1, [.ref (b 3), .int (nI (σ 3).2.1), .int (nI (σ 3).2.2)])), ((b 3), .inl (cB, M, .inl (fun j => sb_b ((σ 3).1 j))))] s.heap.size = A at hD ⊢
  have hAq : ∀ q : Nat, s.heap.size ≤ q → A q := fun q h => by rw [← hAe]; exact Or.inr h
  have hS : va_S A s.heap s.heap [] := va_S.rf
  have hP : va_P D vCl [(h, .inr (0, [.ref ra])), (ra, .inl (cR, 4, .inr (.inr (.inr (.inr g))))), ((y 0), .inr (1, [.ref (b 0), .int (nI (σ 0).2.1), .int (nI (σ 0).2.2)])), ((b 0), .inl (cB, M, .inl (fun j => sb_b ((σ 0).1 j)))), ((y 1), .inr (1, [.ref (b 1), .int (nI (σ 1).2.1), .int (nI (σ 1).2.2)])), ((b 1), .inl (cB, M, .inl (fun j => sb_b ((σ 1).1 j)))), ((y 2), .inr (1, [.ref (b 2), .int (nI (σ 2).2.1), .int (nI (σ 2).2.2)])), ((b 2), .inl (cB, M, .inl (fun j => sb_b ((σ 2).1 j)))), ((y 3), .inr (1, [.ref (b 3), .int (nI (σ 3).2.1), .int (nI (σ 3).2.2)])), ((b 3), .inl (cB, M, .inl (fun j => sb_b ((σ 3).1 j))))] s.heap := hP
  have hl := lv_entry ([.ref h, .int x]) (n := 4) (Nat.le_of_ble_eq_true rfl)
  rw [lg_entry_eq]
  generalize (lg_sl ([.ref h, .int x]) ++ List.replicate (4 - (lg_sl ([.ref h, .int x])).length) Slot.unset).toArray = ls at hl ⊢
  have hl : lv_has ls 4 [(0, .ref h), (1, .int x)] := hl
  refine lv_aload_n hx hb d_D_readSigned_0 rfl (lv_at hl 0 rfl) ?_
  refine lv_iload_n hx hb d_D_readSigned_1 rfl (lv_at hl 1 rfl) ?_
  have hPc := hP.sub (ws' := [(h, .inr (0, [.ref ra])), (ra, .inl (cR, 4, .inr (.inr (.inr (.inr g)))))]) [0, 1] rfl
  have hKc := hK.sub (tys' := [(cR, .object "PacketDesk$Row")]) [1] rfl
  refine tx_sr (tx_runV (As := [.int x]) (rest := []) ⟨hx, hb, hml, hown, hA⟩ (c_D_rowOf l hL0 D cR h ra g y hg x) (q_D_rowOf hA k1_66 rfl rfl ⟨(Nat.le_of_ble_eq_true rfl), (Nat.le_of_ble_eq_true rfl)⟩) (ox_V (va_recv hKc hPc (ci := 0) (q0 := 0) rfl rfl) (oxg_S hPc hKc hG (fun _ _ => rfl))) rfl rfl hl.1 rfl (lv_room (Nat.le_of_ble_eq_true rfl)) d_D_readSigned_2 ⟨(Nat.le_of_ble_eq_true rfl), (Nat.le_of_ble_eq_true rfl)⟩) (fun x9 E9 H9 ht9 hE9 => tx_prop hlocks hce hE9 (Nat.le_refl _) (fun _ _ => rfl) (Or.inl (⟨ht9.1, by unfold spReadSigned spReadSevens; rw [if_pos ht9.2]⟩)) (fun q h => by cases h)) (fun j hj => ?_)
  obtain ⟨hj, hxj⟩ := hj
  obtain ⟨c2_, c3_, c4_, c5_, c6_, c7_, c8_, c9_, hi1, hi2, ho1, ho2⟩ := dk_1 D vCl cR cB h ra g M y b σ hj
  have hP : va_P D vCl [(y j, .inr (1, [.ref (b j), .int (nI (σ j).2.1), .int (nI (σ j).2.2)])), (b j, .inl (cB, M, .inl (fun j9 => sb_b ((σ j).1 j9)))), c2_, c3_, c4_, c5_, c6_, c7_, c8_, c9_] s.heap := hi1 _ hP
  have hD : va_D A [(y j, .inr (1, [.ref (b j), .int (nI (σ j).2.1), .int (nI (σ j).2.2)])), (b j, .inl (cB, M, .inl (fun j9 => sb_b ((σ j).1 j9)))), c2_, c3_, c4_, c5_, c6_, c7_, c8_, c9_] := hi2 _ hD
  obtain ⟨⟨B, n, p⟩, hρ⟩ : ∃ ρ, σ j = ρ := ⟨_, rfl⟩
  have hk := hσ.2 j hj
  have hM := hσ.1
  rw [hρ] at hP hk hD
  obtain ⟨hp, hn, hB⟩ := hk
  have hp : p ≤ n := hp
  have hn : n ≤ M := hn
  have hB : ∀ j, B j < 256 := hB
  have hP : va_P D vCl [((y j), .inr (1, [.ref (b j), .int (nI n), .int (nI p)])), ((b j), .inl (cB, M, .inl (fun j => sb_b (B j)))), c2_, c3_, c4_, c5_, c6_, c7_, c8_, c9_] s.heap := hP
  have hD : va_D A [((y j), .inr (1, [.ref (b j), .int (nI n), .int (nI p)])), ((b j), .inl (cB, M, .inl (fun j => sb_b (B j)))), c2_, c3_, c4_, c5_, c6_, c7_, c8_, c9_] := hD
  have hrj : rj x = j := by rw [hxj]; exact rj_n hj
  have hir : isR x := by rw [hxj]; exact isR_n hj
  have hs2 : gw B p n 10 = -2 → (spReadSigned σ x).1 = 2 := fun h9 => by unfold spReadSigned spReadSevens gwσ; simp only [hrj, hρ]; rw [if_neg (fun h8 => h8 hir), if_pos h9]
  have hs3 : gw B p n 10 = -3 → (spReadSigned σ x).1 = 3 := fun h9 => by unfold spReadSigned spReadSevens gwσ; simp only [hrj, hρ]; rw [if_neg (fun h8 => h8 hir), if_neg (by rw [h9]; decide), if_pos h9]
  have hs0 : ∀ w9 : Nat, gw B p n 10 = (w9 : Int) → spReadSevens σ x = (0, lN (gs B p w9), va_up σ j (B, n, p + w9)) := fun w9 h9 => by unfold spReadSevens gwσ; simp only [hrj, hρ]; rw [if_neg (fun h8 => h8 hir), if_neg (by rw [h9]; omega), if_neg (by rw [h9]; omega), h9]; rfl
  have hPc := hP.sub (ws' := [((y j), .inr (1, [.ref (b j), .int (nI n), .int (nI p)])), ((b j), .inl (cB, M, .inl (fun j => sb_b (B j))))]) [0, 1] rfl
  have hDc := hD.sub (ws' := [((y j), .inr (1, [.ref (b j), .int (nI n), .int (nI p)])), ((b j), .inl (cB, M, .inl (fun j => sb_b (B j))))]) [0, 1] (by decide) rfl
  have hKc := hK.sub (tys' := [(cB, .byte)]) [0] rfl
  have hFc := va_free (wc := [((y j), .inr (1, [.ref (b j), .int (nI n), .int (nI p)])), ((b j), .inl (cB, M, .inl (fun j => sb_b (B j))))]) hD hS hAq [0, 1] rfl
  refine tx_wl (tx_runS (As := [.ref (y j)]) (rest := []) ⟨hx, hb, hml, hown, hA⟩ (c_D_takeSevens l hL0 D cB (y j) (b j) M B n p s.heap.size hn hp hM hB) (q_D_takeSevens hA k2_86 rfl rfl ⟨(Nat.le_of_ble_eq_true rfl), (Nat.le_of_ble_eq_true rfl)⟩) (oxv_S hPc hKc hDc hG (fun _ _ => rfl)) rfl rfl hl.1 rfl (lv_room (Nat.le_of_ble_eq_true rfl)) d_D_readSigned_5 ⟨(Nat.le_of_ble_eq_true rfl), (Nat.le_of_ble_eq_true rfl)⟩) hS (fun q _ h => hFc q h) hFc (fun x9 E9 H9 L9 ht9 hE9 hL9 => tx_prop hlocks hce hE9 (Nat.le_refl _) (fun _ _ => rfl) (ht9.elim (fun q9 => Or.inr (Or.inr (⟨q9.1, hs3 q9.2⟩))) (fun q9 => Or.inr (Or.inl (⟨q9.1, hs2 q9.2⟩)))) (fun q h => hFc _ (hL9 q h))) (fun r5 u9 t9 H1 locs ht9 hvm9 hw9 hB9 hz1 hk1 hS => ?_)
  obtain ⟨hP1, hK1, hD1⟩ := hB9
  rw [ht9] at hP1
  obtain ⟨hP, hD⟩ := va_join (wr := [c2_, c3_, c4_, c5_, c6_, c7_, c8_, c9_]) (w1 := [((y j), .inr (1, [.ref (b j), .int (nI n), .int (nI (p + u9))])), ((b j), .inl (cB, M, .inl (fun j => sb_b (B j))))]) hP hD [0, 1] [2, 3, 4, 5, 6, 7, 8, 9] rfl rfl (by decide) (by decide) hk1 hFc hP1 hD1
  generalize H1 = H at hP hS ⊢
  have hP : va_P D vCl [((y j), .inr (1, [.ref (b j), .int (nI n), .int (nI (p + u9))])), ((b j), .inl (cB, M, .inl (fun j => sb_b (B j)))), c2_, c3_, c4_, c5_, c6_, c7_, c8_, c9_] H := hP.sub [8, 9, 0, 1, 2, 3, 4, 5, 6, 7] rfl
  have hD : va_D A [((y j), .inr (1, [.ref (b j), .int (nI n), .int (nI (p + u9))])), ((b j), .inl (cB, M, .inl (fun j => sb_b (B j)))), c2_, c3_, c4_, c5_, c6_, c7_, c8_, c9_] := hD.sub [8, 9, 0, 1, 2, 3, 4, 5, 6, 7] (by decide) rfl
  obtain ⟨hgw, rfl⟩ := hw9
  refine lv_lstore_n (lv' := [(2, .long (lN (gs B p u9))), (0, .ref h), (1, .int x)]) hx hb d_D_readSigned_8 rfl hl (by decide) rfl (fun ls hl => ?_)
  refine lv_lload_n hx hb d_D_readSigned_9 rfl (lv_at hl 0 rfl) ?_
  refine lv_iconst (v := 1) hx hb d_D_readSigned_10 (by decide) ?_
  refine lv_lushr hx hb d_D_readSigned_11 rfl ?_
  refine lv_topl (fun v11 ev11 => ?_)
  refine lv_lload_n hx hb d_D_readSigned_12 rfl (lv_at hl 0 rfl) ?_
  refine lv_lconst (v := 1) hx hb d_D_readSigned_13 (by decide) ?_
  refine lv_land hx hb d_D_readSigned_14 ?_
  refine lv_topl (fun v14 ev14 => ?_)
  refine lv_lneg hx hb d_D_readSigned_15 ?_
  refine lv_topl (fun v15 ev15 => ?_)
  refine lv_lxor hx hb d_D_readSigned_16 ?_
  refine lv_topl (fun v16 ev16 => ?_)
  exact tx_ret (W.lret (v := v16) hx hb hr (fun t ht hW => Or.inl ⟨_, rfl, ⟨⟨_, va_up σ j (B, n, p + u9), rfl, (by unfold spReadSigned; rw [hs0 u9 hgw, ev16, ev11, ev15, ev14]; rfl), by rw [ht]; exact ho1 (B, n, p + u9) _ hP, va_K.moved hW.alike hK, ho2 (B, n, p + u9) _ hD⟩, hS.F ht⟩⟩) hS.2.2 d_D_readSigned_17)
set_option maxHeartbeats 600000 in
set_option maxRecDepth 100000 in
/-- readLetter -/
theorem c_D_readLetter (l : Launch) (hL0 : l.stackTraces = false) (D : va_G) (cR cB : ClassId) (h ra : Nat) (g : Nat → Option Nat) (M : Nat) (y b : Nat → Nat) (σ : dkS) (sz : Nat) (x : Int32) (hg : ∀ i, i < 4 → g i = some (y i)) (hσ : dkok M σ) : tx_Met l y_D_readLetter w_D_readLetter ({ frames := 7, cells := 1, slots := 6, locals := 111 }) (va_Pc [.ref h, .int x] (oxv sz D [(cB, .byte), (cR, .object "PacketDesk$Row")] [(h, .inr (0, [.ref ra])), (ra, .inl (cR, 4, .inr (.inr (.inr (.inr g))))), ((y 0), .inr (1, [.ref (b 0), .int (nI (σ 0).2.1), .int (nI (σ 0).2.2)])), ((b 0), .inl (cB, M, .inl (fun j => sb_b ((σ 0).1 j)))), ((y 1), .inr (1, [.ref (b 1), .int (nI (σ 1).2.1), .int (nI (σ 1).2.2)])), ((b 1), .inl (cB, M, .inl (fun j => sb_b ((σ 1).1 j)))), ((y 2), .inr (1, [.ref (b 2), .int (nI (σ 2).2.1), .int (nI (σ 2).2.2)])), ((b 2), .inl (cB, M, .inl (fun j => sb_b ((σ 2).1 j)))), ((y 3), .inr (1, [.ref (b 3), .int (nI (σ 3).2.1), .int (nI (σ 3).2.2)])), ((b 3), .inl (cB, M, .inl (fun j => sb_b ((σ 3).1 j))))])) (tx_Q (fun E => (E = X_IOOBE ∧ (spReadLetter σ x).1 = 1) ∨ (E = X_IAE ∧ (spReadLetter σ x).1 = 2) ∨ (E = X_NSEE ∧ (spReadLetter σ x).1 = 3)) (va_Qi (fun r (τ : dkS) => spReadLetter σ x = (0, r, τ)) (fun τ => ow D [(cB, .byte), (cR, .object "PacketDesk$Row")] (va_A [(h, .inr (0, [.ref ra])), (ra, .inl (cR, 4, .inr (.inr (.inr (.inr g))))), ((y 0), .inr (1, [.ref (b 0), .int (nI (σ 0).2.1), .int (nI (σ 0).2.2)])), ((b 0), .inl (cB, M, .inl (fun j => sb_b ((σ 0).1 j)))), ((y 1), .inr (1, [.ref (b 1), .int (nI (σ 1).2.1), .int (nI (σ 1).2.2)])), ((b 1), .inl (cB, M, .inl (fun j => sb_b ((σ 1).1 j)))), ((y 2), .inr (1, [.ref (b 2), .int (nI (σ 2).2.1), .int (nI (σ 2).2.2)])), ((b 2), .inl (cB, M, .inl (fun j => sb_b ((σ 2).1 j)))), ((y 3), .inr (1, [.ref (b 3), .int (nI (σ 3).2.1), .int (nI (σ 3).2.2)])), ((b 3), .inl (cB, M, .inl (fun j => sb_b ((σ 3).1 j))))] sz) (dk cR cB h ra g M y b τ)) (va_A [(h, .inr (0, [.ref ra])), (ra, .inl (cR, 4, .inr (.inr (.inr (.inr g))))), ((y 0), .inr (1, [.ref (b 0), .int (nI (σ 0).2.1), .int (nI (σ 0).2.2)])), ((b 0), .inl (cB, M, .inl (fun j => sb_b ((σ 0).1 j)))), ((y 1), .inr (1, [.ref (b 1), .int (nI (σ 1).2.1), .int (nI (σ 1).2.2)])), ((b 1), .inl (cB, M, .inl (fun j => sb_b ((σ 1).1 j)))), ((y 2), .inr (1, [.ref (b 2), .int (nI (σ 2).2.1), .int (nI (σ 2).2.2)])), ((b 2), .inl (cB, M, .inl (fun j => sb_b ((σ 2).1 j)))), ((y 3), .inr (1, [.ref (b 3), .int (nI (σ 3).2.1), .int (nI (σ 3).2.2)])), ((b 3), .inl (cB, M, .inl (fun j => sb_b ((σ 3).1 j))))] sz))) 0 0 (va_A [(h, .inr (0, [.ref ra])), (ra, .inl (cR, 4, .inr (.inr (.inr (.inr g))))), ((y 0), .inr (1, [.ref (b 0), .int (nI (σ 0).2.1), .int (nI (σ 0).2.2)])), ((b 0), .inl (cB, M, .inl (fun j => sb_b ((σ 0).1 j)))), ((y 1), .inr (1, [.ref (b 1), .int (nI (σ 1).2.1), .int (nI (σ 1).2.2)])), ((b 1), .inl (cB, M, .inl (fun j => sb_b ((σ 1).1 j)))), ((y 2), .inr (1, [.ref (b 2), .int (nI (σ 2).2.1), .int (nI (σ 2).2.2)])), ((b 2), .inl (cB, M, .inl (fun j => sb_b ((σ 2).1 j)))), ((y 3), .inr (1, [.ref (b 3), .int (nI (σ 3).2.1), .int (nI (σ 3).2.2)])), ((b 3), .inl (cB, M, .inl (fun j => sb_b ((σ 3).1 j))))] sz) := by
  refine tx_ofW (cc := b_D_readLetter) (maxL := 4) (ret := (some .int)) (by decide) rfl ?_
  intro p9 e9 s m args below meth c9 s₁ BL hml hce hadm hv
  obtain ⟨rfl, hsz, hP, hK, hD0, hG⟩ := hv
  have hx := BL.exec
  have hb := BL.bytes
  have hr := BL.returns
  have hts := atoms_spec (ws := w_D_readLetter) BL.pre
  have hA : ∀ w ∈ wsA, w.before _ s = true := fun w h => hts w (List.mem_cons_of_mem _ h)
  have hown : s.vm.findClass R_D = some m.cls := findClass_of_methodNamed BL.named
  have hlocks := BL.notSynchronized
  have htr : e9.platform.stackTraces = false := by rw [hadm.platform]; exact hL0
  subst hsz
  have hD := hD0.self (sz := s.heap.size)
  generalize hAe : va_A [(h, .inr (0, [.ref ra])), (ra, .inl (cR, 4, .inr (.inr (.inr (.inr g))))), ((y 0), .inr (1, [.ref (b 0), .int (nI (σ 0).2.1), .int (nI (σ 0).2.2)])), ((b 0), .inl (cB, M, .inl (fun j => sb_b ((σ 0).1 j)))), ((y 1), .inr (1, [.ref (b 1), .int (nI (σ 1).2.1), .int (nI (σ 1).2.2)])), ((b 1), .inl (cB, M, .inl (fun j => sb_b ((σ 1).1 j)))), ((y 2), .inr (1, [.ref (b 2), .int (nI (σ 2).2.1), .int (nI (σ 2).2.2)])), ((b 2), .inl (cB, M, .inl (fun j => sb_b ((σ 2).1 j)))), ((y 3), .inr (1, [.ref (b 3), .int (nI (σ 3).2.1), .int (nI (σ 3).2.2)])), ((b 3), .inl (cB, M, .inl (fun j => sb_b ((σ 3).1 j))))] s.heap.size = A at hD ⊢
  have hAq : ∀ q : Nat, s.heap.size ≤ q → A q := fun q h => by rw [← hAe]; exact Or.inr h
  have hS : va_S A s.heap s.heap [] := va_S.rf
  have hP : va_P D vCl [(h, .inr (0, [.ref ra])), (ra, .inl (cR, 4, .inr (.inr (.inr (.inr g))))), ((y 0), .inr (1, [.ref (b 0), .int (nI (σ 0).2.1), .int (nI (σ 0).2.2)])), ((b 0), .inl (cB, M, .inl (fun j => sb_b ((σ 0).1 j)))), ((y 1), .inr (1, [.ref (b 1), .int (nI (σ 1).2.1), .int (nI (σ 1).2.2)])), ((b 1), .inl (cB, M, .inl (fun j => sb_b ((σ 1).1 j)))), ((y 2), .inr (1, [.ref (b 2), .int (nI (σ 2).2.1), .int (nI (σ 2).2.2)])), ((b 2), .inl (cB, M, .inl (fun j => sb_b ((σ 2).1 j)))), ((y 3), .inr (1, [.ref (b 3), .int (nI (σ 3).2.1), .int (nI (σ 3).2.2)])), ((b 3), .inl (cB, M, .inl (fun j => sb_b ((σ 3).1 j))))] s.heap := hP
  have hl := lv_entry ([.ref h, .int x]) (n := 4) (Nat.le_of_ble_eq_true rfl)
  rw [lg_entry_eq]
  generalize (lg_sl ([.ref h, .int x]) ++ List.replicate (4 - (lg_sl ([.ref h, .int x])).length) Slot.unset).toArray = ls at hl ⊢
  have hl : lv_has ls 4 [(0, .ref h), (1, .int x)] := hl
  refine lv_aload_n hx hb d_D_readLetter_0 rfl (lv_at hl 0 rfl) ?_
  refine lv_iload_n hx hb d_D_readLetter_1 rfl (lv_at hl 1 rfl) ?_
  have hPc := hP.sub (ws' := [(h, .inr (0, [.ref ra])), (ra, .inl (cR, 4, .inr (.inr (.inr (.inr g)))))]) [0, 1] rfl
  have hKc := hK.sub (tys' := [(cR, .object "PacketDesk$Row")]) [1] rfl
  refine tx_sr (tx_runV (As := [.int x]) (rest := []) ⟨hx, hb, hml, hown, hA⟩ (c_D_rowOf l hL0 D cR h ra g y hg x) (q_D_rowOf hA k1_66 rfl rfl ⟨(Nat.le_of_ble_eq_true rfl), (Nat.le_of_ble_eq_true rfl)⟩) (ox_V (va_recv hKc hPc (ci := 0) (q0 := 0) rfl rfl) (oxg_S hPc hKc hG (fun _ _ => rfl))) rfl rfl hl.1 rfl (lv_room (Nat.le_of_ble_eq_true rfl)) d_D_readLetter_2 ⟨(Nat.le_of_ble_eq_true rfl), (Nat.le_of_ble_eq_true rfl)⟩) (fun x9 E9 H9 ht9 hE9 => tx_prop hlocks hce hE9 (Nat.le_refl _) (fun _ _ => rfl) (Or.inl (⟨ht9.1, by unfold spReadLetter; rw [if_pos ht9.2]⟩)) (fun q h => by cases h)) (fun j hj => ?_)
  obtain ⟨hj, hxj⟩ := hj
  refine lv_astore_n (lv' := [(2, .ref (y j)), (0, .ref h), (1, .int x)]) hx hb d_D_readLetter_5 rfl hl (by decide) rfl (fun ls hl => ?_)
  obtain ⟨c2_, c3_, c4_, c5_, c6_, c7_, c8_, c9_, hi1, hi2, ho1, ho2⟩ := dk_1 D vCl cR cB h ra g M y b σ hj
  have hP : va_P D vCl [(y j, .inr (1, [.ref (b j), .int (nI (σ j).2.1), .int (nI (σ j).2.2)])), (b j, .inl (cB, M, .inl (fun j9 => sb_b ((σ j).1 j9)))), c2_, c3_, c4_, c5_, c6_, c7_, c8_, c9_] s.heap := hi1 _ hP
  have hD : va_D A [(y j, .inr (1, [.ref (b j), .int (nI (σ j).2.1), .int (nI (σ j).2.2)])), (b j, .inl (cB, M, .inl (fun j9 => sb_b ((σ j).1 j9)))), c2_, c3_, c4_, c5_, c6_, c7_, c8_, c9_] := hi2 _ hD
  obtain ⟨⟨B, n, p⟩, hρ⟩ : ∃ ρ, σ j = ρ := ⟨_, rfl⟩
  have hk := hσ.2 j hj
  have hM := hσ.1
  rw [hρ] at hP hk hD
  obtain ⟨hp, hn, hB⟩ := hk
  have hp : p ≤ n := hp
  have hn : n ≤ M := hn
  have hB : ∀ j, B j < 256 := hB
  have hP : va_P D vCl [((y j), .inr (1, [.ref (b j), .int (nI n), .int (nI p)])), ((b j), .inl (cB, M, .inl (fun j => sb_b (B j)))), c2_, c3_, c4_, c5_, c6_, c7_, c8_, c9_] s.heap := hP
  have hD : va_D A [((y j), .inr (1, [.ref (b j), .int (nI n), .int (nI p)])), ((b j), .inl (cB, M, .inl (fun j => sb_b (B j)))), c2_, c3_, c4_, c5_, c6_, c7_, c8_, c9_] := hD
  have hrj : rj x = j := by rw [hxj]; exact rj_n hj
  have hir : isR x := by rw [hxj]; exact isR_n hj
  refine lv_aload_n hx hb d_D_readLetter_6 rfl (lv_at hl 0 rfl) ?_
  refine lv_aload_n hx hb d_D_readLetter_7 rfl (lv_at hl 0 rfl) ?_
  refine va_get (D := D) (ci := 1) (v := .int (nI p)) (C := R_R) (T := F_R) (N := 3) hx hb hA i_R hown hK hP 0 rfl rfl 2 (by decide) (hA _ k1_40) (fun _ h9 => h9) rfl d_D_readLetter_8 ?_
  refine lv_aload_n hx hb d_D_readLetter_11 rfl (lv_at hl 0 rfl) ?_
  refine va_get (D := D) (ci := 1) (v := .int (nI n)) (C := R_R) (T := F_R) (N := 3) hx hb hA i_R hown hK hP 0 rfl rfl 1 (by decide) (hA _ k1_38) (fun _ h9 => h9) rfl d_D_readLetter_12 ?_
  have hs2 : la B p n = -1 → (spReadLetter σ x).1 = 2 := fun h9 => by unfold spReadLetter laσ; simp only [hrj, hρ]; rw [if_neg (fun h8 => h8 hir), if_pos h9]
  have hs3 : la B p n = -2 → (spReadLetter σ x).1 = 3 := fun h9 => by unfold spReadLetter laσ; simp only [hrj, hρ]; rw [if_neg (fun h8 => h8 hir), if_neg (by rw [h9]; decide), if_pos h9]
  have hs0 : 0 ≤ la B p n → spReadLetter σ x = (0, nI (la B p n).toNat, va_up σ j (B, n, p + lwI (la B p n))) := fun h9 => by unfold spReadLetter laσ; simp only [hrj, hρ]; rw [if_neg (fun h8 => h8 hir), if_neg (by omega), if_neg (by omega)]
  have hPc := hP.sub (ws' := [((y j), .inr (1, [.ref (b j), .int (nI n), .int (nI p)])), ((b j), .inl (cB, M, .inl (fun j => sb_b (B j))))]) [0, 1] rfl
  have hKc := hK.sub (tys' := [(cB, .byte)]) [0] rfl
  refine vp_callSi (W.runS (As := [.ref (y j), .int (nI p), .int (nI n)]) (rest := []) ⟨hx, hb, hml, hown, hA⟩ (c_D_letterAt l D cB (y j) (b j) M B (nI n) (nI p) p n hn (by omega) hM hB) (q_D_letterAt hA k2_115 rfl rfl ⟨(Nat.le_of_ble_eq_true rfl), (Nat.le_of_ble_eq_true rfl)⟩) (ox_S hPc hKc) rfl rfl hl.1 rfl (lv_room (Nat.le_of_ble_eq_true rfl)) d_D_readLetter_15 ⟨(Nat.le_of_ble_eq_true rfl), (Nat.le_of_ble_eq_true rfl)⟩) (fun r15 hr15 => ?_)
  refine lv_istore_n (lv' := [(3, .int r15), (2, .ref (y j)), (0, .ref h), (1, .int x)]) hx hb d_D_readLetter_18 rfl hl (by decide) rfl (fun ls hl => ?_)
  refine lv_iload_n hx hb d_D_readLetter_19 rfl (lv_at hl 0 rfl) ?_
  refine lv_iconst (v := (-1)) hx hb d_D_readLetter_20 (by decide) ?_
  refine lv_icmp_ne (tgt := 34) hx hb d_D_readLetter_21 (by decide) (fun c21 => ?_) (fun c21 => ?_)
  · refine lv_iload_n hx hb d_D_readLetter_34 rfl (lv_at hl 0 rfl) ?_
    refine lv_bipush (v := (-2)) hx hb d_D_readLetter_35 (by decide) ?_
    refine lv_icmp_ne (tgt := 50) hx hb d_D_readLetter_37 (by decide) (fun c37 => ?_) (fun c37 => ?_)
    · obtain ⟨hl0, er15⟩ := la_nI hB hr15 c21 c37
      refine lv_aload_n hx hb d_D_readLetter_50 rfl (lv_at hl 1 rfl) ?_
      refine lv_dup hx hb d_D_readLetter_51 rfl ?_
      refine va_get (D := D) (ci := 1) (v := .int (nI p)) (C := R_R) (T := F_R) (N := 3) hx hb hA i_R hown hK hP 0 rfl rfl 2 (by decide) (hA _ k1_40) (fun _ h9 => h9) rfl d_D_readLetter_52 ?_
      refine lv_iload_n hx hb d_D_readLetter_55 rfl (lv_at hl 0 rfl) ?_
      refine vp_callSi (W.runS (As := [.int r15]) (rest := [.int (nI p), .ref (y j)]) ⟨hx, hb, hml, hown, hA⟩ (c_D_letterWidth l r15) (q_D_letterWidth hA k1_214 rfl rfl ⟨(Nat.le_of_ble_eq_true rfl), (Nat.le_of_ble_eq_true rfl)⟩) (⟨fun a U g mk q => q, fun U hU hW => ⟨rfl, trivial⟩⟩) rfl rfl hl.1 rfl (lv_room (Nat.le_of_ble_eq_true rfl)) d_D_readLetter_56 ⟨(Nat.le_of_ble_eq_true rfl), (Nat.le_of_ble_eq_true rfl)⟩) (fun r56 hr56 => ?_)
      have er56 : r56 = nI (lwI (la B p n)) := by rw [hr56, hr15]
      subst er56
      refine lv_iadd hx hb d_D_readLetter_59 ?_
      refine lv_topi (fun v59 ev59 => ?_)
      have ev59 : v59 = nI (p + lwI (la B p n)) := by rw [ev59]; exact nI_add _ _
      subst ev59
      refine va_put (D := D) (ci := 1) (v := .int (nI (p + lwI (la B p n)))) (ty := .int) (C := R_R) (T := F_R) (N := 3) hx hb hA i_R t_R t_R_ok n_R hown hK hP hD hS 0 rfl rfl 2 (by decide) (hA _ k1_40) (fun _ h9 => h9) rfl (by decide +kernel) rfl rfl (Nat.le_of_ble_eq_true rfl) d_D_readLetter_60 (fun H locs hP hD hS => ?_)
      have hP : va_P D vCl [((y j), .inr (1, [.ref (b j), .int (nI n), .int (nI (p + lwI (la B p n)))])), ((b j), .inl (cB, M, .inl (fun j => sb_b (B j)))), c2_, c3_, c4_, c5_, c6_, c7_, c8_, c9_] H := hP
      have hD : va_D A [((y j), .inr (1, [.ref (b j), .int (nI n), .int (nI (p + lwI (la B p n)))])), ((b j), .inl (cB, M, .inl (fun j => sb_b (B j)))), c2_, c3_, c4_, c5_, c6_, c7_, c8_, c9_] := hD
      refine lv_iload_n hx hb d_D_readLetter_63 rfl (lv_at hl 0 rfl) ?_
      exact tx_ret (W.iret (v := r15) hx hb hr (fun t ht hW => Or.inl ⟨_, rfl, ⟨⟨_, va_up σ j (B, n, p + lwI (la B p n)), rfl, (by rw [er15]; exact hs0 hl0), by rw [ht]; exact ho1 (B, n, p + lwI (la B p n)) _ hP, va_K.moved hW.alike hK, ho2 (B, n, p + lwI (la B p n)) _ hD⟩, hS.F ht⟩⟩) hS.2.2 d_D_readLetter_64)
    · exact th_NSEE hx hb hml hlocks hce htr hown hA hG hl.1 (Nat.le_of_ble_eq_true rfl) (tx := "the row ends within a letter") (by decide) d_D_readLetter_40 d_D_readLetter_43 d_D_readLetter_44 d_D_readLetter_46 d_D_readLetter_49 (Nat.le_of_ble_eq_true rfl) (Nat.le_of_ble_eq_true rfl) (Nat.le_of_ble_eq_true rfl) (Nat.le_of_ble_eq_true rfl) (by exact Or.inr (Or.inr (⟨rfl, hs3 (by rw [← hr15, c37]; rfl)⟩)))
  · exact th_IAE hx hb hml hlocks hce htr hown hA hG hl.1 (Nat.le_of_ble_eq_true rfl) (tx := "the bytes of no letter") (by decide) d_D_readLetter_24 d_D_readLetter_27 d_D_readLetter_28 d_D_readLetter_30 d_D_readLetter_33 (Nat.le_of_ble_eq_true rfl) (Nat.le_of_ble_eq_true rfl) (Nat.le_of_ble_eq_true rfl) (Nat.le_of_ble_eq_true rfl) (by exact Or.inr (Or.inl (⟨rfl, hs2 (by rw [← hr15, c21]; rfl)⟩)))
end
section
/-! THE CLASS: PUBLIC METHODS THAT LOOK -/
set_option maxHeartbeats 600000 in
set_option maxRecDepth 100000 in
/-- row -/
theorem c_D_row (l : Launch) (hL0 : l.stackTraces = false) (D : va_G) (cR cB : ClassId) (h ra : Nat) (g : Nat → Option Nat) (M : Nat) (y b : Nat → Nat) (σ : dkS) (x z : Int32) (hg : ∀ i, i < 4 → g i = some (y i)) (hσ : dkok M σ) : tx_Met l y_D_row w_D_row ({ frames := 7, cells := 1, slots := 6, locals := 111 }) (va_Pc [.ref h, .int x, .int z] (oxg D [(cB, .byte), (cR, .object "PacketDesk$Row")] [(h, .inr (0, [.ref ra])), (ra, .inl (cR, 4, .inr (.inr (.inr (.inr g))))), ((y 0), .inr (1, [.ref (b 0), .int (nI (σ 0).2.1), .int (nI (σ 0).2.2)])), ((b 0), .inl (cB, M, .inl (fun j => sb_b ((σ 0).1 j)))), ((y 1), .inr (1, [.ref (b 1), .int (nI (σ 1).2.1), .int (nI (σ 1).2.2)])), ((b 1), .inl (cB, M, .inl (fun j => sb_b ((σ 1).1 j)))), ((y 2), .inr (1, [.ref (b 2), .int (nI (σ 2).2.1), .int (nI (σ 2).2.2)])), ((b 2), .inl (cB, M, .inl (fun j => sb_b ((σ 2).1 j)))), ((y 3), .inr (1, [.ref (b 3), .int (nI (σ 3).2.1), .int (nI (σ 3).2.2)])), ((b 3), .inl (cB, M, .inl (fun j => sb_b ((σ 3).1 j))))])) (tx_Q (fun E => (E = X_IOOBE ∧ (spRow σ x z).1 = 1) ∨ (E = X_IAE ∧ (spRow σ x z).1 = 2)) (vp_Si (fun r => spRow σ x z = (0, r, σ)))) 0 0 (fun _ => False) := by
  refine tx_ofW (cc := b_D_row) (maxL := 4) (ret := (some .int)) (by decide) rfl ?_
  intro p9 e9 s m args below meth c9 s₁ BL hml hce hadm hv
  obtain ⟨rfl, hP, hK, hG⟩ := hv
  have hx := BL.exec
  have hb := BL.bytes
  have hr := BL.returns
  have hts := atoms_spec (ws := w_D_row) BL.pre
  have hA : ∀ w ∈ wsA, w.before _ s = true := fun w h => hts w (List.mem_cons_of_mem _ h)
  have hown : s.vm.findClass R_D = some m.cls := findClass_of_methodNamed BL.named
  have hlocks := BL.notSynchronized
  have htr : e9.platform.stackTraces = false := by rw [hadm.platform]; exact hL0
  have hP : va_P D vCl [(h, .inr (0, [.ref ra])), (ra, .inl (cR, 4, .inr (.inr (.inr (.inr g))))), ((y 0), .inr (1, [.ref (b 0), .int (nI (σ 0).2.1), .int (nI (σ 0).2.2)])), ((b 0), .inl (cB, M, .inl (fun j => sb_b ((σ 0).1 j)))), ((y 1), .inr (1, [.ref (b 1), .int (nI (σ 1).2.1), .int (nI (σ 1).2.2)])), ((b 1), .inl (cB, M, .inl (fun j => sb_b ((σ 1).1 j)))), ((y 2), .inr (1, [.ref (b 2), .int (nI (σ 2).2.1), .int (nI (σ 2).2.2)])), ((b 2), .inl (cB, M, .inl (fun j => sb_b ((σ 2).1 j)))), ((y 3), .inr (1, [.ref (b 3), .int (nI (σ 3).2.1), .int (nI (σ 3).2.2)])), ((b 3), .inl (cB, M, .inl (fun j => sb_b ((σ 3).1 j))))] s.heap := hP
  have hl := lv_entry ([.ref h, .int x, .int z]) (n := 4) (Nat.le_of_ble_eq_true rfl)
  rw [lg_entry_eq]
  generalize (lg_sl ([.ref h, .int x, .int z]) ++ List.replicate (4 - (lg_sl ([.ref h, .int x, .int z])).length) Slot.unset).toArray = ls at hl ⊢
  have hl : lv_has ls 4 [(0, .ref h), (1, .int x), (2, .int z)] := hl
  refine lv_aload_n hx hb d_D_row_0 rfl (lv_at hl 0 rfl) ?_
  refine lv_iload_n hx hb d_D_row_1 rfl (lv_at hl 1 rfl) ?_
  have hPc := hP.sub (ws' := [(h, .inr (0, [.ref ra])), (ra, .inl (cR, 4, .inr (.inr (.inr (.inr g)))))]) [0, 1] rfl
  have hKc := hK.sub (tys' := [(cR, .object "PacketDesk$Row")]) [1] rfl
  refine tx_sr (tx_runV (As := [.int x]) (rest := []) ⟨hx, hb, hml, hown, hA⟩ (c_D_rowOf l hL0 D cR h ra g y hg x) (q_D_rowOf hA k1_66 rfl rfl ⟨(Nat.le_of_ble_eq_true rfl), (Nat.le_of_ble_eq_true rfl)⟩) (ox_V (va_recv hKc hPc (ci := 0) (q0 := 0) rfl rfl) (oxg_S hPc hKc hG (fun _ _ => rfl))) rfl rfl hl.1 rfl (lv_room (Nat.le_of_ble_eq_true rfl)) d_D_row_2 ⟨(Nat.le_of_ble_eq_true rfl), (Nat.le_of_ble_eq_true rfl)⟩) (fun x9 E9 H9 ht9 hE9 => tx_prop hlocks hce hE9 (Nat.le_refl _) (fun _ _ => rfl) (Or.inl (⟨ht9.1, by unfold spRow; rw [if_pos ht9.2]⟩)) (fun q h => by cases h)) (fun j hj => ?_)
  obtain ⟨hj, hxj⟩ := hj
  refine lv_astore_n (lv' := [(3, .ref (y j)), (0, .ref h), (1, .int x), (2, .int z)]) hx hb d_D_row_5 rfl hl (by decide) rfl (fun ls hl => ?_)
  obtain ⟨c2_, c3_, c4_, c5_, c6_, c7_, c8_, c9_, hi1, hi2, ho1, ho2⟩ := dk_1 D vCl cR cB h ra g M y b σ hj
  have hP : va_P D vCl [(y j, .inr (1, [.ref (b j), .int (nI (σ j).2.1), .int (nI (σ j).2.2)])), (b j, .inl (cB, M, .inl (fun j9 => sb_b ((σ j).1 j9)))), c2_, c3_, c4_, c5_, c6_, c7_, c8_, c9_] s.heap := hi1 _ hP
  obtain ⟨⟨B, n, p⟩, hρ⟩ : ∃ ρ, σ j = ρ := ⟨_, rfl⟩
  have hk := hσ.2 j hj
  have hM := hσ.1
  rw [hρ] at hP hk
  obtain ⟨hp, hn, hB⟩ := hk
  have hp : p ≤ n := hp
  have hn : n ≤ M := hn
  have hB : ∀ j, B j < 256 := hB
  have hP : va_P D vCl [((y j), .inr (1, [.ref (b j), .int (nI n), .int (nI p)])), ((b j), .inl (cB, M, .inl (fun j => sb_b (B j)))), c2_, c3_, c4_, c5_, c6_, c7_, c8_, c9_] s.heap := hP
  have hrj : rj x = j := by rw [hxj]; exact rj_n hj
  have hir : isR x := by rw [hxj]; exact isR_n hj
  refine lv_iload_n hx hb d_D_row_6 rfl (lv_at hl 3 rfl) ?_
  rcases (show (z.toInt < 0 ∨ 2 < z.toInt) ∨ z.toInt = 0 ∨ z.toInt = 1 ∨ z.toInt = 2 by omega) with hz | hz | hz | hz
  · refine lv_tableOut (tgt := 52) hx hb d_D_row_7 hz (by decide) ?_
    exact th_IAE hx hb hml hlocks hce htr hown hA hG hl.1 (Nat.le_of_ble_eq_true rfl) (tx := "what is 0, 1 or 2") (by decide) d_D_row_52 d_D_row_55 d_D_row_56 d_D_row_58 d_D_row_61 (Nat.le_of_ble_eq_true rfl) (Nat.le_of_ble_eq_true rfl) (Nat.le_of_ble_eq_true rfl) (Nat.le_of_ble_eq_true rfl) (by exact Or.inr (⟨rfl, by unfold spRow; simp only [hrj, hρ]; rw [if_neg (fun h8 => h8 hir), if_pos (by omega)]⟩))
  · refine lv_tableIn (tgt := 32) hx hb d_D_row_7 (by omega) (by omega) (by rw [hz]; rfl) (by decide) ?_
    refine lv_aload_n hx hb d_D_row_32 rfl (lv_at hl 0 rfl) ?_
    refine va_get (D := D) (ci := 1) (v := .int (nI n)) (C := R_R) (T := F_R) (N := 3) hx hb hA i_R hown hK hP 0 rfl rfl 1 (by decide) (hA _ k1_38) (fun _ h9 => h9) rfl d_D_row_33 ?_
    exact tx_ret (W.iret (v := nI n) hx hb hr (fun t ht hW => Or.inl ⟨_, rfl, ⟨_, rfl, (by unfold spRow; simp only [hrj, hρ]; rw [if_neg (fun h8 => h8 hir), if_neg (fun h8 => h8 (by omega)), if_pos hz]), ht⟩⟩) (fun q h => by cases h) d_D_row_36)
  · refine lv_tableIn (tgt := 37) hx hb d_D_row_7 (by omega) (by omega) (by rw [hz]; rfl) (by decide) ?_
    refine lv_aload_n hx hb d_D_row_37 rfl (lv_at hl 0 rfl) ?_
    refine va_get (D := D) (ci := 1) (v := .int (nI p)) (C := R_R) (T := F_R) (N := 3) hx hb hA i_R hown hK hP 0 rfl rfl 2 (by decide) (hA _ k1_40) (fun _ h9 => h9) rfl d_D_row_38 ?_
    exact tx_ret (W.iret (v := nI p) hx hb hr (fun t ht hW => Or.inl ⟨_, rfl, ⟨_, rfl, (by unfold spRow; simp only [hrj, hρ]; rw [if_neg (fun h8 => h8 hir), if_neg (fun h8 => h8 (by omega)), if_neg (by omega), if_pos hz]), ht⟩⟩) (fun q h => by cases h) d_D_row_41)
  · refine lv_tableIn (tgt := 42) hx hb d_D_row_7 (by omega) (by omega) (by rw [hz]; rfl) (by decide) ?_
    refine lv_aload_n hx hb d_D_row_42 rfl (lv_at hl 0 rfl) ?_
    refine va_get (D := D) (ci := 1) (v := .int (nI n)) (C := R_R) (T := F_R) (N := 3) hx hb hA i_R hown hK hP 0 rfl rfl 1 (by decide) (hA _ k1_38) (fun _ h9 => h9) rfl d_D_row_43 ?_
    refine lv_aload_n hx hb d_D_row_46 rfl (lv_at hl 0 rfl) ?_
    refine va_get (D := D) (ci := 1) (v := .int (nI p)) (C := R_R) (T := F_R) (N := 3) hx hb hA i_R hown hK hP 0 rfl rfl 2 (by decide) (hA _ k1_40) (fun _ h9 => h9) rfl d_D_row_47 ?_
    refine lv_isub hx hb d_D_row_50 ?_
    refine lv_topi (fun v50 ev50 => ?_)
    have ev50 : v50 = nI (n - p) := by rw [ev50]; exact pk_sub hp
    subst ev50
    exact tx_ret (W.iret (v := nI (n - p)) hx hb hr (fun t ht hW => Or.inl ⟨_, rfl, ⟨_, rfl, (by unfold spRow; simp only [hrj, hρ]; rw [if_neg (fun h8 => h8 hir), if_neg (fun h8 => h8 (by omega)), if_neg (by omega), if_neg (by omega)]), ht⟩⟩) (fun q h => by cases h) d_D_row_51)
set_option maxHeartbeats 600000 in
set_option maxRecDepth 100000 in
/-- byteAt -/
theorem c_D_byteAt (l : Launch) (hL0 : l.stackTraces = false) (D : va_G) (cR cB : ClassId) (h ra : Nat) (g : Nat → Option Nat) (M : Nat) (y b : Nat → Nat) (σ : dkS) (x z : Int32) (hg : ∀ i, i < 4 → g i = some (y i)) (hσ : dkok M σ) : tx_Met l y_D_byteAt w_D_byteAt ({ frames := 7, cells := 1, slots := 6, locals := 111 }) (va_Pc [.ref h, .int x, .int z] (oxg D [(cB, .byte), (cR, .object "PacketDesk$Row")] [(h, .inr (0, [.ref ra])), (ra, .inl (cR, 4, .inr (.inr (.inr (.inr g))))), ((y 0), .inr (1, [.ref (b 0), .int (nI (σ 0).2.1), .int (nI (σ 0).2.2)])), ((b 0), .inl (cB, M, .inl (fun j => sb_b ((σ 0).1 j)))), ((y 1), .inr (1, [.ref (b 1), .int (nI (σ 1).2.1), .int (nI (σ 1).2.2)])), ((b 1), .inl (cB, M, .inl (fun j => sb_b ((σ 1).1 j)))), ((y 2), .inr (1, [.ref (b 2), .int (nI (σ 2).2.1), .int (nI (σ 2).2.2)])), ((b 2), .inl (cB, M, .inl (fun j => sb_b ((σ 2).1 j)))), ((y 3), .inr (1, [.ref (b 3), .int (nI (σ 3).2.1), .int (nI (σ 3).2.2)])), ((b 3), .inl (cB, M, .inl (fun j => sb_b ((σ 3).1 j))))])) (tx_Q (fun E => (E = X_IOOBE ∧ (spByteAt σ x z).1 = 1) ∨ (E = X_IAE ∧ (spByteAt σ x z).1 = 2)) (vp_Si (fun r => spByteAt σ x z = (0, r, σ)))) 0 0 (fun _ => False) := by
  refine tx_ofW (cc := b_D_byteAt) (maxL := 4) (ret := (some .int)) (by decide) rfl ?_
  intro p9 e9 s m args below meth c9 s₁ BL hml hce hadm hv
  obtain ⟨rfl, hP, hK, hG⟩ := hv
  have hx := BL.exec
  have hb := BL.bytes
  have hr := BL.returns
  have hts := atoms_spec (ws := w_D_byteAt) BL.pre
  have hA : ∀ w ∈ wsA, w.before _ s = true := fun w h => hts w (List.mem_cons_of_mem _ h)
  have hown : s.vm.findClass R_D = some m.cls := findClass_of_methodNamed BL.named
  have hlocks := BL.notSynchronized
  have htr : e9.platform.stackTraces = false := by rw [hadm.platform]; exact hL0
  have hP : va_P D vCl [(h, .inr (0, [.ref ra])), (ra, .inl (cR, 4, .inr (.inr (.inr (.inr g))))), ((y 0), .inr (1, [.ref (b 0), .int (nI (σ 0).2.1), .int (nI (σ 0).2.2)])), ((b 0), .inl (cB, M, .inl (fun j => sb_b ((σ 0).1 j)))), ((y 1), .inr (1, [.ref (b 1), .int (nI (σ 1).2.1), .int (nI (σ 1).2.2)])), ((b 1), .inl (cB, M, .inl (fun j => sb_b ((σ 1).1 j)))), ((y 2), .inr (1, [.ref (b 2), .int (nI (σ 2).2.1), .int (nI (σ 2).2.2)])), ((b 2), .inl (cB, M, .inl (fun j => sb_b ((σ 2).1 j)))), ((y 3), .inr (1, [.ref (b 3), .int (nI (σ 3).2.1), .int (nI (σ 3).2.2)])), ((b 3), .inl (cB, M, .inl (fun j => sb_b ((σ 3).1 j))))] s.heap := hP
  have hl := lv_entry ([.ref h, .int x, .int z]) (n := 4) (Nat.le_of_ble_eq_true rfl)
  rw [lg_entry_eq]
  generalize (lg_sl ([.ref h, .int x, .int z]) ++ List.replicate (4 - (lg_sl ([.ref h, .int x, .int z])).length) Slot.unset).toArray = ls at hl ⊢
  have hl : lv_has ls 4 [(0, .ref h), (1, .int x), (2, .int z)] := hl
  refine lv_aload_n hx hb d_D_byteAt_0 rfl (lv_at hl 0 rfl) ?_
  refine lv_iload_n hx hb d_D_byteAt_1 rfl (lv_at hl 1 rfl) ?_
  have hPc := hP.sub (ws' := [(h, .inr (0, [.ref ra])), (ra, .inl (cR, 4, .inr (.inr (.inr (.inr g)))))]) [0, 1] rfl
  have hKc := hK.sub (tys' := [(cR, .object "PacketDesk$Row")]) [1] rfl
  refine tx_sr (tx_runV (As := [.int x]) (rest := []) ⟨hx, hb, hml, hown, hA⟩ (c_D_rowOf l hL0 D cR h ra g y hg x) (q_D_rowOf hA k1_66 rfl rfl ⟨(Nat.le_of_ble_eq_true rfl), (Nat.le_of_ble_eq_true rfl)⟩) (ox_V (va_recv hKc hPc (ci := 0) (q0 := 0) rfl rfl) (oxg_S hPc hKc hG (fun _ _ => rfl))) rfl rfl hl.1 rfl (lv_room (Nat.le_of_ble_eq_true rfl)) d_D_byteAt_2 ⟨(Nat.le_of_ble_eq_true rfl), (Nat.le_of_ble_eq_true rfl)⟩) (fun x9 E9 H9 ht9 hE9 => tx_prop hlocks hce hE9 (Nat.le_refl _) (fun _ _ => rfl) (Or.inl (⟨ht9.1, by unfold spByteAt; rw [if_pos ht9.2]⟩)) (fun q h => by cases h)) (fun j hj => ?_)
  obtain ⟨hj, hxj⟩ := hj
  refine lv_astore_n (lv' := [(3, .ref (y j)), (0, .ref h), (1, .int x), (2, .int z)]) hx hb d_D_byteAt_5 rfl hl (by decide) rfl (fun ls hl => ?_)
  obtain ⟨c2_, c3_, c4_, c5_, c6_, c7_, c8_, c9_, hi1, hi2, ho1, ho2⟩ := dk_1 D vCl cR cB h ra g M y b σ hj
  have hP : va_P D vCl [(y j, .inr (1, [.ref (b j), .int (nI (σ j).2.1), .int (nI (σ j).2.2)])), (b j, .inl (cB, M, .inl (fun j9 => sb_b ((σ j).1 j9)))), c2_, c3_, c4_, c5_, c6_, c7_, c8_, c9_] s.heap := hi1 _ hP
  obtain ⟨⟨B, n, p⟩, hρ⟩ : ∃ ρ, σ j = ρ := ⟨_, rfl⟩
  have hk := hσ.2 j hj
  have hM := hσ.1
  rw [hρ] at hP hk
  obtain ⟨hp, hn, hB⟩ := hk
  have hp : p ≤ n := hp
  have hn : n ≤ M := hn
  have hB : ∀ j, B j < 256 := hB
  have hP : va_P D vCl [((y j), .inr (1, [.ref (b j), .int (nI n), .int (nI p)])), ((b j), .inl (cB, M, .inl (fun j => sb_b (B j)))), c2_, c3_, c4_, c5_, c6_, c7_, c8_, c9_] s.heap := hP
  have hrj : rj x = j := by rw [hxj]; exact rj_n hj
  have hir : isR x := by rw [hxj]; exact isR_n hj
  refine lv_iload_n hx hb d_D_byteAt_6 rfl (lv_at hl 3 rfl) ?_
  refine lv_if_lt (tgt := 18) hx hb d_D_byteAt_7 (by decide) (fun c7 => ?_) (fun c7 => ?_)
  · have hni : (nI n).toInt = (n : Int) := nI_toInt (by omega)
    have hz2 : ¬ (0 ≤ z.toInt ∧ z.toInt < (n : Int)) := by simp only [Int32.lt_iff_toInt_lt, Int32.le_iff_toInt_le, li_0, li_1, li_2, li_3, li_4, li_8, li_10, li_16, li_63, li_127, li_128, li_191, li_192, li_194, li_224, li_240, li_244, li_255, li_2048, li_55296, li_57343, li_65536, li_1114111, li_m1, li_m2] at *; omega
    exact th_IAE hx hb hml hlocks hce htr hown hA hG hl.1 (Nat.le_of_ble_eq_true rfl) (tx := "no such byte") (by decide) d_D_byteAt_18 d_D_byteAt_21 d_D_byteAt_22 d_D_byteAt_24 d_D_byteAt_27 (Nat.le_of_ble_eq_true rfl) (Nat.le_of_ble_eq_true rfl) (Nat.le_of_ble_eq_true rfl) (Nat.le_of_ble_eq_true rfl) (by exact Or.inr (⟨rfl, by unfold spByteAt; simp only [hrj, hρ]; rw [if_neg (fun h8 => h8 hir), if_pos hz2]⟩))
  · refine lv_iload_n hx hb d_D_byteAt_10 rfl (lv_at hl 3 rfl) ?_
    refine lv_aload_n hx hb d_D_byteAt_11 rfl (lv_at hl 0 rfl) ?_
    refine va_get (D := D) (ci := 1) (v := .int (nI n)) (C := R_R) (T := F_R) (N := 3) hx hb hA i_R hown hK hP 0 rfl rfl 1 (by decide) (hA _ k1_38) (fun _ h9 => h9) rfl d_D_byteAt_12 ?_
    refine lv_icmp_lt (tgt := 28) hx hb d_D_byteAt_15 (by decide) (fun c15 => ?_) (fun c15 => ?_)
    · have hni : (nI n).toInt = (n : Int) := nI_toInt (by omega)
      have hz2 : 0 ≤ z.toInt ∧ z.toInt < (n : Int) := by simp only [Int32.lt_iff_toInt_lt, Int32.le_iff_toInt_le, li_0, li_1, li_2, li_3, li_4, li_8, li_10, li_16, li_63, li_127, li_128, li_191, li_192, li_194, li_224, li_240, li_244, li_255, li_2048, li_55296, li_57343, li_65536, li_1114111, li_m1, li_m2] at *; omega
      obtain ⟨q, hq0, rfl⟩ := nI_of c7
      have hqi : (nI q).toInt = (q : Int) := nI_toInt hq0
      have hqn : (nI q).toInt.toNat = q := by rw [hqi]; rfl
      refine lv_aload_n hx hb d_D_byteAt_28 rfl (lv_at hl 0 rfl) ?_
      refine lv_iload_n hx hb d_D_byteAt_29 rfl (lv_at hl 3 rfl) ?_
      have hPc := hP.sub (ws' := [((y j), .inr (1, [.ref (b j), .int (nI n), .int (nI p)])), ((b j), .inl (cB, M, .inl (fun j => sb_b (B j))))]) [0, 1] rfl
      have hKc := hK.sub (tys' := [(cB, .byte)]) [0] rfl
      refine vp_callSi (W.runV (As := [.int (nI q)]) (rest := []) ⟨hx, hb, hml, hown, hA⟩ (c_R_get l D cB (y j) (b j) M B (nI n) (nI p) q (by omega) hM hB) (q_R_get hA k2_21 rfl rfl ⟨(Nat.le_of_ble_eq_true rfl), (Nat.le_of_ble_eq_true rfl)⟩) (ox_V (va_recv hKc hPc (ci := 1) (q0 := 0) rfl rfl) (ox_S hPc hKc)) rfl rfl hl.1 rfl (lv_room (Nat.le_of_ble_eq_true rfl)) d_D_byteAt_30 ⟨(Nat.le_of_ble_eq_true rfl), (Nat.le_of_ble_eq_true rfl)⟩) (fun r30 hr30 => ?_)
      have er30 : r30 = nI (B q) := hr30
      subst er30
      exact tx_ret (W.iret (v := nI (B q)) hx hb hr (fun t ht hW => Or.inl ⟨_, rfl, ⟨_, rfl, (by unfold spByteAt; simp only [hrj, hρ]; rw [if_neg (fun h8 => h8 hir), if_neg (fun h8 => h8 hz2), hqn]), ht⟩⟩) (fun q h => by cases h) d_D_byteAt_33)
    · have hni : (nI n).toInt = (n : Int) := nI_toInt (by omega)
      have hz2 : ¬ (0 ≤ z.toInt ∧ z.toInt < (n : Int)) := by simp only [Int32.lt_iff_toInt_lt, Int32.le_iff_toInt_le, li_0, li_1, li_2, li_3, li_4, li_8, li_10, li_16, li_63, li_127, li_128, li_191, li_192, li_194, li_224, li_240, li_244, li_255, li_2048, li_55296, li_57343, li_65536, li_1114111, li_m1, li_m2] at *; omega
      exact th_IAE hx hb hml hlocks hce htr hown hA hG hl.1 (Nat.le_of_ble_eq_true rfl) (tx := "no such byte") (by decide) d_D_byteAt_18 d_D_byteAt_21 d_D_byteAt_22 d_D_byteAt_24 d_D_byteAt_27 (Nat.le_of_ble_eq_true rfl) (Nat.le_of_ble_eq_true rfl) (Nat.le_of_ble_eq_true rfl) (Nat.le_of_ble_eq_true rfl) (by exact Or.inr (⟨rfl, by unfold spByteAt; simp only [hrj, hρ]; rw [if_neg (fun h8 => h8 hir), if_pos hz2]⟩))
set_option maxHeartbeats 600000 in
set_option maxRecDepth 100000 in
/-- sum -/
theorem c_D_sum (l : Launch) (hL0 : l.stackTraces = false) (D : va_G) (cR cB : ClassId) (h ra : Nat) (g : Nat → Option Nat) (M : Nat) (y b : Nat → Nat) (σ : dkS) (x a k : Int32) (hg : ∀ i, i < 4 → g i = some (y i)) (hσ : dkok M σ) : tx_Met l y_D_sum w_D_sum ({ frames := 7, cells := 1, slots := 6, locals := 112 }) (va_Pc [.ref h, .int x, .int a, .int k] (oxg D [(cB, .byte), (cR, .object "PacketDesk$Row")] [(h, .inr (0, [.ref ra])), (ra, .inl (cR, 4, .inr (.inr (.inr (.inr g))))), ((y 0), .inr (1, [.ref (b 0), .int (nI (σ 0).2.1), .int (nI (σ 0).2.2)])), ((b 0), .inl (cB, M, .inl (fun j => sb_b ((σ 0).1 j)))), ((y 1), .inr (1, [.ref (b 1), .int (nI (σ 1).2.1), .int (nI (σ 1).2.2)])), ((b 1), .inl (cB, M, .inl (fun j => sb_b ((σ 1).1 j)))), ((y 2), .inr (1, [.ref (b 2), .int (nI (σ 2).2.1), .int (nI (σ 2).2.2)])), ((b 2), .inl (cB, M, .inl (fun j => sb_b ((σ 2).1 j)))), ((y 3), .inr (1, [.ref (b 3), .int (nI (σ 3).2.1), .int (nI (σ 3).2.2)])), ((b 3), .inl (cB, M, .inl (fun j => sb_b ((σ 3).1 j))))])) (tx_Q (fun E => (E = X_IOOBE ∧ (spSum σ x a k).1 = 1) ∨ (E = X_IAE ∧ (spSum σ x a k).1 = 2)) (vp_Si (fun r => spSum σ x a k = (0, r, σ)))) 0 0 (fun _ => False) := by
  refine tx_ofW (cc := b_D_sum) (maxL := 5) (ret := (some .int)) (by decide) rfl ?_
  intro p9 e9 s m args below meth c9 s₁ BL hml hce hadm hv
  obtain ⟨rfl, hP, hK, hG⟩ := hv
  have hx := BL.exec
  have hb := BL.bytes
  have hr := BL.returns
  have hts := atoms_spec (ws := w_D_sum) BL.pre
  have hA : ∀ w ∈ wsA, w.before _ s = true := fun w h => hts w (List.mem_cons_of_mem _ h)
  have hown : s.vm.findClass R_D = some m.cls := findClass_of_methodNamed BL.named
  have hlocks := BL.notSynchronized
  have htr : e9.platform.stackTraces = false := by rw [hadm.platform]; exact hL0
  have hP : va_P D vCl [(h, .inr (0, [.ref ra])), (ra, .inl (cR, 4, .inr (.inr (.inr (.inr g))))), ((y 0), .inr (1, [.ref (b 0), .int (nI (σ 0).2.1), .int (nI (σ 0).2.2)])), ((b 0), .inl (cB, M, .inl (fun j => sb_b ((σ 0).1 j)))), ((y 1), .inr (1, [.ref (b 1), .int (nI (σ 1).2.1), .int (nI (σ 1).2.2)])), ((b 1), .inl (cB, M, .inl (fun j => sb_b ((σ 1).1 j)))), ((y 2), .inr (1, [.ref (b 2), .int (nI (σ 2).2.1), .int (nI (σ 2).2.2)])), ((b 2), .inl (cB, M, .inl (fun j => sb_b ((σ 2).1 j)))), ((y 3), .inr (1, [.ref (b 3), .int (nI (σ 3).2.1), .int (nI (σ 3).2.2)])), ((b 3), .inl (cB, M, .inl (fun j => sb_b ((σ 3).1 j))))] s.heap := hP
  have hl := lv_entry ([.ref h, .int x, .int a, .int k]) (n := 5) (Nat.le_of_ble_eq_true rfl)
  rw [lg_entry_eq]
  generalize (lg_sl ([.ref h, .int x, .int a, .int k]) ++ List.replicate (5 - (lg_sl ([.ref h, .int x, .int a, .int k])).length) Slot.unset).toArray = ls at hl ⊢
  have hl : lv_has ls 5 [(0, .ref h), (1, .int x), (2, .int a), (3, .int k)] := hl
  refine lv_aload_n hx hb d_D_sum_0 rfl (lv_at hl 0 rfl) ?_
  refine lv_iload_n hx hb d_D_sum_1 rfl (lv_at hl 1 rfl) ?_
  have hPc := hP.sub (ws' := [(h, .inr (0, [.ref ra])), (ra, .inl (cR, 4, .inr (.inr (.inr (.inr g)))))]) [0, 1] rfl
  have hKc := hK.sub (tys' := [(cR, .object "PacketDesk$Row")]) [1] rfl
  refine tx_sr (tx_runV (As := [.int x]) (rest := []) ⟨hx, hb, hml, hown, hA⟩ (c_D_rowOf l hL0 D cR h ra g y hg x) (q_D_rowOf hA k1_66 rfl rfl ⟨(Nat.le_of_ble_eq_true rfl), (Nat.le_of_ble_eq_true rfl)⟩) (ox_V (va_recv hKc hPc (ci := 0) (q0 := 0) rfl rfl) (oxg_S hPc hKc hG (fun _ _ => rfl))) rfl rfl hl.1 rfl (lv_room (Nat.le_of_ble_eq_true rfl)) d_D_sum_2 ⟨(Nat.le_of_ble_eq_true rfl), (Nat.le_of_ble_eq_true rfl)⟩) (fun x9 E9 H9 ht9 hE9 => tx_prop hlocks hce hE9 (Nat.le_refl _) (fun _ _ => rfl) (Or.inl (⟨ht9.1, by unfold spSum; rw [if_pos ht9.2]⟩)) (fun q h => by cases h)) (fun j hj => ?_)
  obtain ⟨hj, hxj⟩ := hj
  refine lv_astore (lv' := [(4, .ref (y j)), (0, .ref h), (1, .int x), (2, .int a), (3, .int k)]) hx hb d_D_sum_5 hl (by decide) rfl (fun ls hl => ?_)
  obtain ⟨c2_, c3_, c4_, c5_, c6_, c7_, c8_, c9_, hi1, hi2, ho1, ho2⟩ := dk_1 D vCl cR cB h ra g M y b σ hj
  have hP : va_P D vCl [(y j, .inr (1, [.ref (b j), .int (nI (σ j).2.1), .int (nI (σ j).2.2)])), (b j, .inl (cB, M, .inl (fun j9 => sb_b ((σ j).1 j9)))), c2_, c3_, c4_, c5_, c6_, c7_, c8_, c9_] s.heap := hi1 _ hP
  obtain ⟨⟨B, n, p⟩, hρ⟩ : ∃ ρ, σ j = ρ := ⟨_, rfl⟩
  have hk := hσ.2 j hj
  have hM := hσ.1
  rw [hρ] at hP hk
  obtain ⟨hp, hn, hB⟩ := hk
  have hp : p ≤ n := hp
  have hn : n ≤ M := hn
  have hB : ∀ j, B j < 256 := hB
  have hP : va_P D vCl [((y j), .inr (1, [.ref (b j), .int (nI n), .int (nI p)])), ((b j), .inl (cB, M, .inl (fun j => sb_b (B j)))), c2_, c3_, c4_, c5_, c6_, c7_, c8_, c9_] s.heap := hP
  have hrj : rj x = j := by rw [hxj]; exact rj_n hj
  have hir : isR x := by rw [hxj]; exact isR_n hj
  refine lv_aload hx hb d_D_sum_7 (lv_at hl 0 rfl) ?_
  refine lv_iload_n hx hb d_D_sum_9 rfl (lv_at hl 3 rfl) ?_
  refine lv_iload_n hx hb d_D_sum_10 rfl (lv_at hl 4 rfl) ?_
  have hPc := hP.sub (ws' := [((y j), .inr (1, [.ref (b j), .int (nI n), .int (nI p)])), ((b j), .inl (cB, M, .inl (fun j => sb_b (B j))))]) [0, 1] rfl
  have hKc := hK.sub (tys' := [(cB, .byte)]) [0] rfl
  refine tx_sv (tx_runS (As := [.ref (y j), .int a, .int k]) (rest := []) ⟨hx, hb, hml, hown, hA⟩ (c_D_needRange l hL0 D cB (y j) (b j) M B n p hn hM a k) (q_D_needRange hA k1_234 rfl rfl ⟨(Nat.le_of_ble_eq_true rfl), (Nat.le_of_ble_eq_true rfl)⟩) (oxg_S hPc hKc hG (fun _ _ => rfl)) rfl rfl hl.1 rfl (lv_room (Nat.le_of_ble_eq_true rfl)) d_D_sum_11 ⟨(Nat.le_of_ble_eq_true rfl), (Nat.le_of_ble_eq_true rfl)⟩) (fun x9 E9 H9 ht9 hE9 => tx_prop hlocks hce hE9 (Nat.le_refl _) (fun _ _ => rfl) (Or.inr (⟨ht9.1, by unfold spSum; simp only [hrj, hρ]; rw [if_neg (fun h8 => h8 hir), if_pos ht9.2]⟩)) (fun q h => by cases h)) (fun hr11 => ?_)
  have hin : inr n a k := hr11
  obtain ⟨a1, ha10, rfl⟩ := nI_of (show ¬ a < 0 by rw [Int32.lt_iff_toInt_lt, li_0]; omega)
  have ha1i : (nI a1).toInt = (a1 : Int) := nI_toInt ha10
  have ha1n : (nI a1).toInt.toNat = a1 := by rw [ha1i]; rfl
  obtain ⟨k1, hk10, rfl⟩ := nI_of (show ¬ k < 0 by rw [Int32.lt_iff_toInt_lt, li_0]; omega)
  have hk1i : (nI k1).toInt = (k1 : Int) := nI_toInt hk10
  have hk1n : (nI k1).toInt.toNat = k1 := by rw [hk1i]; rfl
  refine lv_aload hx hb d_D_sum_14 (lv_at hl 0 rfl) ?_
  refine lv_iload_n hx hb d_D_sum_16 rfl (lv_at hl 3 rfl) ?_
  refine lv_iload_n hx hb d_D_sum_17 rfl (lv_at hl 4 rfl) ?_
  have hPc := hP.sub (ws' := [((y j), .inr (1, [.ref (b j), .int (nI n), .int (nI p)])), ((b j), .inl (cB, M, .inl (fun j => sb_b (B j))))]) [0, 1] rfl
  have hKc := hK.sub (tys' := [(cB, .byte)]) [0] rfl
  refine vp_callSi (W.runS (As := [.ref (y j), .int (nI a1), .int (nI k1)]) (rest := []) ⟨hx, hb, hml, hown, hA⟩ (c_D_sumOf l D cB (y j) (b j) M B (nI n) (nI p) a1 k1 (by omega) hM hB) (q_D_sumOf hA k2_18 rfl rfl ⟨(Nat.le_of_ble_eq_true rfl), (Nat.le_of_ble_eq_true rfl)⟩) (ox_S hPc hKc) rfl rfl hl.1 rfl (lv_room (Nat.le_of_ble_eq_true rfl)) d_D_sum_18 ⟨(Nat.le_of_ble_eq_true rfl), (Nat.le_of_ble_eq_true rfl)⟩) (fun r18 hr18 => ?_)
  have er18 : r18 = crcs B a1 k1 ^^^ (-1) := hr18
  subst er18
  exact tx_ret (W.iret (v := crcs B a1 k1 ^^^ (-1)) hx hb hr (fun t ht hW => Or.inl ⟨_, rfl, ⟨_, rfl, (by unfold spSum; simp only [hrj, hρ]; rw [if_neg (fun h8 => h8 hir), if_neg (fun h8 => h8 hin), ha1n, hk1n]), ht⟩⟩) (fun q h => by cases h) d_D_sum_21)
set_option maxHeartbeats 600000 in
set_option maxRecDepth 100000 in
/-- letters -/
theorem c_D_letters (l : Launch) (hL0 : l.stackTraces = false) (D : va_G) (cR cB : ClassId) (h ra : Nat) (g : Nat → Option Nat) (M : Nat) (y b : Nat → Nat) (σ : dkS) (x a k : Int32) (hg : ∀ i, i < 4 → g i = some (y i)) (hσ : dkok M σ) : tx_Met l y_D_letters w_D_letters ({ frames := 7, cells := 1, slots := 6, locals := 112 }) (va_Pc [.ref h, .int x, .int a, .int k] (oxg D [(cB, .byte), (cR, .object "PacketDesk$Row")] [(h, .inr (0, [.ref ra])), (ra, .inl (cR, 4, .inr (.inr (.inr (.inr g))))), ((y 0), .inr (1, [.ref (b 0), .int (nI (σ 0).2.1), .int (nI (σ 0).2.2)])), ((b 0), .inl (cB, M, .inl (fun j => sb_b ((σ 0).1 j)))), ((y 1), .inr (1, [.ref (b 1), .int (nI (σ 1).2.1), .int (nI (σ 1).2.2)])), ((b 1), .inl (cB, M, .inl (fun j => sb_b ((σ 1).1 j)))), ((y 2), .inr (1, [.ref (b 2), .int (nI (σ 2).2.1), .int (nI (σ 2).2.2)])), ((b 2), .inl (cB, M, .inl (fun j => sb_b ((σ 2).1 j)))), ((y 3), .inr (1, [.ref (b 3), .int (nI (σ 3).2.1), .int (nI (σ 3).2.2)])), ((b 3), .inl (cB, M, .inl (fun j => sb_b ((σ 3).1 j))))])) (tx_Q (fun E => (E = X_IOOBE ∧ (spLetters σ x a k).1 = 1) ∨ (E = X_IAE ∧ (spLetters σ x a k).1 = 2)) (vp_Si (fun r => spLetters σ x a k = (0, r, σ)))) 0 0 (fun _ => False) := by
  refine tx_ofW (cc := b_D_letters) (maxL := 9) (ret := (some .int)) (by decide) rfl ?_
  intro p9 e9 s m args below meth c9 s₁ BL hml hce hadm hv
  obtain ⟨rfl, hP, hK, hG⟩ := hv
  have hx := BL.exec
  have hb := BL.bytes
  have hr := BL.returns
  have hts := atoms_spec (ws := w_D_letters) BL.pre
  have hA : ∀ w ∈ wsA, w.before _ s = true := fun w h => hts w (List.mem_cons_of_mem _ h)
  have hown : s.vm.findClass R_D = some m.cls := findClass_of_methodNamed BL.named
  have hlocks := BL.notSynchronized
  have htr : e9.platform.stackTraces = false := by rw [hadm.platform]; exact hL0
  have hP : va_P D vCl [(h, .inr (0, [.ref ra])), (ra, .inl (cR, 4, .inr (.inr (.inr (.inr g))))), ((y 0), .inr (1, [.ref (b 0), .int (nI (σ 0).2.1), .int (nI (σ 0).2.2)])), ((b 0), .inl (cB, M, .inl (fun j => sb_b ((σ 0).1 j)))), ((y 1), .inr (1, [.ref (b 1), .int (nI (σ 1).2.1), .int (nI (σ 1).2.2)])), ((b 1), .inl (cB, M, .inl (fun j => sb_b ((σ 1).1 j)))), ((y 2), .inr (1, [.ref (b 2), .int (nI (σ 2).2.1), .int (nI (σ 2).2.2)])), ((b 2), .inl (cB, M, .inl (fun j => sb_b ((σ 2).1 j)))), ((y 3), .inr (1, [.ref (b 3), .int (nI (σ 3).2.1), .int (nI (σ 3).2.2)])), ((b 3), .inl (cB, M, .inl (fun j => sb_b ((σ 3).1 j))))] s.heap := hP
  have hl := lv_entry ([.ref h, .int x, .int a, .int k]) (n := 9) (Nat.le_of_ble_eq_true rfl)
  rw [lg_entry_eq]
  generalize (lg_sl ([.ref h, .int x, .int a, .int k]) ++ List.replicate (9 - (lg_sl ([.ref h, .int x, .int a, .int k])).length) Slot.unset).toArray = ls at hl ⊢
  have hl : lv_has ls 9 [(0, .ref h), (1, .int x), (2, .int a), (3, .int k)] := hl
  refine lv_aload_n hx hb d_D_letters_0 rfl (lv_at hl 0 rfl) ?_
  refine lv_iload_n hx hb d_D_letters_1 rfl (lv_at hl 1 rfl) ?_
  have hPc := hP.sub (ws' := [(h, .inr (0, [.ref ra])), (ra, .inl (cR, 4, .inr (.inr (.inr (.inr g)))))]) [0, 1] rfl
  have hKc := hK.sub (tys' := [(cR, .object "PacketDesk$Row")]) [1] rfl
  refine tx_sr (tx_runV (As := [.int x]) (rest := []) ⟨hx, hb, hml, hown, hA⟩ (c_D_rowOf l hL0 D cR h ra g y hg x) (q_D_rowOf hA k1_66 rfl rfl ⟨(Nat.le_of_ble_eq_true rfl), (Nat.le_of_ble_eq_true rfl)⟩) (ox_V (va_recv hKc hPc (ci := 0) (q0 := 0) rfl rfl) (oxg_S hPc hKc hG (fun _ _ => rfl))) rfl rfl hl.1 rfl (lv_room (Nat.le_of_ble_eq_true rfl)) d_D_letters_2 ⟨(Nat.le_of_ble_eq_true rfl), (Nat.le_of_ble_eq_true rfl)⟩) (fun x9 E9 H9 ht9 hE9 => tx_prop hlocks hce hE9 (Nat.le_refl _) (fun _ _ => rfl) (Or.inl (⟨ht9.1, by unfold spLetters; rw [if_pos ht9.2]⟩)) (fun q h => by cases h)) (fun j hj => ?_)
  obtain ⟨hj, hxj⟩ := hj
  refine lv_astore (lv' := [(4, .ref (y j)), (0, .ref h), (1, .int x), (2, .int a), (3, .int k)]) hx hb d_D_letters_5 hl (by decide) rfl (fun ls hl => ?_)
  obtain ⟨c2_, c3_, c4_, c5_, c6_, c7_, c8_, c9_, hi1, hi2, ho1, ho2⟩ := dk_1 D vCl cR cB h ra g M y b σ hj
  have hP : va_P D vCl [(y j, .inr (1, [.ref (b j), .int (nI (σ j).2.1), .int (nI (σ j).2.2)])), (b j, .inl (cB, M, .inl (fun j9 => sb_b ((σ j).1 j9)))), c2_, c3_, c4_, c5_, c6_, c7_, c8_, c9_] s.heap := hi1 _ hP
  obtain ⟨⟨B, n, p⟩, hρ⟩ : ∃ ρ, σ j = ρ := ⟨_, rfl⟩
  have hk := hσ.2 j hj
  have hM := hσ.1
  rw [hρ] at hP hk
  obtain ⟨hp, hn, hB⟩ := hk
  have hp : p ≤ n := hp
  have hn : n ≤ M := hn
  have hB : ∀ j, B j < 256 := hB
  have hP : va_P D vCl [((y j), .inr (1, [.ref (b j), .int (nI n), .int (nI p)])), ((b j), .inl (cB, M, .inl (fun j => sb_b (B j)))), c2_, c3_, c4_, c5_, c6_, c7_, c8_, c9_] s.heap := hP
  have hrj : rj x = j := by rw [hxj]; exact rj_n hj
  have hir : isR x := by rw [hxj]; exact isR_n hj
  refine lv_aload hx hb d_D_letters_7 (lv_at hl 0 rfl) ?_
  refine lv_iload_n hx hb d_D_letters_9 rfl (lv_at hl 3 rfl) ?_
  refine lv_iload_n hx hb d_D_letters_10 rfl (lv_at hl 4 rfl) ?_
  have hPc := hP.sub (ws' := [((y j), .inr (1, [.ref (b j), .int (nI n), .int (nI p)])), ((b j), .inl (cB, M, .inl (fun j => sb_b (B j))))]) [0, 1] rfl
  have hKc := hK.sub (tys' := [(cB, .byte)]) [0] rfl
  refine tx_sv (tx_runS (As := [.ref (y j), .int a, .int k]) (rest := []) ⟨hx, hb, hml, hown, hA⟩ (c_D_needRange l hL0 D cB (y j) (b j) M B n p hn hM a k) (q_D_needRange hA k1_234 rfl rfl ⟨(Nat.le_of_ble_eq_true rfl), (Nat.le_of_ble_eq_true rfl)⟩) (oxg_S hPc hKc hG (fun _ _ => rfl)) rfl rfl hl.1 rfl (lv_room (Nat.le_of_ble_eq_true rfl)) d_D_letters_11 ⟨(Nat.le_of_ble_eq_true rfl), (Nat.le_of_ble_eq_true rfl)⟩) (fun x9 E9 H9 ht9 hE9 => tx_prop hlocks hce hE9 (Nat.le_refl _) (fun _ _ => rfl) (Or.inr (⟨ht9.1, by unfold spLetters; simp only [hrj, hρ]; rw [if_neg (fun h8 => h8 hir), if_pos ht9.2]⟩)) (fun q h => by cases h)) (fun hr11 => ?_)
  have hin : inr n a k := hr11
  obtain ⟨a1, ha10, rfl⟩ := nI_of (show ¬ a < 0 by rw [Int32.lt_iff_toInt_lt, li_0]; omega)
  have ha1i : (nI a1).toInt = (a1 : Int) := nI_toInt ha10
  have ha1n : (nI a1).toInt.toNat = a1 := by rw [ha1i]; rfl
  obtain ⟨k1, hk10, rfl⟩ := nI_of (show ¬ k < 0 by rw [Int32.lt_iff_toInt_lt, li_0]; omega)
  have hk1i : (nI k1).toInt = (k1 : Int) := nI_toInt hk10
  have hk1n : (nI k1).toInt.toNat = k1 := by rw [hk1i]; rfl
  refine lv_iload_n hx hb d_D_letters_14 rfl (lv_at hl 3 rfl) ?_
  refine lv_iload_n hx hb d_D_letters_15 rfl (lv_at hl 4 rfl) ?_
  refine lv_iadd hx hb d_D_letters_16 ?_
  refine lv_topi (fun v16 ev16 => ?_)
  have ev16 : v16 = nI (a1 + k1) := by rw [ev16]; exact nI_add _ _
  subst ev16
  refine lv_istore (lv' := [(5, .int (nI (a1 + k1))), (4, .ref (y j)), (0, .ref h), (1, .int x), (2, .int (nI a1)), (3, .int (nI k1))]) hx hb d_D_letters_17 hl (by decide) rfl (fun ls hl => ?_)
  have hsn : lcs B (a1 + k1) (k1 + 1) a1 0 = none → (spLetters σ x (nI a1) (nI k1)).1 = 2 := fun h9 => by unfold spLetters; simp only [hrj, hρ]; rw [if_neg (fun h8 => h8 hir), if_neg (fun h8 => h8 hin), ha1n, hk1n, h9]
  have hss : ∀ m, lcs B (a1 + k1) (k1 + 1) a1 0 = some m → spLetters σ x (nI a1) (nI k1) = (0, nI m, σ) := fun m h9 => by unfold spLetters; simp only [hrj, hρ]; rw [if_neg (fun h8 => h8 hir), if_neg (fun h8 => h8 hin), ha1n, hk1n, h9]
  refine lv_iload_n hx hb d_D_letters_19 rfl (lv_at hl 4 rfl) ?_
  refine lv_istore (lv' := [(6, .int (nI a1)), (5, .int (nI (a1 + k1))), (4, .ref (y j)), (0, .ref h), (1, .int x), (2, .int (nI a1)), (3, .int (nI k1))]) hx hb d_D_letters_20 hl (by decide) rfl (fun ls hl => ?_)
  refine lv_iconst (v := 0) hx hb d_D_letters_22 (by decide) ?_
  refine lv_topi (fun v22 ev22 => ?_)
  have ev22 : v22 = nI 0 := by rw [ev22]; rfl
  subst ev22
  refine lv_istore (lv' := [(7, .int (nI 0)), (6, .int (nI a1)), (5, .int (nI (a1 + k1))), (4, .ref (y j)), (0, .ref h), (1, .int x), (2, .int (nI a1)), (3, .int (nI k1))]) hx hb d_D_letters_23 hl (by decide) rfl (fun ls hl => ?_)
  have loop : ∀ (q t m2 : Nat), a1 + k1 < t + q → a1 + m2 ≤ t → t ≤ a1 + k1 → lcs B (a1 + k1) q t m2 = lcs B (a1 + k1) (k1 + 1) a1 0 → ∀ (ls : Array Slot), lv_has ls 9 [(7, .int (nI m2)), (6, .int (nI t)), (5, .int (nI (a1 + k1))), (4, .ref (y j)), (3, .int (nI k1))] → W p9 l e9 (headSpec w_D_letters ({ frames := 7, cells := 1, slots := 6, locals := 112 })).room s m [.ref h, .int x, .int (nI a1), .int (nI k1)].toArray below meth c9 s.heap [] 0 0 (tx_MQ below (tx_Q (fun E => (E = X_IOOBE ∧ (spLetters σ x (nI a1) (nI k1)).1 = 1) ∨ (E = X_IAE ∧ (spLetters σ x (nI a1) (nI k1)).1 = 2)) (vp_Si (fun r => spLetters σ x (nI a1) (nI k1) = (0, r, σ)))) [.ref h, .int x, .int (nI a1), .int (nI k1)].toArray s 0 0 (fun _ => False)) (F0 m 25 ls []) := by
    intro q
    induction q with
    | zero =>
      intro t m2 hq ht ht2 hinv ls hl
      exact absurd hq (by omega)
    | succ q ih_loop =>
      intro t m2 hq ht ht2 hinv ls hl
      refine lv_iload hx hb d_D_letters_25 (lv_at hl 0 rfl) ?_
      refine lv_iload_n hx hb d_D_letters_27 rfl (lv_at hl 4 rfl) ?_
      refine lv_icmp_ge (tgt := 88) hx hb d_D_letters_28 (by decide) (fun c28 => ?_) (fun c28 => ?_)
      · have hge : a1 + k1 ≤ t := by
          first
          | (have := (nI_leI (a := k1) (b := m2) (by omega) (by omega)).mp c28; omega)
          | (have := (nI_leI (a := a1 + k1) (b := t) (by omega) (by omega)).mp c35; omega)
        refine lv_iload hx hb d_D_letters_88 (lv_at hl 0 rfl) ?_
        exact tx_ret (W.iret (v := nI m2) hx hb hr (fun t ht hW => Or.inl ⟨_, rfl, ⟨_, rfl, (hss m2 (by rw [← hinv]; show (if _ then _ else _) = _; rw [if_pos hge])), ht⟩⟩) (fun q h => by cases h) d_D_letters_90)
      · have hmk : m2 < k1 := by have := mt (nI_leI (a := k1) (b := m2) (by omega) (by omega)).mpr c28; omega
        refine lv_iload hx hb d_D_letters_31 (lv_at hl 1 rfl) ?_
        refine lv_iload hx hb d_D_letters_33 (lv_at hl 2 rfl) ?_
        refine lv_icmp_ge (tgt := 88) hx hb d_D_letters_35 (by decide) (fun c35 => ?_) (fun c35 => ?_)
        · have hge : a1 + k1 ≤ t := by
            first
            | (have := (nI_leI (a := k1) (b := m2) (by omega) (by omega)).mp c28; omega)
            | (have := (nI_leI (a := a1 + k1) (b := t) (by omega) (by omega)).mp c35; omega)
          refine lv_iload hx hb d_D_letters_88 (lv_at hl 0 rfl) ?_
          exact tx_ret (W.iret (v := nI m2) hx hb hr (fun t ht hW => Or.inl ⟨_, rfl, ⟨_, rfl, (hss m2 (by rw [← hinv]; show (if _ then _ else _) = _; rw [if_pos hge])), ht⟩⟩) (fun q h => by cases h) d_D_letters_90)
        · have hne : t < a1 + k1 := by have := mt (nI_leI (a := a1 + k1) (b := t) (by omega) (by omega)).mpr c35; omega
          refine lv_aload hx hb d_D_letters_38 (lv_at hl 3 rfl) ?_
          refine lv_iload hx hb d_D_letters_40 (lv_at hl 1 rfl) ?_
          refine lv_iload hx hb d_D_letters_42 (lv_at hl 2 rfl) ?_
          have hPc := hP.sub (ws' := [((y j), .inr (1, [.ref (b j), .int (nI n), .int (nI p)])), ((b j), .inl (cB, M, .inl (fun j => sb_b (B j))))]) [0, 1] rfl
          have hKc := hK.sub (tys' := [(cB, .byte)]) [0] rfl
          refine vp_callSi (W.runS (As := [.ref (y j), .int (nI t), .int (nI (a1 + k1))]) (rest := []) ⟨hx, hb, hml, hown, hA⟩ (c_D_letterAt l D cB (y j) (b j) M B (nI n) (nI p) t (a1 + k1) (by omega) (by omega) hM hB) (q_D_letterAt hA k2_115 rfl rfl ⟨(Nat.le_of_ble_eq_true rfl), (Nat.le_of_ble_eq_true rfl)⟩) (ox_S hPc hKc) rfl rfl hl.1 rfl (lv_room (Nat.le_of_ble_eq_true rfl)) d_D_letters_44 ⟨(Nat.le_of_ble_eq_true rfl), (Nat.le_of_ble_eq_true rfl)⟩) (fun r44 hr44 => ?_)
          have hst : lcs B (a1 + k1) (q + 1) t m2 = if la B t (a1 + k1) < 0 then none else lcs B (a1 + k1) q (t + lwI (la B t (a1 + k1))) (m2 + 1) := by show (if _ then _ else _) = _; rw [if_neg (by omega)]
          refine lv_istore (lv' := [(8, .int r44), (7, .int (nI m2)), (6, .int (nI t)), (5, .int (nI (a1 + k1))), (4, .ref (y j)), (3, .int (nI k1))]) hx hb d_D_letters_47 hl (by decide) rfl (fun ls hl => ?_)
          refine lv_iload hx hb d_D_letters_49 (lv_at hl 0 rfl) ?_
          refine lv_iconst (v := (-1)) hx hb d_D_letters_51 (by decide) ?_
          refine lv_icmp_eq (tgt := 62) hx hb d_D_letters_52 (by decide) (fun c52 => ?_) (fun c52 => ?_)
          · have hneg : la B t (a1 + k1) < 0 := by
              first
              | (rw [← hr44, c52]; decide)
              | (rw [← hr44, c59]; decide)
            exact th_IAE hx hb hml hlocks hce htr hown hA hG hl.1 (Nat.le_of_ble_eq_true rfl) (tx := "not whole letters") (by decide) d_D_letters_62 d_D_letters_65 d_D_letters_66 d_D_letters_68 d_D_letters_71 (Nat.le_of_ble_eq_true rfl) (Nat.le_of_ble_eq_true rfl) (Nat.le_of_ble_eq_true rfl) (Nat.le_of_ble_eq_true rfl) (by exact Or.inr (⟨rfl, hsn (by rw [← hinv, hst, if_pos hneg])⟩))
          · refine lv_iload hx hb d_D_letters_55 (lv_at hl 0 rfl) ?_
            refine lv_bipush (v := (-2)) hx hb d_D_letters_57 (by decide) ?_
            refine lv_icmp_ne (tgt := 72) hx hb d_D_letters_59 (by decide) (fun c59 => ?_) (fun c59 => ?_)
            · obtain ⟨hl0, er44⟩ := la_nI hB hr44 c52 c59
              obtain ⟨hw1, hw2⟩ := la_len hB hl0
              refine lv_iload hx hb d_D_letters_72 (lv_at hl 2 rfl) ?_
              refine lv_iload hx hb d_D_letters_74 (lv_at hl 0 rfl) ?_
              refine vp_callSi (W.runS (As := [.int r44]) (rest := [.int (nI t)]) ⟨hx, hb, hml, hown, hA⟩ (c_D_letterWidth l r44) (q_D_letterWidth hA k1_214 rfl rfl ⟨(Nat.le_of_ble_eq_true rfl), (Nat.le_of_ble_eq_true rfl)⟩) (⟨fun a U g mk q => q, fun U hU hW => ⟨rfl, trivial⟩⟩) rfl rfl hl.1 rfl (lv_room (Nat.le_of_ble_eq_true rfl)) d_D_letters_76 ⟨(Nat.le_of_ble_eq_true rfl), (Nat.le_of_ble_eq_true rfl)⟩) (fun r76 hr76 => ?_)
              have er76 : r76 = nI (lwI (la B t (a1 + k1))) := by rw [hr76, hr44]
              subst er76
              refine lv_iadd hx hb d_D_letters_79 ?_
              refine lv_topi (fun v79 ev79 => ?_)
              have ev79 : v79 = nI (t + lwI (la B t (a1 + k1))) := by rw [ev79]; exact nI_add _ _
              subst ev79
              refine lv_istore (lv' := [(6, .int (nI (t + lwI (la B t (a1 + k1))))), (8, .int r44), (7, .int (nI m2)), (5, .int (nI (a1 + k1))), (4, .ref (y j)), (3, .int (nI k1))]) hx hb d_D_letters_80 hl (by decide) rfl (fun ls hl => ?_)
              obtain ⟨v82, ev82⟩ : ∃ y : Int32, y = nI m2 + 1 := ⟨_, rfl⟩
              refine lv_iinc (v := v82) (lv' := [(7, .int v82), (6, .int (nI (t + lwI (la B t (a1 + k1))))), (8, .int r44), (5, .int (nI (a1 + k1))), (4, .ref (y j)), (3, .int (nI k1))]) hx hb d_D_letters_82 hl (k := 2) rfl (by rw [ev82]; rfl) (by decide) rfl (fun ls hl => ?_)
              have ev82 : v82 = nI (m2 + 1) := by rw [ev82]; exact nI_1 m2
              subst ev82
              refine lv_goto (tgt := 25) hx hb d_D_letters_85 (by decide) ?_
              exact ih_loop (t + lwI (la B t (a1 + k1))) (m2 + 1) (by omega) (by omega) (by omega) (by rw [← hinv, hst, if_neg (by omega)]) ls (lv_sub hl [0, 1, 3, 4, 5] rfl)
            · have hneg : la B t (a1 + k1) < 0 := by
                first
                | (rw [← hr44, c52]; decide)
                | (rw [← hr44, c59]; decide)
              exact th_IAE hx hb hml hlocks hce htr hown hA hG hl.1 (Nat.le_of_ble_eq_true rfl) (tx := "not whole letters") (by decide) d_D_letters_62 d_D_letters_65 d_D_letters_66 d_D_letters_68 d_D_letters_71 (Nat.le_of_ble_eq_true rfl) (Nat.le_of_ble_eq_true rfl) (Nat.le_of_ble_eq_true rfl) (Nat.le_of_ble_eq_true rfl) (by exact Or.inr (⟨rfl, hsn (by rw [← hinv, hst, if_pos hneg])⟩))
  exact loop (k1 + 1) a1 0 (by omega) (by omega) (by omega) rfl ls (lv_sub hl [0, 1, 2, 3, 7] rfl)
end
section
/-! THE CLASS: COPY, BLOCK, FRAME -/
theorem va_up2 {σ : dkS} {j i : Nat} (h : ¬ j = i) {q : (Nat → Nat) × Nat × Nat} (hq : σ i = q) (r : (Nat → Nat) × Nat × Nat) : va_up (va_up σ j r) i q = va_up σ j r := by
  funext k
  unfold va_up
  by_cases h1 : k = i
  · rw [if_pos h1, if_neg (fun h2 => h (by rw [← h1, h2])), h1, hq]
  · rw [if_neg h1]
theorem wr_congr (B : Nat → Nat) (n : Nat) {k : Nat} {f g : Nat → Nat} (h : ∀ i, i < k → f i = g i) : wr B n k f = wr B n k g := by
  funext j
  unfold wr
  split
  · exact h _ (by omega)
  · rfl
theorem wr_out {B : Nat → Nat} {n k i : Nat} {f : Nat → Nat} (h : i < n) : wr B n k f i = B i := by
  unfold wr
  rw [if_neg (by omega)]
theorem crcs_congr {B C : Nat → Nat} (a : Nat) {k : Nat} (h : ∀ i, i < k → B (a + i) = C (a + i)) : crcs B a k = crcs C a k := by
  induction k with
  | zero => rfl
  | succ k ih =>
    show crc8 8 (crcs B a k ^^^ nI (B (a + k))) = crc8 8 (crcs C a k ^^^ nI (C (a + k)))
    rw [ih (fun i hi => h i (by omega)), h k (by omega)]
set_option maxHeartbeats 600000 in
set_option maxRecDepth 100000 in
/-- copy -/
theorem c_D_copy (l : Launch) (hL0 : l.stackTraces = false) (D : va_G) (cR cB : ClassId) (h ra : Nat) (g : Nat → Option Nat) (M : Nat) (y b : Nat → Nat) (σ : dkS) (sz : Nat) (x f a k : Int32) (hg : ∀ i, i < 4 → g i = some (y i)) (hσ : dkok M σ) : tx_Met l y_D_copy w_D_copy ({ frames := 7, cells := 1, slots := 6, locals := 112 }) (va_Pc [.ref h, .int x, .int f, .int a, .int k] (oxv sz D [(cB, .byte), (cR, .object "PacketDesk$Row")] [(h, .inr (0, [.ref ra])), (ra, .inl (cR, 4, .inr (.inr (.inr (.inr g))))), ((y 0), .inr (1, [.ref (b 0), .int (nI (σ 0).2.1), .int (nI (σ 0).2.2)])), ((b 0), .inl (cB, M, .inl (fun j => sb_b ((σ 0).1 j)))), ((y 1), .inr (1, [.ref (b 1), .int (nI (σ 1).2.1), .int (nI (σ 1).2.2)])), ((b 1), .inl (cB, M, .inl (fun j => sb_b ((σ 1).1 j)))), ((y 2), .inr (1, [.ref (b 2), .int (nI (σ 2).2.1), .int (nI (σ 2).2.2)])), ((b 2), .inl (cB, M, .inl (fun j => sb_b ((σ 2).1 j)))), ((y 3), .inr (1, [.ref (b 3), .int (nI (σ 3).2.1), .int (nI (σ 3).2.2)])), ((b 3), .inl (cB, M, .inl (fun j => sb_b ((σ 3).1 j))))])) (tx_Q (fun E => (E = X_IOOBE ∧ (spCopy M σ x f a k).1 = 1) ∨ (E = X_IAE ∧ (spCopy M σ x f a k).1 = 2) ∨ (E = X_ISE ∧ (spCopy M σ x f a k).1 = 3)) (va_Qi (fun r (τ : dkS) => spCopy M σ x f a k = (0, r, τ)) (fun τ => ow D [(cB, .byte), (cR, .object "PacketDesk$Row")] (va_A [(h, .inr (0, [.ref ra])), (ra, .inl (cR, 4, .inr (.inr (.inr (.inr g))))), ((y 0), .inr (1, [.ref (b 0), .int (nI (σ 0).2.1), .int (nI (σ 0).2.2)])), ((b 0), .inl (cB, M, .inl (fun j => sb_b ((σ 0).1 j)))), ((y 1), .inr (1, [.ref (b 1), .int (nI (σ 1).2.1), .int (nI (σ 1).2.2)])), ((b 1), .inl (cB, M, .inl (fun j => sb_b ((σ 1).1 j)))), ((y 2), .inr (1, [.ref (b 2), .int (nI (σ 2).2.1), .int (nI (σ 2).2.2)])), ((b 2), .inl (cB, M, .inl (fun j => sb_b ((σ 2).1 j)))), ((y 3), .inr (1, [.ref (b 3), .int (nI (σ 3).2.1), .int (nI (σ 3).2.2)])), ((b 3), .inl (cB, M, .inl (fun j => sb_b ((σ 3).1 j))))] sz) (dk cR cB h ra g M y b τ)) (va_A [(h, .inr (0, [.ref ra])), (ra, .inl (cR, 4, .inr (.inr (.inr (.inr g))))), ((y 0), .inr (1, [.ref (b 0), .int (nI (σ 0).2.1), .int (nI (σ 0).2.2)])), ((b 0), .inl (cB, M, .inl (fun j => sb_b ((σ 0).1 j)))), ((y 1), .inr (1, [.ref (b 1), .int (nI (σ 1).2.1), .int (nI (σ 1).2.2)])), ((b 1), .inl (cB, M, .inl (fun j => sb_b ((σ 1).1 j)))), ((y 2), .inr (1, [.ref (b 2), .int (nI (σ 2).2.1), .int (nI (σ 2).2.2)])), ((b 2), .inl (cB, M, .inl (fun j => sb_b ((σ 2).1 j)))), ((y 3), .inr (1, [.ref (b 3), .int (nI (σ 3).2.1), .int (nI (σ 3).2.2)])), ((b 3), .inl (cB, M, .inl (fun j => sb_b ((σ 3).1 j))))] sz))) 0 0 (va_A [(h, .inr (0, [.ref ra])), (ra, .inl (cR, 4, .inr (.inr (.inr (.inr g))))), ((y 0), .inr (1, [.ref (b 0), .int (nI (σ 0).2.1), .int (nI (σ 0).2.2)])), ((b 0), .inl (cB, M, .inl (fun j => sb_b ((σ 0).1 j)))), ((y 1), .inr (1, [.ref (b 1), .int (nI (σ 1).2.1), .int (nI (σ 1).2.2)])), ((b 1), .inl (cB, M, .inl (fun j => sb_b ((σ 1).1 j)))), ((y 2), .inr (1, [.ref (b 2), .int (nI (σ 2).2.1), .int (nI (σ 2).2.2)])), ((b 2), .inl (cB, M, .inl (fun j => sb_b ((σ 2).1 j)))), ((y 3), .inr (1, [.ref (b 3), .int (nI (σ 3).2.1), .int (nI (σ 3).2.2)])), ((b 3), .inl (cB, M, .inl (fun j => sb_b ((σ 3).1 j))))] sz) := by
  refine tx_ofW (cc := b_D_copy) (maxL := 7) (ret := (some .int)) (by decide) rfl ?_
  intro p9 e9 s m args below meth c9 s₁ BL hml hce hadm hv
  obtain ⟨rfl, hsz, hP, hK, hD0, hG⟩ := hv
  have hx := BL.exec
  have hb := BL.bytes
  have hr := BL.returns
  have hts := atoms_spec (ws := w_D_copy) BL.pre
  have hA : ∀ w ∈ wsA, w.before _ s = true := fun w h => hts w (List.mem_cons_of_mem _ h)
  have hown : s.vm.findClass R_D = some m.cls := findClass_of_methodNamed BL.named
  have hlocks := BL.notSynchronized
  have htr : e9.platform.stackTraces = false := by rw [hadm.platform]; exact hL0
  subst hsz
  have hD := hD0.self (sz := s.heap.size)
  generalize hAe : va_A [(h, .inr (0, [.ref ra])), (ra, .inl (cR, 4, .inr (.inr (.inr (.inr g))))), ((y 0), .inr (1, [.ref (b 0), .int (nI (σ 0).2.1), .int (nI (σ 0).2.2)])), ((b 0), .inl (cB, M, .inl (fun j => sb_b ((σ 0).1 j)))), ((y 1), .inr (1, [.ref (b 1), .int (nI (σ 1).2.1), .int (nI (σ 1).2.2)])), ((b 1), .inl (cB, M, .inl (fun j => sb_b ((σ 1).1 j)))), ((y 2), .inr (1, [.ref (b 2), .int (nI (σ 2).2.1), .int (nI (σ 2).2.2)])), ((b 2), .inl (cB, M, .inl (fun j => sb_b ((σ 2).1 j)))), ((y 3), .inr (1, [.ref (b 3), .int (nI (σ 3).2.1), .int (nI (σ 3).2.2)])), ((b 3), .inl (cB, M, .inl (fun j => sb_b ((σ 3).1 j))))] s.heap.size = A at hD ⊢
  have hAq : ∀ q : Nat, s.heap.size ≤ q → A q := fun q h => by rw [← hAe]; exact Or.inr h
  have hS : va_S A s.heap s.heap [] := va_S.rf
  have hP : va_P D vCl [(h, .inr (0, [.ref ra])), (ra, .inl (cR, 4, .inr (.inr (.inr (.inr g))))), ((y 0), .inr (1, [.ref (b 0), .int (nI (σ 0).2.1), .int (nI (σ 0).2.2)])), ((b 0), .inl (cB, M, .inl (fun j => sb_b ((σ 0).1 j)))), ((y 1), .inr (1, [.ref (b 1), .int (nI (σ 1).2.1), .int (nI (σ 1).2.2)])), ((b 1), .inl (cB, M, .inl (fun j => sb_b ((σ 1).1 j)))), ((y 2), .inr (1, [.ref (b 2), .int (nI (σ 2).2.1), .int (nI (σ 2).2.2)])), ((b 2), .inl (cB, M, .inl (fun j => sb_b ((σ 2).1 j)))), ((y 3), .inr (1, [.ref (b 3), .int (nI (σ 3).2.1), .int (nI (σ 3).2.2)])), ((b 3), .inl (cB, M, .inl (fun j => sb_b ((σ 3).1 j))))] s.heap := hP
  have hl := lv_entry ([.ref h, .int x, .int f, .int a, .int k]) (n := 7) (Nat.le_of_ble_eq_true rfl)
  rw [lg_entry_eq]
  generalize (lg_sl ([.ref h, .int x, .int f, .int a, .int k]) ++ List.replicate (7 - (lg_sl ([.ref h, .int x, .int f, .int a, .int k])).length) Slot.unset).toArray = ls at hl ⊢
  have hl : lv_has ls 7 [(0, .ref h), (1, .int x), (2, .int f), (3, .int a), (4, .int k)] := hl
  refine lv_aload_n hx hb d_D_copy_0 rfl (lv_at hl 0 rfl) ?_
  refine lv_iload_n hx hb d_D_copy_1 rfl (lv_at hl 1 rfl) ?_
  have hPc := hP.sub (ws' := [(h, .inr (0, [.ref ra])), (ra, .inl (cR, 4, .inr (.inr (.inr (.inr g)))))]) [0, 1] rfl
  have hKc := hK.sub (tys' := [(cR, .object "PacketDesk$Row")]) [1] rfl
  refine tx_sr (tx_runV (As := [.int x]) (rest := []) ⟨hx, hb, hml, hown, hA⟩ (c_D_rowOf l hL0 D cR h ra g y hg x) (q_D_rowOf hA k1_66 rfl rfl ⟨(Nat.le_of_ble_eq_true rfl), (Nat.le_of_ble_eq_true rfl)⟩) (ox_V (va_recv hKc hPc (ci := 0) (q0 := 0) rfl rfl) (oxg_S hPc hKc hG (fun _ _ => rfl))) rfl rfl hl.1 rfl (lv_room (Nat.le_of_ble_eq_true rfl)) d_D_copy_2 ⟨(Nat.le_of_ble_eq_true rfl), (Nat.le_of_ble_eq_true rfl)⟩) (fun x9 E9 H9 ht9 hE9 => tx_prop hlocks hce hE9 (Nat.le_refl _) (fun _ _ => rfl) (Or.inl (⟨ht9.1, by unfold spCopy; rw [if_pos (fun h9 => ht9.2 h9.1)]⟩)) (fun q h => by cases h)) (fun j hj => ?_)
  obtain ⟨hj, hxj⟩ := hj
  refine lv_astore (lv' := [(5, .ref (y j)), (0, .ref h), (1, .int x), (2, .int f), (3, .int a), (4, .int k)]) hx hb d_D_copy_5 hl (by decide) rfl (fun ls hl => ?_)
  refine lv_aload_n hx hb d_D_copy_7 rfl (lv_at hl 1 rfl) ?_
  refine lv_iload_n hx hb d_D_copy_8 rfl (lv_at hl 3 rfl) ?_
  have hPc := hP.sub (ws' := [(h, .inr (0, [.ref ra])), (ra, .inl (cR, 4, .inr (.inr (.inr (.inr g)))))]) [0, 1] rfl
  have hKc := hK.sub (tys' := [(cR, .object "PacketDesk$Row")]) [1] rfl
  refine tx_sr (tx_runV (As := [.int f]) (rest := []) ⟨hx, hb, hml, hown, hA⟩ (c_D_rowOf l hL0 D cR h ra g y hg f) (q_D_rowOf hA k1_66 rfl rfl ⟨(Nat.le_of_ble_eq_true rfl), (Nat.le_of_ble_eq_true rfl)⟩) (ox_V (va_recv hKc hPc (ci := 0) (q0 := 0) rfl rfl) (oxg_S hPc hKc hG (fun _ _ => rfl))) rfl rfl hl.1 rfl (lv_room (Nat.le_of_ble_eq_true rfl)) d_D_copy_9 ⟨(Nat.le_of_ble_eq_true rfl), (Nat.le_of_ble_eq_true rfl)⟩) (fun x9 E9 H9 ht9 hE9 => tx_prop hlocks hce hE9 (Nat.le_refl _) (fun _ _ => rfl) (Or.inl (⟨ht9.1, by unfold spCopy; rw [if_pos (fun h9 => ht9.2 h9.2)]⟩)) (fun q h => by cases h)) (fun i hi => ?_)
  obtain ⟨hi, hxi⟩ := hi
  by_cases hji : j = i
  · subst hji
    obtain ⟨c2_, c3_, c4_, c5_, c6_, c7_, c8_, c9_, hi1, hi2, ho1, ho2⟩ := dk_1 D vCl cR cB h ra g M y b σ hj
    have hP : va_P D vCl [(y j, .inr (1, [.ref (b j), .int (nI (σ j).2.1), .int (nI (σ j).2.2)])), (b j, .inl (cB, M, .inl (fun j9 => sb_b ((σ j).1 j9)))), c2_, c3_, c4_, c5_, c6_, c7_, c8_, c9_] s.heap := hi1 _ hP
    have hD : va_D A [(y j, .inr (1, [.ref (b j), .int (nI (σ j).2.1), .int (nI (σ j).2.2)])), (b j, .inl (cB, M, .inl (fun j9 => sb_b ((σ j).1 j9)))), c2_, c3_, c4_, c5_, c6_, c7_, c8_, c9_] := hi2 _ hD
    obtain ⟨⟨B, n, p⟩, hρ⟩ : ∃ ρ, σ j = ρ := ⟨_, rfl⟩
    have hk := hσ.2 j hj
    have hM := hσ.1
    rw [hρ] at hP hk hD
    obtain ⟨hp, hn, hB⟩ := hk
    have hp : p ≤ n := hp
    have hn : n ≤ M := hn
    have hB : ∀ j, B j < 256 := hB
    have hP : va_P D vCl [((y j), .inr (1, [.ref (b j), .int (nI n), .int (nI p)])), ((b j), .inl (cB, M, .inl (fun j => sb_b (B j)))), c2_, c3_, c4_, c5_, c6_, c7_, c8_, c9_] s.heap := hP
    have hD : va_D A [((y j), .inr (1, [.ref (b j), .int (nI n), .int (nI p)])), ((b j), .inl (cB, M, .inl (fun j => sb_b (B j)))), c2_, c3_, c4_, c5_, c6_, c7_, c8_, c9_] := hD
    have hrj : rj x = j := by rw [hxj]; exact rj_n hj
    have hir : isR x := by rw [hxj]; exact isR_n hj
    have hri : rj f = j := by rw [hxi]; exact rj_n hj
    have hir : isR x ∧ isR f := ⟨hir, by rw [hxi]; exact isR_n hj⟩
    have hρ2 := hρ
    refine lv_astore (lv' := [(6, .ref (y j)), (5, .ref (y j)), (0, .ref h), (1, .int x), (2, .int f), (3, .int a), (4, .int k)]) hx hb d_D_copy_12 hl (by decide) rfl (fun ls hl => ?_)
    refine lv_aload hx hb d_D_copy_14 (lv_at hl 0 rfl) ?_
    refine lv_iload_n hx hb d_D_copy_16 rfl (lv_at hl 5 rfl) ?_
    refine lv_iload hx hb d_D_copy_17 (lv_at hl 6 rfl) ?_
    have hPc := hP.sub (ws' := [((y j), .inr (1, [.ref (b j), .int (nI n), .int (nI p)])), ((b j), .inl (cB, M, .inl (fun j => sb_b (B j))))]) [0, 1] rfl
    have hKc := hK.sub (tys' := [(cB, .byte)]) [0] rfl
    refine tx_sv (tx_runS (As := [.ref (y j), .int a, .int k]) (rest := []) ⟨hx, hb, hml, hown, hA⟩ (c_D_needRange l hL0 D cB (y j) (b j) M B n p hn hM a k) (q_D_needRange hA k1_234 rfl rfl ⟨(Nat.le_of_ble_eq_true rfl), (Nat.le_of_ble_eq_true rfl)⟩) (oxg_S hPc hKc hG (fun _ _ => rfl)) rfl rfl hl.1 rfl (lv_room (Nat.le_of_ble_eq_true rfl)) d_D_copy_19 ⟨(Nat.le_of_ble_eq_true rfl), (Nat.le_of_ble_eq_true rfl)⟩) (fun x9 E9 H9 ht9 hE9 => tx_prop hlocks hce hE9 (Nat.le_refl _) (fun _ _ => rfl) (Or.inr (Or.inl (⟨ht9.1, by unfold spCopy; simp only [hrj, hri, hρ, hρ2]; rw [if_neg (fun h8 => h8 hir), if_pos ht9.2]⟩))) (fun q h => by cases h)) (fun hr19 => ?_)
    have hin : inr n a k := hr19
    obtain ⟨a1, ha10, rfl⟩ := nI_of (show ¬ a < 0 by rw [Int32.lt_iff_toInt_lt, li_0]; omega)
    have ha1i : (nI a1).toInt = (a1 : Int) := nI_toInt ha10
    have ha1n : (nI a1).toInt.toNat = a1 := by rw [ha1i]; rfl
    obtain ⟨k1, hk10, rfl⟩ := nI_of (show ¬ k < 0 by rw [Int32.lt_iff_toInt_lt, li_0]; omega)
    have hk1i : (nI k1).toInt = (k1 : Int) := nI_toInt hk10
    have hk1n : (nI k1).toInt.toNat = k1 := by rw [hk1i]; rfl
    refine lv_aload hx hb d_D_copy_22 (lv_at hl 1 rfl) ?_
    refine lv_iload hx hb d_D_copy_24 (lv_at hl 6 rfl) ?_
    have hPc := hP.sub (ws' := [((y j), .inr (1, [.ref (b j), .int (nI n), .int (nI p)])), ((b j), .inl (cB, M, .inl (fun j => sb_b (B j))))]) [0, 1] rfl
    have hKc := hK.sub (tys' := [(cB, .byte)]) [0] rfl
    refine tx_sv (tx_runS (As := [.ref (y j), .int (nI k1)]) (rest := []) ⟨hx, hb, hml, hown, hA⟩ (c_D_needRoom l hL0 D cB (y j) (b j) M B n p hn hM k1 (by omega)) (q_D_needRoom hA k1_158 rfl rfl ⟨(Nat.le_of_ble_eq_true rfl), (Nat.le_of_ble_eq_true rfl)⟩) (oxg_S hPc hKc hG (fun _ _ => rfl)) rfl rfl hl.1 rfl (lv_room (Nat.le_of_ble_eq_true rfl)) d_D_copy_26 ⟨(Nat.le_of_ble_eq_true rfl), (Nat.le_of_ble_eq_true rfl)⟩) (fun x9 E9 H9 ht9 hE9 => tx_prop hlocks hce hE9 (Nat.le_refl _) (fun _ _ => rfl) (Or.inr (Or.inr (⟨ht9.1, by unfold spCopy; simp only [hrj, hri, hρ, hρ2]; rw [if_neg (fun h8 => h8 hir), if_neg (fun h8 => h8 hin), hk1n, if_pos ht9.2]⟩))) (fun q h => by cases h)) (fun hr26 => ?_)
    refine lv_aload hx hb d_D_copy_29 (lv_at hl 1 rfl) ?_
    refine lv_aload hx hb d_D_copy_31 (lv_at hl 0 rfl) ?_
    refine lv_iload_n hx hb d_D_copy_33 rfl (lv_at hl 5 rfl) ?_
    refine lv_iload hx hb d_D_copy_34 (lv_at hl 6 rfl) ?_
    have hPc := hP.sub (ws' := [((y j), .inr (1, [.ref (b j), .int (nI n), .int (nI p)])), ((b j), .inl (cB, M, .inl (fun j => sb_b (B j))))]) [0, 1] rfl
    have hDc := hD.sub (ws' := [((y j), .inr (1, [.ref (b j), .int (nI n), .int (nI p)])), ((b j), .inl (cB, M, .inl (fun j => sb_b (B j))))]) [0, 1] (by decide) rfl
    have hKc := hK.sub (tys' := [(cB, .byte)]) [0] rfl
    have hFc := va_free (wc := [((y j), .inr (1, [.ref (b j), .int (nI n), .int (nI p)])), ((b j), .inl (cB, M, .inl (fun j => sb_b (B j))))]) hD hS hAq [0, 1] rfl
    refine va_callv (va_runS (As := [.ref (y j), .ref (y j), .int (nI a1), .int (nI k1)]) (rest := []) ⟨hx, hb, hml, hown, hA⟩ (c_D_addBytes1 l D cB (y j) (b j) M B n p s.heap.size a1 k1 hr26 (by omega) hM) (q_D_addBytes hA k1_238 rfl rfl ⟨(Nat.le_of_ble_eq_true rfl), (Nat.le_of_ble_eq_true rfl)⟩) (oxw_S hPc hKc hDc) rfl rfl hl.1 rfl (lv_room (Nat.le_of_ble_eq_true rfl)) d_D_copy_36 ⟨(Nat.le_of_ble_eq_true rfl), (Nat.le_of_ble_eq_true rfl)⟩) hS (fun q _ h => hFc q h) hFc (fun u9 t9 H1 locs ht9 hvm9 hw9 hB9 hz1 hk1 hS => ?_)
    obtain ⟨hP1, hK1, hD1⟩ := hB9
    rw [ht9] at hP1
    obtain ⟨hP, hD⟩ := va_join (wr := [c2_, c3_, c4_, c5_, c6_, c7_, c8_, c9_]) (w1 := [((y j), .inr (1, [.ref (b j), .int (nI (n + k1)), .int (nI p)])), ((b j), .inl (cB, M, .inl (fun j => sb_b ((wr B n k1 (fun i9 => B (a1 + i9))) j))))]) hP hD [0, 1] [2, 3, 4, 5, 6, 7, 8, 9] rfl rfl (by decide) (by decide) hk1 hFc hP1 hD1
    generalize H1 = H at hP hS ⊢
    have hP : va_P D vCl [((y j), .inr (1, [.ref (b j), .int (nI (n + k1)), .int (nI p)])), ((b j), .inl (cB, M, .inl (fun j => sb_b ((wr B n k1 (fun i9 => B (a1 + i9))) j)))), c2_, c3_, c4_, c5_, c6_, c7_, c8_, c9_] H := hP.sub [8, 9, 0, 1, 2, 3, 4, 5, 6, 7] rfl
    have hD : va_D A [((y j), .inr (1, [.ref (b j), .int (nI (n + k1)), .int (nI p)])), ((b j), .inl (cB, M, .inl (fun j => sb_b ((wr B n k1 (fun i9 => B (a1 + i9))) j)))), c2_, c3_, c4_, c5_, c6_, c7_, c8_, c9_] := hD.sub [8, 9, 0, 1, 2, 3, 4, 5, 6, 7] (by decide) rfl
    refine lv_aload hx hb d_D_copy_39 (lv_at hl 1 rfl) ?_
    refine va_get (D := D) (ci := 1) (v := .int (nI (n + k1))) (C := R_R) (T := F_R) (N := 3) hx hb hA i_R hown hK hP 0 rfl rfl 1 (by decide) (hA _ k1_38) (fun _ h9 => h9) rfl d_D_copy_41 ?_
    exact tx_ret (W.iret (v := nI (n + k1)) hx hb hr (fun t ht hW => Or.inl ⟨_, rfl, ⟨⟨_, va_up σ j (wr B n k1 (fun i9 => B (a1 + i9)), n + k1, p), rfl, (by unfold spCopy; simp only [hrj, hri, hρ, hρ2]; rw [if_neg (fun h8 => h8 hir), if_neg (fun h8 => h8 hin), hk1n, ha1n, if_neg (Nat.not_lt.mpr hr26)]), by rw [ht]; exact ho1 (wr B n k1 (fun i9 => B (a1 + i9)), n + k1, p) _ hP, va_K.moved hW.alike hK, ho2 (wr B n k1 (fun i9 => B (a1 + i9)), n + k1, p) _ hD⟩, hS.F ht⟩⟩) hS.2.2 d_D_copy_44)
  · obtain ⟨c4_, c5_, c6_, c7_, c8_, c9_, hi1, hi2, ho1, ho2⟩ := dk_2 D vCl cR cB h ra g M y b σ hj hi hji
    have hP : va_P D vCl [(y j, .inr (1, [.ref (b j), .int (nI (σ j).2.1), .int (nI (σ j).2.2)])), (b j, .inl (cB, M, .inl (fun j9 => sb_b ((σ j).1 j9)))), (y i, .inr (1, [.ref (b i), .int (nI (σ i).2.1), .int (nI (σ i).2.2)])), (b i, .inl (cB, M, .inl (fun j9 => sb_b ((σ i).1 j9)))), c4_, c5_, c6_, c7_, c8_, c9_] s.heap := hi1 _ hP
    have hD : va_D A [(y j, .inr (1, [.ref (b j), .int (nI (σ j).2.1), .int (nI (σ j).2.2)])), (b j, .inl (cB, M, .inl (fun j9 => sb_b ((σ j).1 j9)))), (y i, .inr (1, [.ref (b i), .int (nI (σ i).2.1), .int (nI (σ i).2.2)])), (b i, .inl (cB, M, .inl (fun j9 => sb_b ((σ i).1 j9)))), c4_, c5_, c6_, c7_, c8_, c9_] := hi2 _ hD
    obtain ⟨⟨B, n, p⟩, hρ⟩ : ∃ ρ, σ j = ρ := ⟨_, rfl⟩
    obtain ⟨⟨C, n2, p2⟩, hρ2⟩ : ∃ ρ, σ i = ρ := ⟨_, rfl⟩
    have hk := hσ.2 j hj
    have hk2 := hσ.2 i hi
    have hM := hσ.1
    rw [hρ] at hk
    rw [hρ2] at hk2
    rw [hρ, hρ2] at hP hD
    obtain ⟨hp, hn, hB⟩ := hk
    have hp : p ≤ n := hp
    have hn : n ≤ M := hn
    have hB : ∀ j, B j < 256 := hB
    obtain ⟨hp2, hn2, hB2⟩ := hk2
    have hp2 : p2 ≤ n2 := hp2
    have hn2 : n2 ≤ M := hn2
    have hB2 : ∀ j, C j < 256 := hB2
    have hP : va_P D vCl [((y j), .inr (1, [.ref (b j), .int (nI n), .int (nI p)])), ((b j), .inl (cB, M, .inl (fun j => sb_b (B j)))), ((y i), .inr (1, [.ref (b i), .int (nI n2), .int (nI p2)])), ((b i), .inl (cB, M, .inl (fun j => sb_b (C j)))), c4_, c5_, c6_, c7_, c8_, c9_] s.heap := hP
    have hD : va_D A [((y j), .inr (1, [.ref (b j), .int (nI n), .int (nI p)])), ((b j), .inl (cB, M, .inl (fun j => sb_b (B j)))), ((y i), .inr (1, [.ref (b i), .int (nI n2), .int (nI p2)])), ((b i), .inl (cB, M, .inl (fun j => sb_b (C j)))), c4_, c5_, c6_, c7_, c8_, c9_] := hD
    have hrj : rj x = j := by rw [hxj]; exact rj_n hj
    have hri : rj f = i := by rw [hxi]; exact rj_n hi
    have hir : isR x ∧ isR f := ⟨by rw [hxj]; exact isR_n hj, by rw [hxi]; exact isR_n hi⟩
    refine lv_astore (lv' := [(6, .ref (y i)), (5, .ref (y j)), (0, .ref h), (1, .int x), (2, .int f), (3, .int a), (4, .int k)]) hx hb d_D_copy_12 hl (by decide) rfl (fun ls hl => ?_)
    refine lv_aload hx hb d_D_copy_14 (lv_at hl 0 rfl) ?_
    refine lv_iload_n hx hb d_D_copy_16 rfl (lv_at hl 5 rfl) ?_
    refine lv_iload hx hb d_D_copy_17 (lv_at hl 6 rfl) ?_
    have hPc := hP.sub (ws' := [((y i), .inr (1, [.ref (b i), .int (nI n2), .int (nI p2)])), ((b i), .inl (cB, M, .inl (fun j => sb_b (C j))))]) [2, 3] rfl
    have hKc := hK.sub (tys' := [(cB, .byte)]) [0] rfl
    refine tx_sv (tx_runS (As := [.ref (y i), .int a, .int k]) (rest := []) ⟨hx, hb, hml, hown, hA⟩ (c_D_needRange l hL0 D cB (y i) (b i) M C n2 p2 hn2 hM a k) (q_D_needRange hA k1_234 rfl rfl ⟨(Nat.le_of_ble_eq_true rfl), (Nat.le_of_ble_eq_true rfl)⟩) (oxg_S hPc hKc hG (fun _ _ => rfl)) rfl rfl hl.1 rfl (lv_room (Nat.le_of_ble_eq_true rfl)) d_D_copy_19 ⟨(Nat.le_of_ble_eq_true rfl), (Nat.le_of_ble_eq_true rfl)⟩) (fun x9 E9 H9 ht9 hE9 => tx_prop hlocks hce hE9 (Nat.le_refl _) (fun _ _ => rfl) (Or.inr (Or.inl (⟨ht9.1, by unfold spCopy; simp only [hrj, hri, hρ, hρ2]; rw [if_neg (fun h8 => h8 hir), if_pos ht9.2]⟩))) (fun q h => by cases h)) (fun hr19 => ?_)
    have hin : inr n2 a k := hr19
    obtain ⟨a1, ha10, rfl⟩ := nI_of (show ¬ a < 0 by rw [Int32.lt_iff_toInt_lt, li_0]; omega)
    have ha1i : (nI a1).toInt = (a1 : Int) := nI_toInt ha10
    have ha1n : (nI a1).toInt.toNat = a1 := by rw [ha1i]; rfl
    obtain ⟨k1, hk10, rfl⟩ := nI_of (show ¬ k < 0 by rw [Int32.lt_iff_toInt_lt, li_0]; omega)
    have hk1i : (nI k1).toInt = (k1 : Int) := nI_toInt hk10
    have hk1n : (nI k1).toInt.toNat = k1 := by rw [hk1i]; rfl
    refine lv_aload hx hb d_D_copy_22 (lv_at hl 1 rfl) ?_
    refine lv_iload hx hb d_D_copy_24 (lv_at hl 6 rfl) ?_
    have hPc := hP.sub (ws' := [((y j), .inr (1, [.ref (b j), .int (nI n), .int (nI p)])), ((b j), .inl (cB, M, .inl (fun j => sb_b (B j))))]) [0, 1] rfl
    have hKc := hK.sub (tys' := [(cB, .byte)]) [0] rfl
    refine tx_sv (tx_runS (As := [.ref (y j), .int (nI k1)]) (rest := []) ⟨hx, hb, hml, hown, hA⟩ (c_D_needRoom l hL0 D cB (y j) (b j) M B n p hn hM k1 (by omega)) (q_D_needRoom hA k1_158 rfl rfl ⟨(Nat.le_of_ble_eq_true rfl), (Nat.le_of_ble_eq_true rfl)⟩) (oxg_S hPc hKc hG (fun _ _ => rfl)) rfl rfl hl.1 rfl (lv_room (Nat.le_of_ble_eq_true rfl)) d_D_copy_26 ⟨(Nat.le_of_ble_eq_true rfl), (Nat.le_of_ble_eq_true rfl)⟩) (fun x9 E9 H9 ht9 hE9 => tx_prop hlocks hce hE9 (Nat.le_refl _) (fun _ _ => rfl) (Or.inr (Or.inr (⟨ht9.1, by unfold spCopy; simp only [hrj, hri, hρ, hρ2]; rw [if_neg (fun h8 => h8 hir), if_neg (fun h8 => h8 hin), hk1n, if_pos ht9.2]⟩))) (fun q h => by cases h)) (fun hr26 => ?_)
    refine lv_aload hx hb d_D_copy_29 (lv_at hl 1 rfl) ?_
    refine lv_aload hx hb d_D_copy_31 (lv_at hl 0 rfl) ?_
    refine lv_iload_n hx hb d_D_copy_33 rfl (lv_at hl 5 rfl) ?_
    refine lv_iload hx hb d_D_copy_34 (lv_at hl 6 rfl) ?_
    have hPc := hP.sub (ws' := [((y j), .inr (1, [.ref (b j), .int (nI n), .int (nI p)])), ((b j), .inl (cB, M, .inl (fun j => sb_b (B j)))), ((y i), .inr (1, [.ref (b i), .int (nI n2), .int (nI p2)])), ((b i), .inl (cB, M, .inl (fun j => sb_b (C j))))]) [0, 1, 2, 3] rfl
    have hDc := hD.sub (ws' := [((y j), .inr (1, [.ref (b j), .int (nI n), .int (nI p)])), ((b j), .inl (cB, M, .inl (fun j => sb_b (B j)))), ((y i), .inr (1, [.ref (b i), .int (nI n2), .int (nI p2)])), ((b i), .inl (cB, M, .inl (fun j => sb_b (C j))))]) [0, 1, 2, 3] (by decide) rfl
    have hKc := hK.sub (tys' := [(cB, .byte)]) [0] rfl
    have hFc := va_free (wc := [((y j), .inr (1, [.ref (b j), .int (nI n), .int (nI p)])), ((b j), .inl (cB, M, .inl (fun j => sb_b (B j)))), ((y i), .inr (1, [.ref (b i), .int (nI n2), .int (nI p2)])), ((b i), .inl (cB, M, .inl (fun j => sb_b (C j))))]) hD hS hAq [0, 1, 2, 3] rfl
    refine va_callv (va_runS (As := [.ref (y j), .ref (y i), .int (nI a1), .int (nI k1)]) (rest := []) ⟨hx, hb, hml, hown, hA⟩ (c_D_addBytes2 l D cB (y j) (b j) (y i) (b i) M B C n p n2 p2 s.heap.size a1 k1 hr26 (by omega) hM) (q_D_addBytes hA k1_238 rfl rfl ⟨(Nat.le_of_ble_eq_true rfl), (Nat.le_of_ble_eq_true rfl)⟩) (oxw_S hPc hKc hDc) rfl rfl hl.1 rfl (lv_room (Nat.le_of_ble_eq_true rfl)) d_D_copy_36 ⟨(Nat.le_of_ble_eq_true rfl), (Nat.le_of_ble_eq_true rfl)⟩) hS (fun q _ h => hFc q h) hFc (fun u9 t9 H1 locs ht9 hvm9 hw9 hB9 hz1 hk1 hS => ?_)
    obtain ⟨hP1, hK1, hD1⟩ := hB9
    rw [ht9] at hP1
    obtain ⟨hP, hD⟩ := va_join (wr := [c4_, c5_, c6_, c7_, c8_, c9_]) (w1 := [((y j), .inr (1, [.ref (b j), .int (nI (n + k1)), .int (nI p)])), ((b j), .inl (cB, M, .inl (fun j => sb_b ((wr B n k1 (fun i9 => C (a1 + i9))) j)))), ((y i), .inr (1, [.ref (b i), .int (nI n2), .int (nI p2)])), ((b i), .inl (cB, M, .inl (fun j => sb_b (C j))))]) hP hD [0, 1, 2, 3] [4, 5, 6, 7, 8, 9] rfl rfl (by decide) (by decide) hk1 hFc hP1 hD1
    generalize H1 = H at hP hS ⊢
    have hP : va_P D vCl [((y j), .inr (1, [.ref (b j), .int (nI (n + k1)), .int (nI p)])), ((b j), .inl (cB, M, .inl (fun j => sb_b ((wr B n k1 (fun i9 => C (a1 + i9))) j)))), ((y i), .inr (1, [.ref (b i), .int (nI n2), .int (nI p2)])), ((b i), .inl (cB, M, .inl (fun j => sb_b (C j)))), c4_, c5_, c6_, c7_, c8_, c9_] H := hP.sub [6, 7, 8, 9, 0, 1, 2, 3, 4, 5] rfl
    have hD : va_D A [((y j), .inr (1, [.ref (b j), .int (nI (n + k1)), .int (nI p)])), ((b j), .inl (cB, M, .inl (fun j => sb_b ((wr B n k1 (fun i9 => C (a1 + i9))) j)))), ((y i), .inr (1, [.ref (b i), .int (nI n2), .int (nI p2)])), ((b i), .inl (cB, M, .inl (fun j => sb_b (C j)))), c4_, c5_, c6_, c7_, c8_, c9_] := hD.sub [6, 7, 8, 9, 0, 1, 2, 3, 4, 5] (by decide) rfl
    refine lv_aload hx hb d_D_copy_39 (lv_at hl 1 rfl) ?_
    refine va_get (D := D) (ci := 1) (v := .int (nI (n + k1))) (C := R_R) (T := F_R) (N := 3) hx hb hA i_R hown hK hP 0 rfl rfl 1 (by decide) (hA _ k1_38) (fun _ h9 => h9) rfl d_D_copy_41 ?_
    exact tx_ret (W.iret (v := nI (n + k1)) hx hb hr (fun t ht hW => Or.inl ⟨_, rfl, ⟨⟨_, va_up (va_up σ j (wr B n k1 (fun i9 => C (a1 + i9)), n + k1, p)) i (C, n2, p2), rfl, (by rw [va_up2 hji hρ2]; unfold spCopy; simp only [hrj, hri, hρ, hρ2]; rw [if_neg (fun h8 => h8 hir), if_neg (fun h8 => h8 hin), hk1n, ha1n, if_neg (Nat.not_lt.mpr hr26)]), by rw [ht]; exact ho1 (wr B n k1 (fun i9 => C (a1 + i9)), n + k1, p) (C, n2, p2) _ hP, va_K.moved hW.alike hK, ho2 (wr B n k1 (fun i9 => C (a1 + i9)), n + k1, p) (C, n2, p2) _ hD⟩, hS.F ht⟩⟩) hS.2.2 d_D_copy_44)
set_option maxHeartbeats 600000 in
set_option maxRecDepth 100000 in
/-- block -/
theorem c_D_block (l : Launch) (hL0 : l.stackTraces = false) (D : va_G) (cR cB : ClassId) (h ra : Nat) (g : Nat → Option Nat) (M : Nat) (y b : Nat → Nat) (σ : dkS) (sz : Nat) (x f : Int32) (hg : ∀ i, i < 4 → g i = some (y i)) (hσ : dkok M σ) : tx_Met l y_D_block w_D_block ({ frames := 7, cells := 1, slots := 6, locals := 111 }) (va_Pc [.ref h, .int x, .int f] (oxv sz D [(cB, .byte), (cR, .object "PacketDesk$Row")] [(h, .inr (0, [.ref ra])), (ra, .inl (cR, 4, .inr (.inr (.inr (.inr g))))), ((y 0), .inr (1, [.ref (b 0), .int (nI (σ 0).2.1), .int (nI (σ 0).2.2)])), ((b 0), .inl (cB, M, .inl (fun j => sb_b ((σ 0).1 j)))), ((y 1), .inr (1, [.ref (b 1), .int (nI (σ 1).2.1), .int (nI (σ 1).2.2)])), ((b 1), .inl (cB, M, .inl (fun j => sb_b ((σ 1).1 j)))), ((y 2), .inr (1, [.ref (b 2), .int (nI (σ 2).2.1), .int (nI (σ 2).2.2)])), ((b 2), .inl (cB, M, .inl (fun j => sb_b ((σ 2).1 j)))), ((y 3), .inr (1, [.ref (b 3), .int (nI (σ 3).2.1), .int (nI (σ 3).2.2)])), ((b 3), .inl (cB, M, .inl (fun j => sb_b ((σ 3).1 j))))])) (tx_Q (fun E => (E = X_IOOBE ∧ (spBlock M σ x f).1 = 1) ∨ (E = X_ISE ∧ (spBlock M σ x f).1 = 2)) (va_Qi (fun r (τ : dkS) => spBlock M σ x f = (0, r, τ)) (fun τ => ow D [(cB, .byte), (cR, .object "PacketDesk$Row")] (va_A [(h, .inr (0, [.ref ra])), (ra, .inl (cR, 4, .inr (.inr (.inr (.inr g))))), ((y 0), .inr (1, [.ref (b 0), .int (nI (σ 0).2.1), .int (nI (σ 0).2.2)])), ((b 0), .inl (cB, M, .inl (fun j => sb_b ((σ 0).1 j)))), ((y 1), .inr (1, [.ref (b 1), .int (nI (σ 1).2.1), .int (nI (σ 1).2.2)])), ((b 1), .inl (cB, M, .inl (fun j => sb_b ((σ 1).1 j)))), ((y 2), .inr (1, [.ref (b 2), .int (nI (σ 2).2.1), .int (nI (σ 2).2.2)])), ((b 2), .inl (cB, M, .inl (fun j => sb_b ((σ 2).1 j)))), ((y 3), .inr (1, [.ref (b 3), .int (nI (σ 3).2.1), .int (nI (σ 3).2.2)])), ((b 3), .inl (cB, M, .inl (fun j => sb_b ((σ 3).1 j))))] sz) (dk cR cB h ra g M y b τ)) (va_A [(h, .inr (0, [.ref ra])), (ra, .inl (cR, 4, .inr (.inr (.inr (.inr g))))), ((y 0), .inr (1, [.ref (b 0), .int (nI (σ 0).2.1), .int (nI (σ 0).2.2)])), ((b 0), .inl (cB, M, .inl (fun j => sb_b ((σ 0).1 j)))), ((y 1), .inr (1, [.ref (b 1), .int (nI (σ 1).2.1), .int (nI (σ 1).2.2)])), ((b 1), .inl (cB, M, .inl (fun j => sb_b ((σ 1).1 j)))), ((y 2), .inr (1, [.ref (b 2), .int (nI (σ 2).2.1), .int (nI (σ 2).2.2)])), ((b 2), .inl (cB, M, .inl (fun j => sb_b ((σ 2).1 j)))), ((y 3), .inr (1, [.ref (b 3), .int (nI (σ 3).2.1), .int (nI (σ 3).2.2)])), ((b 3), .inl (cB, M, .inl (fun j => sb_b ((σ 3).1 j))))] sz))) 0 0 (va_A [(h, .inr (0, [.ref ra])), (ra, .inl (cR, 4, .inr (.inr (.inr (.inr g))))), ((y 0), .inr (1, [.ref (b 0), .int (nI (σ 0).2.1), .int (nI (σ 0).2.2)])), ((b 0), .inl (cB, M, .inl (fun j => sb_b ((σ 0).1 j)))), ((y 1), .inr (1, [.ref (b 1), .int (nI (σ 1).2.1), .int (nI (σ 1).2.2)])), ((b 1), .inl (cB, M, .inl (fun j => sb_b ((σ 1).1 j)))), ((y 2), .inr (1, [.ref (b 2), .int (nI (σ 2).2.1), .int (nI (σ 2).2.2)])), ((b 2), .inl (cB, M, .inl (fun j => sb_b ((σ 2).1 j)))), ((y 3), .inr (1, [.ref (b 3), .int (nI (σ 3).2.1), .int (nI (σ 3).2.2)])), ((b 3), .inl (cB, M, .inl (fun j => sb_b ((σ 3).1 j))))] sz) := by
  refine tx_ofW (cc := b_D_block) (maxL := 7) (ret := (some .int)) (by decide) rfl ?_
  intro p9 e9 s m args below meth c9 s₁ BL hml hce hadm hv
  obtain ⟨rfl, hsz, hP, hK, hD0, hG⟩ := hv
  have hx := BL.exec
  have hb := BL.bytes
  have hr := BL.returns
  have hts := atoms_spec (ws := w_D_block) BL.pre
  have hA : ∀ w ∈ wsA, w.before _ s = true := fun w h => hts w (List.mem_cons_of_mem _ h)
  have hown : s.vm.findClass R_D = some m.cls := findClass_of_methodNamed BL.named
  have hlocks := BL.notSynchronized
  have htr : e9.platform.stackTraces = false := by rw [hadm.platform]; exact hL0
  subst hsz
  have hD := hD0.self (sz := s.heap.size)
  generalize hAe : va_A [(h, .inr (0, [.ref ra])), (ra, .inl (cR, 4, .inr (.inr (.inr (.inr g))))), ((y 0), .inr (1, [.ref (b 0), .int (nI (σ 0).2.1), .int (nI (σ 0).2.2)])), ((b 0), .inl (cB, M, .inl (fun j => sb_b ((σ 0).1 j)))), ((y 1), .inr (1, [.ref (b 1), .int (nI (σ 1).2.1), .int (nI (σ 1).2.2)])), ((b 1), .inl (cB, M, .inl (fun j => sb_b ((σ 1).1 j)))), ((y 2), .inr (1, [.ref (b 2), .int (nI (σ 2).2.1), .int (nI (σ 2).2.2)])), ((b 2), .inl (cB, M, .inl (fun j => sb_b ((σ 2).1 j)))), ((y 3), .inr (1, [.ref (b 3), .int (nI (σ 3).2.1), .int (nI (σ 3).2.2)])), ((b 3), .inl (cB, M, .inl (fun j => sb_b ((σ 3).1 j))))] s.heap.size = A at hD ⊢
  have hAq : ∀ q : Nat, s.heap.size ≤ q → A q := fun q h => by rw [← hAe]; exact Or.inr h
  have hS : va_S A s.heap s.heap [] := va_S.rf
  have hP : va_P D vCl [(h, .inr (0, [.ref ra])), (ra, .inl (cR, 4, .inr (.inr (.inr (.inr g))))), ((y 0), .inr (1, [.ref (b 0), .int (nI (σ 0).2.1), .int (nI (σ 0).2.2)])), ((b 0), .inl (cB, M, .inl (fun j => sb_b ((σ 0).1 j)))), ((y 1), .inr (1, [.ref (b 1), .int (nI (σ 1).2.1), .int (nI (σ 1).2.2)])), ((b 1), .inl (cB, M, .inl (fun j => sb_b ((σ 1).1 j)))), ((y 2), .inr (1, [.ref (b 2), .int (nI (σ 2).2.1), .int (nI (σ 2).2.2)])), ((b 2), .inl (cB, M, .inl (fun j => sb_b ((σ 2).1 j)))), ((y 3), .inr (1, [.ref (b 3), .int (nI (σ 3).2.1), .int (nI (σ 3).2.2)])), ((b 3), .inl (cB, M, .inl (fun j => sb_b ((σ 3).1 j))))] s.heap := hP
  have hl := lv_entry ([.ref h, .int x, .int f]) (n := 7) (Nat.le_of_ble_eq_true rfl)
  rw [lg_entry_eq]
  generalize (lg_sl ([.ref h, .int x, .int f]) ++ List.replicate (7 - (lg_sl ([.ref h, .int x, .int f])).length) Slot.unset).toArray = ls at hl ⊢
  have hl : lv_has ls 7 [(0, .ref h), (1, .int x), (2, .int f)] := hl
  refine lv_aload_n hx hb d_D_block_0 rfl (lv_at hl 0 rfl) ?_
  refine lv_iload_n hx hb d_D_block_1 rfl (lv_at hl 1 rfl) ?_
  have hPc := hP.sub (ws' := [(h, .inr (0, [.ref ra])), (ra, .inl (cR, 4, .inr (.inr (.inr (.inr g)))))]) [0, 1] rfl
  have hKc := hK.sub (tys' := [(cR, .object "PacketDesk$Row")]) [1] rfl
  refine tx_sr (tx_runV (As := [.int x]) (rest := []) ⟨hx, hb, hml, hown, hA⟩ (c_D_rowOf l hL0 D cR h ra g y hg x) (q_D_rowOf hA k1_66 rfl rfl ⟨(Nat.le_of_ble_eq_true rfl), (Nat.le_of_ble_eq_true rfl)⟩) (ox_V (va_recv hKc hPc (ci := 0) (q0 := 0) rfl rfl) (oxg_S hPc hKc hG (fun _ _ => rfl))) rfl rfl hl.1 rfl (lv_room (Nat.le_of_ble_eq_true rfl)) d_D_block_2 ⟨(Nat.le_of_ble_eq_true rfl), (Nat.le_of_ble_eq_true rfl)⟩) (fun x9 E9 H9 ht9 hE9 => tx_prop hlocks hce hE9 (Nat.le_refl _) (fun _ _ => rfl) (Or.inl (⟨ht9.1, by unfold spBlock; rw [if_pos (fun h9 => ht9.2 h9.1)]⟩)) (fun q h => by cases h)) (fun j hj => ?_)
  obtain ⟨hj, hxj⟩ := hj
  refine lv_astore_n (lv' := [(3, .ref (y j)), (0, .ref h), (1, .int x), (2, .int f)]) hx hb d_D_block_5 rfl hl (by decide) rfl (fun ls hl => ?_)
  refine lv_aload_n hx hb d_D_block_6 rfl (lv_at hl 1 rfl) ?_
  refine lv_iload_n hx hb d_D_block_7 rfl (lv_at hl 3 rfl) ?_
  have hPc := hP.sub (ws' := [(h, .inr (0, [.ref ra])), (ra, .inl (cR, 4, .inr (.inr (.inr (.inr g)))))]) [0, 1] rfl
  have hKc := hK.sub (tys' := [(cR, .object "PacketDesk$Row")]) [1] rfl
  refine tx_sr (tx_runV (As := [.int f]) (rest := []) ⟨hx, hb, hml, hown, hA⟩ (c_D_rowOf l hL0 D cR h ra g y hg f) (q_D_rowOf hA k1_66 rfl rfl ⟨(Nat.le_of_ble_eq_true rfl), (Nat.le_of_ble_eq_true rfl)⟩) (ox_V (va_recv hKc hPc (ci := 0) (q0 := 0) rfl rfl) (oxg_S hPc hKc hG (fun _ _ => rfl))) rfl rfl hl.1 rfl (lv_room (Nat.le_of_ble_eq_true rfl)) d_D_block_8 ⟨(Nat.le_of_ble_eq_true rfl), (Nat.le_of_ble_eq_true rfl)⟩) (fun x9 E9 H9 ht9 hE9 => tx_prop hlocks hce hE9 (Nat.le_refl _) (fun _ _ => rfl) (Or.inl (⟨ht9.1, by unfold spBlock; rw [if_pos (fun h9 => ht9.2 h9.2)]⟩)) (fun q h => by cases h)) (fun i hi => ?_)
  obtain ⟨hi, hxi⟩ := hi
  by_cases hji : j = i
  · subst hji
    obtain ⟨c2_, c3_, c4_, c5_, c6_, c7_, c8_, c9_, hi1, hi2, ho1, ho2⟩ := dk_1 D vCl cR cB h ra g M y b σ hj
    have hP : va_P D vCl [(y j, .inr (1, [.ref (b j), .int (nI (σ j).2.1), .int (nI (σ j).2.2)])), (b j, .inl (cB, M, .inl (fun j9 => sb_b ((σ j).1 j9)))), c2_, c3_, c4_, c5_, c6_, c7_, c8_, c9_] s.heap := hi1 _ hP
    have hD : va_D A [(y j, .inr (1, [.ref (b j), .int (nI (σ j).2.1), .int (nI (σ j).2.2)])), (b j, .inl (cB, M, .inl (fun j9 => sb_b ((σ j).1 j9)))), c2_, c3_, c4_, c5_, c6_, c7_, c8_, c9_] := hi2 _ hD
    obtain ⟨⟨B, n, p⟩, hρ⟩ : ∃ ρ, σ j = ρ := ⟨_, rfl⟩
    have hk := hσ.2 j hj
    have hM := hσ.1
    rw [hρ] at hP hk hD
    obtain ⟨hp, hn, hB⟩ := hk
    have hp : p ≤ n := hp
    have hn : n ≤ M := hn
    have hB : ∀ j, B j < 256 := hB
    have hP : va_P D vCl [((y j), .inr (1, [.ref (b j), .int (nI n), .int (nI p)])), ((b j), .inl (cB, M, .inl (fun j => sb_b (B j)))), c2_, c3_, c4_, c5_, c6_, c7_, c8_, c9_] s.heap := hP
    have hD : va_D A [((y j), .inr (1, [.ref (b j), .int (nI n), .int (nI p)])), ((b j), .inl (cB, M, .inl (fun j => sb_b (B j)))), c2_, c3_, c4_, c5_, c6_, c7_, c8_, c9_] := hD
    have hrj : rj x = j := by rw [hxj]; exact rj_n hj
    have hir : isR x := by rw [hxj]; exact isR_n hj
    have hri : rj f = j := by rw [hxi]; exact rj_n hj
    have hir : isR x ∧ isR f := ⟨hir, by rw [hxi]; exact isR_n hj⟩
    have hρ2 := hρ
    refine lv_astore (lv' := [(4, .ref (y j)), (3, .ref (y j)), (0, .ref h), (1, .int x), (2, .int f)]) hx hb d_D_block_11 hl (by decide) rfl (fun ls hl => ?_)
    refine lv_aload hx hb d_D_block_13 (lv_at hl 0 rfl) ?_
    refine va_get (D := D) (ci := 1) (v := .int (nI n)) (C := R_R) (T := F_R) (N := 3) hx hb hA i_R hown hK hP 0 rfl rfl 1 (by decide) (hA _ k1_38) (fun _ h9 => h9) rfl d_D_block_15 ?_
    refine lv_istore (lv' := [(5, .int (nI n)), (4, .ref (y j)), (3, .ref (y j)), (0, .ref h), (1, .int x), (2, .int f)]) hx hb d_D_block_18 hl (by decide) rfl (fun ls hl => ?_)
    refine lv_iload hx hb d_D_block_20 (lv_at hl 0 rfl) ?_
    refine lv_i2l hx hb d_D_block_22 rfl ?_
    refine lv_topl (fun v22 ev22 => ?_)
    have ev22 : v22 = lN n := by rw [ev22]; exact nI_l (by omega)
    subst ev22
    refine vp_callSi (W.runS (As := [.long (lN n)]) (rest := []) ⟨hx, hb, hml, hown, hA⟩ (c_D_sevensWidth l n (by omega)) (q_D_sevensWidth hA k1_194 rfl rfl ⟨(Nat.le_of_ble_eq_true rfl), (Nat.le_of_ble_eq_true rfl)⟩) (⟨fun a U g mk q => q, fun U hU hW => ⟨rfl, trivial⟩⟩) rfl rfl hl.1 rfl (lv_room (Nat.le_of_ble_eq_true rfl)) d_D_block_23 ⟨(Nat.le_of_ble_eq_true rfl), (Nat.le_of_ble_eq_true rfl)⟩) (fun r23 hr23 => ?_)
    have er23 : r23 = nI (sw n) := hr23
    subst er23
    have hsw := sw_in n
    refine lv_iload hx hb d_D_block_26 (lv_at hl 0 rfl) ?_
    refine lv_iadd hx hb d_D_block_28 ?_
    refine lv_topi (fun v28 ev28 => ?_)
    have ev28 : v28 = nI (sw n + n) := by rw [ev28]; exact nI_add _ _
    subst ev28
    refine lv_istore (lv' := [(6, .int (nI (sw n + n))), (5, .int (nI n)), (4, .ref (y j)), (3, .ref (y j)), (0, .ref h), (1, .int x), (2, .int f)]) hx hb d_D_block_29 hl (by decide) rfl (fun ls hl => ?_)
    refine lv_aload_n hx hb d_D_block_31 rfl (lv_at hl 3 rfl) ?_
    refine lv_iload hx hb d_D_block_32 (lv_at hl 0 rfl) ?_
    have hPc := hP.sub (ws' := [((y j), .inr (1, [.ref (b j), .int (nI n), .int (nI p)])), ((b j), .inl (cB, M, .inl (fun j => sb_b (B j))))]) [0, 1] rfl
    have hKc := hK.sub (tys' := [(cB, .byte)]) [0] rfl
    refine tx_sv (tx_runS (As := [.ref (y j), .int (nI (sw n + n))]) (rest := []) ⟨hx, hb, hml, hown, hA⟩ (c_D_needRoom l hL0 D cB (y j) (b j) M B n p hn hM (sw n + n) (by omega)) (q_D_needRoom hA k1_158 rfl rfl ⟨(Nat.le_of_ble_eq_true rfl), (Nat.le_of_ble_eq_true rfl)⟩) (oxg_S hPc hKc hG (fun _ _ => rfl)) rfl rfl hl.1 rfl (lv_room (Nat.le_of_ble_eq_true rfl)) d_D_block_34 ⟨(Nat.le_of_ble_eq_true rfl), (Nat.le_of_ble_eq_true rfl)⟩) (fun x9 E9 H9 ht9 hE9 => tx_prop hlocks hce hE9 (Nat.le_refl _) (fun _ _ => rfl) (Or.inr (⟨ht9.1, by unfold spBlock; simp only [hrj, hri, hρ, hρ2]; rw [if_neg (fun h8 => h8 hir), if_pos ht9.2]⟩)) (fun q h => by cases h)) (fun hrr => ?_)
    refine lv_aload_n hx hb d_D_block_37 rfl (lv_at hl 3 rfl) ?_
    refine lv_iload hx hb d_D_block_38 (lv_at hl 1 rfl) ?_
    refine lv_i2l hx hb d_D_block_40 rfl ?_
    refine lv_topl (fun v40 ev40 => ?_)
    have ev40 : v40 = lN n := by rw [ev40]; exact nI_l (by omega)
    subst ev40
    have hPc := hP.sub (ws' := [((y j), .inr (1, [.ref (b j), .int (nI n), .int (nI p)])), ((b j), .inl (cB, M, .inl (fun j => sb_b (B j))))]) [0, 1] rfl
    have hDc := hD.sub (ws' := [((y j), .inr (1, [.ref (b j), .int (nI n), .int (nI p)])), ((b j), .inl (cB, M, .inl (fun j => sb_b (B j))))]) [0, 1] (by decide) rfl
    have hKc := hK.sub (tys' := [(cB, .byte)]) [0] rfl
    have hFc := va_free (wc := [((y j), .inr (1, [.ref (b j), .int (nI n), .int (nI p)])), ((b j), .inl (cB, M, .inl (fun j => sb_b (B j))))]) hD hS hAq [0, 1] rfl
    refine va_callv (va_runS (As := [.ref (y j), .long (lN n)]) (rest := []) ⟨hx, hb, hml, hown, hA⟩ (c_D_addSevens l D cB (y j) (b j) M B n p s.heap.size n (by omega) (by omega) hM) (q_D_addSevens hA k1_197 rfl rfl ⟨(Nat.le_of_ble_eq_true rfl), (Nat.le_of_ble_eq_true rfl)⟩) (oxw_S hPc hKc hDc) rfl rfl hl.1 rfl (lv_room (Nat.le_of_ble_eq_true rfl)) d_D_block_41 ⟨(Nat.le_of_ble_eq_true rfl), (Nat.le_of_ble_eq_true rfl)⟩) hS (fun q _ h => hFc q h) hFc (fun u9 t9 H1 locs ht9 hvm9 hw9 hB9 hz1 hk1 hS => ?_)
    obtain ⟨hP1, hK1, hD1⟩ := hB9
    rw [ht9] at hP1
    obtain ⟨hP, hD⟩ := va_join (wr := [c2_, c3_, c4_, c5_, c6_, c7_, c8_, c9_]) (w1 := [((y j), .inr (1, [.ref (b j), .int (nI (n + sw n)), .int (nI p)])), ((b j), .inl (cB, M, .inl (fun j => sb_b ((wr B n (sw n) (sv n)) j))))]) hP hD [0, 1] [2, 3, 4, 5, 6, 7, 8, 9] rfl rfl (by decide) (by decide) hk1 hFc hP1 hD1
    generalize H1 = H at hP hS ⊢
    have hP : va_P D vCl [((y j), .inr (1, [.ref (b j), .int (nI (n + sw n)), .int (nI p)])), ((b j), .inl (cB, M, .inl (fun j => sb_b ((wr B n (sw n) (sv n)) j)))), c2_, c3_, c4_, c5_, c6_, c7_, c8_, c9_] H := hP.sub [8, 9, 0, 1, 2, 3, 4, 5, 6, 7] rfl
    have hD : va_D A [((y j), .inr (1, [.ref (b j), .int (nI (n + sw n)), .int (nI p)])), ((b j), .inl (cB, M, .inl (fun j => sb_b ((wr B n (sw n) (sv n)) j)))), c2_, c3_, c4_, c5_, c6_, c7_, c8_, c9_] := hD.sub [8, 9, 0, 1, 2, 3, 4, 5, 6, 7] (by decide) rfl
    refine lv_aload_n hx hb d_D_block_44 rfl (lv_at hl 3 rfl) ?_
    refine lv_aload hx hb d_D_block_45 (lv_at hl 2 rfl) ?_
    refine lv_iconst (v := 0) hx hb d_D_block_47 (by decide) ?_
    refine lv_topi (fun v47 ev47 => ?_)
    have ev47 : v47 = nI 0 := by rw [ev47]; rfl
    subst ev47
    refine lv_iload hx hb d_D_block_48 (lv_at hl 1 rfl) ?_
    have hPc := hP.sub (ws' := [((y j), .inr (1, [.ref (b j), .int (nI (n + sw n)), .int (nI p)])), ((b j), .inl (cB, M, .inl (fun j => sb_b ((wr B n (sw n) (sv n)) j))))]) [0, 1] rfl
    have hDc := hD.sub (ws' := [((y j), .inr (1, [.ref (b j), .int (nI (n + sw n)), .int (nI p)])), ((b j), .inl (cB, M, .inl (fun j => sb_b ((wr B n (sw n) (sv n)) j))))]) [0, 1] (by decide) rfl
    have hKc := hK.sub (tys' := [(cB, .byte)]) [0] rfl
    have hFc := va_free (wc := [((y j), .inr (1, [.ref (b j), .int (nI (n + sw n)), .int (nI p)])), ((b j), .inl (cB, M, .inl (fun j => sb_b ((wr B n (sw n) (sv n)) j))))]) hD hS hAq [0, 1] rfl
    refine va_callv (va_runS (As := [.ref (y j), .ref (y j), .int (nI 0), .int (nI n)]) (rest := []) ⟨hx, hb, hml, hown, hA⟩ (c_D_addBytes1 l D cB (y j) (b j) M (wr B n (sw n) (sv n)) (n + sw n) p H.size 0 n (by omega) (by omega) hM) (q_D_addBytes hA k1_238 rfl rfl ⟨(Nat.le_of_ble_eq_true rfl), (Nat.le_of_ble_eq_true rfl)⟩) (oxw_S hPc hKc hDc) rfl rfl hl.1 rfl (lv_room (Nat.le_of_ble_eq_true rfl)) d_D_block_50 ⟨(Nat.le_of_ble_eq_true rfl), (Nat.le_of_ble_eq_true rfl)⟩) hS (fun q _ h => hFc q h) hFc (fun u9 t9 H1 locs ht9 hvm9 hw9 hB9 hz1 hk1 hS => ?_)
    obtain ⟨hP1, hK1, hD1⟩ := hB9
    rw [ht9] at hP1
    obtain ⟨hP, hD⟩ := va_join (wr := [c2_, c3_, c4_, c5_, c6_, c7_, c8_, c9_]) (w1 := [((y j), .inr (1, [.ref (b j), .int (nI (n + sw n + n)), .int (nI p)])), ((b j), .inl (cB, M, .inl (fun j => sb_b ((wr (wr B n (sw n) (sv n)) (n + sw n) n (fun i9 => (wr B n (sw n) (sv n)) (0 + i9))) j))))]) hP hD [0, 1] [2, 3, 4, 5, 6, 7, 8, 9] rfl rfl (by decide) (by decide) hk1 hFc hP1 hD1
    generalize H1 = H at hP hS ⊢
    have hP : va_P D vCl [((y j), .inr (1, [.ref (b j), .int (nI (n + sw n + n)), .int (nI p)])), ((b j), .inl (cB, M, .inl (fun j => sb_b ((wr (wr B n (sw n) (sv n)) (n + sw n) n (fun i9 => (wr B n (sw n) (sv n)) (0 + i9))) j)))), c2_, c3_, c4_, c5_, c6_, c7_, c8_, c9_] H := hP.sub [8, 9, 0, 1, 2, 3, 4, 5, 6, 7] rfl
    have hD : va_D A [((y j), .inr (1, [.ref (b j), .int (nI (n + sw n + n)), .int (nI p)])), ((b j), .inl (cB, M, .inl (fun j => sb_b ((wr (wr B n (sw n) (sv n)) (n + sw n) n (fun i9 => (wr B n (sw n) (sv n)) (0 + i9))) j)))), c2_, c3_, c4_, c5_, c6_, c7_, c8_, c9_] := hD.sub [8, 9, 0, 1, 2, 3, 4, 5, 6, 7] (by decide) rfl
    have ew : wr (wr B n (sw n) (sv n)) (n + sw n) n (fun i9 => (wr B n (sw n) (sv n)) (0 + i9)) = wr (wr B n (sw n) (sv n)) (n + sw n) n B := wr_congr _ _ (fun i9 h9 => by rw [Nat.zero_add]; rw [wr_out (by omega)])
    rw [ew] at hP hD
    refine lv_iload hx hb d_D_block_53 (lv_at hl 0 rfl) ?_
    exact tx_ret (W.iret (v := nI (sw n + n)) hx hb hr (fun t ht hW => Or.inl ⟨_, rfl, ⟨⟨_, va_up σ j (wr (wr B n (sw n) (sv n)) (n + sw n) n B, n + sw n + n, p), rfl, (by unfold spBlock; simp only [hrj, hri, hρ, hρ2]; rw [if_neg (fun h8 => h8 hir), if_neg (Nat.not_lt.mpr hrr)]), by rw [ht]; exact ho1 (wr (wr B n (sw n) (sv n)) (n + sw n) n B, n + sw n + n, p) _ hP, va_K.moved hW.alike hK, ho2 (wr (wr B n (sw n) (sv n)) (n + sw n) n B, n + sw n + n, p) _ hD⟩, hS.F ht⟩⟩) hS.2.2 d_D_block_55)
  · obtain ⟨c4_, c5_, c6_, c7_, c8_, c9_, hi1, hi2, ho1, ho2⟩ := dk_2 D vCl cR cB h ra g M y b σ hj hi hji
    have hP : va_P D vCl [(y j, .inr (1, [.ref (b j), .int (nI (σ j).2.1), .int (nI (σ j).2.2)])), (b j, .inl (cB, M, .inl (fun j9 => sb_b ((σ j).1 j9)))), (y i, .inr (1, [.ref (b i), .int (nI (σ i).2.1), .int (nI (σ i).2.2)])), (b i, .inl (cB, M, .inl (fun j9 => sb_b ((σ i).1 j9)))), c4_, c5_, c6_, c7_, c8_, c9_] s.heap := hi1 _ hP
    have hD : va_D A [(y j, .inr (1, [.ref (b j), .int (nI (σ j).2.1), .int (nI (σ j).2.2)])), (b j, .inl (cB, M, .inl (fun j9 => sb_b ((σ j).1 j9)))), (y i, .inr (1, [.ref (b i), .int (nI (σ i).2.1), .int (nI (σ i).2.2)])), (b i, .inl (cB, M, .inl (fun j9 => sb_b ((σ i).1 j9)))), c4_, c5_, c6_, c7_, c8_, c9_] := hi2 _ hD
    obtain ⟨⟨B, n, p⟩, hρ⟩ : ∃ ρ, σ j = ρ := ⟨_, rfl⟩
    obtain ⟨⟨C, n2, p2⟩, hρ2⟩ : ∃ ρ, σ i = ρ := ⟨_, rfl⟩
    have hk := hσ.2 j hj
    have hk2 := hσ.2 i hi
    have hM := hσ.1
    rw [hρ] at hk
    rw [hρ2] at hk2
    rw [hρ, hρ2] at hP hD
    obtain ⟨hp, hn, hB⟩ := hk
    have hp : p ≤ n := hp
    have hn : n ≤ M := hn
    have hB : ∀ j, B j < 256 := hB
    obtain ⟨hp2, hn2, hB2⟩ := hk2
    have hp2 : p2 ≤ n2 := hp2
    have hn2 : n2 ≤ M := hn2
    have hB2 : ∀ j, C j < 256 := hB2
    have hP : va_P D vCl [((y j), .inr (1, [.ref (b j), .int (nI n), .int (nI p)])), ((b j), .inl (cB, M, .inl (fun j => sb_b (B j)))), ((y i), .inr (1, [.ref (b i), .int (nI n2), .int (nI p2)])), ((b i), .inl (cB, M, .inl (fun j => sb_b (C j)))), c4_, c5_, c6_, c7_, c8_, c9_] s.heap := hP
    have hD : va_D A [((y j), .inr (1, [.ref (b j), .int (nI n), .int (nI p)])), ((b j), .inl (cB, M, .inl (fun j => sb_b (B j)))), ((y i), .inr (1, [.ref (b i), .int (nI n2), .int (nI p2)])), ((b i), .inl (cB, M, .inl (fun j => sb_b (C j)))), c4_, c5_, c6_, c7_, c8_, c9_] := hD
    have hrj : rj x = j := by rw [hxj]; exact rj_n hj
    have hri : rj f = i := by rw [hxi]; exact rj_n hi
    have hir : isR x ∧ isR f := ⟨by rw [hxj]; exact isR_n hj, by rw [hxi]; exact isR_n hi⟩
    refine lv_astore (lv' := [(4, .ref (y i)), (3, .ref (y j)), (0, .ref h), (1, .int x), (2, .int f)]) hx hb d_D_block_11 hl (by decide) rfl (fun ls hl => ?_)
    refine lv_aload hx hb d_D_block_13 (lv_at hl 0 rfl) ?_
    refine va_get (D := D) (ci := 1) (v := .int (nI n2)) (C := R_R) (T := F_R) (N := 3) hx hb hA i_R hown hK hP 2 rfl rfl 1 (by decide) (hA _ k1_38) (fun _ h9 => h9) rfl d_D_block_15 ?_
    refine lv_istore (lv' := [(5, .int (nI n2)), (4, .ref (y i)), (3, .ref (y j)), (0, .ref h), (1, .int x), (2, .int f)]) hx hb d_D_block_18 hl (by decide) rfl (fun ls hl => ?_)
    refine lv_iload hx hb d_D_block_20 (lv_at hl 0 rfl) ?_
    refine lv_i2l hx hb d_D_block_22 rfl ?_
    refine lv_topl (fun v22 ev22 => ?_)
    have ev22 : v22 = lN n2 := by rw [ev22]; exact nI_l (by omega)
    subst ev22
    refine vp_callSi (W.runS (As := [.long (lN n2)]) (rest := []) ⟨hx, hb, hml, hown, hA⟩ (c_D_sevensWidth l n2 (by omega)) (q_D_sevensWidth hA k1_194 rfl rfl ⟨(Nat.le_of_ble_eq_true rfl), (Nat.le_of_ble_eq_true rfl)⟩) (⟨fun a U g mk q => q, fun U hU hW => ⟨rfl, trivial⟩⟩) rfl rfl hl.1 rfl (lv_room (Nat.le_of_ble_eq_true rfl)) d_D_block_23 ⟨(Nat.le_of_ble_eq_true rfl), (Nat.le_of_ble_eq_true rfl)⟩) (fun r23 hr23 => ?_)
    have er23 : r23 = nI (sw n2) := hr23
    subst er23
    have hsw := sw_in n2
    refine lv_iload hx hb d_D_block_26 (lv_at hl 0 rfl) ?_
    refine lv_iadd hx hb d_D_block_28 ?_
    refine lv_topi (fun v28 ev28 => ?_)
    have ev28 : v28 = nI (sw n2 + n2) := by rw [ev28]; exact nI_add _ _
    subst ev28
    refine lv_istore (lv' := [(6, .int (nI (sw n2 + n2))), (5, .int (nI n2)), (4, .ref (y i)), (3, .ref (y j)), (0, .ref h), (1, .int x), (2, .int f)]) hx hb d_D_block_29 hl (by decide) rfl (fun ls hl => ?_)
    refine lv_aload_n hx hb d_D_block_31 rfl (lv_at hl 3 rfl) ?_
    refine lv_iload hx hb d_D_block_32 (lv_at hl 0 rfl) ?_
    have hPc := hP.sub (ws' := [((y j), .inr (1, [.ref (b j), .int (nI n), .int (nI p)])), ((b j), .inl (cB, M, .inl (fun j => sb_b (B j))))]) [0, 1] rfl
    have hKc := hK.sub (tys' := [(cB, .byte)]) [0] rfl
    refine tx_sv (tx_runS (As := [.ref (y j), .int (nI (sw n2 + n2))]) (rest := []) ⟨hx, hb, hml, hown, hA⟩ (c_D_needRoom l hL0 D cB (y j) (b j) M B n p hn hM (sw n2 + n2) (by omega)) (q_D_needRoom hA k1_158 rfl rfl ⟨(Nat.le_of_ble_eq_true rfl), (Nat.le_of_ble_eq_true rfl)⟩) (oxg_S hPc hKc hG (fun _ _ => rfl)) rfl rfl hl.1 rfl (lv_room (Nat.le_of_ble_eq_true rfl)) d_D_block_34 ⟨(Nat.le_of_ble_eq_true rfl), (Nat.le_of_ble_eq_true rfl)⟩) (fun x9 E9 H9 ht9 hE9 => tx_prop hlocks hce hE9 (Nat.le_refl _) (fun _ _ => rfl) (Or.inr (⟨ht9.1, by unfold spBlock; simp only [hrj, hri, hρ, hρ2]; rw [if_neg (fun h8 => h8 hir), if_pos ht9.2]⟩)) (fun q h => by cases h)) (fun hrr => ?_)
    refine lv_aload_n hx hb d_D_block_37 rfl (lv_at hl 3 rfl) ?_
    refine lv_iload hx hb d_D_block_38 (lv_at hl 1 rfl) ?_
    refine lv_i2l hx hb d_D_block_40 rfl ?_
    refine lv_topl (fun v40 ev40 => ?_)
    have ev40 : v40 = lN n2 := by rw [ev40]; exact nI_l (by omega)
    subst ev40
    have hPc := hP.sub (ws' := [((y j), .inr (1, [.ref (b j), .int (nI n), .int (nI p)])), ((b j), .inl (cB, M, .inl (fun j => sb_b (B j))))]) [0, 1] rfl
    have hDc := hD.sub (ws' := [((y j), .inr (1, [.ref (b j), .int (nI n), .int (nI p)])), ((b j), .inl (cB, M, .inl (fun j => sb_b (B j))))]) [0, 1] (by decide) rfl
    have hKc := hK.sub (tys' := [(cB, .byte)]) [0] rfl
    have hFc := va_free (wc := [((y j), .inr (1, [.ref (b j), .int (nI n), .int (nI p)])), ((b j), .inl (cB, M, .inl (fun j => sb_b (B j))))]) hD hS hAq [0, 1] rfl
    refine va_callv (va_runS (As := [.ref (y j), .long (lN n2)]) (rest := []) ⟨hx, hb, hml, hown, hA⟩ (c_D_addSevens l D cB (y j) (b j) M B n p s.heap.size n2 (by omega) (by omega) hM) (q_D_addSevens hA k1_197 rfl rfl ⟨(Nat.le_of_ble_eq_true rfl), (Nat.le_of_ble_eq_true rfl)⟩) (oxw_S hPc hKc hDc) rfl rfl hl.1 rfl (lv_room (Nat.le_of_ble_eq_true rfl)) d_D_block_41 ⟨(Nat.le_of_ble_eq_true rfl), (Nat.le_of_ble_eq_true rfl)⟩) hS (fun q _ h => hFc q h) hFc (fun u9 t9 H1 locs ht9 hvm9 hw9 hB9 hz1 hk1 hS => ?_)
    obtain ⟨hP1, hK1, hD1⟩ := hB9
    rw [ht9] at hP1
    obtain ⟨hP, hD⟩ := va_join (wr := [((y i), .inr (1, [.ref (b i), .int (nI n2), .int (nI p2)])), ((b i), .inl (cB, M, .inl (fun j => sb_b (C j)))), c4_, c5_, c6_, c7_, c8_, c9_]) (w1 := [((y j), .inr (1, [.ref (b j), .int (nI (n + sw n2)), .int (nI p)])), ((b j), .inl (cB, M, .inl (fun j => sb_b ((wr B n (sw n2) (sv n2)) j))))]) hP hD [0, 1] [2, 3, 4, 5, 6, 7, 8, 9] rfl rfl (by decide) (by decide) hk1 hFc hP1 hD1
    generalize H1 = H at hP hS ⊢
    have hP : va_P D vCl [((y j), .inr (1, [.ref (b j), .int (nI (n + sw n2)), .int (nI p)])), ((b j), .inl (cB, M, .inl (fun j => sb_b ((wr B n (sw n2) (sv n2)) j)))), ((y i), .inr (1, [.ref (b i), .int (nI n2), .int (nI p2)])), ((b i), .inl (cB, M, .inl (fun j => sb_b (C j)))), c4_, c5_, c6_, c7_, c8_, c9_] H := hP.sub [8, 9, 0, 1, 2, 3, 4, 5, 6, 7] rfl
    have hD : va_D A [((y j), .inr (1, [.ref (b j), .int (nI (n + sw n2)), .int (nI p)])), ((b j), .inl (cB, M, .inl (fun j => sb_b ((wr B n (sw n2) (sv n2)) j)))), ((y i), .inr (1, [.ref (b i), .int (nI n2), .int (nI p2)])), ((b i), .inl (cB, M, .inl (fun j => sb_b (C j)))), c4_, c5_, c6_, c7_, c8_, c9_] := hD.sub [8, 9, 0, 1, 2, 3, 4, 5, 6, 7] (by decide) rfl
    refine lv_aload_n hx hb d_D_block_44 rfl (lv_at hl 3 rfl) ?_
    refine lv_aload hx hb d_D_block_45 (lv_at hl 2 rfl) ?_
    refine lv_iconst (v := 0) hx hb d_D_block_47 (by decide) ?_
    refine lv_topi (fun v47 ev47 => ?_)
    have ev47 : v47 = nI 0 := by rw [ev47]; rfl
    subst ev47
    refine lv_iload hx hb d_D_block_48 (lv_at hl 1 rfl) ?_
    have hPc := hP.sub (ws' := [((y j), .inr (1, [.ref (b j), .int (nI (n + sw n2)), .int (nI p)])), ((b j), .inl (cB, M, .inl (fun j => sb_b ((wr B n (sw n2) (sv n2)) j)))), ((y i), .inr (1, [.ref (b i), .int (nI n2), .int (nI p2)])), ((b i), .inl (cB, M, .inl (fun j => sb_b (C j))))]) [0, 1, 2, 3] rfl
    have hDc := hD.sub (ws' := [((y j), .inr (1, [.ref (b j), .int (nI (n + sw n2)), .int (nI p)])), ((b j), .inl (cB, M, .inl (fun j => sb_b ((wr B n (sw n2) (sv n2)) j)))), ((y i), .inr (1, [.ref (b i), .int (nI n2), .int (nI p2)])), ((b i), .inl (cB, M, .inl (fun j => sb_b (C j))))]) [0, 1, 2, 3] (by decide) rfl
    have hKc := hK.sub (tys' := [(cB, .byte)]) [0] rfl
    have hFc := va_free (wc := [((y j), .inr (1, [.ref (b j), .int (nI (n + sw n2)), .int (nI p)])), ((b j), .inl (cB, M, .inl (fun j => sb_b ((wr B n (sw n2) (sv n2)) j)))), ((y i), .inr (1, [.ref (b i), .int (nI n2), .int (nI p2)])), ((b i), .inl (cB, M, .inl (fun j => sb_b (C j))))]) hD hS hAq [0, 1, 2, 3] rfl
    refine va_callv (va_runS (As := [.ref (y j), .ref (y i), .int (nI 0), .int (nI n2)]) (rest := []) ⟨hx, hb, hml, hown, hA⟩ (c_D_addBytes2 l D cB (y j) (b j) (y i) (b i) M (wr B n (sw n2) (sv n2)) C (n + sw n2) p n2 p2 H.size 0 n2 (by omega) (by omega) hM) (q_D_addBytes hA k1_238 rfl rfl ⟨(Nat.le_of_ble_eq_true rfl), (Nat.le_of_ble_eq_true rfl)⟩) (oxw_S hPc hKc hDc) rfl rfl hl.1 rfl (lv_room (Nat.le_of_ble_eq_true rfl)) d_D_block_50 ⟨(Nat.le_of_ble_eq_true rfl), (Nat.le_of_ble_eq_true rfl)⟩) hS (fun q _ h => hFc q h) hFc (fun u9 t9 H1 locs ht9 hvm9 hw9 hB9 hz1 hk1 hS => ?_)
    obtain ⟨hP1, hK1, hD1⟩ := hB9
    rw [ht9] at hP1
    obtain ⟨hP, hD⟩ := va_join (wr := [c4_, c5_, c6_, c7_, c8_, c9_]) (w1 := [((y j), .inr (1, [.ref (b j), .int (nI (n + sw n2 + n2)), .int (nI p)])), ((b j), .inl (cB, M, .inl (fun j => sb_b ((wr (wr B n (sw n2) (sv n2)) (n + sw n2) n2 (fun i9 => C (0 + i9))) j)))), ((y i), .inr (1, [.ref (b i), .int (nI n2), .int (nI p2)])), ((b i), .inl (cB, M, .inl (fun j => sb_b (C j))))]) hP hD [0, 1, 2, 3] [4, 5, 6, 7, 8, 9] rfl rfl (by decide) (by decide) hk1 hFc hP1 hD1
    generalize H1 = H at hP hS ⊢
    have hP : va_P D vCl [((y j), .inr (1, [.ref (b j), .int (nI (n + sw n2 + n2)), .int (nI p)])), ((b j), .inl (cB, M, .inl (fun j => sb_b ((wr (wr B n (sw n2) (sv n2)) (n + sw n2) n2 (fun i9 => C (0 + i9))) j)))), ((y i), .inr (1, [.ref (b i), .int (nI n2), .int (nI p2)])), ((b i), .inl (cB, M, .inl (fun j => sb_b (C j)))), c4_, c5_, c6_, c7_, c8_, c9_] H := hP.sub [6, 7, 8, 9, 0, 1, 2, 3, 4, 5] rfl
    have hD : va_D A [((y j), .inr (1, [.ref (b j), .int (nI (n + sw n2 + n2)), .int (nI p)])), ((b j), .inl (cB, M, .inl (fun j => sb_b ((wr (wr B n (sw n2) (sv n2)) (n + sw n2) n2 (fun i9 => C (0 + i9))) j)))), ((y i), .inr (1, [.ref (b i), .int (nI n2), .int (nI p2)])), ((b i), .inl (cB, M, .inl (fun j => sb_b (C j)))), c4_, c5_, c6_, c7_, c8_, c9_] := hD.sub [6, 7, 8, 9, 0, 1, 2, 3, 4, 5] (by decide) rfl
    have ew : wr (wr B n (sw n2) (sv n2)) (n + sw n2) n2 (fun i9 => C (0 + i9)) = wr (wr B n (sw n2) (sv n2)) (n + sw n2) n2 C := wr_congr _ _ (fun i9 h9 => by rw [Nat.zero_add])
    rw [ew] at hP hD
    refine lv_iload hx hb d_D_block_53 (lv_at hl 0 rfl) ?_
    exact tx_ret (W.iret (v := nI (sw n2 + n2)) hx hb hr (fun t ht hW => Or.inl ⟨_, rfl, ⟨⟨_, va_up (va_up σ j (wr (wr B n (sw n2) (sv n2)) (n + sw n2) n2 C, n + sw n2 + n2, p)) i (C, n2, p2), rfl, (by rw [va_up2 hji hρ2]; unfold spBlock; simp only [hrj, hri, hρ, hρ2]; rw [if_neg (fun h8 => h8 hir), if_neg (Nat.not_lt.mpr hrr)]), by rw [ht]; exact ho1 (wr (wr B n (sw n2) (sv n2)) (n + sw n2) n2 C, n + sw n2 + n2, p) (C, n2, p2) _ hP, va_K.moved hW.alike hK, ho2 (wr (wr B n (sw n2) (sv n2)) (n + sw n2) n2 C, n + sw n2 + n2, p) (C, n2, p2) _ hD⟩, hS.F ht⟩⟩) hS.2.2 d_D_block_55)
set_option maxHeartbeats 600000 in
set_option maxRecDepth 100000 in
/-- frame -/
theorem c_D_frame (l : Launch) (hL0 : l.stackTraces = false) (D : va_G) (cR cB : ClassId) (h ra : Nat) (g : Nat → Option Nat) (M : Nat) (y b : Nat → Nat) (σ : dkS) (sz : Nat) (x f : Int32) (hg : ∀ i, i < 4 → g i = some (y i)) (hσ : dkok M σ) : tx_Met l y_D_frame w_D_frame ({ frames := 7, cells := 1, slots := 6, locals := 111 }) (va_Pc [.ref h, .int x, .int f] (oxv sz D [(cB, .byte), (cR, .object "PacketDesk$Row")] [(h, .inr (0, [.ref ra])), (ra, .inl (cR, 4, .inr (.inr (.inr (.inr g))))), ((y 0), .inr (1, [.ref (b 0), .int (nI (σ 0).2.1), .int (nI (σ 0).2.2)])), ((b 0), .inl (cB, M, .inl (fun j => sb_b ((σ 0).1 j)))), ((y 1), .inr (1, [.ref (b 1), .int (nI (σ 1).2.1), .int (nI (σ 1).2.2)])), ((b 1), .inl (cB, M, .inl (fun j => sb_b ((σ 1).1 j)))), ((y 2), .inr (1, [.ref (b 2), .int (nI (σ 2).2.1), .int (nI (σ 2).2.2)])), ((b 2), .inl (cB, M, .inl (fun j => sb_b ((σ 2).1 j)))), ((y 3), .inr (1, [.ref (b 3), .int (nI (σ 3).2.1), .int (nI (σ 3).2.2)])), ((b 3), .inl (cB, M, .inl (fun j => sb_b ((σ 3).1 j))))])) (tx_Q (fun E => (E = X_IOOBE ∧ (spFrame M σ x f).1 = 1) ∨ (E = X_ISE ∧ (spFrame M σ x f).1 = 2)) (va_Qi (fun r (τ : dkS) => spFrame M σ x f = (0, r, τ)) (fun τ => ow D [(cB, .byte), (cR, .object "PacketDesk$Row")] (va_A [(h, .inr (0, [.ref ra])), (ra, .inl (cR, 4, .inr (.inr (.inr (.inr g))))), ((y 0), .inr (1, [.ref (b 0), .int (nI (σ 0).2.1), .int (nI (σ 0).2.2)])), ((b 0), .inl (cB, M, .inl (fun j => sb_b ((σ 0).1 j)))), ((y 1), .inr (1, [.ref (b 1), .int (nI (σ 1).2.1), .int (nI (σ 1).2.2)])), ((b 1), .inl (cB, M, .inl (fun j => sb_b ((σ 1).1 j)))), ((y 2), .inr (1, [.ref (b 2), .int (nI (σ 2).2.1), .int (nI (σ 2).2.2)])), ((b 2), .inl (cB, M, .inl (fun j => sb_b ((σ 2).1 j)))), ((y 3), .inr (1, [.ref (b 3), .int (nI (σ 3).2.1), .int (nI (σ 3).2.2)])), ((b 3), .inl (cB, M, .inl (fun j => sb_b ((σ 3).1 j))))] sz) (dk cR cB h ra g M y b τ)) (va_A [(h, .inr (0, [.ref ra])), (ra, .inl (cR, 4, .inr (.inr (.inr (.inr g))))), ((y 0), .inr (1, [.ref (b 0), .int (nI (σ 0).2.1), .int (nI (σ 0).2.2)])), ((b 0), .inl (cB, M, .inl (fun j => sb_b ((σ 0).1 j)))), ((y 1), .inr (1, [.ref (b 1), .int (nI (σ 1).2.1), .int (nI (σ 1).2.2)])), ((b 1), .inl (cB, M, .inl (fun j => sb_b ((σ 1).1 j)))), ((y 2), .inr (1, [.ref (b 2), .int (nI (σ 2).2.1), .int (nI (σ 2).2.2)])), ((b 2), .inl (cB, M, .inl (fun j => sb_b ((σ 2).1 j)))), ((y 3), .inr (1, [.ref (b 3), .int (nI (σ 3).2.1), .int (nI (σ 3).2.2)])), ((b 3), .inl (cB, M, .inl (fun j => sb_b ((σ 3).1 j))))] sz))) 0 0 (va_A [(h, .inr (0, [.ref ra])), (ra, .inl (cR, 4, .inr (.inr (.inr (.inr g))))), ((y 0), .inr (1, [.ref (b 0), .int (nI (σ 0).2.1), .int (nI (σ 0).2.2)])), ((b 0), .inl (cB, M, .inl (fun j => sb_b ((σ 0).1 j)))), ((y 1), .inr (1, [.ref (b 1), .int (nI (σ 1).2.1), .int (nI (σ 1).2.2)])), ((b 1), .inl (cB, M, .inl (fun j => sb_b ((σ 1).1 j)))), ((y 2), .inr (1, [.ref (b 2), .int (nI (σ 2).2.1), .int (nI (σ 2).2.2)])), ((b 2), .inl (cB, M, .inl (fun j => sb_b ((σ 2).1 j)))), ((y 3), .inr (1, [.ref (b 3), .int (nI (σ 3).2.1), .int (nI (σ 3).2.2)])), ((b 3), .inl (cB, M, .inl (fun j => sb_b ((σ 3).1 j))))] sz) := by
  refine tx_ofW (cc := b_D_frame) (maxL := 7) (ret := (some .int)) (by decide) rfl ?_
  intro p9 e9 s m args below meth c9 s₁ BL hml hce hadm hv
  obtain ⟨rfl, hsz, hP, hK, hD0, hG⟩ := hv
  have hx := BL.exec
  have hb := BL.bytes
  have hr := BL.returns
  have hts := atoms_spec (ws := w_D_frame) BL.pre
  have hA : ∀ w ∈ wsA, w.before _ s = true := fun w h => hts w (List.mem_cons_of_mem _ h)
  have hown : s.vm.findClass R_D = some m.cls := findClass_of_methodNamed BL.named
  have hlocks := BL.notSynchronized
  have htr : e9.platform.stackTraces = false := by rw [hadm.platform]; exact hL0
  subst hsz
  have hD := hD0.self (sz := s.heap.size)
  generalize hAe : va_A [(h, .inr (0, [.ref ra])), (ra, .inl (cR, 4, .inr (.inr (.inr (.inr g))))), ((y 0), .inr (1, [.ref (b 0), .int (nI (σ 0).2.1), .int (nI (σ 0).2.2)])), ((b 0), .inl (cB, M, .inl (fun j => sb_b ((σ 0).1 j)))), ((y 1), .inr (1, [.ref (b 1), .int (nI (σ 1).2.1), .int (nI (σ 1).2.2)])), ((b 1), .inl (cB, M, .inl (fun j => sb_b ((σ 1).1 j)))), ((y 2), .inr (1, [.ref (b 2), .int (nI (σ 2).2.1), .int (nI (σ 2).2.2)])), ((b 2), .inl (cB, M, .inl (fun j => sb_b ((σ 2).1 j)))), ((y 3), .inr (1, [.ref (b 3), .int (nI (σ 3).2.1), .int (nI (σ 3).2.2)])), ((b 3), .inl (cB, M, .inl (fun j => sb_b ((σ 3).1 j))))] s.heap.size = A at hD ⊢
  have hAq : ∀ q : Nat, s.heap.size ≤ q → A q := fun q h => by rw [← hAe]; exact Or.inr h
  have hS : va_S A s.heap s.heap [] := va_S.rf
  have hP : va_P D vCl [(h, .inr (0, [.ref ra])), (ra, .inl (cR, 4, .inr (.inr (.inr (.inr g))))), ((y 0), .inr (1, [.ref (b 0), .int (nI (σ 0).2.1), .int (nI (σ 0).2.2)])), ((b 0), .inl (cB, M, .inl (fun j => sb_b ((σ 0).1 j)))), ((y 1), .inr (1, [.ref (b 1), .int (nI (σ 1).2.1), .int (nI (σ 1).2.2)])), ((b 1), .inl (cB, M, .inl (fun j => sb_b ((σ 1).1 j)))), ((y 2), .inr (1, [.ref (b 2), .int (nI (σ 2).2.1), .int (nI (σ 2).2.2)])), ((b 2), .inl (cB, M, .inl (fun j => sb_b ((σ 2).1 j)))), ((y 3), .inr (1, [.ref (b 3), .int (nI (σ 3).2.1), .int (nI (σ 3).2.2)])), ((b 3), .inl (cB, M, .inl (fun j => sb_b ((σ 3).1 j))))] s.heap := hP
  have hl := lv_entry ([.ref h, .int x, .int f]) (n := 7) (Nat.le_of_ble_eq_true rfl)
  rw [lg_entry_eq]
  generalize (lg_sl ([.ref h, .int x, .int f]) ++ List.replicate (7 - (lg_sl ([.ref h, .int x, .int f])).length) Slot.unset).toArray = ls at hl ⊢
  have hl : lv_has ls 7 [(0, .ref h), (1, .int x), (2, .int f)] := hl
  refine lv_aload_n hx hb d_D_frame_0 rfl (lv_at hl 0 rfl) ?_
  refine lv_iload_n hx hb d_D_frame_1 rfl (lv_at hl 1 rfl) ?_
  have hPc := hP.sub (ws' := [(h, .inr (0, [.ref ra])), (ra, .inl (cR, 4, .inr (.inr (.inr (.inr g)))))]) [0, 1] rfl
  have hKc := hK.sub (tys' := [(cR, .object "PacketDesk$Row")]) [1] rfl
  refine tx_sr (tx_runV (As := [.int x]) (rest := []) ⟨hx, hb, hml, hown, hA⟩ (c_D_rowOf l hL0 D cR h ra g y hg x) (q_D_rowOf hA k1_66 rfl rfl ⟨(Nat.le_of_ble_eq_true rfl), (Nat.le_of_ble_eq_true rfl)⟩) (ox_V (va_recv hKc hPc (ci := 0) (q0 := 0) rfl rfl) (oxg_S hPc hKc hG (fun _ _ => rfl))) rfl rfl hl.1 rfl (lv_room (Nat.le_of_ble_eq_true rfl)) d_D_frame_2 ⟨(Nat.le_of_ble_eq_true rfl), (Nat.le_of_ble_eq_true rfl)⟩) (fun x9 E9 H9 ht9 hE9 => tx_prop hlocks hce hE9 (Nat.le_refl _) (fun _ _ => rfl) (Or.inl (⟨ht9.1, by unfold spFrame; rw [if_pos (fun h9 => ht9.2 h9.1)]⟩)) (fun q h => by cases h)) (fun j hj => ?_)
  obtain ⟨hj, hxj⟩ := hj
  refine lv_astore_n (lv' := [(3, .ref (y j)), (0, .ref h), (1, .int x), (2, .int f)]) hx hb d_D_frame_5 rfl hl (by decide) rfl (fun ls hl => ?_)
  refine lv_aload_n hx hb d_D_frame_6 rfl (lv_at hl 1 rfl) ?_
  refine lv_iload_n hx hb d_D_frame_7 rfl (lv_at hl 3 rfl) ?_
  have hPc := hP.sub (ws' := [(h, .inr (0, [.ref ra])), (ra, .inl (cR, 4, .inr (.inr (.inr (.inr g)))))]) [0, 1] rfl
  have hKc := hK.sub (tys' := [(cR, .object "PacketDesk$Row")]) [1] rfl
  refine tx_sr (tx_runV (As := [.int f]) (rest := []) ⟨hx, hb, hml, hown, hA⟩ (c_D_rowOf l hL0 D cR h ra g y hg f) (q_D_rowOf hA k1_66 rfl rfl ⟨(Nat.le_of_ble_eq_true rfl), (Nat.le_of_ble_eq_true rfl)⟩) (ox_V (va_recv hKc hPc (ci := 0) (q0 := 0) rfl rfl) (oxg_S hPc hKc hG (fun _ _ => rfl))) rfl rfl hl.1 rfl (lv_room (Nat.le_of_ble_eq_true rfl)) d_D_frame_8 ⟨(Nat.le_of_ble_eq_true rfl), (Nat.le_of_ble_eq_true rfl)⟩) (fun x9 E9 H9 ht9 hE9 => tx_prop hlocks hce hE9 (Nat.le_refl _) (fun _ _ => rfl) (Or.inl (⟨ht9.1, by unfold spFrame; rw [if_pos (fun h9 => ht9.2 h9.2)]⟩)) (fun q h => by cases h)) (fun i hi => ?_)
  obtain ⟨hi, hxi⟩ := hi
  by_cases hji : j = i
  · subst hji
    obtain ⟨c2_, c3_, c4_, c5_, c6_, c7_, c8_, c9_, hi1, hi2, ho1, ho2⟩ := dk_1 D vCl cR cB h ra g M y b σ hj
    have hP : va_P D vCl [(y j, .inr (1, [.ref (b j), .int (nI (σ j).2.1), .int (nI (σ j).2.2)])), (b j, .inl (cB, M, .inl (fun j9 => sb_b ((σ j).1 j9)))), c2_, c3_, c4_, c5_, c6_, c7_, c8_, c9_] s.heap := hi1 _ hP
    have hD : va_D A [(y j, .inr (1, [.ref (b j), .int (nI (σ j).2.1), .int (nI (σ j).2.2)])), (b j, .inl (cB, M, .inl (fun j9 => sb_b ((σ j).1 j9)))), c2_, c3_, c4_, c5_, c6_, c7_, c8_, c9_] := hi2 _ hD
    obtain ⟨⟨B, n, p⟩, hρ⟩ : ∃ ρ, σ j = ρ := ⟨_, rfl⟩
    have hk := hσ.2 j hj
    have hM := hσ.1
    rw [hρ] at hP hk hD
    obtain ⟨hp, hn, hB⟩ := hk
    have hp : p ≤ n := hp
    have hn : n ≤ M := hn
    have hB : ∀ j, B j < 256 := hB
    have hP : va_P D vCl [((y j), .inr (1, [.ref (b j), .int (nI n), .int (nI p)])), ((b j), .inl (cB, M, .inl (fun j => sb_b (B j)))), c2_, c3_, c4_, c5_, c6_, c7_, c8_, c9_] s.heap := hP
    have hD : va_D A [((y j), .inr (1, [.ref (b j), .int (nI n), .int (nI p)])), ((b j), .inl (cB, M, .inl (fun j => sb_b (B j)))), c2_, c3_, c4_, c5_, c6_, c7_, c8_, c9_] := hD
    have hrj : rj x = j := by rw [hxj]; exact rj_n hj
    have hir : isR x := by rw [hxj]; exact isR_n hj
    have hri : rj f = j := by rw [hxi]; exact rj_n hj
    have hir : isR x ∧ isR f := ⟨hir, by rw [hxi]; exact isR_n hj⟩
    have hρ2 := hρ
    refine lv_astore (lv' := [(4, .ref (y j)), (3, .ref (y j)), (0, .ref h), (1, .int x), (2, .int f)]) hx hb d_D_frame_11 hl (by decide) rfl (fun ls hl => ?_)
    refine lv_aload hx hb d_D_frame_13 (lv_at hl 0 rfl) ?_
    refine va_get (D := D) (ci := 1) (v := .int (nI n)) (C := R_R) (T := F_R) (N := 3) hx hb hA i_R hown hK hP 0 rfl rfl 1 (by decide) (hA _ k1_38) (fun _ h9 => h9) rfl d_D_frame_15 ?_
    refine lv_istore (lv' := [(5, .int (nI n)), (4, .ref (y j)), (3, .ref (y j)), (0, .ref h), (1, .int x), (2, .int f)]) hx hb d_D_frame_18 hl (by decide) rfl (fun ls hl => ?_)
    refine lv_iload hx hb d_D_frame_20 (lv_at hl 0 rfl) ?_
    refine lv_i2l hx hb d_D_frame_22 rfl ?_
    refine lv_topl (fun v22 ev22 => ?_)
    have ev22 : v22 = lN n := by rw [ev22]; exact nI_l (by omega)
    subst ev22
    refine vp_callSi (W.runS (As := [.long (lN n)]) (rest := []) ⟨hx, hb, hml, hown, hA⟩ (c_D_sevensWidth l n (by omega)) (q_D_sevensWidth hA k1_194 rfl rfl ⟨(Nat.le_of_ble_eq_true rfl), (Nat.le_of_ble_eq_true rfl)⟩) (⟨fun a U g mk q => q, fun U hU hW => ⟨rfl, trivial⟩⟩) rfl rfl hl.1 rfl (lv_room (Nat.le_of_ble_eq_true rfl)) d_D_frame_23 ⟨(Nat.le_of_ble_eq_true rfl), (Nat.le_of_ble_eq_true rfl)⟩) (fun r23 hr23 => ?_)
    have er23 : r23 = nI (sw n) := hr23
    subst er23
    have hsw := sw_in n
    refine lv_iconst (v := 4) hx hb d_D_frame_26 (by decide) ?_
    refine lv_iadd hx hb d_D_frame_27 ?_
    refine lv_topi (fun v27 ev27 => ?_)
    have ev27 : v27 = nI (sw n + 4) := by rw [ev27]; exact nI_add _ 4
    subst ev27
    refine lv_iload hx hb d_D_frame_28 (lv_at hl 0 rfl) ?_
    refine lv_iadd hx hb d_D_frame_30 ?_
    refine lv_topi (fun v30 ev30 => ?_)
    have ev30 : v30 = nI (sw n + 4 + n) := by rw [ev30]; exact nI_add _ _
    subst ev30
    refine lv_istore (lv' := [(6, .int (nI (sw n + 4 + n))), (5, .int (nI n)), (4, .ref (y j)), (3, .ref (y j)), (0, .ref h), (1, .int x), (2, .int f)]) hx hb d_D_frame_31 hl (by decide) rfl (fun ls hl => ?_)
    refine lv_aload_n hx hb d_D_frame_33 rfl (lv_at hl 3 rfl) ?_
    refine lv_iload hx hb d_D_frame_34 (lv_at hl 0 rfl) ?_
    have hPc := hP.sub (ws' := [((y j), .inr (1, [.ref (b j), .int (nI n), .int (nI p)])), ((b j), .inl (cB, M, .inl (fun j => sb_b (B j))))]) [0, 1] rfl
    have hKc := hK.sub (tys' := [(cB, .byte)]) [0] rfl
    refine tx_sv (tx_runS (As := [.ref (y j), .int (nI (sw n + 4 + n))]) (rest := []) ⟨hx, hb, hml, hown, hA⟩ (c_D_needRoom l hL0 D cB (y j) (b j) M B n p hn hM (sw n + 4 + n) (by omega)) (q_D_needRoom hA k1_158 rfl rfl ⟨(Nat.le_of_ble_eq_true rfl), (Nat.le_of_ble_eq_true rfl)⟩) (oxg_S hPc hKc hG (fun _ _ => rfl)) rfl rfl hl.1 rfl (lv_room (Nat.le_of_ble_eq_true rfl)) d_D_frame_36 ⟨(Nat.le_of_ble_eq_true rfl), (Nat.le_of_ble_eq_true rfl)⟩) (fun x9 E9 H9 ht9 hE9 => tx_prop hlocks hce hE9 (Nat.le_refl _) (fun _ _ => rfl) (Or.inr (⟨ht9.1, by unfold spFrame; simp only [hrj, hri, hρ, hρ2]; rw [if_neg (fun h8 => h8 hir), if_pos ht9.2]⟩)) (fun q h => by cases h)) (fun hrr => ?_)
    refine lv_aload_n hx hb d_D_frame_39 rfl (lv_at hl 3 rfl) ?_
    refine lv_iload hx hb d_D_frame_40 (lv_at hl 1 rfl) ?_
    refine lv_i2l hx hb d_D_frame_42 rfl ?_
    refine lv_topl (fun v42 ev42 => ?_)
    have ev42 : v42 = lN n := by rw [ev42]; exact nI_l (by omega)
    subst ev42
    have hPc := hP.sub (ws' := [((y j), .inr (1, [.ref (b j), .int (nI n), .int (nI p)])), ((b j), .inl (cB, M, .inl (fun j => sb_b (B j))))]) [0, 1] rfl
    have hDc := hD.sub (ws' := [((y j), .inr (1, [.ref (b j), .int (nI n), .int (nI p)])), ((b j), .inl (cB, M, .inl (fun j => sb_b (B j))))]) [0, 1] (by decide) rfl
    have hKc := hK.sub (tys' := [(cB, .byte)]) [0] rfl
    have hFc := va_free (wc := [((y j), .inr (1, [.ref (b j), .int (nI n), .int (nI p)])), ((b j), .inl (cB, M, .inl (fun j => sb_b (B j))))]) hD hS hAq [0, 1] rfl
    refine va_callv (va_runS (As := [.ref (y j), .long (lN n)]) (rest := []) ⟨hx, hb, hml, hown, hA⟩ (c_D_addSevens l D cB (y j) (b j) M B n p s.heap.size n (by omega) (by omega) hM) (q_D_addSevens hA k1_197 rfl rfl ⟨(Nat.le_of_ble_eq_true rfl), (Nat.le_of_ble_eq_true rfl)⟩) (oxw_S hPc hKc hDc) rfl rfl hl.1 rfl (lv_room (Nat.le_of_ble_eq_true rfl)) d_D_frame_43 ⟨(Nat.le_of_ble_eq_true rfl), (Nat.le_of_ble_eq_true rfl)⟩) hS (fun q _ h => hFc q h) hFc (fun u9 t9 H1 locs ht9 hvm9 hw9 hB9 hz1 hk1 hS => ?_)
    obtain ⟨hP1, hK1, hD1⟩ := hB9
    rw [ht9] at hP1
    obtain ⟨hP, hD⟩ := va_join (wr := [c2_, c3_, c4_, c5_, c6_, c7_, c8_, c9_]) (w1 := [((y j), .inr (1, [.ref (b j), .int (nI (n + sw n)), .int (nI p)])), ((b j), .inl (cB, M, .inl (fun j => sb_b ((wr B n (sw n) (sv n)) j))))]) hP hD [0, 1] [2, 3, 4, 5, 6, 7, 8, 9] rfl rfl (by decide) (by decide) hk1 hFc hP1 hD1
    generalize H1 = H at hP hS ⊢
    have hP : va_P D vCl [((y j), .inr (1, [.ref (b j), .int (nI (n + sw n)), .int (nI p)])), ((b j), .inl (cB, M, .inl (fun j => sb_b ((wr B n (sw n) (sv n)) j)))), c2_, c3_, c4_, c5_, c6_, c7_, c8_, c9_] H := hP.sub [8, 9, 0, 1, 2, 3, 4, 5, 6, 7] rfl
    have hD : va_D A [((y j), .inr (1, [.ref (b j), .int (nI (n + sw n)), .int (nI p)])), ((b j), .inl (cB, M, .inl (fun j => sb_b ((wr B n (sw n) (sv n)) j)))), c2_, c3_, c4_, c5_, c6_, c7_, c8_, c9_] := hD.sub [8, 9, 0, 1, 2, 3, 4, 5, 6, 7] (by decide) rfl
    refine lv_aload_n hx hb d_D_frame_46 rfl (lv_at hl 3 rfl) ?_
    refine lv_aload hx hb d_D_frame_47 (lv_at hl 2 rfl) ?_
    refine lv_iconst (v := 0) hx hb d_D_frame_49 (by decide) ?_
    refine lv_topi (fun v49 ev49 => ?_)
    have ev49 : v49 = nI 0 := by rw [ev49]; rfl
    subst ev49
    refine lv_iload hx hb d_D_frame_50 (lv_at hl 1 rfl) ?_
    have hPc := hP.sub (ws' := [((y j), .inr (1, [.ref (b j), .int (nI (n + sw n)), .int (nI p)])), ((b j), .inl (cB, M, .inl (fun j => sb_b ((wr B n (sw n) (sv n)) j))))]) [0, 1] rfl
    have hKc := hK.sub (tys' := [(cB, .byte)]) [0] rfl
    refine vp_callSi (W.runS (As := [.ref (y j), .int (nI 0), .int (nI n)]) (rest := [.ref (y j)]) ⟨hx, hb, hml, hown, hA⟩ (c_D_sumOf l D cB (y j) (b j) M (wr B n (sw n) (sv n)) (nI (n + sw n)) (nI p) 0 n (by omega) hM (wr_lt hB (fun i9 _ => sv_lt n i9))) (q_D_sumOf hA k2_18 rfl rfl ⟨(Nat.le_of_ble_eq_true rfl), (Nat.le_of_ble_eq_true rfl)⟩) (ox_S hPc hKc) rfl rfl hl.1 rfl (lv_room (Nat.le_of_ble_eq_true rfl)) d_D_frame_52 ⟨(Nat.le_of_ble_eq_true rfl), (Nat.le_of_ble_eq_true rfl)⟩) (fun r52 hr52 => ?_)
    have er52 : r52 = smb B 0 n := by rw [hr52]; unfold smb; rw [crcs_congr (B := wr B n (sw n) (sv n)) (C := B) 0 (fun i9 h9 => wr_out (by omega))]
    subst er52
    refine lv_i2l hx hb d_D_frame_55 rfl ?_
    refine lv_topl (fun v55 ev55 => ?_)
    have ev55 : v55 = lN (uNl (smb B 0 n).toInt64) := by rw [lN_u, ev55]
    subst ev55
    refine lv_iconst (v := 4) hx hb d_D_frame_56 (by decide) ?_
    refine lv_topi (fun v56 ev56 => ?_)
    have ev56 : v56 = nI 4 := by rw [ev56]; rfl
    subst ev56
    have hPc := hP.sub (ws' := [((y j), .inr (1, [.ref (b j), .int (nI (n + sw n)), .int (nI p)])), ((b j), .inl (cB, M, .inl (fun j => sb_b ((wr B n (sw n) (sv n)) j))))]) [0, 1] rfl
    have hDc := hD.sub (ws' := [((y j), .inr (1, [.ref (b j), .int (nI (n + sw n)), .int (nI p)])), ((b j), .inl (cB, M, .inl (fun j => sb_b ((wr B n (sw n) (sv n)) j))))]) [0, 1] (by decide) rfl
    have hKc := hK.sub (tys' := [(cB, .byte)]) [0] rfl
    have hFc := va_free (wc := [((y j), .inr (1, [.ref (b j), .int (nI (n + sw n)), .int (nI p)])), ((b j), .inl (cB, M, .inl (fun j => sb_b ((wr B n (sw n) (sv n)) j))))]) hD hS hAq [0, 1] rfl
    refine va_callv (va_runS (As := [.ref (y j), .long (lN (uNl (smb B 0 n).toInt64)), .int (nI 4)]) (rest := []) ⟨hx, hb, hml, hown, hA⟩ (c_D_addFixed l D cB (y j) (b j) M (wr B n (sw n) (sv n)) (n + sw n) p H.size (uNl (smb B 0 n).toInt64) 4 (uNl_lt _) (by omega) (by omega) hM) (q_D_addFixed hA k1_177 rfl rfl ⟨(Nat.le_of_ble_eq_true rfl), (Nat.le_of_ble_eq_true rfl)⟩) (oxw_S hPc hKc hDc) rfl rfl hl.1 rfl (lv_room (Nat.le_of_ble_eq_true rfl)) d_D_frame_57 ⟨(Nat.le_of_ble_eq_true rfl), (Nat.le_of_ble_eq_true rfl)⟩) hS (fun q _ h => hFc q h) hFc (fun u9 t9 H1 locs ht9 hvm9 hw9 hB9 hz1 hk1 hS => ?_)
    obtain ⟨hP1, hK1, hD1⟩ := hB9
    rw [ht9] at hP1
    obtain ⟨hP, hD⟩ := va_join (wr := [c2_, c3_, c4_, c5_, c6_, c7_, c8_, c9_]) (w1 := [((y j), .inr (1, [.ref (b j), .int (nI (n + sw n + 4)), .int (nI p)])), ((b j), .inl (cB, M, .inl (fun j => sb_b ((wr2 B n (sw n) (sv n) 4 (fb (uNl (smb B 0 n).toInt64))) j))))]) hP hD [0, 1] [2, 3, 4, 5, 6, 7, 8, 9] rfl rfl (by decide) (by decide) hk1 hFc hP1 hD1
    generalize H1 = H at hP hS ⊢
    have hP : va_P D vCl [((y j), .inr (1, [.ref (b j), .int (nI (n + sw n + 4)), .int (nI p)])), ((b j), .inl (cB, M, .inl (fun j => sb_b ((wr2 B n (sw n) (sv n) 4 (fb (uNl (smb B 0 n).toInt64))) j)))), c2_, c3_, c4_, c5_, c6_, c7_, c8_, c9_] H := hP.sub [8, 9, 0, 1, 2, 3, 4, 5, 6, 7] rfl
    have hD : va_D A [((y j), .inr (1, [.ref (b j), .int (nI (n + sw n + 4)), .int (nI p)])), ((b j), .inl (cB, M, .inl (fun j => sb_b ((wr2 B n (sw n) (sv n) 4 (fb (uNl (smb B 0 n).toInt64))) j)))), c2_, c3_, c4_, c5_, c6_, c7_, c8_, c9_] := hD.sub [8, 9, 0, 1, 2, 3, 4, 5, 6, 7] (by decide) rfl
    refine lv_aload_n hx hb d_D_frame_60 rfl (lv_at hl 3 rfl) ?_
    refine lv_aload hx hb d_D_frame_61 (lv_at hl 2 rfl) ?_
    refine lv_iconst (v := 0) hx hb d_D_frame_63 (by decide) ?_
    refine lv_topi (fun v63 ev63 => ?_)
    have ev63 : v63 = nI 0 := by rw [ev63]; rfl
    subst ev63
    refine lv_iload hx hb d_D_frame_64 (lv_at hl 1 rfl) ?_
    have hPc := hP.sub (ws' := [((y j), .inr (1, [.ref (b j), .int (nI (n + sw n + 4)), .int (nI p)])), ((b j), .inl (cB, M, .inl (fun j => sb_b ((wr2 B n (sw n) (sv n) 4 (fb (uNl (smb B 0 n).toInt64))) j))))]) [0, 1] rfl
    have hDc := hD.sub (ws' := [((y j), .inr (1, [.ref (b j), .int (nI (n + sw n + 4)), .int (nI p)])), ((b j), .inl (cB, M, .inl (fun j => sb_b ((wr2 B n (sw n) (sv n) 4 (fb (uNl (smb B 0 n).toInt64))) j))))]) [0, 1] (by decide) rfl
    have hKc := hK.sub (tys' := [(cB, .byte)]) [0] rfl
    have hFc := va_free (wc := [((y j), .inr (1, [.ref (b j), .int (nI (n + sw n + 4)), .int (nI p)])), ((b j), .inl (cB, M, .inl (fun j => sb_b ((wr2 B n (sw n) (sv n) 4 (fb (uNl (smb B 0 n).toInt64))) j))))]) hD hS hAq [0, 1] rfl
    refine va_callv (va_runS (As := [.ref (y j), .ref (y j), .int (nI 0), .int (nI n)]) (rest := []) ⟨hx, hb, hml, hown, hA⟩ (c_D_addBytes1 l D cB (y j) (b j) M (wr2 B n (sw n) (sv n) 4 (fb (uNl (smb B 0 n).toInt64))) (n + sw n + 4) p H.size 0 n (by omega) (by omega) hM) (q_D_addBytes hA k1_238 rfl rfl ⟨(Nat.le_of_ble_eq_true rfl), (Nat.le_of_ble_eq_true rfl)⟩) (oxw_S hPc hKc hDc) rfl rfl hl.1 rfl (lv_room (Nat.le_of_ble_eq_true rfl)) d_D_frame_66 ⟨(Nat.le_of_ble_eq_true rfl), (Nat.le_of_ble_eq_true rfl)⟩) hS (fun q _ h => hFc q h) hFc (fun u9 t9 H1 locs ht9 hvm9 hw9 hB9 hz1 hk1 hS => ?_)
    obtain ⟨hP1, hK1, hD1⟩ := hB9
    rw [ht9] at hP1
    obtain ⟨hP, hD⟩ := va_join (wr := [c2_, c3_, c4_, c5_, c6_, c7_, c8_, c9_]) (w1 := [((y j), .inr (1, [.ref (b j), .int (nI (n + sw n + 4 + n)), .int (nI p)])), ((b j), .inl (cB, M, .inl (fun j => sb_b ((wr (wr2 B n (sw n) (sv n) 4 (fb (uNl (smb B 0 n).toInt64))) (n + sw n + 4) n (fun i9 => (wr2 B n (sw n) (sv n) 4 (fb (uNl (smb B 0 n).toInt64))) (0 + i9))) j))))]) hP hD [0, 1] [2, 3, 4, 5, 6, 7, 8, 9] rfl rfl (by decide) (by decide) hk1 hFc hP1 hD1
    generalize H1 = H at hP hS ⊢
    have hP : va_P D vCl [((y j), .inr (1, [.ref (b j), .int (nI (n + sw n + 4 + n)), .int (nI p)])), ((b j), .inl (cB, M, .inl (fun j => sb_b ((wr (wr2 B n (sw n) (sv n) 4 (fb (uNl (smb B 0 n).toInt64))) (n + sw n + 4) n (fun i9 => (wr2 B n (sw n) (sv n) 4 (fb (uNl (smb B 0 n).toInt64))) (0 + i9))) j)))), c2_, c3_, c4_, c5_, c6_, c7_, c8_, c9_] H := hP.sub [8, 9, 0, 1, 2, 3, 4, 5, 6, 7] rfl
    have hD : va_D A [((y j), .inr (1, [.ref (b j), .int (nI (n + sw n + 4 + n)), .int (nI p)])), ((b j), .inl (cB, M, .inl (fun j => sb_b ((wr (wr2 B n (sw n) (sv n) 4 (fb (uNl (smb B 0 n).toInt64))) (n + sw n + 4) n (fun i9 => (wr2 B n (sw n) (sv n) 4 (fb (uNl (smb B 0 n).toInt64))) (0 + i9))) j)))), c2_, c3_, c4_, c5_, c6_, c7_, c8_, c9_] := hD.sub [8, 9, 0, 1, 2, 3, 4, 5, 6, 7] (by decide) rfl
    have ew : wr (wr2 B n (sw n) (sv n) 4 (fb (uNl (smb B 0 n).toInt64))) (n + sw n + 4) n (fun i9 => (wr2 B n (sw n) (sv n) 4 (fb (uNl (smb B 0 n).toInt64))) (0 + i9)) = wr (wr2 B n (sw n) (sv n) 4 (fb (uNl (smb B 0 n).toInt64))) (n + sw n + 4) n B := wr_congr _ _ (fun i9 h9 => by rw [Nat.zero_add]; unfold wr2; rw [wr_out (by omega), wr_out (by omega)])
    rw [ew] at hP hD
    refine lv_iload hx hb d_D_frame_69 (lv_at hl 0 rfl) ?_
    exact tx_ret (W.iret (v := nI (sw n + 4 + n)) hx hb hr (fun t ht hW => Or.inl ⟨_, rfl, ⟨⟨_, va_up σ j (wr (wr2 B n (sw n) (sv n) 4 (fb (uNl (smb B 0 n).toInt64))) (n + sw n + 4) n B, n + sw n + 4 + n, p), rfl, (by unfold spFrame; simp only [hrj, hri, hρ, hρ2]; rw [if_neg (fun h8 => h8 hir), if_neg (Nat.not_lt.mpr hrr)]), by rw [ht]; exact ho1 (wr (wr2 B n (sw n) (sv n) 4 (fb (uNl (smb B 0 n).toInt64))) (n + sw n + 4) n B, n + sw n + 4 + n, p) _ hP, va_K.moved hW.alike hK, ho2 (wr (wr2 B n (sw n) (sv n) 4 (fb (uNl (smb B 0 n).toInt64))) (n + sw n + 4) n B, n + sw n + 4 + n, p) _ hD⟩, hS.F ht⟩⟩) hS.2.2 d_D_frame_71)
  · obtain ⟨c4_, c5_, c6_, c7_, c8_, c9_, hi1, hi2, ho1, ho2⟩ := dk_2 D vCl cR cB h ra g M y b σ hj hi hji
    have hP : va_P D vCl [(y j, .inr (1, [.ref (b j), .int (nI (σ j).2.1), .int (nI (σ j).2.2)])), (b j, .inl (cB, M, .inl (fun j9 => sb_b ((σ j).1 j9)))), (y i, .inr (1, [.ref (b i), .int (nI (σ i).2.1), .int (nI (σ i).2.2)])), (b i, .inl (cB, M, .inl (fun j9 => sb_b ((σ i).1 j9)))), c4_, c5_, c6_, c7_, c8_, c9_] s.heap := hi1 _ hP
    have hD : va_D A [(y j, .inr (1, [.ref (b j), .int (nI (σ j).2.1), .int (nI (σ j).2.2)])), (b j, .inl (cB, M, .inl (fun j9 => sb_b ((σ j).1 j9)))), (y i, .inr (1, [.ref (b i), .int (nI (σ i).2.1), .int (nI (σ i).2.2)])), (b i, .inl (cB, M, .inl (fun j9 => sb_b ((σ i).1 j9)))), c4_, c5_, c6_, c7_, c8_, c9_] := hi2 _ hD
    obtain ⟨⟨B, n, p⟩, hρ⟩ : ∃ ρ, σ j = ρ := ⟨_, rfl⟩
    obtain ⟨⟨C, n2, p2⟩, hρ2⟩ : ∃ ρ, σ i = ρ := ⟨_, rfl⟩
    have hk := hσ.2 j hj
    have hk2 := hσ.2 i hi
    have hM := hσ.1
    rw [hρ] at hk
    rw [hρ2] at hk2
    rw [hρ, hρ2] at hP hD
    obtain ⟨hp, hn, hB⟩ := hk
    have hp : p ≤ n := hp
    have hn : n ≤ M := hn
    have hB : ∀ j, B j < 256 := hB
    obtain ⟨hp2, hn2, hB2⟩ := hk2
    have hp2 : p2 ≤ n2 := hp2
    have hn2 : n2 ≤ M := hn2
    have hB2 : ∀ j, C j < 256 := hB2
    have hP : va_P D vCl [((y j), .inr (1, [.ref (b j), .int (nI n), .int (nI p)])), ((b j), .inl (cB, M, .inl (fun j => sb_b (B j)))), ((y i), .inr (1, [.ref (b i), .int (nI n2), .int (nI p2)])), ((b i), .inl (cB, M, .inl (fun j => sb_b (C j)))), c4_, c5_, c6_, c7_, c8_, c9_] s.heap := hP
    have hD : va_D A [((y j), .inr (1, [.ref (b j), .int (nI n), .int (nI p)])), ((b j), .inl (cB, M, .inl (fun j => sb_b (B j)))), ((y i), .inr (1, [.ref (b i), .int (nI n2), .int (nI p2)])), ((b i), .inl (cB, M, .inl (fun j => sb_b (C j)))), c4_, c5_, c6_, c7_, c8_, c9_] := hD
    have hrj : rj x = j := by rw [hxj]; exact rj_n hj
    have hri : rj f = i := by rw [hxi]; exact rj_n hi
    have hir : isR x ∧ isR f := ⟨by rw [hxj]; exact isR_n hj, by rw [hxi]; exact isR_n hi⟩
    refine lv_astore (lv' := [(4, .ref (y i)), (3, .ref (y j)), (0, .ref h), (1, .int x), (2, .int f)]) hx hb d_D_frame_11 hl (by decide) rfl (fun ls hl => ?_)
    refine lv_aload hx hb d_D_frame_13 (lv_at hl 0 rfl) ?_
    refine va_get (D := D) (ci := 1) (v := .int (nI n2)) (C := R_R) (T := F_R) (N := 3) hx hb hA i_R hown hK hP 2 rfl rfl 1 (by decide) (hA _ k1_38) (fun _ h9 => h9) rfl d_D_frame_15 ?_
    refine lv_istore (lv' := [(5, .int (nI n2)), (4, .ref (y i)), (3, .ref (y j)), (0, .ref h), (1, .int x), (2, .int f)]) hx hb d_D_frame_18 hl (by decide) rfl (fun ls hl => ?_)
    refine lv_iload hx hb d_D_frame_20 (lv_at hl 0 rfl) ?_
    refine lv_i2l hx hb d_D_frame_22 rfl ?_
    refine lv_topl (fun v22 ev22 => ?_)
    have ev22 : v22 = lN n2 := by rw [ev22]; exact nI_l (by omega)
    subst ev22
    refine vp_callSi (W.runS (As := [.long (lN n2)]) (rest := []) ⟨hx, hb, hml, hown, hA⟩ (c_D_sevensWidth l n2 (by omega)) (q_D_sevensWidth hA k1_194 rfl rfl ⟨(Nat.le_of_ble_eq_true rfl), (Nat.le_of_ble_eq_true rfl)⟩) (⟨fun a U g mk q => q, fun U hU hW => ⟨rfl, trivial⟩⟩) rfl rfl hl.1 rfl (lv_room (Nat.le_of_ble_eq_true rfl)) d_D_frame_23 ⟨(Nat.le_of_ble_eq_true rfl), (Nat.le_of_ble_eq_true rfl)⟩) (fun r23 hr23 => ?_)
    have er23 : r23 = nI (sw n2) := hr23
    subst er23
    have hsw := sw_in n2
    refine lv_iconst (v := 4) hx hb d_D_frame_26 (by decide) ?_
    refine lv_iadd hx hb d_D_frame_27 ?_
    refine lv_topi (fun v27 ev27 => ?_)
    have ev27 : v27 = nI (sw n2 + 4) := by rw [ev27]; exact nI_add _ 4
    subst ev27
    refine lv_iload hx hb d_D_frame_28 (lv_at hl 0 rfl) ?_
    refine lv_iadd hx hb d_D_frame_30 ?_
    refine lv_topi (fun v30 ev30 => ?_)
    have ev30 : v30 = nI (sw n2 + 4 + n2) := by rw [ev30]; exact nI_add _ _
    subst ev30
    refine lv_istore (lv' := [(6, .int (nI (sw n2 + 4 + n2))), (5, .int (nI n2)), (4, .ref (y i)), (3, .ref (y j)), (0, .ref h), (1, .int x), (2, .int f)]) hx hb d_D_frame_31 hl (by decide) rfl (fun ls hl => ?_)
    refine lv_aload_n hx hb d_D_frame_33 rfl (lv_at hl 3 rfl) ?_
    refine lv_iload hx hb d_D_frame_34 (lv_at hl 0 rfl) ?_
    have hPc := hP.sub (ws' := [((y j), .inr (1, [.ref (b j), .int (nI n), .int (nI p)])), ((b j), .inl (cB, M, .inl (fun j => sb_b (B j))))]) [0, 1] rfl
    have hKc := hK.sub (tys' := [(cB, .byte)]) [0] rfl
    refine tx_sv (tx_runS (As := [.ref (y j), .int (nI (sw n2 + 4 + n2))]) (rest := []) ⟨hx, hb, hml, hown, hA⟩ (c_D_needRoom l hL0 D cB (y j) (b j) M B n p hn hM (sw n2 + 4 + n2) (by omega)) (q_D_needRoom hA k1_158 rfl rfl ⟨(Nat.le_of_ble_eq_true rfl), (Nat.le_of_ble_eq_true rfl)⟩) (oxg_S hPc hKc hG (fun _ _ => rfl)) rfl rfl hl.1 rfl (lv_room (Nat.le_of_ble_eq_true rfl)) d_D_frame_36 ⟨(Nat.le_of_ble_eq_true rfl), (Nat.le_of_ble_eq_true rfl)⟩) (fun x9 E9 H9 ht9 hE9 => tx_prop hlocks hce hE9 (Nat.le_refl _) (fun _ _ => rfl) (Or.inr (⟨ht9.1, by unfold spFrame; simp only [hrj, hri, hρ, hρ2]; rw [if_neg (fun h8 => h8 hir), if_pos ht9.2]⟩)) (fun q h => by cases h)) (fun hrr => ?_)
    refine lv_aload_n hx hb d_D_frame_39 rfl (lv_at hl 3 rfl) ?_
    refine lv_iload hx hb d_D_frame_40 (lv_at hl 1 rfl) ?_
    refine lv_i2l hx hb d_D_frame_42 rfl ?_
    refine lv_topl (fun v42 ev42 => ?_)
    have ev42 : v42 = lN n2 := by rw [ev42]; exact nI_l (by omega)
    subst ev42
    have hPc := hP.sub (ws' := [((y j), .inr (1, [.ref (b j), .int (nI n), .int (nI p)])), ((b j), .inl (cB, M, .inl (fun j => sb_b (B j))))]) [0, 1] rfl
    have hDc := hD.sub (ws' := [((y j), .inr (1, [.ref (b j), .int (nI n), .int (nI p)])), ((b j), .inl (cB, M, .inl (fun j => sb_b (B j))))]) [0, 1] (by decide) rfl
    have hKc := hK.sub (tys' := [(cB, .byte)]) [0] rfl
    have hFc := va_free (wc := [((y j), .inr (1, [.ref (b j), .int (nI n), .int (nI p)])), ((b j), .inl (cB, M, .inl (fun j => sb_b (B j))))]) hD hS hAq [0, 1] rfl
    refine va_callv (va_runS (As := [.ref (y j), .long (lN n2)]) (rest := []) ⟨hx, hb, hml, hown, hA⟩ (c_D_addSevens l D cB (y j) (b j) M B n p s.heap.size n2 (by omega) (by omega) hM) (q_D_addSevens hA k1_197 rfl rfl ⟨(Nat.le_of_ble_eq_true rfl), (Nat.le_of_ble_eq_true rfl)⟩) (oxw_S hPc hKc hDc) rfl rfl hl.1 rfl (lv_room (Nat.le_of_ble_eq_true rfl)) d_D_frame_43 ⟨(Nat.le_of_ble_eq_true rfl), (Nat.le_of_ble_eq_true rfl)⟩) hS (fun q _ h => hFc q h) hFc (fun u9 t9 H1 locs ht9 hvm9 hw9 hB9 hz1 hk1 hS => ?_)
    obtain ⟨hP1, hK1, hD1⟩ := hB9
    rw [ht9] at hP1
    obtain ⟨hP, hD⟩ := va_join (wr := [((y i), .inr (1, [.ref (b i), .int (nI n2), .int (nI p2)])), ((b i), .inl (cB, M, .inl (fun j => sb_b (C j)))), c4_, c5_, c6_, c7_, c8_, c9_]) (w1 := [((y j), .inr (1, [.ref (b j), .int (nI (n + sw n2)), .int (nI p)])), ((b j), .inl (cB, M, .inl (fun j => sb_b ((wr B n (sw n2) (sv n2)) j))))]) hP hD [0, 1] [2, 3, 4, 5, 6, 7, 8, 9] rfl rfl (by decide) (by decide) hk1 hFc hP1 hD1
    generalize H1 = H at hP hS ⊢
    have hP : va_P D vCl [((y j), .inr (1, [.ref (b j), .int (nI (n + sw n2)), .int (nI p)])), ((b j), .inl (cB, M, .inl (fun j => sb_b ((wr B n (sw n2) (sv n2)) j)))), ((y i), .inr (1, [.ref (b i), .int (nI n2), .int (nI p2)])), ((b i), .inl (cB, M, .inl (fun j => sb_b (C j)))), c4_, c5_, c6_, c7_, c8_, c9_] H := hP.sub [8, 9, 0, 1, 2, 3, 4, 5, 6, 7] rfl
    have hD : va_D A [((y j), .inr (1, [.ref (b j), .int (nI (n + sw n2)), .int (nI p)])), ((b j), .inl (cB, M, .inl (fun j => sb_b ((wr B n (sw n2) (sv n2)) j)))), ((y i), .inr (1, [.ref (b i), .int (nI n2), .int (nI p2)])), ((b i), .inl (cB, M, .inl (fun j => sb_b (C j)))), c4_, c5_, c6_, c7_, c8_, c9_] := hD.sub [8, 9, 0, 1, 2, 3, 4, 5, 6, 7] (by decide) rfl
    refine lv_aload_n hx hb d_D_frame_46 rfl (lv_at hl 3 rfl) ?_
    refine lv_aload hx hb d_D_frame_47 (lv_at hl 2 rfl) ?_
    refine lv_iconst (v := 0) hx hb d_D_frame_49 (by decide) ?_
    refine lv_topi (fun v49 ev49 => ?_)
    have ev49 : v49 = nI 0 := by rw [ev49]; rfl
    subst ev49
    refine lv_iload hx hb d_D_frame_50 (lv_at hl 1 rfl) ?_
    have hPc := hP.sub (ws' := [((y i), .inr (1, [.ref (b i), .int (nI n2), .int (nI p2)])), ((b i), .inl (cB, M, .inl (fun j => sb_b (C j))))]) [2, 3] rfl
    have hKc := hK.sub (tys' := [(cB, .byte)]) [0] rfl
    refine vp_callSi (W.runS (As := [.ref (y i), .int (nI 0), .int (nI n2)]) (rest := [.ref (y j)]) ⟨hx, hb, hml, hown, hA⟩ (c_D_sumOf l D cB (y i) (b i) M C (nI n2) (nI p2) 0 n2 (by omega) hM hB2) (q_D_sumOf hA k2_18 rfl rfl ⟨(Nat.le_of_ble_eq_true rfl), (Nat.le_of_ble_eq_true rfl)⟩) (ox_S hPc hKc) rfl rfl hl.1 rfl (lv_room (Nat.le_of_ble_eq_true rfl)) d_D_frame_52 ⟨(Nat.le_of_ble_eq_true rfl), (Nat.le_of_ble_eq_true rfl)⟩) (fun r52 hr52 => ?_)
    have er52 : r52 = smb C 0 n2 := hr52
    subst er52
    refine lv_i2l hx hb d_D_frame_55 rfl ?_
    refine lv_topl (fun v55 ev55 => ?_)
    have ev55 : v55 = lN (uNl (smb C 0 n2).toInt64) := by rw [lN_u, ev55]
    subst ev55
    refine lv_iconst (v := 4) hx hb d_D_frame_56 (by decide) ?_
    refine lv_topi (fun v56 ev56 => ?_)
    have ev56 : v56 = nI 4 := by rw [ev56]; rfl
    subst ev56
    have hPc := hP.sub (ws' := [((y j), .inr (1, [.ref (b j), .int (nI (n + sw n2)), .int (nI p)])), ((b j), .inl (cB, M, .inl (fun j => sb_b ((wr B n (sw n2) (sv n2)) j))))]) [0, 1] rfl
    have hDc := hD.sub (ws' := [((y j), .inr (1, [.ref (b j), .int (nI (n + sw n2)), .int (nI p)])), ((b j), .inl (cB, M, .inl (fun j => sb_b ((wr B n (sw n2) (sv n2)) j))))]) [0, 1] (by decide) rfl
    have hKc := hK.sub (tys' := [(cB, .byte)]) [0] rfl
    have hFc := va_free (wc := [((y j), .inr (1, [.ref (b j), .int (nI (n + sw n2)), .int (nI p)])), ((b j), .inl (cB, M, .inl (fun j => sb_b ((wr B n (sw n2) (sv n2)) j))))]) hD hS hAq [0, 1] rfl
    refine va_callv (va_runS (As := [.ref (y j), .long (lN (uNl (smb C 0 n2).toInt64)), .int (nI 4)]) (rest := []) ⟨hx, hb, hml, hown, hA⟩ (c_D_addFixed l D cB (y j) (b j) M (wr B n (sw n2) (sv n2)) (n + sw n2) p H.size (uNl (smb C 0 n2).toInt64) 4 (uNl_lt _) (by omega) (by omega) hM) (q_D_addFixed hA k1_177 rfl rfl ⟨(Nat.le_of_ble_eq_true rfl), (Nat.le_of_ble_eq_true rfl)⟩) (oxw_S hPc hKc hDc) rfl rfl hl.1 rfl (lv_room (Nat.le_of_ble_eq_true rfl)) d_D_frame_57 ⟨(Nat.le_of_ble_eq_true rfl), (Nat.le_of_ble_eq_true rfl)⟩) hS (fun q _ h => hFc q h) hFc (fun u9 t9 H1 locs ht9 hvm9 hw9 hB9 hz1 hk1 hS => ?_)
    obtain ⟨hP1, hK1, hD1⟩ := hB9
    rw [ht9] at hP1
    obtain ⟨hP, hD⟩ := va_join (wr := [((y i), .inr (1, [.ref (b i), .int (nI n2), .int (nI p2)])), ((b i), .inl (cB, M, .inl (fun j => sb_b (C j)))), c4_, c5_, c6_, c7_, c8_, c9_]) (w1 := [((y j), .inr (1, [.ref (b j), .int (nI (n + sw n2 + 4)), .int (nI p)])), ((b j), .inl (cB, M, .inl (fun j => sb_b ((wr2 B n (sw n2) (sv n2) 4 (fb (uNl (smb C 0 n2).toInt64))) j))))]) hP hD [0, 1] [2, 3, 4, 5, 6, 7, 8, 9] rfl rfl (by decide) (by decide) hk1 hFc hP1 hD1
    generalize H1 = H at hP hS ⊢
    have hP : va_P D vCl [((y j), .inr (1, [.ref (b j), .int (nI (n + sw n2 + 4)), .int (nI p)])), ((b j), .inl (cB, M, .inl (fun j => sb_b ((wr2 B n (sw n2) (sv n2) 4 (fb (uNl (smb C 0 n2).toInt64))) j)))), ((y i), .inr (1, [.ref (b i), .int (nI n2), .int (nI p2)])), ((b i), .inl (cB, M, .inl (fun j => sb_b (C j)))), c4_, c5_, c6_, c7_, c8_, c9_] H := hP.sub [8, 9, 0, 1, 2, 3, 4, 5, 6, 7] rfl
    have hD : va_D A [((y j), .inr (1, [.ref (b j), .int (nI (n + sw n2 + 4)), .int (nI p)])), ((b j), .inl (cB, M, .inl (fun j => sb_b ((wr2 B n (sw n2) (sv n2) 4 (fb (uNl (smb C 0 n2).toInt64))) j)))), ((y i), .inr (1, [.ref (b i), .int (nI n2), .int (nI p2)])), ((b i), .inl (cB, M, .inl (fun j => sb_b (C j)))), c4_, c5_, c6_, c7_, c8_, c9_] := hD.sub [8, 9, 0, 1, 2, 3, 4, 5, 6, 7] (by decide) rfl
    refine lv_aload_n hx hb d_D_frame_60 rfl (lv_at hl 3 rfl) ?_
    refine lv_aload hx hb d_D_frame_61 (lv_at hl 2 rfl) ?_
    refine lv_iconst (v := 0) hx hb d_D_frame_63 (by decide) ?_
    refine lv_topi (fun v63 ev63 => ?_)
    have ev63 : v63 = nI 0 := by rw [ev63]; rfl
    subst ev63
    refine lv_iload hx hb d_D_frame_64 (lv_at hl 1 rfl) ?_
    have hPc := hP.sub (ws' := [((y j), .inr (1, [.ref (b j), .int (nI (n + sw n2 + 4)), .int (nI p)])), ((b j), .inl (cB, M, .inl (fun j => sb_b ((wr2 B n (sw n2) (sv n2) 4 (fb (uNl (smb C 0 n2).toInt64))) j)))), ((y i), .inr (1, [.ref (b i), .int (nI n2), .int (nI p2)])), ((b i), .inl (cB, M, .inl (fun j => sb_b (C j))))]) [0, 1, 2, 3] rfl
    have hDc := hD.sub (ws' := [((y j), .inr (1, [.ref (b j), .int (nI (n + sw n2 + 4)), .int (nI p)])), ((b j), .inl (cB, M, .inl (fun j => sb_b ((wr2 B n (sw n2) (sv n2) 4 (fb (uNl (smb C 0 n2).toInt64))) j)))), ((y i), .inr (1, [.ref (b i), .int (nI n2), .int (nI p2)])), ((b i), .inl (cB, M, .inl (fun j => sb_b (C j))))]) [0, 1, 2, 3] (by decide) rfl
    have hKc := hK.sub (tys' := [(cB, .byte)]) [0] rfl
    have hFc := va_free (wc := [((y j), .inr (1, [.ref (b j), .int (nI (n + sw n2 + 4)), .int (nI p)])), ((b j), .inl (cB, M, .inl (fun j => sb_b ((wr2 B n (sw n2) (sv n2) 4 (fb (uNl (smb C 0 n2).toInt64))) j)))), ((y i), .inr (1, [.ref (b i), .int (nI n2), .int (nI p2)])), ((b i), .inl (cB, M, .inl (fun j => sb_b (C j))))]) hD hS hAq [0, 1, 2, 3] rfl
    refine va_callv (va_runS (As := [.ref (y j), .ref (y i), .int (nI 0), .int (nI n2)]) (rest := []) ⟨hx, hb, hml, hown, hA⟩ (c_D_addBytes2 l D cB (y j) (b j) (y i) (b i) M (wr2 B n (sw n2) (sv n2) 4 (fb (uNl (smb C 0 n2).toInt64))) C (n + sw n2 + 4) p n2 p2 H.size 0 n2 (by omega) (by omega) hM) (q_D_addBytes hA k1_238 rfl rfl ⟨(Nat.le_of_ble_eq_true rfl), (Nat.le_of_ble_eq_true rfl)⟩) (oxw_S hPc hKc hDc) rfl rfl hl.1 rfl (lv_room (Nat.le_of_ble_eq_true rfl)) d_D_frame_66 ⟨(Nat.le_of_ble_eq_true rfl), (Nat.le_of_ble_eq_true rfl)⟩) hS (fun q _ h => hFc q h) hFc (fun u9 t9 H1 locs ht9 hvm9 hw9 hB9 hz1 hk1 hS => ?_)
    obtain ⟨hP1, hK1, hD1⟩ := hB9
    rw [ht9] at hP1
    obtain ⟨hP, hD⟩ := va_join (wr := [c4_, c5_, c6_, c7_, c8_, c9_]) (w1 := [((y j), .inr (1, [.ref (b j), .int (nI (n + sw n2 + 4 + n2)), .int (nI p)])), ((b j), .inl (cB, M, .inl (fun j => sb_b ((wr (wr2 B n (sw n2) (sv n2) 4 (fb (uNl (smb C 0 n2).toInt64))) (n + sw n2 + 4) n2 (fun i9 => C (0 + i9))) j)))), ((y i), .inr (1, [.ref (b i), .int (nI n2), .int (nI p2)])), ((b i), .inl (cB, M, .inl (fun j => sb_b (C j))))]) hP hD [0, 1, 2, 3] [4, 5, 6, 7, 8, 9] rfl rfl (by decide) (by decide) hk1 hFc hP1 hD1
    generalize H1 = H at hP hS ⊢
    have hP : va_P D vCl [((y j), .inr (1, [.ref (b j), .int (nI (n + sw n2 + 4 + n2)), .int (nI p)])), ((b j), .inl (cB, M, .inl (fun j => sb_b ((wr (wr2 B n (sw n2) (sv n2) 4 (fb (uNl (smb C 0 n2).toInt64))) (n + sw n2 + 4) n2 (fun i9 => C (0 + i9))) j)))), ((y i), .inr (1, [.ref (b i), .int (nI n2), .int (nI p2)])), ((b i), .inl (cB, M, .inl (fun j => sb_b (C j)))), c4_, c5_, c6_, c7_, c8_, c9_] H := hP.sub [6, 7, 8, 9, 0, 1, 2, 3, 4, 5] rfl
    have hD : va_D A [((y j), .inr (1, [.ref (b j), .int (nI (n + sw n2 + 4 + n2)), .int (nI p)])), ((b j), .inl (cB, M, .inl (fun j => sb_b ((wr (wr2 B n (sw n2) (sv n2) 4 (fb (uNl (smb C 0 n2).toInt64))) (n + sw n2 + 4) n2 (fun i9 => C (0 + i9))) j)))), ((y i), .inr (1, [.ref (b i), .int (nI n2), .int (nI p2)])), ((b i), .inl (cB, M, .inl (fun j => sb_b (C j)))), c4_, c5_, c6_, c7_, c8_, c9_] := hD.sub [6, 7, 8, 9, 0, 1, 2, 3, 4, 5] (by decide) rfl
    have ew : wr (wr2 B n (sw n2) (sv n2) 4 (fb (uNl (smb C 0 n2).toInt64))) (n + sw n2 + 4) n2 (fun i9 => C (0 + i9)) = wr (wr2 B n (sw n2) (sv n2) 4 (fb (uNl (smb C 0 n2).toInt64))) (n + sw n2 + 4) n2 C := wr_congr _ _ (fun i9 h9 => by rw [Nat.zero_add])
    rw [ew] at hP hD
    refine lv_iload hx hb d_D_frame_69 (lv_at hl 0 rfl) ?_
    exact tx_ret (W.iret (v := nI (sw n2 + 4 + n2)) hx hb hr (fun t ht hW => Or.inl ⟨_, rfl, ⟨⟨_, va_up (va_up σ j (wr (wr2 B n (sw n2) (sv n2) 4 (fb (uNl (smb C 0 n2).toInt64))) (n + sw n2 + 4) n2 C, n + sw n2 + 4 + n2, p)) i (C, n2, p2), rfl, (by rw [va_up2 hji hρ2]; unfold spFrame; simp only [hrj, hri, hρ, hρ2]; rw [if_neg (fun h8 => h8 hir), if_neg (Nat.not_lt.mpr hrr)]), by rw [ht]; exact ho1 (wr (wr2 B n (sw n2) (sv n2) 4 (fb (uNl (smb C 0 n2).toInt64))) (n + sw n2 + 4) n2 C, n + sw n2 + 4 + n2, p) (C, n2, p2) _ hP, va_K.moved hW.alike hK, ho2 (wr (wr2 B n (sw n2) (sv n2) 4 (fb (uNl (smb C 0 n2).toInt64))) (n + sw n2 + 4) n2 C, n + sw n2 + 4 + n2, p) (C, n2, p2) _ hD⟩, hS.F ht⟩⟩) hS.2.2 d_D_frame_71)
end
section
/-! THE CLASS: READBLOCK, READFRAME, SAME -/
set_option maxHeartbeats 600000 in
set_option maxRecDepth 100000 in
/-- readBlock -/
theorem c_D_readBlock (l : Launch) (hL0 : l.stackTraces = false) (D : va_G) (cR cB : ClassId) (h ra : Nat) (g : Nat → Option Nat) (M : Nat) (y b : Nat → Nat) (σ : dkS) (sz : Nat) (x t : Int32) (hg : ∀ i, i < 4 → g i = some (y i)) (hσ : dkok M σ) : tx_Met l y_D_readBlock w_D_readBlock ({ frames := 8, cells := 1, slots := 6, locals := 133 }) (va_Pc [.ref h, .int x, .int t] (oxv sz D [(cB, .byte), (cR, .object "PacketDesk$Row")] [(h, .inr (0, [.ref ra])), (ra, .inl (cR, 4, .inr (.inr (.inr (.inr g))))), ((y 0), .inr (1, [.ref (b 0), .int (nI (σ 0).2.1), .int (nI (σ 0).2.2)])), ((b 0), .inl (cB, M, .inl (fun j => sb_b ((σ 0).1 j)))), ((y 1), .inr (1, [.ref (b 1), .int (nI (σ 1).2.1), .int (nI (σ 1).2.2)])), ((b 1), .inl (cB, M, .inl (fun j => sb_b ((σ 1).1 j)))), ((y 2), .inr (1, [.ref (b 2), .int (nI (σ 2).2.1), .int (nI (σ 2).2.2)])), ((b 2), .inl (cB, M, .inl (fun j => sb_b ((σ 2).1 j)))), ((y 3), .inr (1, [.ref (b 3), .int (nI (σ 3).2.1), .int (nI (σ 3).2.2)])), ((b 3), .inl (cB, M, .inl (fun j => sb_b ((σ 3).1 j))))])) (tx_Q (fun E => (E = X_IOOBE ∧ (spReadBlock σ x t).1 = 1) ∨ (E = X_IAE ∧ (spReadBlock σ x t).1 = 2) ∨ (E = X_NSEE ∧ (spReadBlock σ x t).1 = 3)) (va_Qi (fun r (τ : dkS) => spReadBlock σ x t = (0, r, τ)) (fun τ => ow D [(cB, .byte), (cR, .object "PacketDesk$Row")] (va_A [(h, .inr (0, [.ref ra])), (ra, .inl (cR, 4, .inr (.inr (.inr (.inr g))))), ((y 0), .inr (1, [.ref (b 0), .int (nI (σ 0).2.1), .int (nI (σ 0).2.2)])), ((b 0), .inl (cB, M, .inl (fun j => sb_b ((σ 0).1 j)))), ((y 1), .inr (1, [.ref (b 1), .int (nI (σ 1).2.1), .int (nI (σ 1).2.2)])), ((b 1), .inl (cB, M, .inl (fun j => sb_b ((σ 1).1 j)))), ((y 2), .inr (1, [.ref (b 2), .int (nI (σ 2).2.1), .int (nI (σ 2).2.2)])), ((b 2), .inl (cB, M, .inl (fun j => sb_b ((σ 2).1 j)))), ((y 3), .inr (1, [.ref (b 3), .int (nI (σ 3).2.1), .int (nI (σ 3).2.2)])), ((b 3), .inl (cB, M, .inl (fun j => sb_b ((σ 3).1 j))))] sz) (dk cR cB h ra g M y b τ)) (va_A [(h, .inr (0, [.ref ra])), (ra, .inl (cR, 4, .inr (.inr (.inr (.inr g))))), ((y 0), .inr (1, [.ref (b 0), .int (nI (σ 0).2.1), .int (nI (σ 0).2.2)])), ((b 0), .inl (cB, M, .inl (fun j => sb_b ((σ 0).1 j)))), ((y 1), .inr (1, [.ref (b 1), .int (nI (σ 1).2.1), .int (nI (σ 1).2.2)])), ((b 1), .inl (cB, M, .inl (fun j => sb_b ((σ 1).1 j)))), ((y 2), .inr (1, [.ref (b 2), .int (nI (σ 2).2.1), .int (nI (σ 2).2.2)])), ((b 2), .inl (cB, M, .inl (fun j => sb_b ((σ 2).1 j)))), ((y 3), .inr (1, [.ref (b 3), .int (nI (σ 3).2.1), .int (nI (σ 3).2.2)])), ((b 3), .inl (cB, M, .inl (fun j => sb_b ((σ 3).1 j))))] sz))) 0 0 (va_A [(h, .inr (0, [.ref ra])), (ra, .inl (cR, 4, .inr (.inr (.inr (.inr g))))), ((y 0), .inr (1, [.ref (b 0), .int (nI (σ 0).2.1), .int (nI (σ 0).2.2)])), ((b 0), .inl (cB, M, .inl (fun j => sb_b ((σ 0).1 j)))), ((y 1), .inr (1, [.ref (b 1), .int (nI (σ 1).2.1), .int (nI (σ 1).2.2)])), ((b 1), .inl (cB, M, .inl (fun j => sb_b ((σ 1).1 j)))), ((y 2), .inr (1, [.ref (b 2), .int (nI (σ 2).2.1), .int (nI (σ 2).2.2)])), ((b 2), .inl (cB, M, .inl (fun j => sb_b ((σ 2).1 j)))), ((y 3), .inr (1, [.ref (b 3), .int (nI (σ 3).2.1), .int (nI (σ 3).2.2)])), ((b 3), .inl (cB, M, .inl (fun j => sb_b ((σ 3).1 j))))] sz) := by
  refine tx_ofW (cc := b_D_readBlock) (maxL := 7) (ret := (some .int)) (by decide) rfl ?_
  intro p9 e9 s m args below meth c9 s₁ BL hml hce hadm hv
  obtain ⟨rfl, hsz, hP, hK, hD0, hG⟩ := hv
  have hx := BL.exec
  have hb := BL.bytes
  have hr := BL.returns
  have hts := atoms_spec (ws := w_D_readBlock) BL.pre
  have hA : ∀ w ∈ wsA, w.before _ s = true := fun w h => hts w (List.mem_cons_of_mem _ h)
  have hown : s.vm.findClass R_D = some m.cls := findClass_of_methodNamed BL.named
  have hlocks := BL.notSynchronized
  have htr : e9.platform.stackTraces = false := by rw [hadm.platform]; exact hL0
  subst hsz
  have hD := hD0.self (sz := s.heap.size)
  generalize hAe : va_A [(h, .inr (0, [.ref ra])), (ra, .inl (cR, 4, .inr (.inr (.inr (.inr g))))), ((y 0), .inr (1, [.ref (b 0), .int (nI (σ 0).2.1), .int (nI (σ 0).2.2)])), ((b 0), .inl (cB, M, .inl (fun j => sb_b ((σ 0).1 j)))), ((y 1), .inr (1, [.ref (b 1), .int (nI (σ 1).2.1), .int (nI (σ 1).2.2)])), ((b 1), .inl (cB, M, .inl (fun j => sb_b ((σ 1).1 j)))), ((y 2), .inr (1, [.ref (b 2), .int (nI (σ 2).2.1), .int (nI (σ 2).2.2)])), ((b 2), .inl (cB, M, .inl (fun j => sb_b ((σ 2).1 j)))), ((y 3), .inr (1, [.ref (b 3), .int (nI (σ 3).2.1), .int (nI (σ 3).2.2)])), ((b 3), .inl (cB, M, .inl (fun j => sb_b ((σ 3).1 j))))] s.heap.size = A at hD ⊢
  have hAq : ∀ q : Nat, s.heap.size ≤ q → A q := fun q h => by rw [← hAe]; exact Or.inr h
  have hS : va_S A s.heap s.heap [] := va_S.rf
  have hP : va_P D vCl [(h, .inr (0, [.ref ra])), (ra, .inl (cR, 4, .inr (.inr (.inr (.inr g))))), ((y 0), .inr (1, [.ref (b 0), .int (nI (σ 0).2.1), .int (nI (σ 0).2.2)])), ((b 0), .inl (cB, M, .inl (fun j => sb_b ((σ 0).1 j)))), ((y 1), .inr (1, [.ref (b 1), .int (nI (σ 1).2.1), .int (nI (σ 1).2.2)])), ((b 1), .inl (cB, M, .inl (fun j => sb_b ((σ 1).1 j)))), ((y 2), .inr (1, [.ref (b 2), .int (nI (σ 2).2.1), .int (nI (σ 2).2.2)])), ((b 2), .inl (cB, M, .inl (fun j => sb_b ((σ 2).1 j)))), ((y 3), .inr (1, [.ref (b 3), .int (nI (σ 3).2.1), .int (nI (σ 3).2.2)])), ((b 3), .inl (cB, M, .inl (fun j => sb_b ((σ 3).1 j))))] s.heap := hP
  have hl := lv_entry ([.ref h, .int x, .int t]) (n := 7) (Nat.le_of_ble_eq_true rfl)
  rw [lg_entry_eq]
  generalize (lg_sl ([.ref h, .int x, .int t]) ++ List.replicate (7 - (lg_sl ([.ref h, .int x, .int t])).length) Slot.unset).toArray = ls at hl ⊢
  have hl : lv_has ls 7 [(0, .ref h), (1, .int x), (2, .int t)] := hl
  refine lv_aload_n hx hb d_D_readBlock_0 rfl (lv_at hl 0 rfl) ?_
  refine lv_iload_n hx hb d_D_readBlock_1 rfl (lv_at hl 1 rfl) ?_
  have hPc := hP.sub (ws' := [(h, .inr (0, [.ref ra])), (ra, .inl (cR, 4, .inr (.inr (.inr (.inr g)))))]) [0, 1] rfl
  have hKc := hK.sub (tys' := [(cR, .object "PacketDesk$Row")]) [1] rfl
  refine tx_sr (tx_runV (As := [.int x]) (rest := []) ⟨hx, hb, hml, hown, hA⟩ (c_D_rowOf l hL0 D cR h ra g y hg x) (q_D_rowOf hA k1_66 rfl rfl ⟨(Nat.le_of_ble_eq_true rfl), (Nat.le_of_ble_eq_true rfl)⟩) (ox_V (va_recv hKc hPc (ci := 0) (q0 := 0) rfl rfl) (oxg_S hPc hKc hG (fun _ _ => rfl))) rfl rfl hl.1 rfl (lv_room (Nat.le_of_ble_eq_true rfl)) d_D_readBlock_2 ⟨(Nat.le_of_ble_eq_true rfl), (Nat.le_of_ble_eq_true rfl)⟩) (fun x9 E9 H9 ht9 hE9 => tx_prop hlocks hce hE9 (Nat.le_refl _) (fun _ _ => rfl) (Or.inl (⟨ht9.1, by unfold spReadBlock; rw [if_pos (fun h9 => ht9.2 h9.1)]⟩)) (fun q h => by cases h)) (fun j hj => ?_)
  obtain ⟨hj, hxj⟩ := hj
  refine lv_astore_n (lv' := [(3, .ref (y j)), (0, .ref h), (1, .int x), (2, .int t)]) hx hb d_D_readBlock_5 rfl hl (by decide) rfl (fun ls hl => ?_)
  refine lv_aload_n hx hb d_D_readBlock_6 rfl (lv_at hl 1 rfl) ?_
  refine lv_iload_n hx hb d_D_readBlock_7 rfl (lv_at hl 3 rfl) ?_
  have hPc := hP.sub (ws' := [(h, .inr (0, [.ref ra])), (ra, .inl (cR, 4, .inr (.inr (.inr (.inr g)))))]) [0, 1] rfl
  have hKc := hK.sub (tys' := [(cR, .object "PacketDesk$Row")]) [1] rfl
  refine tx_sr (tx_runV (As := [.int t]) (rest := []) ⟨hx, hb, hml, hown, hA⟩ (c_D_rowOf l hL0 D cR h ra g y hg t) (q_D_rowOf hA k1_66 rfl rfl ⟨(Nat.le_of_ble_eq_true rfl), (Nat.le_of_ble_eq_true rfl)⟩) (ox_V (va_recv hKc hPc (ci := 0) (q0 := 0) rfl rfl) (oxg_S hPc hKc hG (fun _ _ => rfl))) rfl rfl hl.1 rfl (lv_room (Nat.le_of_ble_eq_true rfl)) d_D_readBlock_8 ⟨(Nat.le_of_ble_eq_true rfl), (Nat.le_of_ble_eq_true rfl)⟩) (fun x9 E9 H9 ht9 hE9 => tx_prop hlocks hce hE9 (Nat.le_refl _) (fun _ _ => rfl) (Or.inl (⟨ht9.1, by unfold spReadBlock; rw [if_pos (fun h9 => ht9.2 h9.2)]⟩)) (fun q h => by cases h)) (fun i hi => ?_)
  obtain ⟨hi, hxi⟩ := hi
  refine lv_astore (lv' := [(4, .ref (y i)), (3, .ref (y j)), (0, .ref h), (1, .int x), (2, .int t)]) hx hb d_D_readBlock_11 hl (by decide) rfl (fun ls hl => ?_)
  refine lv_iload_n hx hb d_D_readBlock_13 rfl (lv_at hl 3 rfl) ?_
  refine lv_iload_n hx hb d_D_readBlock_14 rfl (lv_at hl 4 rfl) ?_
  have hir : isR x ∧ isR t := ⟨by rw [hxj]; exact isR_n hj, by rw [hxi]; exact isR_n hi⟩
  refine tx_sv (tx_runS (As := [.int x, .int t]) (rest := []) ⟨hx, hb, hml, hown, hA⟩ (c_D_needTwoRows l hL0 x t) (q_D_needTwoRows hA k2_130 rfl rfl ⟨(Nat.le_of_ble_eq_true rfl), (Nat.le_of_ble_eq_true rfl)⟩) (g_S hG (fun _ _ => rfl)) rfl rfl hl.1 rfl (lv_room (Nat.le_of_ble_eq_true rfl)) d_D_readBlock_15 ⟨(Nat.le_of_ble_eq_true rfl), (Nat.le_of_ble_eq_true rfl)⟩) (fun x9 E9 H9 ht9 hE9 => tx_prop hlocks hce hE9 (Nat.le_refl _) (fun _ _ => rfl) (Or.inr (Or.inl (⟨ht9.1, by unfold spReadBlock; rw [if_neg (fun h8 => h8 hir), if_pos ht9.2]⟩))) (fun q h => by cases h)) (fun hr15 => ?_)
  have hji : ¬ j = i := fun q9 => hr15 (by rw [hxj, hxi, q9])
  obtain ⟨c4_, c5_, c6_, c7_, c8_, c9_, hi1, hi2, ho1, ho2⟩ := dk_2 D vCl cR cB h ra g M y b σ hj hi hji
  have hP : va_P D vCl [(y j, .inr (1, [.ref (b j), .int (nI (σ j).2.1), .int (nI (σ j).2.2)])), (b j, .inl (cB, M, .inl (fun j9 => sb_b ((σ j).1 j9)))), (y i, .inr (1, [.ref (b i), .int (nI (σ i).2.1), .int (nI (σ i).2.2)])), (b i, .inl (cB, M, .inl (fun j9 => sb_b ((σ i).1 j9)))), c4_, c5_, c6_, c7_, c8_, c9_] s.heap := hi1 _ hP
  have hD : va_D A [(y j, .inr (1, [.ref (b j), .int (nI (σ j).2.1), .int (nI (σ j).2.2)])), (b j, .inl (cB, M, .inl (fun j9 => sb_b ((σ j).1 j9)))), (y i, .inr (1, [.ref (b i), .int (nI (σ i).2.1), .int (nI (σ i).2.2)])), (b i, .inl (cB, M, .inl (fun j9 => sb_b ((σ i).1 j9)))), c4_, c5_, c6_, c7_, c8_, c9_] := hi2 _ hD
  obtain ⟨⟨B, n, p⟩, hρ⟩ : ∃ ρ, σ j = ρ := ⟨_, rfl⟩
  obtain ⟨⟨C, n2, p2⟩, hρ2⟩ : ∃ ρ, σ i = ρ := ⟨_, rfl⟩
  have hk := hσ.2 j hj
  have hk2 := hσ.2 i hi
  have hM := hσ.1
  rw [hρ] at hk
  rw [hρ2] at hk2
  rw [hρ, hρ2] at hP hD
  obtain ⟨hp, hn, hB⟩ := hk
  have hp : p ≤ n := hp
  have hn : n ≤ M := hn
  have hB : ∀ j, B j < 256 := hB
  obtain ⟨hp2, hn2, hB2⟩ := hk2
  have hp2 : p2 ≤ n2 := hp2
  have hn2 : n2 ≤ M := hn2
  have hB2 : ∀ j, C j < 256 := hB2
  have hP : va_P D vCl [((y j), .inr (1, [.ref (b j), .int (nI n), .int (nI p)])), ((b j), .inl (cB, M, .inl (fun j => sb_b (B j)))), ((y i), .inr (1, [.ref (b i), .int (nI n2), .int (nI p2)])), ((b i), .inl (cB, M, .inl (fun j => sb_b (C j)))), c4_, c5_, c6_, c7_, c8_, c9_] s.heap := hP
  have hD : va_D A [((y j), .inr (1, [.ref (b j), .int (nI n), .int (nI p)])), ((b j), .inl (cB, M, .inl (fun j => sb_b (B j)))), ((y i), .inr (1, [.ref (b i), .int (nI n2), .int (nI p2)])), ((b i), .inl (cB, M, .inl (fun j => sb_b (C j)))), c4_, c5_, c6_, c7_, c8_, c9_] := hD
  have hrj : rj x = j := by rw [hxj]; exact rj_n hj
  have hri : rj t = i := by rw [hxi]; exact rj_n hi
  have hir : isR x ∧ isR t := ⟨by rw [hxj]; exact isR_n hj, by rw [hxi]; exact isR_n hi⟩
  refine lv_aload_n hx hb d_D_readBlock_18 rfl (lv_at hl 1 rfl) ?_
  have hs2 : gw B p n 10 = -2 → (spReadBlock σ x t).1 = 2 := fun h9 => by unfold spReadBlock gmσ gwσ; simp only [hrj, hri, hρ, hρ2]; rw [if_neg (fun h8 => h8 hir), if_neg hr15, if_pos h9]
  have hs3 : gw B p n 10 = -3 → (spReadBlock σ x t).1 = 3 := fun h9 => by unfold spReadBlock gmσ gwσ; simp only [hrj, hri, hρ, hρ2]; rw [if_neg (fun h8 => h8 hir), if_neg hr15, if_neg (by rw [h9]; decide), if_pos h9]
  have hPc := hP.sub (ws' := [((y j), .inr (1, [.ref (b j), .int (nI n), .int (nI p)])), ((b j), .inl (cB, M, .inl (fun j => sb_b (B j))))]) [0, 1] rfl
  have hKc := hK.sub (tys' := [(cB, .byte)]) [0] rfl
  refine tx_si (tx_runS (As := [.ref (y j)]) (rest := []) ⟨hx, hb, hml, hown, hA⟩ (c_D_sevensWidthAtPlace l hL0 D cB (y j) (b j) M B n p hn hp hM hB) (q_D_sevensWidthAtPlace hA k2_89 rfl rfl ⟨(Nat.le_of_ble_eq_true rfl), (Nat.le_of_ble_eq_true rfl)⟩) (oxg_S hPc hKc hG (fun _ _ => rfl)) rfl rfl hl.1 rfl (lv_room (Nat.le_of_ble_eq_true rfl)) d_D_readBlock_19 ⟨(Nat.le_of_ble_eq_true rfl), (Nat.le_of_ble_eq_true rfl)⟩) (fun x9 E9 H9 ht9 hE9 => tx_prop hlocks hce hE9 (Nat.le_refl _) (fun _ _ => rfl) (ht9.elim (fun q9 => Or.inr (Or.inr (⟨q9.1, hs3 q9.2⟩))) (fun q9 => Or.inr (Or.inl (⟨q9.1, hs2 q9.2⟩)))) (fun q h => by cases h)) (fun r19 hr19 => ?_)
  obtain ⟨w, hr19, hgw⟩ := hr19
  obtain ⟨hw1, hw2, hw3, hw4⟩ := gw_ok 10 w (Nat.le_refl _) hgw
  subst hr19
  have hgn : (gw B p n 10).toNat = w := by rw [hgw]; rfl
  refine lv_istore (lv' := [(5, .int (nI w)), (4, .ref (y i)), (3, .ref (y j)), (0, .ref h), (1, .int x), (2, .int t)]) hx hb d_D_readBlock_22 hl (by decide) rfl (fun ls hl => ?_)
  refine lv_aload_n hx hb d_D_readBlock_24 rfl (lv_at hl 2 rfl) ?_
  refine lv_iload hx hb d_D_readBlock_25 (lv_at hl 0 rfl) ?_
  have hPc := hP.sub (ws' := [((y j), .inr (1, [.ref (b j), .int (nI n), .int (nI p)])), ((b j), .inl (cB, M, .inl (fun j => sb_b (B j))))]) [0, 1] rfl
  have hKc := hK.sub (tys' := [(cB, .byte)]) [0] rfl
  refine tx_si (tx_runS (As := [.ref (y j), .int (nI w)]) (rest := []) ⟨hx, hb, hml, hown, hA⟩ (c_D_howManyAtPlace l hL0 D cB (y j) (b j) M B (nI n) p w hw2 (by omega) hM hB (gs_64 hw2 hw4)) (q_D_howManyAtPlace hA k2_134 rfl rfl ⟨(Nat.le_of_ble_eq_true rfl), (Nat.le_of_ble_eq_true rfl)⟩) (oxg_S hPc hKc hG (fun _ _ => rfl)) rfl rfl hl.1 rfl (lv_room (Nat.le_of_ble_eq_true rfl)) d_D_readBlock_27 ⟨(Nat.le_of_ble_eq_true rfl), (Nat.le_of_ble_eq_true rfl)⟩) (fun x9 E9 H9 ht9 hE9 => tx_prop hlocks hce hE9 (Nat.le_refl _) (fun _ _ => rfl) (Or.inr (Or.inl (⟨ht9.1, by unfold spReadBlock gmσ gwσ; simp only [hrj, hri, hρ, hρ2]; rw [if_neg (fun h8 => h8 hir), if_neg hr15, if_neg (by rw [hgw]; omega), if_neg (by rw [hgw]; omega), hgn, if_pos ht9.2]⟩))) (fun q h => by cases h)) (fun r27 hr27 => ?_)
  obtain ⟨hg6, rfl⟩ := hr27
  refine lv_istore (lv' := [(6, .int (nI (gs B p w))), (5, .int (nI w)), (4, .ref (y i)), (3, .ref (y j)), (0, .ref h), (1, .int x), (2, .int t)]) hx hb d_D_readBlock_30 hl (by decide) rfl (fun ls hl => ?_)
  refine lv_aload_n hx hb d_D_readBlock_32 rfl (lv_at hl 3 rfl) ?_
  refine lv_iload hx hb d_D_readBlock_33 (lv_at hl 1 rfl) ?_
  refine lv_iload hx hb d_D_readBlock_35 (lv_at hl 0 rfl) ?_
  refine lv_iadd hx hb d_D_readBlock_37 ?_
  refine lv_topi (fun v37 ev37 => ?_)
  have ev37 : v37 = nI (w + (gs B p w)) := by rw [ev37]; exact nI_add _ _
  subst ev37
  have hPc := hP.sub (ws' := [((y j), .inr (1, [.ref (b j), .int (nI n), .int (nI p)])), ((b j), .inl (cB, M, .inl (fun j => sb_b (B j))))]) [0, 1] rfl
  have hKc := hK.sub (tys' := [(cB, .byte)]) [0] rfl
  refine tx_sv (tx_runS (As := [.ref (y j), .int (nI (w + (gs B p w)))]) (rest := []) ⟨hx, hb, hml, hown, hA⟩ (c_D_needLeft l hL0 D cB (y j) (b j) M B n p hn hM hp (w + (gs B p w)) (by omega)) (q_D_needLeft hA k2_57 rfl rfl ⟨(Nat.le_of_ble_eq_true rfl), (Nat.le_of_ble_eq_true rfl)⟩) (oxg_S hPc hKc hG (fun _ _ => rfl)) rfl rfl hl.1 rfl (lv_room (Nat.le_of_ble_eq_true rfl)) d_D_readBlock_38 ⟨(Nat.le_of_ble_eq_true rfl), (Nat.le_of_ble_eq_true rfl)⟩) (fun x9 E9 H9 ht9 hE9 => tx_prop hlocks hce hE9 (Nat.le_refl _) (fun _ _ => rfl) (Or.inr (Or.inr (⟨ht9.1, by unfold spReadBlock gmσ gwσ; simp only [hrj, hri, hρ, hρ2]; rw [if_neg (fun h8 => h8 hir), if_neg hr15, if_neg (by rw [hgw]; omega), if_neg (by rw [hgw]; omega), hgn, if_neg (Nat.not_lt.mpr hg6), if_pos ht9.2]⟩))) (fun q h => by cases h)) (fun hrl => ?_)
  refine lv_aload_n hx hb d_D_readBlock_41 rfl (lv_at hl 3 rfl) ?_
  refine lv_aload_n hx hb d_D_readBlock_42 rfl (lv_at hl 3 rfl) ?_
  refine va_get (D := D) (ci := 1) (v := .int (nI p)) (C := R_R) (T := F_R) (N := 3) hx hb hA i_R hown hK hP 0 rfl rfl 2 (by decide) (hA _ k1_40) (fun _ h9 => h9) rfl d_D_readBlock_43 ?_
  refine lv_iload hx hb d_D_readBlock_46 (lv_at hl 1 rfl) ?_
  refine lv_iadd hx hb d_D_readBlock_48 ?_
  refine lv_topi (fun v48 ev48 => ?_)
  have ev48 : v48 = nI (p + w) := by rw [ev48]; exact nI_add p w
  subst ev48
  refine lv_iload hx hb d_D_readBlock_49 (lv_at hl 0 rfl) ?_
  refine lv_aload hx hb d_D_readBlock_51 (lv_at hl 2 rfl) ?_
  have hPc := hP.sub (ws' := [((y j), .inr (1, [.ref (b j), .int (nI n), .int (nI p)])), ((b j), .inl (cB, M, .inl (fun j => sb_b (B j)))), ((y i), .inr (1, [.ref (b i), .int (nI n2), .int (nI p2)])), ((b i), .inl (cB, M, .inl (fun j => sb_b (C j))))]) [0, 1, 2, 3] rfl
  have hDc := hD.sub (ws' := [((y j), .inr (1, [.ref (b j), .int (nI n), .int (nI p)])), ((b j), .inl (cB, M, .inl (fun j => sb_b (B j)))), ((y i), .inr (1, [.ref (b i), .int (nI n2), .int (nI p2)])), ((b i), .inl (cB, M, .inl (fun j => sb_b (C j))))]) [0, 1, 2, 3] (by decide) rfl
  have hKc := hK.sub (tys' := [(cB, .byte)]) [0] rfl
  have hFc := va_free (wc := [((y j), .inr (1, [.ref (b j), .int (nI n), .int (nI p)])), ((b j), .inl (cB, M, .inl (fun j => sb_b (B j)))), ((y i), .inr (1, [.ref (b i), .int (nI n2), .int (nI p2)])), ((b i), .inl (cB, M, .inl (fun j => sb_b (C j))))]) hD hS hAq [0, 1, 2, 3] rfl
  refine va_callv (va_runS (As := [.ref (y j), .int (nI (p + w)), .int (nI (gs B p w)), .ref (y i)]) (rest := []) ⟨hx, hb, hml, hown, hA⟩ (c_D_moveBytes l D cB (y j) (b j) (y i) (b i) M B C n p n2 p2 s.heap.size (p + w) (gs B p w) (by omega) hM) (q_D_moveBytes hA k2_139 rfl rfl ⟨(Nat.le_of_ble_eq_true rfl), (Nat.le_of_ble_eq_true rfl)⟩) (oxw_S hPc hKc hDc) rfl rfl hl.1 rfl (lv_room (Nat.le_of_ble_eq_true rfl)) d_D_readBlock_53 ⟨(Nat.le_of_ble_eq_true rfl), (Nat.le_of_ble_eq_true rfl)⟩) hS (fun q _ h => hFc q h) hFc (fun u9 t9 H1 locs ht9 hvm9 hw9 hB9 hz1 hk1 hS => ?_)
  obtain ⟨hP1, hK1, hD1⟩ := hB9
  rw [ht9] at hP1
  obtain ⟨hP, hD⟩ := va_join (wr := [c4_, c5_, c6_, c7_, c8_, c9_]) (w1 := [((y j), .inr (1, [.ref (b j), .int (nI n), .int (nI (p + w + (gs B p w)))])), ((b j), .inl (cB, M, .inl (fun j => sb_b (B j)))), ((y i), .inr (1, [.ref (b i), .int (nI (gs B p w)), .int (nI 0)])), ((b i), .inl (cB, M, .inl (fun j => sb_b ((wr C 0 (gs B p w) (fun i9 => B (p + w + i9))) j))))]) hP hD [0, 1, 2, 3] [4, 5, 6, 7, 8, 9] rfl rfl (by decide) (by decide) hk1 hFc hP1 hD1
  generalize H1 = H at hP hS ⊢
  have hP : va_P D vCl [((y j), .inr (1, [.ref (b j), .int (nI n), .int (nI (p + w + (gs B p w)))])), ((b j), .inl (cB, M, .inl (fun j => sb_b (B j)))), ((y i), .inr (1, [.ref (b i), .int (nI (gs B p w)), .int (nI 0)])), ((b i), .inl (cB, M, .inl (fun j => sb_b ((wr C 0 (gs B p w) (fun i9 => B (p + w + i9))) j)))), c4_, c5_, c6_, c7_, c8_, c9_] H := hP.sub [6, 7, 8, 9, 0, 1, 2, 3, 4, 5] rfl
  have hD : va_D A [((y j), .inr (1, [.ref (b j), .int (nI n), .int (nI (p + w + (gs B p w)))])), ((b j), .inl (cB, M, .inl (fun j => sb_b (B j)))), ((y i), .inr (1, [.ref (b i), .int (nI (gs B p w)), .int (nI 0)])), ((b i), .inl (cB, M, .inl (fun j => sb_b ((wr C 0 (gs B p w) (fun i9 => B (p + w + i9))) j)))), c4_, c5_, c6_, c7_, c8_, c9_] := hD.sub [6, 7, 8, 9, 0, 1, 2, 3, 4, 5] (by decide) rfl
  refine lv_iload hx hb d_D_readBlock_56 (lv_at hl 0 rfl) ?_
  exact tx_ret (W.iret (v := nI (gs B p w)) hx hb hr (fun t ht hW => Or.inl ⟨_, rfl, ⟨⟨_, va_up (va_up σ j (B, n, p + w + (gs B p w))) i (wr C 0 (gs B p w) (fun i9 => B (p + w + i9)), (gs B p w), 0), rfl, (by unfold spReadBlock gmσ gwσ; simp only [hrj, hri, hρ, hρ2]; rw [if_neg (fun h8 => h8 hir), if_neg hr15, if_neg (by rw [hgw]; omega), if_neg (by rw [hgw]; omega), hgn, if_neg (Nat.not_lt.mpr hg6), if_neg (Nat.not_lt.mpr hrl)]; unfold mvσ gmσ gwσ; simp only [hrj, hri, hρ, hρ2]; rw [hgn]), by rw [ht]; exact ho1 (B, n, p + w + (gs B p w)) (wr C 0 (gs B p w) (fun i9 => B (p + w + i9)), (gs B p w), 0) _ hP, va_K.moved hW.alike hK, ho2 (B, n, p + w + (gs B p w)) (wr C 0 (gs B p w) (fun i9 => B (p + w + i9)), (gs B p w), 0) _ hD⟩, hS.F ht⟩⟩) hS.2.2 d_D_readBlock_58)
set_option maxHeartbeats 600000 in
set_option maxRecDepth 100000 in
/-- readFrame -/
theorem c_D_readFrame (l : Launch) (hL0 : l.stackTraces = false) (D : va_G) (cR cB : ClassId) (h ra : Nat) (g : Nat → Option Nat) (M : Nat) (y b : Nat → Nat) (σ : dkS) (sz : Nat) (x t : Int32) (hg : ∀ i, i < 4 → g i = some (y i)) (hσ : dkok M σ) : tx_Met l y_D_readFrame w_D_readFrame ({ frames := 8, cells := 1, slots := 6, locals := 133 }) (va_Pc [.ref h, .int x, .int t] (oxv sz D [(cB, .byte), (cR, .object "PacketDesk$Row")] [(h, .inr (0, [.ref ra])), (ra, .inl (cR, 4, .inr (.inr (.inr (.inr g))))), ((y 0), .inr (1, [.ref (b 0), .int (nI (σ 0).2.1), .int (nI (σ 0).2.2)])), ((b 0), .inl (cB, M, .inl (fun j => sb_b ((σ 0).1 j)))), ((y 1), .inr (1, [.ref (b 1), .int (nI (σ 1).2.1), .int (nI (σ 1).2.2)])), ((b 1), .inl (cB, M, .inl (fun j => sb_b ((σ 1).1 j)))), ((y 2), .inr (1, [.ref (b 2), .int (nI (σ 2).2.1), .int (nI (σ 2).2.2)])), ((b 2), .inl (cB, M, .inl (fun j => sb_b ((σ 2).1 j)))), ((y 3), .inr (1, [.ref (b 3), .int (nI (σ 3).2.1), .int (nI (σ 3).2.2)])), ((b 3), .inl (cB, M, .inl (fun j => sb_b ((σ 3).1 j))))])) (tx_Q (fun E => (E = X_IOOBE ∧ (spReadFrame σ x t).1 = 1) ∨ (E = X_IAE ∧ (spReadFrame σ x t).1 = 2) ∨ (E = X_NSEE ∧ (spReadFrame σ x t).1 = 3) ∨ (E = X_UOE ∧ (spReadFrame σ x t).1 = 4)) (va_Qi (fun r (τ : dkS) => spReadFrame σ x t = (0, r, τ)) (fun τ => ow D [(cB, .byte), (cR, .object "PacketDesk$Row")] (va_A [(h, .inr (0, [.ref ra])), (ra, .inl (cR, 4, .inr (.inr (.inr (.inr g))))), ((y 0), .inr (1, [.ref (b 0), .int (nI (σ 0).2.1), .int (nI (σ 0).2.2)])), ((b 0), .inl (cB, M, .inl (fun j => sb_b ((σ 0).1 j)))), ((y 1), .inr (1, [.ref (b 1), .int (nI (σ 1).2.1), .int (nI (σ 1).2.2)])), ((b 1), .inl (cB, M, .inl (fun j => sb_b ((σ 1).1 j)))), ((y 2), .inr (1, [.ref (b 2), .int (nI (σ 2).2.1), .int (nI (σ 2).2.2)])), ((b 2), .inl (cB, M, .inl (fun j => sb_b ((σ 2).1 j)))), ((y 3), .inr (1, [.ref (b 3), .int (nI (σ 3).2.1), .int (nI (σ 3).2.2)])), ((b 3), .inl (cB, M, .inl (fun j => sb_b ((σ 3).1 j))))] sz) (dk cR cB h ra g M y b τ)) (va_A [(h, .inr (0, [.ref ra])), (ra, .inl (cR, 4, .inr (.inr (.inr (.inr g))))), ((y 0), .inr (1, [.ref (b 0), .int (nI (σ 0).2.1), .int (nI (σ 0).2.2)])), ((b 0), .inl (cB, M, .inl (fun j => sb_b ((σ 0).1 j)))), ((y 1), .inr (1, [.ref (b 1), .int (nI (σ 1).2.1), .int (nI (σ 1).2.2)])), ((b 1), .inl (cB, M, .inl (fun j => sb_b ((σ 1).1 j)))), ((y 2), .inr (1, [.ref (b 2), .int (nI (σ 2).2.1), .int (nI (σ 2).2.2)])), ((b 2), .inl (cB, M, .inl (fun j => sb_b ((σ 2).1 j)))), ((y 3), .inr (1, [.ref (b 3), .int (nI (σ 3).2.1), .int (nI (σ 3).2.2)])), ((b 3), .inl (cB, M, .inl (fun j => sb_b ((σ 3).1 j))))] sz))) 0 0 (va_A [(h, .inr (0, [.ref ra])), (ra, .inl (cR, 4, .inr (.inr (.inr (.inr g))))), ((y 0), .inr (1, [.ref (b 0), .int (nI (σ 0).2.1), .int (nI (σ 0).2.2)])), ((b 0), .inl (cB, M, .inl (fun j => sb_b ((σ 0).1 j)))), ((y 1), .inr (1, [.ref (b 1), .int (nI (σ 1).2.1), .int (nI (σ 1).2.2)])), ((b 1), .inl (cB, M, .inl (fun j => sb_b ((σ 1).1 j)))), ((y 2), .inr (1, [.ref (b 2), .int (nI (σ 2).2.1), .int (nI (σ 2).2.2)])), ((b 2), .inl (cB, M, .inl (fun j => sb_b ((σ 2).1 j)))), ((y 3), .inr (1, [.ref (b 3), .int (nI (σ 3).2.1), .int (nI (σ 3).2.2)])), ((b 3), .inl (cB, M, .inl (fun j => sb_b ((σ 3).1 j))))] sz) := by
  refine tx_ofW (cc := b_D_readFrame) (maxL := 9) (ret := (some .int)) (by decide) rfl ?_
  intro p9 e9 s m args below meth c9 s₁ BL hml hce hadm hv
  obtain ⟨rfl, hsz, hP, hK, hD0, hG⟩ := hv
  have hx := BL.exec
  have hb := BL.bytes
  have hr := BL.returns
  have hts := atoms_spec (ws := w_D_readFrame) BL.pre
  have hA : ∀ w ∈ wsA, w.before _ s = true := fun w h => hts w (List.mem_cons_of_mem _ h)
  have hown : s.vm.findClass R_D = some m.cls := findClass_of_methodNamed BL.named
  have hlocks := BL.notSynchronized
  have htr : e9.platform.stackTraces = false := by rw [hadm.platform]; exact hL0
  subst hsz
  have hD := hD0.self (sz := s.heap.size)
  generalize hAe : va_A [(h, .inr (0, [.ref ra])), (ra, .inl (cR, 4, .inr (.inr (.inr (.inr g))))), ((y 0), .inr (1, [.ref (b 0), .int (nI (σ 0).2.1), .int (nI (σ 0).2.2)])), ((b 0), .inl (cB, M, .inl (fun j => sb_b ((σ 0).1 j)))), ((y 1), .inr (1, [.ref (b 1), .int (nI (σ 1).2.1), .int (nI (σ 1).2.2)])), ((b 1), .inl (cB, M, .inl (fun j => sb_b ((σ 1).1 j)))), ((y 2), .inr (1, [.ref (b 2), .int (nI (σ 2).2.1), .int (nI (σ 2).2.2)])), ((b 2), .inl (cB, M, .inl (fun j => sb_b ((σ 2).1 j)))), ((y 3), .inr (1, [.ref (b 3), .int (nI (σ 3).2.1), .int (nI (σ 3).2.2)])), ((b 3), .inl (cB, M, .inl (fun j => sb_b ((σ 3).1 j))))] s.heap.size = A at hD ⊢
  have hAq : ∀ q : Nat, s.heap.size ≤ q → A q := fun q h => by rw [← hAe]; exact Or.inr h
  have hS : va_S A s.heap s.heap [] := va_S.rf
  have hP : va_P D vCl [(h, .inr (0, [.ref ra])), (ra, .inl (cR, 4, .inr (.inr (.inr (.inr g))))), ((y 0), .inr (1, [.ref (b 0), .int (nI (σ 0).2.1), .int (nI (σ 0).2.2)])), ((b 0), .inl (cB, M, .inl (fun j => sb_b ((σ 0).1 j)))), ((y 1), .inr (1, [.ref (b 1), .int (nI (σ 1).2.1), .int (nI (σ 1).2.2)])), ((b 1), .inl (cB, M, .inl (fun j => sb_b ((σ 1).1 j)))), ((y 2), .inr (1, [.ref (b 2), .int (nI (σ 2).2.1), .int (nI (σ 2).2.2)])), ((b 2), .inl (cB, M, .inl (fun j => sb_b ((σ 2).1 j)))), ((y 3), .inr (1, [.ref (b 3), .int (nI (σ 3).2.1), .int (nI (σ 3).2.2)])), ((b 3), .inl (cB, M, .inl (fun j => sb_b ((σ 3).1 j))))] s.heap := hP
  have hl := lv_entry ([.ref h, .int x, .int t]) (n := 9) (Nat.le_of_ble_eq_true rfl)
  rw [lg_entry_eq]
  generalize (lg_sl ([.ref h, .int x, .int t]) ++ List.replicate (9 - (lg_sl ([.ref h, .int x, .int t])).length) Slot.unset).toArray = ls at hl ⊢
  have hl : lv_has ls 9 [(0, .ref h), (1, .int x), (2, .int t)] := hl
  refine lv_aload_n hx hb d_D_readFrame_0 rfl (lv_at hl 0 rfl) ?_
  refine lv_iload_n hx hb d_D_readFrame_1 rfl (lv_at hl 1 rfl) ?_
  have hPc := hP.sub (ws' := [(h, .inr (0, [.ref ra])), (ra, .inl (cR, 4, .inr (.inr (.inr (.inr g)))))]) [0, 1] rfl
  have hKc := hK.sub (tys' := [(cR, .object "PacketDesk$Row")]) [1] rfl
  refine tx_sr (tx_runV (As := [.int x]) (rest := []) ⟨hx, hb, hml, hown, hA⟩ (c_D_rowOf l hL0 D cR h ra g y hg x) (q_D_rowOf hA k1_66 rfl rfl ⟨(Nat.le_of_ble_eq_true rfl), (Nat.le_of_ble_eq_true rfl)⟩) (ox_V (va_recv hKc hPc (ci := 0) (q0 := 0) rfl rfl) (oxg_S hPc hKc hG (fun _ _ => rfl))) rfl rfl hl.1 rfl (lv_room (Nat.le_of_ble_eq_true rfl)) d_D_readFrame_2 ⟨(Nat.le_of_ble_eq_true rfl), (Nat.le_of_ble_eq_true rfl)⟩) (fun x9 E9 H9 ht9 hE9 => tx_prop hlocks hce hE9 (Nat.le_refl _) (fun _ _ => rfl) (Or.inl (⟨ht9.1, by unfold spReadFrame; rw [if_pos (fun h9 => ht9.2 h9.1)]⟩)) (fun q h => by cases h)) (fun j hj => ?_)
  obtain ⟨hj, hxj⟩ := hj
  refine lv_astore_n (lv' := [(3, .ref (y j)), (0, .ref h), (1, .int x), (2, .int t)]) hx hb d_D_readFrame_5 rfl hl (by decide) rfl (fun ls hl => ?_)
  refine lv_aload_n hx hb d_D_readFrame_6 rfl (lv_at hl 1 rfl) ?_
  refine lv_iload_n hx hb d_D_readFrame_7 rfl (lv_at hl 3 rfl) ?_
  have hPc := hP.sub (ws' := [(h, .inr (0, [.ref ra])), (ra, .inl (cR, 4, .inr (.inr (.inr (.inr g)))))]) [0, 1] rfl
  have hKc := hK.sub (tys' := [(cR, .object "PacketDesk$Row")]) [1] rfl
  refine tx_sr (tx_runV (As := [.int t]) (rest := []) ⟨hx, hb, hml, hown, hA⟩ (c_D_rowOf l hL0 D cR h ra g y hg t) (q_D_rowOf hA k1_66 rfl rfl ⟨(Nat.le_of_ble_eq_true rfl), (Nat.le_of_ble_eq_true rfl)⟩) (ox_V (va_recv hKc hPc (ci := 0) (q0 := 0) rfl rfl) (oxg_S hPc hKc hG (fun _ _ => rfl))) rfl rfl hl.1 rfl (lv_room (Nat.le_of_ble_eq_true rfl)) d_D_readFrame_8 ⟨(Nat.le_of_ble_eq_true rfl), (Nat.le_of_ble_eq_true rfl)⟩) (fun x9 E9 H9 ht9 hE9 => tx_prop hlocks hce hE9 (Nat.le_refl _) (fun _ _ => rfl) (Or.inl (⟨ht9.1, by unfold spReadFrame; rw [if_pos (fun h9 => ht9.2 h9.2)]⟩)) (fun q h => by cases h)) (fun i hi => ?_)
  obtain ⟨hi, hxi⟩ := hi
  refine lv_astore (lv' := [(4, .ref (y i)), (3, .ref (y j)), (0, .ref h), (1, .int x), (2, .int t)]) hx hb d_D_readFrame_11 hl (by decide) rfl (fun ls hl => ?_)
  refine lv_iload_n hx hb d_D_readFrame_13 rfl (lv_at hl 3 rfl) ?_
  refine lv_iload_n hx hb d_D_readFrame_14 rfl (lv_at hl 4 rfl) ?_
  have hir : isR x ∧ isR t := ⟨by rw [hxj]; exact isR_n hj, by rw [hxi]; exact isR_n hi⟩
  refine tx_sv (tx_runS (As := [.int x, .int t]) (rest := []) ⟨hx, hb, hml, hown, hA⟩ (c_D_needTwoRows l hL0 x t) (q_D_needTwoRows hA k2_130 rfl rfl ⟨(Nat.le_of_ble_eq_true rfl), (Nat.le_of_ble_eq_true rfl)⟩) (g_S hG (fun _ _ => rfl)) rfl rfl hl.1 rfl (lv_room (Nat.le_of_ble_eq_true rfl)) d_D_readFrame_15 ⟨(Nat.le_of_ble_eq_true rfl), (Nat.le_of_ble_eq_true rfl)⟩) (fun x9 E9 H9 ht9 hE9 => tx_prop hlocks hce hE9 (Nat.le_refl _) (fun _ _ => rfl) (Or.inr (Or.inl (⟨ht9.1, by unfold spReadFrame; rw [if_neg (fun h8 => h8 hir), if_pos ht9.2]⟩))) (fun q h => by cases h)) (fun hr15 => ?_)
  have hji : ¬ j = i := fun q9 => hr15 (by rw [hxj, hxi, q9])
  obtain ⟨c4_, c5_, c6_, c7_, c8_, c9_, hi1, hi2, ho1, ho2⟩ := dk_2 D vCl cR cB h ra g M y b σ hj hi hji
  have hP : va_P D vCl [(y j, .inr (1, [.ref (b j), .int (nI (σ j).2.1), .int (nI (σ j).2.2)])), (b j, .inl (cB, M, .inl (fun j9 => sb_b ((σ j).1 j9)))), (y i, .inr (1, [.ref (b i), .int (nI (σ i).2.1), .int (nI (σ i).2.2)])), (b i, .inl (cB, M, .inl (fun j9 => sb_b ((σ i).1 j9)))), c4_, c5_, c6_, c7_, c8_, c9_] s.heap := hi1 _ hP
  have hD : va_D A [(y j, .inr (1, [.ref (b j), .int (nI (σ j).2.1), .int (nI (σ j).2.2)])), (b j, .inl (cB, M, .inl (fun j9 => sb_b ((σ j).1 j9)))), (y i, .inr (1, [.ref (b i), .int (nI (σ i).2.1), .int (nI (σ i).2.2)])), (b i, .inl (cB, M, .inl (fun j9 => sb_b ((σ i).1 j9)))), c4_, c5_, c6_, c7_, c8_, c9_] := hi2 _ hD
  obtain ⟨⟨B, n, p⟩, hρ⟩ : ∃ ρ, σ j = ρ := ⟨_, rfl⟩
  obtain ⟨⟨C, n2, p2⟩, hρ2⟩ : ∃ ρ, σ i = ρ := ⟨_, rfl⟩
  have hk := hσ.2 j hj
  have hk2 := hσ.2 i hi
  have hM := hσ.1
  rw [hρ] at hk
  rw [hρ2] at hk2
  rw [hρ, hρ2] at hP hD
  obtain ⟨hp, hn, hB⟩ := hk
  have hp : p ≤ n := hp
  have hn : n ≤ M := hn
  have hB : ∀ j, B j < 256 := hB
  obtain ⟨hp2, hn2, hB2⟩ := hk2
  have hp2 : p2 ≤ n2 := hp2
  have hn2 : n2 ≤ M := hn2
  have hB2 : ∀ j, C j < 256 := hB2
  have hP : va_P D vCl [((y j), .inr (1, [.ref (b j), .int (nI n), .int (nI p)])), ((b j), .inl (cB, M, .inl (fun j => sb_b (B j)))), ((y i), .inr (1, [.ref (b i), .int (nI n2), .int (nI p2)])), ((b i), .inl (cB, M, .inl (fun j => sb_b (C j)))), c4_, c5_, c6_, c7_, c8_, c9_] s.heap := hP
  have hD : va_D A [((y j), .inr (1, [.ref (b j), .int (nI n), .int (nI p)])), ((b j), .inl (cB, M, .inl (fun j => sb_b (B j)))), ((y i), .inr (1, [.ref (b i), .int (nI n2), .int (nI p2)])), ((b i), .inl (cB, M, .inl (fun j => sb_b (C j)))), c4_, c5_, c6_, c7_, c8_, c9_] := hD
  have hrj : rj x = j := by rw [hxj]; exact rj_n hj
  have hri : rj t = i := by rw [hxi]; exact rj_n hi
  have hir : isR x ∧ isR t := ⟨by rw [hxj]; exact isR_n hj, by rw [hxi]; exact isR_n hi⟩
  refine lv_aload_n hx hb d_D_readFrame_18 rfl (lv_at hl 1 rfl) ?_
  have hs2 : gw B p n 10 = -2 → (spReadFrame σ x t).1 = 2 := fun h9 => by unfold spReadFrame gmσ gwσ; simp only [hrj, hri, hρ, hρ2]; rw [if_neg (fun h8 => h8 hir), if_neg hr15, if_pos h9]
  have hs3 : gw B p n 10 = -3 → (spReadFrame σ x t).1 = 3 := fun h9 => by unfold spReadFrame gmσ gwσ; simp only [hrj, hri, hρ, hρ2]; rw [if_neg (fun h8 => h8 hir), if_neg hr15, if_neg (by rw [h9]; decide), if_pos h9]
  have hPc := hP.sub (ws' := [((y j), .inr (1, [.ref (b j), .int (nI n), .int (nI p)])), ((b j), .inl (cB, M, .inl (fun j => sb_b (B j))))]) [0, 1] rfl
  have hKc := hK.sub (tys' := [(cB, .byte)]) [0] rfl
  refine tx_si (tx_runS (As := [.ref (y j)]) (rest := []) ⟨hx, hb, hml, hown, hA⟩ (c_D_sevensWidthAtPlace l hL0 D cB (y j) (b j) M B n p hn hp hM hB) (q_D_sevensWidthAtPlace hA k2_89 rfl rfl ⟨(Nat.le_of_ble_eq_true rfl), (Nat.le_of_ble_eq_true rfl)⟩) (oxg_S hPc hKc hG (fun _ _ => rfl)) rfl rfl hl.1 rfl (lv_room (Nat.le_of_ble_eq_true rfl)) d_D_readFrame_19 ⟨(Nat.le_of_ble_eq_true rfl), (Nat.le_of_ble_eq_true rfl)⟩) (fun x9 E9 H9 ht9 hE9 => tx_prop hlocks hce hE9 (Nat.le_refl _) (fun _ _ => rfl) (ht9.elim (fun q9 => Or.inr (Or.inr (Or.inl (⟨q9.1, hs3 q9.2⟩)))) (fun q9 => Or.inr (Or.inl (⟨q9.1, hs2 q9.2⟩)))) (fun q h => by cases h)) (fun r19 hr19 => ?_)
  obtain ⟨w, hr19, hgw⟩ := hr19
  obtain ⟨hw1, hw2, hw3, hw4⟩ := gw_ok 10 w (Nat.le_refl _) hgw
  subst hr19
  have hgn : (gw B p n 10).toNat = w := by rw [hgw]; rfl
  refine lv_istore (lv' := [(5, .int (nI w)), (4, .ref (y i)), (3, .ref (y j)), (0, .ref h), (1, .int x), (2, .int t)]) hx hb d_D_readFrame_22 hl (by decide) rfl (fun ls hl => ?_)
  refine lv_aload_n hx hb d_D_readFrame_24 rfl (lv_at hl 2 rfl) ?_
  refine lv_iload hx hb d_D_readFrame_25 (lv_at hl 0 rfl) ?_
  have hPc := hP.sub (ws' := [((y j), .inr (1, [.ref (b j), .int (nI n), .int (nI p)])), ((b j), .inl (cB, M, .inl (fun j => sb_b (B j))))]) [0, 1] rfl
  have hKc := hK.sub (tys' := [(cB, .byte)]) [0] rfl
  refine tx_si (tx_runS (As := [.ref (y j), .int (nI w)]) (rest := []) ⟨hx, hb, hml, hown, hA⟩ (c_D_howManyAtPlace l hL0 D cB (y j) (b j) M B (nI n) p w hw2 (by omega) hM hB (gs_64 hw2 hw4)) (q_D_howManyAtPlace hA k2_134 rfl rfl ⟨(Nat.le_of_ble_eq_true rfl), (Nat.le_of_ble_eq_true rfl)⟩) (oxg_S hPc hKc hG (fun _ _ => rfl)) rfl rfl hl.1 rfl (lv_room (Nat.le_of_ble_eq_true rfl)) d_D_readFrame_27 ⟨(Nat.le_of_ble_eq_true rfl), (Nat.le_of_ble_eq_true rfl)⟩) (fun x9 E9 H9 ht9 hE9 => tx_prop hlocks hce hE9 (Nat.le_refl _) (fun _ _ => rfl) (Or.inr (Or.inl (⟨ht9.1, by unfold spReadFrame gmσ gwσ; simp only [hrj, hri, hρ, hρ2]; rw [if_neg (fun h8 => h8 hir), if_neg hr15, if_neg (by rw [hgw]; omega), if_neg (by rw [hgw]; omega), hgn, if_pos ht9.2]⟩))) (fun q h => by cases h)) (fun r27 hr27 => ?_)
  obtain ⟨hg6, rfl⟩ := hr27
  refine lv_istore (lv' := [(6, .int (nI (gs B p w))), (5, .int (nI w)), (4, .ref (y i)), (3, .ref (y j)), (0, .ref h), (1, .int x), (2, .int t)]) hx hb d_D_readFrame_30 hl (by decide) rfl (fun ls hl => ?_)
  refine lv_iload hx hb d_D_readFrame_32 (lv_at hl 1 rfl) ?_
  refine lv_iconst (v := 4) hx hb d_D_readFrame_34 (by decide) ?_
  refine lv_iadd hx hb d_D_readFrame_35 ?_
  refine lv_topi (fun v35 ev35 => ?_)
  have ev35 : v35 = nI (w + 4) := by rw [ev35]; exact nI_add w 4
  subst ev35
  refine lv_istore (lv' := [(7, .int (nI (w + 4))), (6, .int (nI (gs B p w))), (5, .int (nI w)), (4, .ref (y i)), (3, .ref (y j)), (0, .ref h), (1, .int x), (2, .int t)]) hx hb d_D_readFrame_36 hl (by decide) rfl (fun ls hl => ?_)
  refine lv_aload_n hx hb d_D_readFrame_38 rfl (lv_at hl 4 rfl) ?_
  refine lv_iload hx hb d_D_readFrame_39 (lv_at hl 0 rfl) ?_
  refine lv_iload hx hb d_D_readFrame_41 (lv_at hl 1 rfl) ?_
  refine lv_iadd hx hb d_D_readFrame_43 ?_
  refine lv_topi (fun v43 ev43 => ?_)
  have ev43 : v43 = nI (w + 4 + (gs B p w)) := by rw [ev43]; exact nI_add _ _
  subst ev43
  have hPc := hP.sub (ws' := [((y j), .inr (1, [.ref (b j), .int (nI n), .int (nI p)])), ((b j), .inl (cB, M, .inl (fun j => sb_b (B j))))]) [0, 1] rfl
  have hKc := hK.sub (tys' := [(cB, .byte)]) [0] rfl
  refine tx_sv (tx_runS (As := [.ref (y j), .int (nI (w + 4 + (gs B p w)))]) (rest := []) ⟨hx, hb, hml, hown, hA⟩ (c_D_needLeft l hL0 D cB (y j) (b j) M B n p hn hM hp ((w + 4) + (gs B p w)) (by omega)) (q_D_needLeft hA k2_57 rfl rfl ⟨(Nat.le_of_ble_eq_true rfl), (Nat.le_of_ble_eq_true rfl)⟩) (oxg_S hPc hKc hG (fun _ _ => rfl)) rfl rfl hl.1 rfl (lv_room (Nat.le_of_ble_eq_true rfl)) d_D_readFrame_44 ⟨(Nat.le_of_ble_eq_true rfl), (Nat.le_of_ble_eq_true rfl)⟩) (fun x9 E9 H9 ht9 hE9 => tx_prop hlocks hce hE9 (Nat.le_refl _) (fun _ _ => rfl) (Or.inr (Or.inr (Or.inl (⟨ht9.1, by unfold spReadFrame gmσ gwσ; simp only [hrj, hri, hρ, hρ2]; rw [if_neg (fun h8 => h8 hir), if_neg hr15, if_neg (by rw [hgw]; omega), if_neg (by rw [hgw]; omega), hgn, if_neg (Nat.not_lt.mpr hg6), if_pos ht9.2]⟩)))) (fun q h => by cases h)) (fun hrl => ?_)
  refine lv_aload_n hx hb d_D_readFrame_47 rfl (lv_at hl 4 rfl) ?_
  refine lv_aload_n hx hb d_D_readFrame_48 rfl (lv_at hl 4 rfl) ?_
  refine va_get (D := D) (ci := 1) (v := .int (nI p)) (C := R_R) (T := F_R) (N := 3) hx hb hA i_R hown hK hP 0 rfl rfl 2 (by decide) (hA _ k1_40) (fun _ h9 => h9) rfl d_D_readFrame_49 ?_
  refine lv_iload hx hb d_D_readFrame_52 (lv_at hl 2 rfl) ?_
  refine lv_iadd hx hb d_D_readFrame_54 ?_
  refine lv_topi (fun v54 ev54 => ?_)
  have ev54 : v54 = nI (p + w) := by rw [ev54]; exact nI_add p w
  subst ev54
  refine lv_iconst (v := 4) hx hb d_D_readFrame_55 (by decide) ?_
  refine lv_topi (fun v55 ev55 => ?_)
  have ev55 : v55 = nI 4 := by rw [ev55]; rfl
  subst ev55
  have hPc := hP.sub (ws' := [((y j), .inr (1, [.ref (b j), .int (nI n), .int (nI p)])), ((b j), .inl (cB, M, .inl (fun j => sb_b (B j))))]) [0, 1] rfl
  have hKc := hK.sub (tys' := [(cB, .byte)]) [0] rfl
  refine vp_callSl (W.runS (As := [.ref (y j), .int (nI (p + w)), .int (nI 4)]) (rest := []) ⟨hx, hb, hml, hown, hA⟩ (c_D_fixedAt l D cB (y j) (b j) M B (nI n) (nI p) (p + w) 4 (by omega) (by omega) hM hB) (q_D_fixedAt hA k2_76 rfl rfl ⟨(Nat.le_of_ble_eq_true rfl), (Nat.le_of_ble_eq_true rfl)⟩) (ox_S hPc hKc) rfl rfl hl.1 rfl (lv_room (Nat.le_of_ble_eq_true rfl)) d_D_readFrame_56 ⟨(Nat.le_of_ble_eq_true rfl), (Nat.le_of_ble_eq_true rfl)⟩) (fun r56 hr56 => ?_)
  have er56 : r56 = lN (fx B (p + w) 4) := hr56
  subst er56
  refine lv_l2i hx hb d_D_readFrame_59 rfl ?_
  refine lv_topi (fun v59 ev59 => ?_)
  subst ev59
  refine lv_istore (lv' := [(8, .int ((lN (fx B (p + w) 4)).toInt32)), (7, .int (nI (w + 4))), (6, .int (nI (gs B p w))), (5, .int (nI w)), (4, .ref (y i)), (3, .ref (y j)), (0, .ref h), (1, .int x), (2, .int t)]) hx hb d_D_readFrame_60 hl (by decide) rfl (fun ls hl => ?_)
  refine lv_iload hx hb d_D_readFrame_62 (lv_at hl 0 rfl) ?_
  refine lv_aload_n hx hb d_D_readFrame_64 rfl (lv_at hl 5 rfl) ?_
  refine lv_aload_n hx hb d_D_readFrame_65 rfl (lv_at hl 5 rfl) ?_
  refine va_get (D := D) (ci := 1) (v := .int (nI p)) (C := R_R) (T := F_R) (N := 3) hx hb hA i_R hown hK hP 0 rfl rfl 2 (by decide) (hA _ k1_40) (fun _ h9 => h9) rfl d_D_readFrame_66 ?_
  refine lv_iload hx hb d_D_readFrame_69 (lv_at hl 1 rfl) ?_
  refine lv_iadd hx hb d_D_readFrame_71 ?_
  refine lv_topi (fun v71 ev71 => ?_)
  have ev71 : v71 = nI (p + (w + 4)) := by rw [ev71]; exact nI_add p _
  subst ev71
  refine lv_iload hx hb d_D_readFrame_72 (lv_at hl 2 rfl) ?_
  have hPc := hP.sub (ws' := [((y j), .inr (1, [.ref (b j), .int (nI n), .int (nI p)])), ((b j), .inl (cB, M, .inl (fun j => sb_b (B j))))]) [0, 1] rfl
  have hKc := hK.sub (tys' := [(cB, .byte)]) [0] rfl
  refine vp_callSi (W.runS (As := [.ref (y j), .int (nI (p + (w + 4))), .int (nI (gs B p w))]) (rest := [.int ((lN (fx B (p + w) 4)).toInt32)]) ⟨hx, hb, hml, hown, hA⟩ (c_D_sumOf l D cB (y j) (b j) M B (nI n) (nI p) (p + (w + 4)) (gs B p w) (by omega) hM hB) (q_D_sumOf hA k2_18 rfl rfl ⟨(Nat.le_of_ble_eq_true rfl), (Nat.le_of_ble_eq_true rfl)⟩) (ox_S hPc hKc) rfl rfl hl.1 rfl (lv_room (Nat.le_of_ble_eq_true rfl)) d_D_readFrame_74 ⟨(Nat.le_of_ble_eq_true rfl), (Nat.le_of_ble_eq_true rfl)⟩) (fun r74 hr74 => ?_)
  have er74 : r74 = smb B (p + (w + 4)) (gs B p w) := hr74
  subst er74
  refine lv_icmp_eq (tgt := 90) hx hb d_D_readFrame_77 (by decide) (fun c77 => ?_) (fun c77 => ?_)
  · refine lv_aload_n hx hb d_D_readFrame_90 rfl (lv_at hl 5 rfl) ?_
    refine lv_aload_n hx hb d_D_readFrame_91 rfl (lv_at hl 5 rfl) ?_
    refine va_get (D := D) (ci := 1) (v := .int (nI p)) (C := R_R) (T := F_R) (N := 3) hx hb hA i_R hown hK hP 0 rfl rfl 2 (by decide) (hA _ k1_40) (fun _ h9 => h9) rfl d_D_readFrame_92 ?_
    refine lv_iload hx hb d_D_readFrame_95 (lv_at hl 1 rfl) ?_
    refine lv_iadd hx hb d_D_readFrame_97 ?_
    refine lv_topi (fun v97 ev97 => ?_)
    have ev97 : v97 = nI (p + (w + 4)) := by rw [ev97]; exact nI_add p _
    subst ev97
    refine lv_iload hx hb d_D_readFrame_98 (lv_at hl 2 rfl) ?_
    refine lv_aload hx hb d_D_readFrame_100 (lv_at hl 4 rfl) ?_
    have hPc := hP.sub (ws' := [((y j), .inr (1, [.ref (b j), .int (nI n), .int (nI p)])), ((b j), .inl (cB, M, .inl (fun j => sb_b (B j)))), ((y i), .inr (1, [.ref (b i), .int (nI n2), .int (nI p2)])), ((b i), .inl (cB, M, .inl (fun j => sb_b (C j))))]) [0, 1, 2, 3] rfl
    have hDc := hD.sub (ws' := [((y j), .inr (1, [.ref (b j), .int (nI n), .int (nI p)])), ((b j), .inl (cB, M, .inl (fun j => sb_b (B j)))), ((y i), .inr (1, [.ref (b i), .int (nI n2), .int (nI p2)])), ((b i), .inl (cB, M, .inl (fun j => sb_b (C j))))]) [0, 1, 2, 3] (by decide) rfl
    have hKc := hK.sub (tys' := [(cB, .byte)]) [0] rfl
    have hFc := va_free (wc := [((y j), .inr (1, [.ref (b j), .int (nI n), .int (nI p)])), ((b j), .inl (cB, M, .inl (fun j => sb_b (B j)))), ((y i), .inr (1, [.ref (b i), .int (nI n2), .int (nI p2)])), ((b i), .inl (cB, M, .inl (fun j => sb_b (C j))))]) hD hS hAq [0, 1, 2, 3] rfl
    refine va_callv (va_runS (As := [.ref (y j), .int (nI (p + (w + 4))), .int (nI (gs B p w)), .ref (y i)]) (rest := []) ⟨hx, hb, hml, hown, hA⟩ (c_D_moveBytes l D cB (y j) (b j) (y i) (b i) M B C n p n2 p2 s.heap.size (p + (w + 4)) (gs B p w) (by omega) hM) (q_D_moveBytes hA k2_139 rfl rfl ⟨(Nat.le_of_ble_eq_true rfl), (Nat.le_of_ble_eq_true rfl)⟩) (oxw_S hPc hKc hDc) rfl rfl hl.1 rfl (lv_room (Nat.le_of_ble_eq_true rfl)) d_D_readFrame_102 ⟨(Nat.le_of_ble_eq_true rfl), (Nat.le_of_ble_eq_true rfl)⟩) hS (fun q _ h => hFc q h) hFc (fun u9 t9 H1 locs ht9 hvm9 hw9 hB9 hz1 hk1 hS => ?_)
    obtain ⟨hP1, hK1, hD1⟩ := hB9
    rw [ht9] at hP1
    obtain ⟨hP, hD⟩ := va_join (wr := [c4_, c5_, c6_, c7_, c8_, c9_]) (w1 := [((y j), .inr (1, [.ref (b j), .int (nI n), .int (nI (p + (w + 4) + (gs B p w)))])), ((b j), .inl (cB, M, .inl (fun j => sb_b (B j)))), ((y i), .inr (1, [.ref (b i), .int (nI (gs B p w)), .int (nI 0)])), ((b i), .inl (cB, M, .inl (fun j => sb_b ((wr C 0 (gs B p w) (fun i9 => B (p + (w + 4) + i9))) j))))]) hP hD [0, 1, 2, 3] [4, 5, 6, 7, 8, 9] rfl rfl (by decide) (by decide) hk1 hFc hP1 hD1
    generalize H1 = H at hP hS ⊢
    have hP : va_P D vCl [((y j), .inr (1, [.ref (b j), .int (nI n), .int (nI (p + (w + 4) + (gs B p w)))])), ((b j), .inl (cB, M, .inl (fun j => sb_b (B j)))), ((y i), .inr (1, [.ref (b i), .int (nI (gs B p w)), .int (nI 0)])), ((b i), .inl (cB, M, .inl (fun j => sb_b ((wr C 0 (gs B p w) (fun i9 => B (p + (w + 4) + i9))) j)))), c4_, c5_, c6_, c7_, c8_, c9_] H := hP.sub [6, 7, 8, 9, 0, 1, 2, 3, 4, 5] rfl
    have hD : va_D A [((y j), .inr (1, [.ref (b j), .int (nI n), .int (nI (p + (w + 4) + (gs B p w)))])), ((b j), .inl (cB, M, .inl (fun j => sb_b (B j)))), ((y i), .inr (1, [.ref (b i), .int (nI (gs B p w)), .int (nI 0)])), ((b i), .inl (cB, M, .inl (fun j => sb_b ((wr C 0 (gs B p w) (fun i9 => B (p + (w + 4) + i9))) j)))), c4_, c5_, c6_, c7_, c8_, c9_] := hD.sub [6, 7, 8, 9, 0, 1, 2, 3, 4, 5] (by decide) rfl
    refine lv_iload hx hb d_D_readFrame_105 (lv_at hl 2 rfl) ?_
    exact tx_ret (W.iret (v := nI (gs B p w)) hx hb hr (fun t ht hW => Or.inl ⟨_, rfl, ⟨⟨_, va_up (va_up σ j (B, n, p + (w + 4) + (gs B p w))) i (wr C 0 (gs B p w) (fun i9 => B (p + (w + 4) + i9)), (gs B p w), 0), rfl, (by unfold spReadFrame gmσ gwσ; simp only [hrj, hri, hρ, hρ2]; rw [if_neg (fun h8 => h8 hir), if_neg hr15, if_neg (by rw [hgw]; omega), if_neg (by rw [hgw]; omega), hgn, if_neg (Nat.not_lt.mpr hg6), if_neg (Nat.not_lt.mpr hrl), if_neg (fun h8 => h8 c77)]; unfold mvσ gmσ gwσ; simp only [hrj, hri, hρ, hρ2]; rw [hgn]), by rw [ht]; exact ho1 (B, n, p + (w + 4) + (gs B p w)) (wr C 0 (gs B p w) (fun i9 => B (p + (w + 4) + i9)), (gs B p w), 0) _ hP, va_K.moved hW.alike hK, ho2 (B, n, p + (w + 4) + (gs B p w)) (wr C 0 (gs B p w) (fun i9 => B (p + (w + 4) + i9)), (gs B p w), 0) _ hD⟩, hS.F ht⟩⟩) hS.2.2 d_D_readFrame_107)
  · exact th_UOE hx hb hml hlocks hce htr hown hA hG hl.1 (Nat.le_of_ble_eq_true rfl) (tx := "the sum is another one") (by decide) d_D_readFrame_80 d_D_readFrame_83 d_D_readFrame_84 d_D_readFrame_86 d_D_readFrame_89 (Nat.le_of_ble_eq_true rfl) (Nat.le_of_ble_eq_true rfl) (Nat.le_of_ble_eq_true rfl) (Nat.le_of_ble_eq_true rfl) (by exact Or.inr (Or.inr (Or.inr (⟨rfl, by unfold spReadFrame gmσ gwσ; simp only [hrj, hri, hρ, hρ2]; rw [if_neg (fun h8 => h8 hir), if_neg hr15, if_neg (by rw [hgw]; omega), if_neg (by rw [hgw]; omega), hgn, if_neg (Nat.not_lt.mpr hg6), if_neg (Nat.not_lt.mpr hrl), if_pos c77]⟩))))
set_option maxHeartbeats 600000 in
set_option maxRecDepth 100000 in
/-- same -/
theorem c_D_same (l : Launch) (hL0 : l.stackTraces = false) (D : va_G) (cR cB : ClassId) (h ra : Nat) (g : Nat → Option Nat) (M : Nat) (y b : Nat → Nat) (σ : dkS) (x f : Int32) (hg : ∀ i, i < 4 → g i = some (y i)) (hσ : dkok M σ) : tx_Met l y_D_same w_D_same ({ frames := 7, cells := 1, slots := 6, locals := 111 }) (va_Pc [.ref h, .int x, .int f] (oxg D [(cB, .byte), (cR, .object "PacketDesk$Row")] [(h, .inr (0, [.ref ra])), (ra, .inl (cR, 4, .inr (.inr (.inr (.inr g))))), ((y 0), .inr (1, [.ref (b 0), .int (nI (σ 0).2.1), .int (nI (σ 0).2.2)])), ((b 0), .inl (cB, M, .inl (fun j => sb_b ((σ 0).1 j)))), ((y 1), .inr (1, [.ref (b 1), .int (nI (σ 1).2.1), .int (nI (σ 1).2.2)])), ((b 1), .inl (cB, M, .inl (fun j => sb_b ((σ 1).1 j)))), ((y 2), .inr (1, [.ref (b 2), .int (nI (σ 2).2.1), .int (nI (σ 2).2.2)])), ((b 2), .inl (cB, M, .inl (fun j => sb_b ((σ 2).1 j)))), ((y 3), .inr (1, [.ref (b 3), .int (nI (σ 3).2.1), .int (nI (σ 3).2.2)])), ((b 3), .inl (cB, M, .inl (fun j => sb_b ((σ 3).1 j))))])) (tx_Q (fun E => (E = X_IOOBE ∧ (spSame σ x f).1 = 1)) (vp_Si (fun r => spSame σ x f = (0, r, σ)))) 0 0 (fun _ => False) := by
  refine tx_ofW (cc := b_D_same) (maxL := 6) (ret := (some .boolean)) (by decide) rfl ?_
  intro p9 e9 s m args below meth c9 s₁ BL hml hce hadm hv
  obtain ⟨rfl, hP, hK, hG⟩ := hv
  have hx := BL.exec
  have hb := BL.bytes
  have hr := BL.returns
  have hts := atoms_spec (ws := w_D_same) BL.pre
  have hA : ∀ w ∈ wsA, w.before _ s = true := fun w h => hts w (List.mem_cons_of_mem _ h)
  have hown : s.vm.findClass R_D = some m.cls := findClass_of_methodNamed BL.named
  have hlocks := BL.notSynchronized
  have htr : e9.platform.stackTraces = false := by rw [hadm.platform]; exact hL0
  have hP : va_P D vCl [(h, .inr (0, [.ref ra])), (ra, .inl (cR, 4, .inr (.inr (.inr (.inr g))))), ((y 0), .inr (1, [.ref (b 0), .int (nI (σ 0).2.1), .int (nI (σ 0).2.2)])), ((b 0), .inl (cB, M, .inl (fun j => sb_b ((σ 0).1 j)))), ((y 1), .inr (1, [.ref (b 1), .int (nI (σ 1).2.1), .int (nI (σ 1).2.2)])), ((b 1), .inl (cB, M, .inl (fun j => sb_b ((σ 1).1 j)))), ((y 2), .inr (1, [.ref (b 2), .int (nI (σ 2).2.1), .int (nI (σ 2).2.2)])), ((b 2), .inl (cB, M, .inl (fun j => sb_b ((σ 2).1 j)))), ((y 3), .inr (1, [.ref (b 3), .int (nI (σ 3).2.1), .int (nI (σ 3).2.2)])), ((b 3), .inl (cB, M, .inl (fun j => sb_b ((σ 3).1 j))))] s.heap := hP
  have hl := lv_entry ([.ref h, .int x, .int f]) (n := 6) (Nat.le_of_ble_eq_true rfl)
  rw [lg_entry_eq]
  generalize (lg_sl ([.ref h, .int x, .int f]) ++ List.replicate (6 - (lg_sl ([.ref h, .int x, .int f])).length) Slot.unset).toArray = ls at hl ⊢
  have hl : lv_has ls 6 [(0, .ref h), (1, .int x), (2, .int f)] := hl
  refine lv_aload_n hx hb d_D_same_0 rfl (lv_at hl 0 rfl) ?_
  refine lv_iload_n hx hb d_D_same_1 rfl (lv_at hl 1 rfl) ?_
  have hPc := hP.sub (ws' := [(h, .inr (0, [.ref ra])), (ra, .inl (cR, 4, .inr (.inr (.inr (.inr g)))))]) [0, 1] rfl
  have hKc := hK.sub (tys' := [(cR, .object "PacketDesk$Row")]) [1] rfl
  refine tx_sr (tx_runV (As := [.int x]) (rest := []) ⟨hx, hb, hml, hown, hA⟩ (c_D_rowOf l hL0 D cR h ra g y hg x) (q_D_rowOf hA k1_66 rfl rfl ⟨(Nat.le_of_ble_eq_true rfl), (Nat.le_of_ble_eq_true rfl)⟩) (ox_V (va_recv hKc hPc (ci := 0) (q0 := 0) rfl rfl) (oxg_S hPc hKc hG (fun _ _ => rfl))) rfl rfl hl.1 rfl (lv_room (Nat.le_of_ble_eq_true rfl)) d_D_same_2 ⟨(Nat.le_of_ble_eq_true rfl), (Nat.le_of_ble_eq_true rfl)⟩) (fun x9 E9 H9 ht9 hE9 => tx_prop hlocks hce hE9 (Nat.le_refl _) (fun _ _ => rfl) (⟨ht9.1, by unfold spSame; rw [if_pos (fun h9 => ht9.2 h9.1)]⟩) (fun q h => by cases h)) (fun j hj => ?_)
  obtain ⟨hj, hxj⟩ := hj
  refine lv_astore_n (lv' := [(3, .ref (y j)), (0, .ref h), (1, .int x), (2, .int f)]) hx hb d_D_same_5 rfl hl (by decide) rfl (fun ls hl => ?_)
  refine lv_aload_n hx hb d_D_same_6 rfl (lv_at hl 1 rfl) ?_
  refine lv_iload_n hx hb d_D_same_7 rfl (lv_at hl 3 rfl) ?_
  have hPc := hP.sub (ws' := [(h, .inr (0, [.ref ra])), (ra, .inl (cR, 4, .inr (.inr (.inr (.inr g)))))]) [0, 1] rfl
  have hKc := hK.sub (tys' := [(cR, .object "PacketDesk$Row")]) [1] rfl
  refine tx_sr (tx_runV (As := [.int f]) (rest := []) ⟨hx, hb, hml, hown, hA⟩ (c_D_rowOf l hL0 D cR h ra g y hg f) (q_D_rowOf hA k1_66 rfl rfl ⟨(Nat.le_of_ble_eq_true rfl), (Nat.le_of_ble_eq_true rfl)⟩) (ox_V (va_recv hKc hPc (ci := 0) (q0 := 0) rfl rfl) (oxg_S hPc hKc hG (fun _ _ => rfl))) rfl rfl hl.1 rfl (lv_room (Nat.le_of_ble_eq_true rfl)) d_D_same_8 ⟨(Nat.le_of_ble_eq_true rfl), (Nat.le_of_ble_eq_true rfl)⟩) (fun x9 E9 H9 ht9 hE9 => tx_prop hlocks hce hE9 (Nat.le_refl _) (fun _ _ => rfl) (⟨ht9.1, by unfold spSame; rw [if_pos (fun h9 => ht9.2 h9.2)]⟩) (fun q h => by cases h)) (fun i hi => ?_)
  obtain ⟨hi, hxi⟩ := hi
  by_cases hji : j = i
  · subst hji
    obtain ⟨c2_, c3_, c4_, c5_, c6_, c7_, c8_, c9_, hi1, hi2, ho1, ho2⟩ := dk_1 D vCl cR cB h ra g M y b σ hj
    have hP : va_P D vCl [(y j, .inr (1, [.ref (b j), .int (nI (σ j).2.1), .int (nI (σ j).2.2)])), (b j, .inl (cB, M, .inl (fun j9 => sb_b ((σ j).1 j9)))), c2_, c3_, c4_, c5_, c6_, c7_, c8_, c9_] s.heap := hi1 _ hP
    obtain ⟨⟨B, n, p⟩, hρ⟩ : ∃ ρ, σ j = ρ := ⟨_, rfl⟩
    have hk := hσ.2 j hj
    have hM := hσ.1
    rw [hρ] at hP hk
    obtain ⟨hp, hn, hB⟩ := hk
    have hp : p ≤ n := hp
    have hn : n ≤ M := hn
    have hB : ∀ j, B j < 256 := hB
    have hP : va_P D vCl [((y j), .inr (1, [.ref (b j), .int (nI n), .int (nI p)])), ((b j), .inl (cB, M, .inl (fun j => sb_b (B j)))), c2_, c3_, c4_, c5_, c6_, c7_, c8_, c9_] s.heap := hP
    have hrj : rj x = j := by rw [hxj]; exact rj_n hj
    have hir : isR x := by rw [hxj]; exact isR_n hj
    have hri : rj f = j := by rw [hxi]; exact rj_n hj
    have hir : isR x ∧ isR f := ⟨hir, by rw [hxi]; exact isR_n hj⟩
    have hρ2 := hρ
    refine lv_astore (lv' := [(4, .ref (y j)), (3, .ref (y j)), (0, .ref h), (1, .int x), (2, .int f)]) hx hb d_D_same_11 hl (by decide) rfl (fun ls hl => ?_)
    refine lv_aload_n hx hb d_D_same_13 rfl (lv_at hl 1 rfl) ?_
    refine va_get (D := D) (ci := 1) (v := .int (nI n)) (C := R_R) (T := F_R) (N := 3) hx hb hA i_R hown hK hP 0 rfl rfl 1 (by decide) (hA _ k1_38) (fun _ h9 => h9) rfl d_D_same_14 ?_
    refine lv_aload hx hb d_D_same_17 (lv_at hl 0 rfl) ?_
    refine va_get (D := D) (ci := 1) (v := .int (nI n)) (C := R_R) (T := F_R) (N := 3) hx hb hA i_R hown hK hP 0 rfl rfl 1 (by decide) (hA _ k1_38) (fun _ h9 => h9) rfl d_D_same_19 ?_
    refine lv_icmp_eq (tgt := 27) hx hb d_D_same_22 (by decide) (fun c22 => ?_) (fun c22 => ?_)
    · have hnn : n = n := (nI_eq (by omega) (by omega)).mp c22
      refine lv_iconst (v := 0) hx hb d_D_same_27 (by decide) ?_
      refine lv_topi (fun v27 ev27 => ?_)
      have ev27 : v27 = nI 0 := by rw [ev27]; rfl
      subst ev27
      refine lv_istore (lv' := [(5, .int (nI 0)), (4, .ref (y j)), (3, .ref (y j)), (0, .ref h), (1, .int x), (2, .int f)]) hx hb d_D_same_28 hl (by decide) rfl (fun ls hl => ?_)
      have loop : ∀ (t q : Nat), q + t = n + 1 → q ≤ n → (∀ i9, i9 < q → B i9 = B i9) → ∀ (ls : Array Slot), lv_has ls 6 [(5, .int (nI q)), (3, .ref (y j)), (4, .ref (y j))] → W p9 l e9 (headSpec w_D_same ({ frames := 7, cells := 1, slots := 6, locals := 111 })).room s m [.ref h, .int x, .int f].toArray below meth c9 s.heap [] 0 0 (tx_MQ below (tx_Q (fun E => (E = X_IOOBE ∧ (spSame σ x f).1 = 1)) (vp_Si (fun r => spSame σ x f = (0, r, σ)))) [.ref h, .int x, .int f].toArray s 0 0 (fun _ => False)) (F0 m 30 ls []) := by
        intro t
        induction t with
        | zero =>
          intro q hq hq2 hinv ls hl
          exact absurd hq (by omega)
        | succ t ih_loop =>
          intro q hq hq2 hinv ls hl
          refine lv_iload hx hb d_D_same_30 (lv_at hl 0 rfl) ?_
          refine lv_aload_n hx hb d_D_same_32 rfl (lv_at hl 1 rfl) ?_
          refine va_get (D := D) (ci := 1) (v := .int (nI n)) (C := R_R) (T := F_R) (N := 3) hx hb hA i_R hown hK hP 0 rfl rfl 1 (by decide) (hA _ k1_38) (fun _ h9 => h9) rfl d_D_same_33 ?_
          refine lv_icmp_ge (tgt := 63) hx hb d_D_same_36 (by decide) (fun c36 => ?_) (fun c36 => ?_)
          · have hqn : q = n := by have := (nI_leI (a := n) (b := q) (by omega) (by omega)).mp c36; omega
            refine lv_iconst (v := 1) hx hb d_D_same_63 (by decide) ?_
            exact tx_ret (W.zret (v := 1) (ty := .boolean) hx hb hr (by decide) (fun t ht hW => Or.inl ⟨_, rfl, ⟨_, rfl, (by unfold spSame; rw [hrj, hri, hρ, if_neg (fun h8 => h8 hir), if_pos ⟨hnn, (show eqb B B n = true from (eqb_iff _ _ _).mpr (fun i9 h9 => hinv i9 (by omega)))⟩]), ht⟩⟩) (fun q h => by cases h) d_D_same_64)
          · have hqn : q < n := by have := mt (nI_leI (a := n) (b := q) (by omega) (by omega)).mpr c36; omega
            refine lv_aload_n hx hb d_D_same_39 rfl (lv_at hl 1 rfl) ?_
            refine lv_iload hx hb d_D_same_40 (lv_at hl 0 rfl) ?_
            have hPc := hP.sub (ws' := [((y j), .inr (1, [.ref (b j), .int (nI n), .int (nI p)])), ((b j), .inl (cB, M, .inl (fun j => sb_b (B j))))]) [0, 1] rfl
            have hKc := hK.sub (tys' := [(cB, .byte)]) [0] rfl
            refine vp_callSi (W.runV (As := [.int (nI q)]) (rest := []) ⟨hx, hb, hml, hown, hA⟩ (c_R_get l D cB (y j) (b j) M B (nI n) (nI p) q (by omega) hM hB) (q_R_get hA k2_21 rfl rfl ⟨(Nat.le_of_ble_eq_true rfl), (Nat.le_of_ble_eq_true rfl)⟩) (ox_V (va_recv hKc hPc (ci := 1) (q0 := 0) rfl rfl) (ox_S hPc hKc)) rfl rfl hl.1 rfl (lv_room (Nat.le_of_ble_eq_true rfl)) d_D_same_42 ⟨(Nat.le_of_ble_eq_true rfl), (Nat.le_of_ble_eq_true rfl)⟩) (fun r42 hr42 => ?_)
            have er42 : r42 = nI (B q) := hr42
            subst er42
            refine lv_aload hx hb d_D_same_45 (lv_at hl 2 rfl) ?_
            refine lv_iload hx hb d_D_same_47 (lv_at hl 0 rfl) ?_
            have hPc := hP.sub (ws' := [((y j), .inr (1, [.ref (b j), .int (nI n), .int (nI p)])), ((b j), .inl (cB, M, .inl (fun j => sb_b (B j))))]) [0, 1] rfl
            have hKc := hK.sub (tys' := [(cB, .byte)]) [0] rfl
            refine vp_callSi (W.runV (As := [.int (nI q)]) (rest := [.int (nI (B q))]) ⟨hx, hb, hml, hown, hA⟩ (c_R_get l D cB (y j) (b j) M B (nI n) (nI p) q (by omega) hM hB) (q_R_get hA k2_21 rfl rfl ⟨(Nat.le_of_ble_eq_true rfl), (Nat.le_of_ble_eq_true rfl)⟩) (ox_V (va_recv hKc hPc (ci := 1) (q0 := 0) rfl rfl) (ox_S hPc hKc)) rfl rfl hl.1 rfl (lv_room (Nat.le_of_ble_eq_true rfl)) d_D_same_49 ⟨(Nat.le_of_ble_eq_true rfl), (Nat.le_of_ble_eq_true rfl)⟩) (fun r49 hr49 => ?_)
            have er49 : r49 = nI (B q) := hr49
            subst er49
            refine lv_icmp_eq (tgt := 57) hx hb d_D_same_52 (by decide) (fun c52 => ?_) (fun c52 => ?_)
            · have hBC : B q = B q := rfl
              obtain ⟨v57, ev57⟩ : ∃ y : Int32, y = nI q + 1 := ⟨_, rfl⟩
              refine lv_iinc (v := v57) (lv' := [(5, .int v57), (3, .ref (y j)), (4, .ref (y j))]) hx hb d_D_same_57 hl (k := 0) rfl (by rw [ev57]; rfl) (by decide) rfl (fun ls hl => ?_)
              have ev57 : v57 = nI (q + 1) := by rw [ev57]; exact nI_1 q
              subst ev57
              refine lv_goto (tgt := 30) hx hb d_D_same_60 (by decide) ?_
              exact ih_loop (q + 1) (by omega) (by omega) (fun i9 h9 => by
                rcases Nat.lt_or_ge i9 q with q9 | q9
                · exact hinv i9 q9
                · (obtain rfl : i9 = q := by omega); exact hBC) ls (lv_sub hl [0, 1, 2] rfl)
            · refine lv_iconst (v := 0) hx hb d_D_same_55 (by decide) ?_
              exact tx_ret (W.zret (v := 0) (ty := .boolean) hx hb hr (by decide) (fun t ht hW => Or.inl ⟨_, rfl, ⟨_, rfl, (by unfold spSame; rw [hrj, hri, hρ, if_neg (fun h8 => h8 hir), if_neg (fun h8 => c52 (congrArg nI ((eqb_iff _ _ _).mp h8.2 q hqn)))]), ht⟩⟩) (fun q h => by cases h) d_D_same_56)
      exact loop (n + 1) 0 (by omega) (by omega) (fun i9 h9 => absurd h9 (by omega)) ls (lv_sub hl [0, 2, 1] rfl)
    · refine lv_iconst (v := 0) hx hb d_D_same_25 (by decide) ?_
      exact tx_ret (W.zret (v := 0) (ty := .boolean) hx hb hr (by decide) (fun t ht hW => Or.inl ⟨_, rfl, ⟨_, rfl, (by unfold spSame; rw [hrj, hri, hρ, if_neg (fun h8 => h8 hir), if_neg (fun h8 => c22 (congrArg nI h8.1))]), ht⟩⟩) (fun q h => by cases h) d_D_same_26)
  · obtain ⟨c4_, c5_, c6_, c7_, c8_, c9_, hi1, hi2, ho1, ho2⟩ := dk_2 D vCl cR cB h ra g M y b σ hj hi hji
    have hP : va_P D vCl [(y j, .inr (1, [.ref (b j), .int (nI (σ j).2.1), .int (nI (σ j).2.2)])), (b j, .inl (cB, M, .inl (fun j9 => sb_b ((σ j).1 j9)))), (y i, .inr (1, [.ref (b i), .int (nI (σ i).2.1), .int (nI (σ i).2.2)])), (b i, .inl (cB, M, .inl (fun j9 => sb_b ((σ i).1 j9)))), c4_, c5_, c6_, c7_, c8_, c9_] s.heap := hi1 _ hP
    obtain ⟨⟨B, n, p⟩, hρ⟩ : ∃ ρ, σ j = ρ := ⟨_, rfl⟩
    obtain ⟨⟨C, n2, p2⟩, hρ2⟩ : ∃ ρ, σ i = ρ := ⟨_, rfl⟩
    have hk := hσ.2 j hj
    have hk2 := hσ.2 i hi
    have hM := hσ.1
    rw [hρ] at hk
    rw [hρ2] at hk2
    rw [hρ, hρ2] at hP
    obtain ⟨hp, hn, hB⟩ := hk
    have hp : p ≤ n := hp
    have hn : n ≤ M := hn
    have hB : ∀ j, B j < 256 := hB
    obtain ⟨hp2, hn2, hB2⟩ := hk2
    have hp2 : p2 ≤ n2 := hp2
    have hn2 : n2 ≤ M := hn2
    have hB2 : ∀ j, C j < 256 := hB2
    have hP : va_P D vCl [((y j), .inr (1, [.ref (b j), .int (nI n), .int (nI p)])), ((b j), .inl (cB, M, .inl (fun j => sb_b (B j)))), ((y i), .inr (1, [.ref (b i), .int (nI n2), .int (nI p2)])), ((b i), .inl (cB, M, .inl (fun j => sb_b (C j)))), c4_, c5_, c6_, c7_, c8_, c9_] s.heap := hP
    have hrj : rj x = j := by rw [hxj]; exact rj_n hj
    have hri : rj f = i := by rw [hxi]; exact rj_n hi
    have hir : isR x ∧ isR f := ⟨by rw [hxj]; exact isR_n hj, by rw [hxi]; exact isR_n hi⟩
    refine lv_astore (lv' := [(4, .ref (y i)), (3, .ref (y j)), (0, .ref h), (1, .int x), (2, .int f)]) hx hb d_D_same_11 hl (by decide) rfl (fun ls hl => ?_)
    refine lv_aload_n hx hb d_D_same_13 rfl (lv_at hl 1 rfl) ?_
    refine va_get (D := D) (ci := 1) (v := .int (nI n)) (C := R_R) (T := F_R) (N := 3) hx hb hA i_R hown hK hP 0 rfl rfl 1 (by decide) (hA _ k1_38) (fun _ h9 => h9) rfl d_D_same_14 ?_
    refine lv_aload hx hb d_D_same_17 (lv_at hl 0 rfl) ?_
    refine va_get (D := D) (ci := 1) (v := .int (nI n2)) (C := R_R) (T := F_R) (N := 3) hx hb hA i_R hown hK hP 2 rfl rfl 1 (by decide) (hA _ k1_38) (fun _ h9 => h9) rfl d_D_same_19 ?_
    refine lv_icmp_eq (tgt := 27) hx hb d_D_same_22 (by decide) (fun c22 => ?_) (fun c22 => ?_)
    · have hnn : n = n2 := (nI_eq (by omega) (by omega)).mp c22
      refine lv_iconst (v := 0) hx hb d_D_same_27 (by decide) ?_
      refine lv_topi (fun v27 ev27 => ?_)
      have ev27 : v27 = nI 0 := by rw [ev27]; rfl
      subst ev27
      refine lv_istore (lv' := [(5, .int (nI 0)), (4, .ref (y i)), (3, .ref (y j)), (0, .ref h), (1, .int x), (2, .int f)]) hx hb d_D_same_28 hl (by decide) rfl (fun ls hl => ?_)
      have loop : ∀ (t q : Nat), q + t = n + 1 → q ≤ n → (∀ i9, i9 < q → B i9 = C i9) → ∀ (ls : Array Slot), lv_has ls 6 [(5, .int (nI q)), (3, .ref (y j)), (4, .ref (y i))] → W p9 l e9 (headSpec w_D_same ({ frames := 7, cells := 1, slots := 6, locals := 111 })).room s m [.ref h, .int x, .int f].toArray below meth c9 s.heap [] 0 0 (tx_MQ below (tx_Q (fun E => (E = X_IOOBE ∧ (spSame σ x f).1 = 1)) (vp_Si (fun r => spSame σ x f = (0, r, σ)))) [.ref h, .int x, .int f].toArray s 0 0 (fun _ => False)) (F0 m 30 ls []) := by
        intro t
        induction t with
        | zero =>
          intro q hq hq2 hinv ls hl
          exact absurd hq (by omega)
        | succ t ih_loop =>
          intro q hq hq2 hinv ls hl
          refine lv_iload hx hb d_D_same_30 (lv_at hl 0 rfl) ?_
          refine lv_aload_n hx hb d_D_same_32 rfl (lv_at hl 1 rfl) ?_
          refine va_get (D := D) (ci := 1) (v := .int (nI n)) (C := R_R) (T := F_R) (N := 3) hx hb hA i_R hown hK hP 0 rfl rfl 1 (by decide) (hA _ k1_38) (fun _ h9 => h9) rfl d_D_same_33 ?_
          refine lv_icmp_ge (tgt := 63) hx hb d_D_same_36 (by decide) (fun c36 => ?_) (fun c36 => ?_)
          · have hqn : q = n := by have := (nI_leI (a := n) (b := q) (by omega) (by omega)).mp c36; omega
            refine lv_iconst (v := 1) hx hb d_D_same_63 (by decide) ?_
            exact tx_ret (W.zret (v := 1) (ty := .boolean) hx hb hr (by decide) (fun t ht hW => Or.inl ⟨_, rfl, ⟨_, rfl, (by unfold spSame; rw [hrj, hri, hρ, hρ2, if_neg (fun h8 => h8 hir), if_pos ⟨hnn, (show eqb B C n = true from (eqb_iff _ _ _).mpr (fun i9 h9 => hinv i9 (by omega)))⟩]), ht⟩⟩) (fun q h => by cases h) d_D_same_64)
          · have hqn : q < n := by have := mt (nI_leI (a := n) (b := q) (by omega) (by omega)).mpr c36; omega
            refine lv_aload_n hx hb d_D_same_39 rfl (lv_at hl 1 rfl) ?_
            refine lv_iload hx hb d_D_same_40 (lv_at hl 0 rfl) ?_
            have hPc := hP.sub (ws' := [((y j), .inr (1, [.ref (b j), .int (nI n), .int (nI p)])), ((b j), .inl (cB, M, .inl (fun j => sb_b (B j))))]) [0, 1] rfl
            have hKc := hK.sub (tys' := [(cB, .byte)]) [0] rfl
            refine vp_callSi (W.runV (As := [.int (nI q)]) (rest := []) ⟨hx, hb, hml, hown, hA⟩ (c_R_get l D cB (y j) (b j) M B (nI n) (nI p) q (by omega) hM hB) (q_R_get hA k2_21 rfl rfl ⟨(Nat.le_of_ble_eq_true rfl), (Nat.le_of_ble_eq_true rfl)⟩) (ox_V (va_recv hKc hPc (ci := 1) (q0 := 0) rfl rfl) (ox_S hPc hKc)) rfl rfl hl.1 rfl (lv_room (Nat.le_of_ble_eq_true rfl)) d_D_same_42 ⟨(Nat.le_of_ble_eq_true rfl), (Nat.le_of_ble_eq_true rfl)⟩) (fun r42 hr42 => ?_)
            have er42 : r42 = nI (B q) := hr42
            subst er42
            refine lv_aload hx hb d_D_same_45 (lv_at hl 2 rfl) ?_
            refine lv_iload hx hb d_D_same_47 (lv_at hl 0 rfl) ?_
            have hPc := hP.sub (ws' := [((y i), .inr (1, [.ref (b i), .int (nI n2), .int (nI p2)])), ((b i), .inl (cB, M, .inl (fun j => sb_b (C j))))]) [2, 3] rfl
            have hKc := hK.sub (tys' := [(cB, .byte)]) [0] rfl
            refine vp_callSi (W.runV (As := [.int (nI q)]) (rest := [.int (nI (B q))]) ⟨hx, hb, hml, hown, hA⟩ (c_R_get l D cB (y i) (b i) M C (nI n2) (nI p2) q (by omega) hM hB2) (q_R_get hA k2_21 rfl rfl ⟨(Nat.le_of_ble_eq_true rfl), (Nat.le_of_ble_eq_true rfl)⟩) (ox_V (va_recv hKc hPc (ci := 1) (q0 := 0) rfl rfl) (ox_S hPc hKc)) rfl rfl hl.1 rfl (lv_room (Nat.le_of_ble_eq_true rfl)) d_D_same_49 ⟨(Nat.le_of_ble_eq_true rfl), (Nat.le_of_ble_eq_true rfl)⟩) (fun r49 hr49 => ?_)
            have er49 : r49 = nI (C q) := hr49
            subst er49
            refine lv_icmp_eq (tgt := 57) hx hb d_D_same_52 (by decide) (fun c52 => ?_) (fun c52 => ?_)
            · have hBC : B q = C q := by have g1 := hB q; have g2 := hB2 q; exact (nI_eq (by omega) (by omega)).mp c52
              obtain ⟨v57, ev57⟩ : ∃ y : Int32, y = nI q + 1 := ⟨_, rfl⟩
              refine lv_iinc (v := v57) (lv' := [(5, .int v57), (3, .ref (y j)), (4, .ref (y i))]) hx hb d_D_same_57 hl (k := 0) rfl (by rw [ev57]; rfl) (by decide) rfl (fun ls hl => ?_)
              have ev57 : v57 = nI (q + 1) := by rw [ev57]; exact nI_1 q
              subst ev57
              refine lv_goto (tgt := 30) hx hb d_D_same_60 (by decide) ?_
              exact ih_loop (q + 1) (by omega) (by omega) (fun i9 h9 => by
                rcases Nat.lt_or_ge i9 q with q9 | q9
                · exact hinv i9 q9
                · (obtain rfl : i9 = q := by omega); exact hBC) ls (lv_sub hl [0, 1, 2] rfl)
            · refine lv_iconst (v := 0) hx hb d_D_same_55 (by decide) ?_
              exact tx_ret (W.zret (v := 0) (ty := .boolean) hx hb hr (by decide) (fun t ht hW => Or.inl ⟨_, rfl, ⟨_, rfl, (by unfold spSame; rw [hrj, hri, hρ, hρ2, if_neg (fun h8 => h8 hir), if_neg (fun h8 => c52 (congrArg nI ((eqb_iff _ _ _).mp h8.2 q hqn)))]), ht⟩⟩) (fun q h => by cases h) d_D_same_56)
      exact loop (n + 1) 0 (by omega) (by omega) (fun i9 h9 => absurd h9 (by omega)) ls (lv_sub hl [0, 2, 1] rfl)
    · refine lv_iconst (v := 0) hx hb d_D_same_25 (by decide) ?_
      exact tx_ret (W.zret (v := 0) (ty := .boolean) hx hb hr (by decide) (fun t ht hW => Or.inl ⟨_, rfl, ⟨_, rfl, (by unfold spSame; rw [hrj, hri, hρ, hρ2, if_neg (fun h8 => h8 hir), if_neg (fun h8 => c22 (congrArg nI h8.1))]), ht⟩⟩) (fun q h => by cases h) d_D_same_26)
end
