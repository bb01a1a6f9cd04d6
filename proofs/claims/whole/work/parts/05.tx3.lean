/-- what an exception of class E at x says: it is new, it is an object of that class, and nothing that was there has changed -/
def tx_E (E : String) (x : Nat) (U : State) (H H1 : Heap) : Prop := H.size ≤ x ∧ (∃ ce : Cell, H1[x]? = some ce ∧ ce.vm = .none ∧ U.vm.findClass E = some ce.cls) ∧ H.size ≤ H1.size ∧ ∀ q : Nat, q < H.size → H1[q]? = H[q]?
theorem tx_E.moved {E : String} {x : Nat} {u U : State} {H H1 : Heap} (hvm : u.vm.Alike U.vm) (h : tx_E E x u H H1) : tx_E E x U H H1 := by
  obtain ⟨h1, ⟨ce, h2, h3, h4⟩, h5, h6⟩ := h
  exact ⟨h1, ⟨ce, h2, h3, by rw [hvm.findClass]; exact h4⟩, h5, h6⟩
theorem tx_E.from {E : String} {x : Nat} {U : State} {H0 H H1 : Heap} (h : tx_E E x U H H1) (hz : H0.size ≤ H.size) (hk : ∀ q : Nat, q < H0.size → H[q]? = H0[q]?) : tx_E E x U H0 H1 := by
  obtain ⟨h1, h2, h5, h6⟩ := h
  exact ⟨Nat.le_trans hz h1, h2, Nat.le_trans hz h5, fun q hq => (h6 q (Nat.lt_of_lt_of_le hq hz)).trans (hk q hq)⟩
/-- a method's end: it returns as Qr says, or throws one of thr -/
def tx_Q (thr : String → Prop) (Qr : Array Value → State → Outcome → State → Prop) : Array Value → State → Outcome → State → Prop := fun a st o t =>
  (∃ v, o = .returned v ∧ Qr a st o t) ∨ ∃ (x : Nat) (E : String), o = .threw x ∧ thr E ∧ tx_E E x st st.heap t.heap
section TXQ
variable {p : Program} {l : Launch} {e : Env} {R : Room} {s : State} {m : MethodId} {args : Array Value} {below : List Frame} {meth : Method} {c : Code} {H : Heap} {locs : List Loc} {cells slots : Nat} {Q : State → Prop}
variable {pc mc ms : Nat} {ls : Array Slot} {rest st0 : List Value} {a : Array Value} {thr thr2 : String → Prop} {Qr Qr2 : Array Value → State → Outcome → State → Prop} {free : Addr → Prop}
/-- it goes on out of the method -/
theorem tx_prop {H1 : Heap} {st : List Value} {x : Nat} {E : String} (hlocks : meth.locks = false) (hce : c.exceptionTable.isEmpty = true) (hE : tx_E E x s H H1) (hz : s.heap.size ≤ H.size) (hk : ∀ q : Nat, q < s.heap.size → H[q]? = s.heap[q]?) (ht : thr2 E) (hf : ∀ q ∈ locs, free q.base) :
    tx_W p l e R s m args below meth c H1 locs (mc + 1) (ms + 6) (tx_MQ below (tx_Q thr2 Qr2) args s mc ms free) (F0 m pc ls st) x :=
  tx_out hlocks hce (fun t ht0 _ => Or.inr ⟨x, E, rfl, ht, by rw [ht0]; exact hE.from hz hk⟩) hf
/-- a call whose method may throw: the exception goes on; else as the callee says -/
theorem tx_callP (hr : tx_Run p l e R s m args below meth c H locs cells slots mc ms (F0 m pc ls st0) rest (tx_Q thr Qr a) free)
    (kt : ∀ (x : Nat) (E : String) (H1 : Heap) (L : List Loc), thr E → tx_E E x s H H1 → (∀ q ∈ L, free q.base) → tx_W p l e R s m args below meth c H1 (locs ++ L) (cells + (mc + 1)) (slots + (ms + 6)) Q (F0 m pc ls rest) x)
    (kr : ∀ (v : Option Value) (st₀ t : State) (L : List Loc), st₀.heap = H → s.WarmedH st₀.vm → s.WarmedH t.vm → (∀ q ∈ L, free q.base) → Qr a st₀ (.returned v) t → W p l e R s m args below meth c t.heap (locs ++ L) (cells + mc) (slots + ms) Q (F0 m (pc + 3) ls (v.toList ++ rest))) :
    W p l e R s m args below meth c H locs cells slots Q (F0 m pc ls st0) := by
  refine tx_call hr (fun v st₀ t L h0 hW0 hWt hL hq => ?_) (fun x st₀ t L h0 hW0 hWt hL hq => ?_)
  · rcases hq with ⟨v', hv, hq⟩ | ⟨x, E, hv, -⟩
    · exact kr v st₀ t L h0 hW0 hWt hL hq
    · cases hv
  · rcases hq with ⟨v', hv, -⟩ | ⟨x', E, hv, ht, hE⟩
    · cases hv
    · cases hv
      exact kt x E t.heap L ht (by rw [← h0]; exact hE.moved hW0.alike.symm) hL
/-- a method that only reads -/
theorem tx_pure {Qv : Option Value → Prop} (hr : tx_Run p l e R s m args below meth c H locs cells slots 0 0 (F0 m pc ls st0) rest (tx_Q thr Qr a) (fun _ => False)) (hQ : ∀ (st t : State) (v : Option Value), Qr a st (.returned v) t → Qv v ∧ t.heap = st.heap)
    (kt : ∀ (x : Nat) (E : String) (H1 : Heap), thr E → tx_E E x s H H1 → tx_W p l e R s m args below meth c H1 locs (cells + 1) (slots + 6) Q (F0 m pc ls rest) x)
    (kr : ∀ v : Option Value, Qv v → W p l e R s m args below meth c H locs cells slots Q (F0 m (pc + 3) ls (v.toList ++ rest))) :
    W p l e R s m args below meth c H locs cells slots Q (F0 m pc ls st0) := by
  refine tx_callP hr (fun x E H1 L ht hE hL => ?_) (fun v st₀ t L h0 hW0 hWt hL hq => ?_)
  · intro T hT X
    exact kt x E H1 ht hE T hT (Stand.forget X (fun q h => (hL q h).elim))
  · obtain ⟨hv, hh⟩ := hQ st₀ t v hq
    intro T hT X
    exact kr v hv T (by rw [hT, hh, h0]) (Stand.forget X (fun q h => (hL q h).elim))
theorem tx_si {post : Int32 → Prop} (hr : tx_Run p l e R s m args below meth c H locs cells slots 0 0 (F0 m pc ls st0) rest (tx_Q thr (vp_Si post) a) (fun _ => False))
    (kt : ∀ (x : Nat) (E : String) (H1 : Heap), thr E → tx_E E x s H H1 → tx_W p l e R s m args below meth c H1 locs (cells + 1) (slots + 6) Q (F0 m pc ls rest) x)
    (kr : ∀ r : Int32, post r → W p l e R s m args below meth c H locs cells slots Q (F0 m (pc + 3) ls (.int r :: rest))) : W p l e R s m args below meth c H locs cells slots Q (F0 m pc ls st0) := by
  refine tx_pure (Qv := fun v => ∃ r : Int32, v = some (.int r) ∧ post r) hr (fun st t v hq => ?_) kt (fun v hv => ?_)
  · obtain ⟨r, h1, h2, h3⟩ := hq
    cases h1
    exact ⟨⟨r, rfl, h2⟩, h3⟩
  · obtain ⟨r, rfl, h⟩ := hv
    exact kr r h
theorem tx_sl {post : Int64 → Prop} (hr : tx_Run p l e R s m args below meth c H locs cells slots 0 0 (F0 m pc ls st0) rest (tx_Q thr (vp_Sl post) a) (fun _ => False))
    (kt : ∀ (x : Nat) (E : String) (H1 : Heap), thr E → tx_E E x s H H1 → tx_W p l e R s m args below meth c H1 locs (cells + 1) (slots + 6) Q (F0 m pc ls rest) x)
    (kr : ∀ r : Int64, post r → W p l e R s m args below meth c H locs cells slots Q (F0 m (pc + 3) ls (.long r :: rest))) : W p l e R s m args below meth c H locs cells slots Q (F0 m pc ls st0) := by
  refine tx_pure (Qv := fun v => ∃ r : Int64, v = some (.long r) ∧ post r) hr (fun st t v hq => ?_) kt (fun v hv => ?_)
  · obtain ⟨r, h1, h2, h3⟩ := hq
    cases h1
    exact ⟨⟨r, rfl, h2⟩, h3⟩
  · obtain ⟨r, rfl, h⟩ := hv
    exact kr r h
theorem tx_sv {post : Unit → Prop} (hr : tx_Run p l e R s m args below meth c H locs cells slots 0 0 (F0 m pc ls st0) rest (tx_Q thr (va_Sv post) a) (fun _ => False))
    (kt : ∀ (x : Nat) (E : String) (H1 : Heap), thr E → tx_E E x s H H1 → tx_W p l e R s m args below meth c H1 locs (cells + 1) (slots + 6) Q (F0 m pc ls rest) x)
    (kr : post () → W p l e R s m args below meth c H locs cells slots Q (F0 m (pc + 3) ls rest)) : W p l e R s m args below meth c H locs cells slots Q (F0 m pc ls st0) := by
  refine tx_pure (Qv := fun v => v = none ∧ post ()) hr (fun st t v hq => ?_) kt (fun v hv => ?_)
  · obtain ⟨h1, h2, h3⟩ := hq
    cases h1
    exact ⟨⟨rfl, h2⟩, h3⟩
  · obtain ⟨rfl, h⟩ := hv
    exact kr h
theorem tx_sr {post : Nat → Prop} {ad : Nat → Value} (hr : tx_Run p l e R s m args below meth c H locs cells slots 0 0 (F0 m pc ls st0) rest (tx_Q thr (va_Sr post ad) a) (fun _ => False))
    (kt : ∀ (x : Nat) (E : String) (H1 : Heap), thr E → tx_E E x s H H1 → tx_W p l e R s m args below meth c H1 locs (cells + 1) (slots + 6) Q (F0 m pc ls rest) x)
    (kr : ∀ k : Nat, post k → W p l e R s m args below meth c H locs cells slots Q (F0 m (pc + 3) ls (ad k :: rest))) : W p l e R s m args below meth c H locs cells slots Q (F0 m pc ls st0) := by
  refine tx_pure (Qv := fun v => ∃ k : Nat, v = some (ad k) ∧ post k) hr (fun st t v hq => ?_) kt (fun v hv => ?_)
  · obtain ⟨r, h1, h2, h3⟩ := hq
    cases h1
    exact ⟨⟨r, rfl, h2⟩, h3⟩
  · obtain ⟨r, rfl, h⟩ := hv
    exact kr r h
/-- calls that write: the world behind them -/
theorem tx_wi {S : Type} {A0 A1 : Nat → Prop} {H0 : Heap} {post : Int32 → S → Prop} {B : S → State → Prop} (hr : tx_Run p l e R s m args below meth c H locs cells slots mc ms (F0 m pc ls st0) rest (tx_Q thr (va_Qi post B A1) a) free) (hS : va_S A0 H0 H locs) (hA : ∀ q, q < H.size → A1 q → A0 q) (hf : ∀ q, free q → A0 q)
    (kt : ∀ (x : Nat) (E : String) (H1 : Heap) (L : List Loc), thr E → tx_E E x s H H1 → (∀ q ∈ L, free q.base) → tx_W p l e R s m args below meth c H1 (locs ++ L) (cells + (mc + 1)) (slots + (ms + 6)) Q (F0 m pc ls rest) x)
    (kk : ∀ (r : Int32) (u : S) (t : State) (H1 : Heap) (locs1 : List Loc), t.heap = H1 → s.vm.Alike t.vm → post r u → B u t → H.size ≤ H1.size → (∀ q : Nat, q < H.size → ¬ A1 q → H1[q]? = H[q]?) → va_S A0 H0 H1 locs1 → W p l e R s m args below meth c H1 locs1 (cells + mc) (slots + ms) Q (F0 m (pc + 3) ls (.int r :: rest))) : W p l e R s m args below meth c H locs cells slots Q (F0 m pc ls st0) := by
  refine tx_callP hr kt (fun v st₀ t L h0 hW0 hWt hL hq => ?_)
  obtain ⟨⟨r, u, hv, hp, hb⟩, hz, hk⟩ := hq
  cases hv
  rw [h0] at hz hk
  exact kk r u t t.heap (locs ++ L) rfl hWt.alike hp hb hz hk ⟨Nat.le_trans hS.1 hz, fun q h1 h2 => by rw [hk q (Nat.lt_of_lt_of_le h1 hS.1) (fun z => h2 (hA q (Nat.lt_of_lt_of_le h1 hS.1) z))]; exact hS.2.1 q h1 h2, fun q hq => by
      rcases List.mem_append.mp hq with h | h
      · exact hS.2.2 q h
      · exact hf _ (hL q h)⟩
theorem tx_wl {S : Type} {A0 A1 : Nat → Prop} {H0 : Heap} {post : Int64 → S → Prop} {B : S → State → Prop} (hr : tx_Run p l e R s m args below meth c H locs cells slots mc ms (F0 m pc ls st0) rest (tx_Q thr (va_Ql post B A1) a) free) (hS : va_S A0 H0 H locs) (hA : ∀ q, q < H.size → A1 q → A0 q) (hf : ∀ q, free q → A0 q)
    (kt : ∀ (x : Nat) (E : String) (H1 : Heap) (L : List Loc), thr E → tx_E E x s H H1 → (∀ q ∈ L, free q.base) → tx_W p l e R s m args below meth c H1 (locs ++ L) (cells + (mc + 1)) (slots + (ms + 6)) Q (F0 m pc ls rest) x)
    (kk : ∀ (r : Int64) (u : S) (t : State) (H1 : Heap) (locs1 : List Loc), t.heap = H1 → s.vm.Alike t.vm → post r u → B u t → H.size ≤ H1.size → (∀ q : Nat, q < H.size → ¬ A1 q → H1[q]? = H[q]?) → va_S A0 H0 H1 locs1 → W p l e R s m args below meth c H1 locs1 (cells + mc) (slots + ms) Q (F0 m (pc + 3) ls (.long r :: rest))) : W p l e R s m args below meth c H locs cells slots Q (F0 m pc ls st0) := by
  refine tx_callP hr kt (fun v st₀ t L h0 hW0 hWt hL hq => ?_)
  obtain ⟨⟨r, u, hv, hp, hb⟩, hz, hk⟩ := hq
  cases hv
  rw [h0] at hz hk
  exact kk r u t t.heap (locs ++ L) rfl hWt.alike hp hb hz hk ⟨Nat.le_trans hS.1 hz, fun q h1 h2 => by rw [hk q (Nat.lt_of_lt_of_le h1 hS.1) (fun z => h2 (hA q (Nat.lt_of_lt_of_le h1 hS.1) z))]; exact hS.2.1 q h1 h2, fun q hq => by
      rcases List.mem_append.mp hq with h | h
      · exact hS.2.2 q h
      · exact hf _ (hL q h)⟩
theorem tx_sz {g : JFrame} (k : s.heap.size ≤ H.size → W p l e R s m args below meth c H locs cells slots Q g) : W p l e R s m args below meth c H locs cells slots Q g := fun T hT X => k (by rw [← hT]; exact X.same.2.1) T hT X
/-- new; dup; ldc; invokespecial; athrow -/
theorem tx_throw {cc : ByteArray} {nL : Nat} (hx : p.tables.exec = Jvm.exec) (hb : c.code = cc) (hml : c.maxLocals = nL) (hlocks : meth.locks = false) (hce : c.exceptionTable.isEmpty = true) (htr : e.platform.stackTraces = false) {own cls Y : String} {names : List String} {i0 is ic k0 q : Nat} {bs : ByteArray} {tx : String}
    (hown : s.vm.findClass own = some m.cls) (hcls : Bundle.fit cls = true) (hY : Bundle.fit Y = true) (hnames : ∀ n ∈ names, Bundle.fit n = true)
    (b0 : decode bs 0 = .ok (.aload_n 0, 1)) (b1 : decode bs 1 = .ok (.aload_n 1, 1)) (b2 : decode bs 2 = .ok (.invokespecial k0, 3)) (b5 : decode bs 5 = .ok (.return_, 1))
    (h : ∀ a ∈ tx_atoms own ic cls Y k0 bs names, a.before args s = true) (hcl : (Cond.classLink own i0 cls).before args s = true) (hini : (Cond.initialized cls).before args s = true) (hZ : vk_R own is tx q s) (hls : ls.size = nL) {st : List Value} (hst : (st.map fun v => v.category).sum ≤ 8)
    (d0 : decode cc pc = .ok (.new i0, 3)) (d3 : decode cc (pc + 3) = .ok (.dup, 1)) (d4 : decode cc (pc + 4) = .ok (.ldc is, 2)) (d6 : decode cc (pc + 6) = .ok (.invokespecial ic, 3)) (d9 : decode cc (pc + 9) = .ok (.athrow, 1))
    (hRf : names.length + 4 < R.frames) (hRl : 13 * (names.length + 2) + 51 ≤ R.locals) (hRc : cells + 1 ≤ R.cells) (hRs : slots + 6 ≤ R.slots)
    {Qc : Array Value → State → Outcome → State → Prop} (hq : ∀ (x : Nat) (t : State), tx_E cls x s s.heap t.heap → Qc args s (.threw x) t) :
    W p l e R s m args below meth c H [] cells slots (tx_MQ below Qc args s cells slots free) (F0 m pc ls st) := by
  refine tx_sz (fun hsz => ?_)
  refine W.newc hx hb hown hcl (h _ (by simp [tx_atoms] : Cond.instantiable cls 6 ∈ _)) hini rfl d0 hRc hRs (fun cC kC g1 g2 g3 g4 => ?_)
  refine W.eq (g2 := F0 m (pc + 3) ls (.ref H.size :: st)) rfl ?_
  refine lv_dup hx hb d3 rfl ?_
  refine va_ldcS hx hb hown hZ d4 ?_
  intro T hT X
  obtain ⟨U, hsteps, hrun, hend, hW, hsame, ce, hce1, hce2, hce3⟩ := tx_made X hx htr hown hcls hY hnames b0 b1 b2 b5 h g1 g2 (a := H.size) (by rw [hT]; simp) hsz (msg := .ref q) rfl (g := F0 m (pc + 6) ls (.ref q :: .ref H.size :: .ref H.size :: st)) rfl (by rw [hml]; exact hls) rfl rfl (rest := st) rfl (by rw [hb]; exact d6) (by rw [hb]; exact d9) (covers_of_empty hce _) hRf (by show 2 * 0 + (1 + (st.map fun v => v.category).sum) + _ ≤ _; omega) hlocks
  obtain ⟨o1, o2⟩ := tx_old hsame
  exact ⟨U, hsteps, _, hrun, hend, hq _ _ ⟨hsz, ⟨ce, hce1, hce2, hce3⟩, o1, o2⟩, [], ⟨hW, hsame⟩, fun _ h => by cases h⟩
end TXQ
