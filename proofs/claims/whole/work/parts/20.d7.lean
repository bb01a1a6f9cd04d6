/-! THE CLASS: SEVENS TAKEN AND WRITTEN -/
theorem hm_neg {g : Nat} (hg : g < 2 ^ 64) : lN g < 0 ↔ 2 ^ 63 ≤ g := by
  have h2 : (lN g).toInt = if 2 * g < 2 ^ 64 then (g : Int) else (g : Int) - 2 ^ 64 := by
    show (lN g).toBitVec.toInt = _
    rw [BitVec.toInt_eq_toNat_cond, wb_tn hg]
    rfl
  rw [Int64.lt_iff_toInt_lt, h2, show (0 : Int64).toInt = 0 from by decide]
  split <;> omega
set_option maxHeartbeats 600000 in
set_option maxRecDepth 100000 in
/-- takeSevens -/
theorem c_D_takeSevens (l : Launch) (hL0 : l.stackTraces = false) (D : va_G) (cB : ClassId) (y b M : Nat) (B : Nat → Nat) (n p sz : Nat) (hn : n ≤ M) (hp : p ≤ n) (hM : M ≤ 65536) (hB : ∀ j, B j < 256) : tx_Met l y_D_takeSevens w_D_takeSevens ({ frames := 8, cells := 1, slots := 6, locals := 133 }) (va_Pc [.ref y] (oxv sz D [(cB, .byte)] [(y, .inr (1, [.ref b, .int (nI n), .int (nI p)])), (b, .inl (cB, M, .inl (fun j => sb_b (B j))))])) (tx_Q (fun E => (E = X_NSEE ∧ gw B p n 10 = -3) ∨ (E = X_IAE ∧ gw B p n 10 = -2)) (va_Ql (fun r (w : Nat) => gw B p n 10 = (w : Int) ∧ r = lN (gs B p w)) (fun w => ow D [(cB, .byte)] (va_A [(y, .inr (1, [.ref b, .int (nI n), .int (nI p)])), (b, .inl (cB, M, .inl (fun j => sb_b (B j))))] sz) [(y, .inr (1, [.ref b, .int (nI n), .int (nI (p + w))])), (b, .inl (cB, M, .inl (fun j => sb_b (B j))))]) (va_A [(y, .inr (1, [.ref b, .int (nI n), .int (nI p)])), (b, .inl (cB, M, .inl (fun j => sb_b (B j))))] sz))) 0 0 (va_A [(y, .inr (1, [.ref b, .int (nI n), .int (nI p)])), (b, .inl (cB, M, .inl (fun j => sb_b (B j))))] sz) := by
  refine tx_ofW (cc := b_D_takeSevens) (maxL := 4) (ret := (some .long)) (by decide) rfl ?_
  intro p9 e9 s m args below meth c9 s₁ BL hml hce hadm hv
  obtain ⟨rfl, hsz, hP, hK, hD0, hG⟩ := hv
  have hx := BL.exec
  have hb := BL.bytes
  have hr := BL.returns
  have hts := atoms_spec (ws := w_D_takeSevens) BL.pre
  have hA : ∀ w ∈ wsA, w.before _ s = true := fun w h => hts w (List.mem_cons_of_mem _ h)
  have hown : s.vm.findClass R_D = some m.cls := findClass_of_methodNamed BL.named
  have hlocks := BL.notSynchronized
  have htr : e9.platform.stackTraces = false := by rw [hadm.platform]; exact hL0
  subst hsz
  have hD := hD0.self (sz := s.heap.size)
  generalize hAe : va_A [(y, .inr (1, [.ref b, .int (nI n), .int (nI p)])), (b, .inl (cB, M, .inl (fun j => sb_b (B j))))] s.heap.size = A at hD ⊢
  have hAq : ∀ q : Nat, s.heap.size ≤ q → A q := fun q h => by rw [← hAe]; exact Or.inr h
  have hS : va_S A s.heap s.heap [] := va_S.rf
  have hP : va_P D vCl [(y, .inr (1, [.ref b, .int (nI n), .int (nI p)])), (b, .inl (cB, M, .inl (fun j => sb_b (B j))))] s.heap := hP
  have hl := lv_entry ([.ref y]) (n := 4) (Nat.le_of_ble_eq_true rfl)
  rw [lg_entry_eq]
  generalize (lg_sl ([.ref y]) ++ List.replicate (4 - (lg_sl ([.ref y])).length) Slot.unset).toArray = ls at hl ⊢
  have hl : lv_has ls 4 [(0, .ref y)] := hl
  refine lv_aload_n hx hb d_D_takeSevens_0 rfl (lv_at hl 0 rfl) ?_
  have hPc := hP.sub (ws' := [(y, .inr (1, [.ref b, .int (nI n), .int (nI p)])), (b, .inl (cB, M, .inl (fun j => sb_b (B j))))]) [0, 1] rfl
  have hKc := hK.sub (tys' := [(cB, .byte)]) [0] rfl
  refine tx_si (tx_runS (As := [.ref y]) (rest := []) ⟨hx, hb, hml, hown, hA⟩ (c_D_sevensWidthAtPlace l hL0 D cB y b M B n p hn hp hM hB) (q_D_sevensWidthAtPlace hA k2_89 rfl rfl ⟨(Nat.le_of_ble_eq_true rfl), (Nat.le_of_ble_eq_true rfl)⟩) (oxg_S hPc hKc hG (fun _ _ => rfl)) rfl rfl hl.1 rfl (lv_room (Nat.le_of_ble_eq_true rfl)) d_D_takeSevens_1 ⟨(Nat.le_of_ble_eq_true rfl), (Nat.le_of_ble_eq_true rfl)⟩) (fun x9 E9 H9 ht9 hE9 => tx_prop hlocks hce hE9 (Nat.le_refl _) (fun _ _ => rfl) (ht9) (fun q h => by cases h)) (fun r1 hr1 => ?_)
  obtain ⟨w, hr1, hgw⟩ := hr1
  obtain ⟨hw1, hw2, hw3, hw4⟩ := gw_ok 10 w (Nat.le_refl _) hgw
  subst hr1
  refine lv_istore_n (lv' := [(1, .int (nI w)), (0, .ref y)]) hx hb d_D_takeSevens_4 rfl hl (by decide) rfl (fun ls hl => ?_)
  refine lv_aload_n hx hb d_D_takeSevens_5 rfl (lv_at hl 1 rfl) ?_
  refine lv_iload_n hx hb d_D_takeSevens_6 rfl (lv_at hl 0 rfl) ?_
  have hPc := hP.sub (ws' := [(y, .inr (1, [.ref b, .int (nI n), .int (nI p)])), (b, .inl (cB, M, .inl (fun j => sb_b (B j))))]) [0, 1] rfl
  have hKc := hK.sub (tys' := [(cB, .byte)]) [0] rfl
  refine vp_callSl (W.runS (As := [.ref y, .int (nI w)]) (rest := []) ⟨hx, hb, hml, hown, hA⟩ (c_D_sevensAtPlace l D cB y b M B (nI n) p w hw2 (by omega) hM hB (gs_64 hw2 hw4)) (q_D_sevensAtPlace hA k2_98 rfl rfl ⟨(Nat.le_of_ble_eq_true rfl), (Nat.le_of_ble_eq_true rfl)⟩) (ox_S hPc hKc) rfl rfl hl.1 rfl (lv_room (Nat.le_of_ble_eq_true rfl)) d_D_takeSevens_7 ⟨(Nat.le_of_ble_eq_true rfl), (Nat.le_of_ble_eq_true rfl)⟩) (fun r7 hr7 => ?_)
  have er7 : r7 = lN (gs B p w) := hr7
  subst er7
  refine lv_lstore_n (lv' := [(2, .long (lN (gs B p w))), (1, .int (nI w)), (0, .ref y)]) hx hb d_D_takeSevens_10 rfl hl (by decide) rfl (fun ls hl => ?_)
  refine lv_aload_n hx hb d_D_takeSevens_11 rfl (lv_at hl 2 rfl) ?_
  refine lv_dup hx hb d_D_takeSevens_12 rfl ?_
  refine va_get (D := D) (ci := 1) (v := .int (nI p)) (C := R_R) (T := F_R) (N := 3) hx hb hA i_R hown hK hP 0 rfl rfl 2 (by decide) (hA _ k1_40) (fun _ h9 => h9) rfl d_D_takeSevens_13 ?_
  refine lv_iload_n hx hb d_D_takeSevens_16 rfl (lv_at hl 1 rfl) ?_
  refine lv_iadd hx hb d_D_takeSevens_17 ?_
  refine lv_topi (fun v17 ev17 => ?_)
  have ev17 : v17 = nI (p + w) := by rw [ev17]; exact nI_add p w
  subst ev17
  refine va_put (D := D) (ci := 1) (v := .int (nI (p + w))) (ty := .int) (C := R_R) (T := F_R) (N := 3) hx hb hA i_R t_R t_R_ok n_R hown hK hP hD hS 0 rfl rfl 2 (by decide) (hA _ k1_40) (fun _ h9 => h9) rfl (by decide +kernel) rfl rfl (Nat.le_of_ble_eq_true rfl) d_D_takeSevens_18 (fun H locs hP hD hS => ?_)
  have hP : va_P D vCl [(y, .inr (1, [.ref b, .int (nI n), .int (nI (p + w))])), (b, .inl (cB, M, .inl (fun j => sb_b (B j))))] H := hP
  have hD : va_D A [(y, .inr (1, [.ref b, .int (nI n), .int (nI (p + w))])), (b, .inl (cB, M, .inl (fun j => sb_b (B j))))] := hD
  refine lv_lload_n hx hb d_D_takeSevens_21 rfl (lv_at hl 0 rfl) ?_
  exact tx_ret (W.lret (v := lN (gs B p w)) hx hb hr (fun t ht hW => Or.inl ⟨_, rfl, ⟨⟨_, w, rfl, ⟨hgw, rfl⟩, by rw [ht]; exact hP, va_K.moved hW.alike hK, hD⟩, hS.F ht⟩⟩) hS.2.2 d_D_takeSevens_22)
set_option maxHeartbeats 600000 in
set_option maxRecDepth 100000 in
/-- writeSevens -/
theorem c_D_writeSevens (l : Launch) (hL0 : l.stackTraces = false) (D : va_G) (cB : ClassId) (y b M : Nat) (B : Nat → Nat) (n p sz u : Nat) (hu : u < 2 ^ 64) (hn : n ≤ M) (hM : M ≤ 65536) : tx_Met l y_D_writeSevens w_D_writeSevens ({ frames := 7, cells := 1, slots := 6, locals := 111 }) (va_Pc [.ref y, .long (lN u)] (oxv sz D [(cB, .byte)] [(y, .inr (1, [.ref b, .int (nI n), .int (nI p)])), (b, .inl (cB, M, .inl (fun j => sb_b (B j))))])) (tx_Q (fun E => E = X_ISE ∧ M < n + sw u) (va_Qi (fun r (_ : Unit) => n + sw u ≤ M ∧ r = nI (sw u)) (fun _ => ow D [(cB, .byte)] (va_A [(y, .inr (1, [.ref b, .int (nI n), .int (nI p)])), (b, .inl (cB, M, .inl (fun j => sb_b (B j))))] sz) [(y, .inr (1, [.ref b, .int (nI (n + sw u)), .int (nI p)])), (b, .inl (cB, M, .inl (fun j => sb_b ((wr B n (sw u) (sv u)) j))))]) (va_A [(y, .inr (1, [.ref b, .int (nI n), .int (nI p)])), (b, .inl (cB, M, .inl (fun j => sb_b (B j))))] sz))) 0 0 (va_A [(y, .inr (1, [.ref b, .int (nI n), .int (nI p)])), (b, .inl (cB, M, .inl (fun j => sb_b (B j))))] sz) := by
  refine tx_ofW (cc := b_D_writeSevens) (maxL := 4) (ret := (some .int)) (by decide) rfl ?_
  intro p9 e9 s m args below meth c9 s₁ BL hml hce hadm hv
  obtain ⟨rfl, hsz, hP, hK, hD0, hG⟩ := hv
  have hx := BL.exec
  have hb := BL.bytes
  have hr := BL.returns
  have hts := atoms_spec (ws := w_D_writeSevens) BL.pre
  have hA : ∀ w ∈ wsA, w.before _ s = true := fun w h => hts w (List.mem_cons_of_mem _ h)
  have hown : s.vm.findClass R_D = some m.cls := findClass_of_methodNamed BL.named
  have hlocks := BL.notSynchronized
  have htr : e9.platform.stackTraces = false := by rw [hadm.platform]; exact hL0
  subst hsz
  have hD := hD0.self (sz := s.heap.size)
  generalize hAe : va_A [(y, .inr (1, [.ref b, .int (nI n), .int (nI p)])), (b, .inl (cB, M, .inl (fun j => sb_b (B j))))] s.heap.size = A at hD ⊢
  have hAq : ∀ q : Nat, s.heap.size ≤ q → A q := fun q h => by rw [← hAe]; exact Or.inr h
  have hS : va_S A s.heap s.heap [] := va_S.rf
  have hP : va_P D vCl [(y, .inr (1, [.ref b, .int (nI n), .int (nI p)])), (b, .inl (cB, M, .inl (fun j => sb_b (B j))))] s.heap := hP
  have hl := lv_entry ([.ref y, .long (lN u)]) (n := 4) (Nat.le_of_ble_eq_true rfl)
  rw [lg_entry_eq]
  generalize (lg_sl ([.ref y, .long (lN u)]) ++ List.replicate (4 - (lg_sl ([.ref y, .long (lN u)])).length) Slot.unset).toArray = ls at hl ⊢
  have hl : lv_has ls 4 [(0, .ref y), (1, .long (lN u))] := hl
  refine lv_lload_n hx hb d_D_writeSevens_0 rfl (lv_at hl 1 rfl) ?_
  refine vp_callSi (W.runS (As := [.long (lN u)]) (rest := []) ⟨hx, hb, hml, hown, hA⟩ (c_D_sevensWidth l u hu) (q_D_sevensWidth hA k1_194 rfl rfl ⟨(Nat.le_of_ble_eq_true rfl), (Nat.le_of_ble_eq_true rfl)⟩) (⟨fun a U g mk q => q, fun U hU hW => ⟨rfl, trivial⟩⟩) rfl rfl hl.1 rfl (lv_room (Nat.le_of_ble_eq_true rfl)) d_D_writeSevens_1 ⟨(Nat.le_of_ble_eq_true rfl), (Nat.le_of_ble_eq_true rfl)⟩) (fun r1 hr1 => ?_)
  have er1 : r1 = nI (sw u) := hr1
  subst er1
  have hsw := sw_in u
  refine lv_istore_n (lv' := [(3, .int (nI (sw u))), (0, .ref y), (1, .long (lN u))]) hx hb d_D_writeSevens_4 rfl hl (by decide) rfl (fun ls hl => ?_)
  refine lv_aload_n hx hb d_D_writeSevens_5 rfl (lv_at hl 1 rfl) ?_
  refine lv_iload_n hx hb d_D_writeSevens_6 rfl (lv_at hl 0 rfl) ?_
  have hPc := hP.sub (ws' := [(y, .inr (1, [.ref b, .int (nI n), .int (nI p)])), (b, .inl (cB, M, .inl (fun j => sb_b (B j))))]) [0, 1] rfl
  have hKc := hK.sub (tys' := [(cB, .byte)]) [0] rfl
  refine tx_sv (tx_runS (As := [.ref y, .int (nI (sw u))]) (rest := []) ⟨hx, hb, hml, hown, hA⟩ (c_D_needRoom l hL0 D cB y b M B n p hn hM (sw u) (by omega)) (q_D_needRoom hA k1_158 rfl rfl ⟨(Nat.le_of_ble_eq_true rfl), (Nat.le_of_ble_eq_true rfl)⟩) (oxg_S hPc hKc hG (fun _ _ => rfl)) rfl rfl hl.1 rfl (lv_room (Nat.le_of_ble_eq_true rfl)) d_D_writeSevens_7 ⟨(Nat.le_of_ble_eq_true rfl), (Nat.le_of_ble_eq_true rfl)⟩) (fun x9 E9 H9 ht9 hE9 => tx_prop hlocks hce hE9 (Nat.le_refl _) (fun _ _ => rfl) (ht9) (fun q h => by cases h)) (fun hr7 => ?_)
  refine lv_aload_n hx hb d_D_writeSevens_10 rfl (lv_at hl 1 rfl) ?_
  refine lv_lload_n hx hb d_D_writeSevens_11 rfl (lv_at hl 2 rfl) ?_
  have hPc := hP.sub (ws' := [(y, .inr (1, [.ref b, .int (nI n), .int (nI p)])), (b, .inl (cB, M, .inl (fun j => sb_b (B j))))]) [0, 1] rfl
  have hDc := hD.sub (ws' := [(y, .inr (1, [.ref b, .int (nI n), .int (nI p)])), (b, .inl (cB, M, .inl (fun j => sb_b (B j))))]) [0, 1] (by decide) rfl
  have hKc := hK.sub (tys' := [(cB, .byte)]) [0] rfl
  have hFc := va_free (wc := [(y, .inr (1, [.ref b, .int (nI n), .int (nI p)])), (b, .inl (cB, M, .inl (fun j => sb_b (B j))))]) hD hS hAq [0, 1] rfl
  refine va_callv (va_runS (As := [.ref y, .long (lN u)]) (rest := []) ⟨hx, hb, hml, hown, hA⟩ (c_D_addSevens l D cB y b M B n p s.heap.size u hu hr7 hM) (q_D_addSevens hA k1_197 rfl rfl ⟨(Nat.le_of_ble_eq_true rfl), (Nat.le_of_ble_eq_true rfl)⟩) (oxw_S hPc hKc hDc) rfl rfl hl.1 rfl (lv_room (Nat.le_of_ble_eq_true rfl)) d_D_writeSevens_12 ⟨(Nat.le_of_ble_eq_true rfl), (Nat.le_of_ble_eq_true rfl)⟩) hS (fun q _ h => hFc q h) hFc (fun u9 t9 H1 locs ht9 hvm9 hw9 hB9 hz1 hk1 hS => ?_)
  obtain ⟨hP1, hK1, hD1⟩ := hB9
  rw [ht9] at hP1
  obtain ⟨hP, hD⟩ := va_join (wr := []) (w1 := [(y, .inr (1, [.ref b, .int (nI (n + sw u)), .int (nI p)])), (b, .inl (cB, M, .inl (fun j => sb_b ((wr B n (sw u) (sv u)) j))))]) hP hD [0, 1] [] rfl rfl (by decide) (by decide) hk1 hFc hP1 hD1
  generalize H1 = H at hP hS ⊢
  have hP : va_P D vCl [(y, .inr (1, [.ref b, .int (nI (n + sw u)), .int (nI p)])), (b, .inl (cB, M, .inl (fun j => sb_b ((wr B n (sw u) (sv u)) j))))] H := hP.sub [0, 1] rfl
  have hD : va_D A [(y, .inr (1, [.ref b, .int (nI (n + sw u)), .int (nI p)])), (b, .inl (cB, M, .inl (fun j => sb_b ((wr B n (sw u) (sv u)) j))))] := hD.sub [0, 1] (by decide) rfl
  refine lv_iload_n hx hb d_D_writeSevens_15 rfl (lv_at hl 0 rfl) ?_
  exact tx_ret (W.iret (v := nI (sw u)) hx hb hr (fun t ht hW => Or.inl ⟨_, rfl, ⟨⟨_, (), rfl, ⟨hr7, rfl⟩, by rw [ht]; exact hP, va_K.moved hW.alike hK, hD⟩, hS.F ht⟩⟩) hS.2.2 d_D_writeSevens_16)
set_option maxHeartbeats 600000 in
set_option maxRecDepth 100000 in
/-- howManyAtPlace -/
theorem c_D_howManyAtPlace (l : Launch) (hL0 : l.stackTraces = false) (D : va_G) (cB : ClassId) (y b M : Nat) (B : Nat → Nat) (nv : Int32) (p w : Nat) (hw : w ≤ 10) (ha : p + w ≤ M) (hM : M ≤ 65536) (hB : ∀ j, B j < 256) (h64 : gs B p w < 2 ^ 64) : tx_Met l y_D_howManyAtPlace w_D_howManyAtPlace ({ frames := 6, cells := 1, slots := 6, locals := 90 }) (va_Pc [.ref y, .int (nI w)] (oxg D [(cB, .byte)] [(y, .inr (1, [.ref b, .int nv, .int (nI p)])), (b, .inl (cB, M, .inl (fun j => sb_b (B j))))])) (tx_Q (fun E => E = X_IAE ∧ 65536 < gs B p w) (vp_Si (fun r => gs B p w ≤ 65536 ∧ r = nI (gs B p w)))) 0 0 (fun _ => False) := by
  refine tx_ofW (cc := b_D_howManyAtPlace) (maxL := 4) (ret := (some .int)) (by decide) rfl ?_
  intro p9 e9 s m args below meth c9 s₁ BL hml hce hadm hv
  obtain ⟨rfl, hP, hK, hG⟩ := hv
  have hx := BL.exec
  have hb := BL.bytes
  have hr := BL.returns
  have hts := atoms_spec (ws := w_D_howManyAtPlace) BL.pre
  have hA : ∀ w ∈ wsA, w.before _ s = true := fun w h => hts w (List.mem_cons_of_mem _ h)
  have hown : s.vm.findClass R_D = some m.cls := findClass_of_methodNamed BL.named
  have hlocks := BL.notSynchronized
  have htr : e9.platform.stackTraces = false := by rw [hadm.platform]; exact hL0
  have hP : va_P D vCl [(y, .inr (1, [.ref b, .int nv, .int (nI p)])), (b, .inl (cB, M, .inl (fun j => sb_b (B j))))] s.heap := hP
  have hl := lv_entry ([.ref y, .int (nI w)]) (n := 4) (Nat.le_of_ble_eq_true rfl)
  rw [lg_entry_eq]
  generalize (lg_sl ([.ref y, .int (nI w)]) ++ List.replicate (4 - (lg_sl ([.ref y, .int (nI w)])).length) Slot.unset).toArray = ls at hl ⊢
  have hl : lv_has ls 4 [(0, .ref y), (1, .int (nI w))] := hl
  refine lv_aload_n hx hb d_D_howManyAtPlace_0 rfl (lv_at hl 0 rfl) ?_
  refine lv_iload_n hx hb d_D_howManyAtPlace_1 rfl (lv_at hl 1 rfl) ?_
  have hPc := hP.sub (ws' := [(y, .inr (1, [.ref b, .int nv, .int (nI p)])), (b, .inl (cB, M, .inl (fun j => sb_b (B j))))]) [0, 1] rfl
  have hKc := hK.sub (tys' := [(cB, .byte)]) [0] rfl
  refine vp_callSl (W.runS (As := [.ref y, .int (nI w)]) (rest := []) ⟨hx, hb, hml, hown, hA⟩ (c_D_sevensAtPlace l D cB y b M B nv p w hw ha hM hB h64) (q_D_sevensAtPlace hA k2_98 rfl rfl ⟨(Nat.le_of_ble_eq_true rfl), (Nat.le_of_ble_eq_true rfl)⟩) (ox_S hPc hKc) rfl rfl hl.1 rfl (lv_room (Nat.le_of_ble_eq_true rfl)) d_D_howManyAtPlace_2 ⟨(Nat.le_of_ble_eq_true rfl), (Nat.le_of_ble_eq_true rfl)⟩) (fun r2 hr2 => ?_)
  have er2 : r2 = lN (gs B p w) := hr2
  subst er2
  refine lv_lstore_n (lv' := [(2, .long (lN (gs B p w))), (0, .ref y), (1, .int (nI w))]) hx hb d_D_howManyAtPlace_5 rfl hl (by decide) rfl (fun ls hl => ?_)
  refine lv_lload_n hx hb d_D_howManyAtPlace_6 rfl (lv_at hl 0 rfl) ?_
  refine lv_lconst (v := 0) hx hb d_D_howManyAtPlace_7 (by decide) ?_
  refine W.lcmp hx hb d_D_howManyAtPlace_8 ?_
  refine lv_topi (fun v8 ev8 => ?_)
  refine lv_if_lt (tgt := 20) hx hb d_D_howManyAtPlace_9 (by decide) (fun c9 => ?_) (fun c9 => ?_)
  · have hbig : 65536 < gs B p w := by
      first
      | (have := (hm_neg h64).mp ((lg_cmp_lt _ _).mp (by rw [← ev8]; exact c9)); omega)
      | (have := mt hle.mpr (fun z => c17 (by rw [ev16]; exact (lg_cmp_le _ _).mpr z)); omega)
    exact th_IAE hx hb hml hlocks hce htr hown hA hG hl.1 (Nat.le_of_ble_eq_true rfl) (tx := "more bytes than a block can have") (by decide) d_D_howManyAtPlace_20 d_D_howManyAtPlace_23 d_D_howManyAtPlace_24 d_D_howManyAtPlace_26 d_D_howManyAtPlace_29 (Nat.le_of_ble_eq_true rfl) (Nat.le_of_ble_eq_true rfl) (Nat.le_of_ble_eq_true rfl) (Nat.le_of_ble_eq_true rfl) (by exact ⟨rfl, hbig⟩)
  · have hs : gs B p w < 2 ^ 63 := by have := mt (hm_neg h64).mpr (fun z => c9 (by rw [ev8]; exact (lg_cmp_lt _ _).mpr z)); omega
    have hle : lN (gs B p w) ≤ 65536 ↔ gs B p w ≤ 65536 := pk_lLE (b := 65536) hs (by decide)
    refine lv_lload_n hx hb d_D_howManyAtPlace_12 rfl (lv_at hl 0 rfl) ?_
    refine lv_ldc2 (v := 65536) hx hb hown (hA _ k2_137) d_D_howManyAtPlace_13 ?_
    refine W.lcmp hx hb d_D_howManyAtPlace_16 ?_
    refine lv_topi (fun v16 ev16 => ?_)
    refine lv_if_le (tgt := 30) hx hb d_D_howManyAtPlace_17 (by decide) (fun c17 => ?_) (fun c17 => ?_)
    · refine lv_lload_n hx hb d_D_howManyAtPlace_30 rfl (lv_at hl 0 rfl) ?_
      refine lv_l2i hx hb d_D_howManyAtPlace_31 rfl ?_
      refine lv_topi (fun v31 ev31 => ?_)
      have ev31 : v31 = nI (gs B p w) := by rw [ev31]; exact lN_i _
      subst ev31
      exact tx_ret (W.iret (v := nI (gs B p w)) hx hb hr (fun t ht hW => Or.inl ⟨_, rfl, ⟨_, rfl, (⟨hle.mp ((lg_cmp_le _ _).mp (by rw [← ev16]; exact c17)), rfl⟩), ht⟩⟩) (fun q h => by cases h) d_D_howManyAtPlace_32)
    · have hbig : 65536 < gs B p w := by
        first
        | (have := (hm_neg h64).mp ((lg_cmp_lt _ _).mp (by rw [← ev8]; exact c9)); omega)
        | (have := mt hle.mpr (fun z => c17 (by rw [ev16]; exact (lg_cmp_le _ _).mpr z)); omega)
      exact th_IAE hx hb hml hlocks hce htr hown hA hG hl.1 (Nat.le_of_ble_eq_true rfl) (tx := "more bytes than a block can have") (by decide) d_D_howManyAtPlace_20 d_D_howManyAtPlace_23 d_D_howManyAtPlace_24 d_D_howManyAtPlace_26 d_D_howManyAtPlace_29 (Nat.le_of_ble_eq_true rfl) (Nat.le_of_ble_eq_true rfl) (Nat.le_of_ble_eq_true rfl) (Nat.le_of_ble_eq_true rfl) (by exact ⟨rfl, hbig⟩)
