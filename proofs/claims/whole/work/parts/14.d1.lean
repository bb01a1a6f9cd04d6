/-! THE CLASS, LEAVES -/
def ow (D : va_G) (tys : List (ClassId × FieldType)) (A : Nat → Prop) (ws : va_W) (t : State) : Prop := va_P D vCl ws t.heap ∧ va_K D vCl tys t ∧ va_D A ws
set_option maxHeartbeats 4000000 in
set_option maxRecDepth 100000 in
/-- Row.get -/
theorem c_R_get (l : Launch) (D : va_G) (cB : ClassId) (y b M : Nat) (B : Nat → Nat) (nv pv : Int32) (i : Nat) (hi : i < M) (hM : M ≤ 65536) (hB : ∀ j, B j < 256) : Met l y_R_get w_R_get ({ frames := 0, cells := 0, slots := 0, locals := 0 }) (va_Pc [.ref y, .int (nI i)] (ox D [(cB, .byte)] [(y, .inr (1, [.ref b, .int nv, .int pv])), (b, .inl (cB, M, .inl (fun j => sb_b (B j))))])) (vp_Si (fun r => r = nI (B i))) 0 0 (fun _ => False) := by
  refine Met.ofW (cc := b_R_get) (maxL := 2) (ret := (some .int)) (by decide) rfl ?_
  intro p9 e9 s m args below meth c9 s₁ BL hml hv
  obtain ⟨rfl, hP, hK⟩ := hv
  have hx := BL.exec
  have hb := BL.bytes
  have hr := BL.returns
  have hts := atoms_spec (ws := w_R_get) BL.pre
  have hA : ∀ w ∈ wsA, w.before _ s = true := fun w h => hts w (List.mem_cons_of_mem _ h)
  have hown : s.vm.findClass R_R = some m.cls := findClass_of_methodNamed BL.named
  have hlocks := BL.notSynchronized
  have hP : va_P D vCl [(y, .inr (1, [.ref b, .int nv, .int pv])), (b, .inl (cB, M, .inl (fun j => sb_b (B j))))] s.heap := hP
  have hl := lv_entry ([.ref y, .int (nI i)]) (n := 2) (Nat.le_of_ble_eq_true rfl)
  rw [lg_entry_eq]
  generalize (lg_sl ([.ref y, .int (nI i)]) ++ List.replicate (2 - (lg_sl ([.ref y, .int (nI i)])).length) Slot.unset).toArray = ls at hl ⊢
  have hl : lv_has ls 2 [(0, .ref y), (1, .int (nI i))] := hl
  refine lv_aload_n hx hb d_R_get_0 rfl (lv_at hl 0 rfl) ?_
  refine va_get (D := D) (ci := 1) (v := .ref b) (C := R_R) (T := F_R) (N := 3) hx hb hA i_R hown hK hP 0 rfl rfl 0 (by decide) (hA _ k1_36) (fun _ h9 => h9) rfl d_R_get_1 ?_
  refine lv_iload_n hx hb d_R_get_4 rfl (lv_at hl 1 rfl) ?_
  refine va_bald hx hb hK hP 1 0 rfl rfl (vp_in_nI hi (by omega)) d_R_get_5 ?_
  refine lv_topi (fun v5 ev5 => ?_)
  refine lv_sipush (v := 255) hx hb d_R_get_6 (by decide) ?_
  refine lv_iand hx hb d_R_get_9 ?_
  refine lv_topi (fun v9 ev9 => ?_)
  exact W.iret (v := v9) hx hb hr (fun t ht hW => ⟨_, rfl, by rw [ev9, ev5]; exact by_get hB (by omega), ht⟩) (fun q h => by cases h) d_R_get_10
set_option maxHeartbeats 4000000 in
set_option maxRecDepth 100000 in
/-- Row.add -/
theorem c_R_add (l : Launch) (D : va_G) (cB : ClassId) (y b M : Nat) (B : Nat → Nat) (n p : Nat) (sz : Nat) (x : Int32) (hn : n < M) (hM : M ≤ 65536) : Met l y_R_add w_R_add ({ frames := 0, cells := 0, slots := 0, locals := 0 }) (va_Pc [.ref y, .int x] (oxw sz D [(cB, .byte)] [(y, .inr (1, [.ref b, .int (nI n), .int (nI p)])), (b, .inl (cB, M, .inl (fun j => sb_b (B j))))])) (va_Qv (fun _ : Unit => True) (fun _ => ow D [(cB, .byte)] (va_A [(y, .inr (1, [.ref b, .int (nI n), .int (nI p)])), (b, .inl (cB, M, .inl (fun j => sb_b (B j))))] sz) [(y, .inr (1, [.ref b, .int (nI (n + 1)), .int (nI p)])), (b, .inl (cB, M, .inl (fun j => sb_b ((va_up B n (x.toBitVec.toNat % 256)) j))))]) (va_A [(y, .inr (1, [.ref b, .int (nI n), .int (nI p)])), (b, .inl (cB, M, .inl (fun j => sb_b (B j))))] sz)) 0 0 (va_A [(y, .inr (1, [.ref b, .int (nI n), .int (nI p)])), (b, .inl (cB, M, .inl (fun j => sb_b (B j))))] sz) := by
  refine Met.ofW (cc := b_R_add) (maxL := 2) (ret := none) (by decide) rfl ?_
  intro p9 e9 s m args below meth c9 s₁ BL hml hv
  obtain ⟨rfl, hsz, hP, hK, hD0⟩ := hv
  have hx := BL.exec
  have hb := BL.bytes
  have hr := BL.returns
  have hts := atoms_spec (ws := w_R_add) BL.pre
  have hA : ∀ w ∈ wsA, w.before _ s = true := fun w h => hts w (List.mem_cons_of_mem _ h)
  have hown : s.vm.findClass R_R = some m.cls := findClass_of_methodNamed BL.named
  have hlocks := BL.notSynchronized
  subst hsz
  have hD := hD0.self (sz := s.heap.size)
  generalize hAe : va_A [(y, .inr (1, [.ref b, .int (nI n), .int (nI p)])), (b, .inl (cB, M, .inl (fun j => sb_b (B j))))] s.heap.size = A at hD ⊢
  have hAq : ∀ q : Nat, s.heap.size ≤ q → A q := fun q h => by rw [← hAe]; exact Or.inr h
  have hS : va_S A s.heap s.heap [] := va_S.rf
  have hP : va_P D vCl [(y, .inr (1, [.ref b, .int (nI n), .int (nI p)])), (b, .inl (cB, M, .inl (fun j => sb_b (B j))))] s.heap := hP
  have hl := lv_entry ([.ref y, .int x]) (n := 2) (Nat.le_of_ble_eq_true rfl)
  rw [lg_entry_eq]
  generalize (lg_sl ([.ref y, .int x]) ++ List.replicate (2 - (lg_sl ([.ref y, .int x])).length) Slot.unset).toArray = ls at hl ⊢
  have hl : lv_has ls 2 [(0, .ref y), (1, .int x)] := hl
  refine lv_aload_n hx hb d_R_add_0 rfl (lv_at hl 0 rfl) ?_
  refine va_get (D := D) (ci := 1) (v := .ref b) (C := R_R) (T := F_R) (N := 3) hx hb hA i_R hown hK hP 0 rfl rfl 0 (by decide) (hA _ k1_36) (fun _ h9 => h9) rfl d_R_add_1 ?_
  refine lv_aload_n hx hb d_R_add_4 rfl (lv_at hl 0 rfl) ?_
  refine va_get (D := D) (ci := 1) (v := .int (nI n)) (C := R_R) (T := F_R) (N := 3) hx hb hA i_R hown hK hP 0 rfl rfl 1 (by decide) (hA _ k1_39) (fun _ h9 => h9) rfl d_R_add_5 ?_
  refine lv_iload_n hx hb d_R_add_8 rfl (lv_at hl 1 rfl) ?_
  refine lv_i2b hx hb d_R_add_9 rfl ?_
  refine lv_topi (fun v9 ev9 => ?_)
  subst ev9
  refine va_bast hx hb hK hP hD hS 1 0 rfl rfl (vp_in_nI hn (by omega)) d_R_add_10 (fun H locs hP hD hS => ?_)
  have hP : va_P D vCl [(y, .inr (1, [.ref b, .int (nI n), .int (nI p)])), (b, .inl (cB, M, .inl (upd (fun j => sb_b (B j)) (nI n).toNatClampNeg (vp_nar .byte x.toInt8.toInt32))))] H := hP
  have hD : va_D A [(y, .inr (1, [.ref b, .int (nI n), .int (nI p)])), (b, .inl (cB, M, .inl (upd (fun j => sb_b (B j)) (nI n).toNatClampNeg (vp_nar .byte x.toInt8.toInt32))))] := hD
  rw [show upd (fun j => sb_b (B j)) (nI n).toNatClampNeg (vp_nar .byte x.toInt8.toInt32) = fun j => sb_b (va_up B n (x.toBitVec.toNat % 256) j) from by_up B (by omega) x] at hP hD
  refine lv_aload_n hx hb d_R_add_11 rfl (lv_at hl 0 rfl) ?_
  refine lv_dup hx hb d_R_add_12 rfl ?_
  refine va_get (D := D) (ci := 1) (v := .int (nI n)) (C := R_R) (T := F_R) (N := 3) hx hb hA i_R hown hK hP 0 rfl rfl 1 (by decide) (hA _ k1_39) (fun _ h9 => h9) rfl d_R_add_13 ?_
  refine lv_iconst (v := 1) hx hb d_R_add_16 (by decide) ?_
  refine lv_iadd hx hb d_R_add_17 ?_
  refine lv_topi (fun v17 ev17 => ?_)
  have ev17 : v17 = nI (n + 1) := by rw [ev17]; exact nI_1 n
  subst ev17
  refine va_put (D := D) (ci := 1) (v := .int (nI (n + 1))) (ty := .int) (C := R_R) (T := F_R) (N := 3) hx hb hA i_R t_R t_R_ok n_R hown hK hP hD hS 0 rfl rfl 1 (by decide) (hA _ k1_39) (fun _ h9 => h9) rfl (by decide +kernel) rfl rfl (Nat.le_of_ble_eq_true rfl) d_R_add_18 (fun H locs hP hD hS => ?_)
  have hP : va_P D vCl [(y, .inr (1, [.ref b, .int (nI (n + 1)), .int (nI p)])), (b, .inl (cB, M, .inl (fun j => sb_b (va_up B n (x.toBitVec.toNat % 256) j))))] H := hP
  have hD : va_D A [(y, .inr (1, [.ref b, .int (nI (n + 1)), .int (nI p)])), (b, .inl (cB, M, .inl (fun j => sb_b (va_up B n (x.toBitVec.toNat % 256) j))))] := hD
  exact W.vret hx hb hr (fun t ht hW => ⟨⟨(), rfl, trivial, by rw [ht]; exact hP, va_K.moved hW.alike hK, hD⟩, hS.F ht⟩) hS.2.2 d_R_add_21
