/-! THE CLASS: BYTES COPIED, THE SUM -/
theorem cp_wr (Bs Bt : Nat → Nat) {a n k : Nat} (ha : a < 2 ^ 31) (hn : n < 2 ^ 31) (hk : k < 2 ^ 31) : va_cpy (fun j => sb_b (Bs j)) (fun j => sb_b (Bt j)) (nI a).toNatClampNeg (nI n).toNatClampNeg (nI k).toNatClampNeg = fun j => sb_b (wr Bt n k (fun i => Bs (a + i)) j) := by
  rw [nI_clamp ha, nI_clamp hn, nI_clamp hk]
  funext j
  unfold va_cpy wr
  split <;> rfl
def ush1 (s : Int32) : Int32 := (s.toUInt32 >>> ((1 : Int32).toUInt32 &&& Int32.toUInt32 31)).toInt32
def crc1 (s : Int32) : Int32 := if s &&& 1 = 0 then ush1 s else ush1 s ^^^ (-306674912)
def crc8 : Nat → Int32 → Int32
  | 0, s => s
  | k + 1, s => crc1 (crc8 k s)
/-- the sum's state behind k bytes from a on -/
def crcs (B : Nat → Nat) (a : Nat) : Nat → Int32
  | 0 => -1
  | k + 1 => crc8 8 (crcs B a k ^^^ nI (B (a + k)))
theorem crc1_0 {s : Int32} (h : s &&& 1 = 0) : crc1 s = ush1 s := by unfold crc1; rw [if_pos h]
theorem crc1_1 {s : Int32} (h : ¬ s &&& 1 = 0) : crc1 s = ush1 s ^^^ (-306674912) := by unfold crc1; rw [if_neg h]
set_option maxHeartbeats 600000 in
set_option maxRecDepth 100000 in
/-- addBytes, two rows -/
theorem c_D_addBytes2 (l : Launch) (D : va_G) (cB : ClassId) (y b z d M : Nat) (B C : Nat → Nat) (n p n2 p2 sz a k : Nat) (hn : n + k ≤ M) (ha : a + k ≤ M) (hM : M ≤ 65536) : Met l y_D_addBytes w_D_addBytes ({ frames := 1, cells := 0, slots := 0, locals := 70 }) (va_Pc [.ref y, .ref z, .int (nI a), .int (nI k)] (oxw sz D [(cB, .byte)] [(y, .inr (1, [.ref b, .int (nI n), .int (nI p)])), (b, .inl (cB, M, .inl (fun j => sb_b (B j)))), (z, .inr (1, [.ref d, .int (nI n2), .int (nI p2)])), (d, .inl (cB, M, .inl (fun j => sb_b (C j))))])) (va_Qv (fun _ : Unit => True) (fun _ => ow D [(cB, .byte)] (va_A [(y, .inr (1, [.ref b, .int (nI n), .int (nI p)])), (b, .inl (cB, M, .inl (fun j => sb_b (B j)))), (z, .inr (1, [.ref d, .int (nI n2), .int (nI p2)])), (d, .inl (cB, M, .inl (fun j => sb_b (C j))))] sz) [(y, .inr (1, [.ref b, .int (nI (n + k)), .int (nI p)])), (b, .inl (cB, M, .inl (fun j => sb_b ((wr B n k (fun i => C (a + i))) j)))), (z, .inr (1, [.ref d, .int (nI n2), .int (nI p2)])), (d, .inl (cB, M, .inl (fun j => sb_b (C j))))]) (va_A [(y, .inr (1, [.ref b, .int (nI n), .int (nI p)])), (b, .inl (cB, M, .inl (fun j => sb_b (B j)))), (z, .inr (1, [.ref d, .int (nI n2), .int (nI p2)])), (d, .inl (cB, M, .inl (fun j => sb_b (C j))))] sz)) 0 0 (va_A [(y, .inr (1, [.ref b, .int (nI n), .int (nI p)])), (b, .inl (cB, M, .inl (fun j => sb_b (B j)))), (z, .inr (1, [.ref d, .int (nI n2), .int (nI p2)])), (d, .inl (cB, M, .inl (fun j => sb_b (C j))))] sz) := by
  refine Met.ofW (cc := b_D_addBytes) (maxL := 4) (ret := none) (by decide) rfl ?_
  intro p9 e9 s m args below meth c9 s₁ BL hml hv
  obtain ⟨rfl, hsz, hP, hK, hD0⟩ := hv
  have hx := BL.exec
  have hb := BL.bytes
  have hr := BL.returns
  have hts := atoms_spec (ws := w_D_addBytes) BL.pre
  have hA : ∀ w ∈ wsA, w.before _ s = true := fun w h => hts w (List.mem_cons_of_mem _ h)
  have hown : s.vm.findClass R_D = some m.cls := findClass_of_methodNamed BL.named
  have hlocks := BL.notSynchronized
  subst hsz
  have hD := hD0.self (sz := s.heap.size)
  generalize hAe : va_A [(y, .inr (1, [.ref b, .int (nI n), .int (nI p)])), (b, .inl (cB, M, .inl (fun j => sb_b (B j)))), (z, .inr (1, [.ref d, .int (nI n2), .int (nI p2)])), (d, .inl (cB, M, .inl (fun j => sb_b (C j))))] s.heap.size = A at hD ⊢
  have hAq : ∀ q : Nat, s.heap.size ≤ q → A q := fun q h => by rw [← hAe]; exact Or.inr h
  have hS : va_S A s.heap s.heap [] := va_S.rf
  have hP : va_P D vCl [(y, .inr (1, [.ref b, .int (nI n), .int (nI p)])), (b, .inl (cB, M, .inl (fun j => sb_b (B j)))), (z, .inr (1, [.ref d, .int (nI n2), .int (nI p2)])), (d, .inl (cB, M, .inl (fun j => sb_b (C j))))] s.heap := hP
  have hl := lv_entry ([.ref y, .ref z, .int (nI a), .int (nI k)]) (n := 4) (Nat.le_of_ble_eq_true rfl)
  rw [lg_entry_eq]
  generalize (lg_sl ([.ref y, .ref z, .int (nI a), .int (nI k)]) ++ List.replicate (4 - (lg_sl ([.ref y, .ref z, .int (nI a), .int (nI k)])).length) Slot.unset).toArray = ls at hl ⊢
  have hl : lv_has ls 4 [(0, .ref y), (1, .ref z), (2, .int (nI a)), (3, .int (nI k))] := hl
  refine lv_aload_n hx hb d_D_addBytes_0 rfl (lv_at hl 1 rfl) ?_
  refine va_get (D := D) (ci := 1) (v := .ref d) (C := R_R) (T := F_R) (N := 3) hx hb hA i_R hown hK hP 2 rfl rfl 0 (by decide) (hA _ k1_37) (fun _ h9 => h9) rfl d_D_addBytes_1 ?_
  refine lv_iload_n hx hb d_D_addBytes_4 rfl (lv_at hl 2 rfl) ?_
  refine lv_aload_n hx hb d_D_addBytes_5 rfl (lv_at hl 0 rfl) ?_
  refine va_get (D := D) (ci := 1) (v := .ref b) (C := R_R) (T := F_R) (N := 3) hx hb hA i_R hown hK hP 0 rfl rfl 0 (by decide) (hA _ k1_37) (fun _ h9 => h9) rfl d_D_addBytes_6 ?_
  refine lv_aload_n hx hb d_D_addBytes_9 rfl (lv_at hl 0 rfl) ?_
  refine va_get (D := D) (ci := 1) (v := .int (nI n)) (C := R_R) (T := F_R) (N := 3) hx hb hA i_R hown hK hP 0 rfl rfl 1 (by decide) (hA _ k1_38) (fun _ h9 => h9) rfl d_D_addBytes_10 ?_
  refine lv_iload_n hx hb d_D_addBytes_13 rfl (lv_at hl 3 rfl) ?_
  refine va_copyi hx hb (hml.trans hl.1.symm) hown (hA _ k2_1) (hA _ k2_3) (hA _ k2_2) (hA _ k1_11) hK hP hD hS 3 1 0 0 rfl rfl rfl rfl rfl (nI_pos (by omega)) (nI_pos (by omega)) (nI_pos (by omega)) (by rw [nI_clamp (by omega), nI_clamp (by omega)]; omega) (by rw [nI_clamp (by omega), nI_clamp (by omega)]; omega) (fun i _ => sb_fitB _) (Nat.le_of_ble_eq_true rfl) (by decide +kernel) d_D_addBytes_14 (fun H locs hP hD hS => ?_)
  have hP : va_P D vCl [(y, .inr (1, [.ref b, .int (nI n), .int (nI p)])), (b, .inl (cB, M, .inl (va_cpy (fun j => sb_b (C j)) (fun j => sb_b (B j)) (nI a).toNatClampNeg (nI n).toNatClampNeg (nI k).toNatClampNeg))), (z, .inr (1, [.ref d, .int (nI n2), .int (nI p2)])), (d, .inl (cB, M, .inl (fun j => sb_b (C j))))] H := hP
  have hD : va_D A [(y, .inr (1, [.ref b, .int (nI n), .int (nI p)])), (b, .inl (cB, M, .inl (va_cpy (fun j => sb_b (C j)) (fun j => sb_b (B j)) (nI a).toNatClampNeg (nI n).toNatClampNeg (nI k).toNatClampNeg))), (z, .inr (1, [.ref d, .int (nI n2), .int (nI p2)])), (d, .inl (cB, M, .inl (fun j => sb_b (C j))))] := hD
  rw [cp_wr _ _ (by omega) (by omega) (by omega)] at hP hD
  have hP : va_P D vCl [(y, .inr (1, [.ref b, .int (nI n), .int (nI p)])), (b, .inl (cB, M, .inl (fun j => sb_b (wr B n k (fun i => C (a + i)) j)))), (z, .inr (1, [.ref d, .int (nI n2), .int (nI p2)])), (d, .inl (cB, M, .inl (fun j => sb_b (C j))))] H := hP
  have hD : va_D A [(y, .inr (1, [.ref b, .int (nI n), .int (nI p)])), (b, .inl (cB, M, .inl (fun j => sb_b (wr B n k (fun i => C (a + i)) j)))), (z, .inr (1, [.ref d, .int (nI n2), .int (nI p2)])), (d, .inl (cB, M, .inl (fun j => sb_b (C j))))] := hD
  refine lv_aload_n hx hb d_D_addBytes_17 rfl (lv_at hl 0 rfl) ?_
  refine lv_dup hx hb d_D_addBytes_18 rfl ?_
  refine va_get (D := D) (ci := 1) (v := .int (nI n)) (C := R_R) (T := F_R) (N := 3) hx hb hA i_R hown hK hP 0 rfl rfl 1 (by decide) (hA _ k1_38) (fun _ h9 => h9) rfl d_D_addBytes_19 ?_
  refine lv_iload_n hx hb d_D_addBytes_22 rfl (lv_at hl 3 rfl) ?_
  refine lv_iadd hx hb d_D_addBytes_23 ?_
  refine lv_topi (fun v23 ev23 => ?_)
  have ev23 : v23 = nI (n + k) := by rw [ev23]; exact nI_add n k
  subst ev23
  refine va_put (D := D) (ci := 1) (v := .int (nI (n + k))) (ty := .int) (C := R_R) (T := F_R) (N := 3) hx hb hA i_R t_R t_R_ok n_R hown hK hP hD hS 0 rfl rfl 1 (by decide) (hA _ k1_38) (fun _ h9 => h9) rfl (by decide +kernel) rfl rfl (Nat.le_of_ble_eq_true rfl) d_D_addBytes_24 (fun H locs hP hD hS => ?_)
  have hP : va_P D vCl [(y, .inr (1, [.ref b, .int (nI (n + k)), .int (nI p)])), (b, .inl (cB, M, .inl (fun j => sb_b (wr B n k (fun i => C (a + i)) j)))), (z, .inr (1, [.ref d, .int (nI n2), .int (nI p2)])), (d, .inl (cB, M, .inl (fun j => sb_b (C j))))] H := hP
  have hD : va_D A [(y, .inr (1, [.ref b, .int (nI (n + k)), .int (nI p)])), (b, .inl (cB, M, .inl (fun j => sb_b (wr B n k (fun i => C (a + i)) j)))), (z, .inr (1, [.ref d, .int (nI n2), .int (nI p2)])), (d, .inl (cB, M, .inl (fun j => sb_b (C j))))] := hD
  exact W.vret hx hb hr (fun t ht hW => ⟨⟨(), rfl, trivial, by rw [ht]; exact hP, va_K.moved hW.alike hK, hD⟩, hS.F ht⟩) hS.2.2 d_D_addBytes_27
set_option maxHeartbeats 600000 in
set_option maxRecDepth 100000 in
/-- addBytes, one row -/
theorem c_D_addBytes1 (l : Launch) (D : va_G) (cB : ClassId) (y b M : Nat) (B : Nat → Nat) (n p sz a k : Nat) (hn : n + k ≤ M) (ha : a + k ≤ M) (hM : M ≤ 65536) : Met l y_D_addBytes w_D_addBytes ({ frames := 1, cells := 0, slots := 0, locals := 70 }) (va_Pc [.ref y, .ref y, .int (nI a), .int (nI k)] (oxw sz D [(cB, .byte)] [(y, .inr (1, [.ref b, .int (nI n), .int (nI p)])), (b, .inl (cB, M, .inl (fun j => sb_b (B j))))])) (va_Qv (fun _ : Unit => True) (fun _ => ow D [(cB, .byte)] (va_A [(y, .inr (1, [.ref b, .int (nI n), .int (nI p)])), (b, .inl (cB, M, .inl (fun j => sb_b (B j))))] sz) [(y, .inr (1, [.ref b, .int (nI (n + k)), .int (nI p)])), (b, .inl (cB, M, .inl (fun j => sb_b ((wr B n k (fun i => B (a + i))) j))))]) (va_A [(y, .inr (1, [.ref b, .int (nI n), .int (nI p)])), (b, .inl (cB, M, .inl (fun j => sb_b (B j))))] sz)) 0 0 (va_A [(y, .inr (1, [.ref b, .int (nI n), .int (nI p)])), (b, .inl (cB, M, .inl (fun j => sb_b (B j))))] sz) := by
  refine Met.ofW (cc := b_D_addBytes) (maxL := 4) (ret := none) (by decide) rfl ?_
  intro p9 e9 s m args below meth c9 s₁ BL hml hv
  obtain ⟨rfl, hsz, hP, hK, hD0⟩ := hv
  have hx := BL.exec
  have hb := BL.bytes
  have hr := BL.returns
  have hts := atoms_spec (ws := w_D_addBytes) BL.pre
  have hA : ∀ w ∈ wsA, w.before _ s = true := fun w h => hts w (List.mem_cons_of_mem _ h)
  have hown : s.vm.findClass R_D = some m.cls := findClass_of_methodNamed BL.named
  have hlocks := BL.notSynchronized
  subst hsz
  have hD := hD0.self (sz := s.heap.size)
  generalize hAe : va_A [(y, .inr (1, [.ref b, .int (nI n), .int (nI p)])), (b, .inl (cB, M, .inl (fun j => sb_b (B j))))] s.heap.size = A at hD ⊢
  have hAq : ∀ q : Nat, s.heap.size ≤ q → A q := fun q h => by rw [← hAe]; exact Or.inr h
  have hS : va_S A s.heap s.heap [] := va_S.rf
  have hP : va_P D vCl [(y, .inr (1, [.ref b, .int (nI n), .int (nI p)])), (b, .inl (cB, M, .inl (fun j => sb_b (B j))))] s.heap := hP
  have hl := lv_entry ([.ref y, .ref y, .int (nI a), .int (nI k)]) (n := 4) (Nat.le_of_ble_eq_true rfl)
  rw [lg_entry_eq]
  generalize (lg_sl ([.ref y, .ref y, .int (nI a), .int (nI k)]) ++ List.replicate (4 - (lg_sl ([.ref y, .ref y, .int (nI a), .int (nI k)])).length) Slot.unset).toArray = ls at hl ⊢
  have hl : lv_has ls 4 [(0, .ref y), (1, .ref y), (2, .int (nI a)), (3, .int (nI k))] := hl
  refine lv_aload_n hx hb d_D_addBytes_0 rfl (lv_at hl 1 rfl) ?_
  refine va_get (D := D) (ci := 1) (v := .ref b) (C := R_R) (T := F_R) (N := 3) hx hb hA i_R hown hK hP 0 rfl rfl 0 (by decide) (hA _ k1_37) (fun _ h9 => h9) rfl d_D_addBytes_1 ?_
  refine lv_iload_n hx hb d_D_addBytes_4 rfl (lv_at hl 2 rfl) ?_
  refine lv_aload_n hx hb d_D_addBytes_5 rfl (lv_at hl 0 rfl) ?_
  refine va_get (D := D) (ci := 1) (v := .ref b) (C := R_R) (T := F_R) (N := 3) hx hb hA i_R hown hK hP 0 rfl rfl 0 (by decide) (hA _ k1_37) (fun _ h9 => h9) rfl d_D_addBytes_6 ?_
  refine lv_aload_n hx hb d_D_addBytes_9 rfl (lv_at hl 0 rfl) ?_
  refine va_get (D := D) (ci := 1) (v := .int (nI n)) (C := R_R) (T := F_R) (N := 3) hx hb hA i_R hown hK hP 0 rfl rfl 1 (by decide) (hA _ k1_38) (fun _ h9 => h9) rfl d_D_addBytes_10 ?_
  refine lv_iload_n hx hb d_D_addBytes_13 rfl (lv_at hl 3 rfl) ?_
  refine va_copyi hx hb (hml.trans hl.1.symm) hown (hA _ k2_1) (hA _ k2_3) (hA _ k2_2) (hA _ k1_11) hK hP hD hS 1 1 0 0 rfl rfl rfl rfl rfl (nI_pos (by omega)) (nI_pos (by omega)) (nI_pos (by omega)) (by rw [nI_clamp (by omega), nI_clamp (by omega)]; omega) (by rw [nI_clamp (by omega), nI_clamp (by omega)]; omega) (fun i _ => sb_fitB _) (Nat.le_of_ble_eq_true rfl) (by decide +kernel) d_D_addBytes_14 (fun H locs hP hD hS => ?_)
  have hP : va_P D vCl [(y, .inr (1, [.ref b, .int (nI n), .int (nI p)])), (b, .inl (cB, M, .inl (va_cpy (fun j => sb_b (B j)) (fun j => sb_b (B j)) (nI a).toNatClampNeg (nI n).toNatClampNeg (nI k).toNatClampNeg)))] H := hP
  have hD : va_D A [(y, .inr (1, [.ref b, .int (nI n), .int (nI p)])), (b, .inl (cB, M, .inl (va_cpy (fun j => sb_b (B j)) (fun j => sb_b (B j)) (nI a).toNatClampNeg (nI n).toNatClampNeg (nI k).toNatClampNeg)))] := hD
  rw [cp_wr _ _ (by omega) (by omega) (by omega)] at hP hD
  have hP : va_P D vCl [(y, .inr (1, [.ref b, .int (nI n), .int (nI p)])), (b, .inl (cB, M, .inl (fun j => sb_b (wr B n k (fun i => B (a + i)) j))))] H := hP
  have hD : va_D A [(y, .inr (1, [.ref b, .int (nI n), .int (nI p)])), (b, .inl (cB, M, .inl (fun j => sb_b (wr B n k (fun i => B (a + i)) j))))] := hD
  refine lv_aload_n hx hb d_D_addBytes_17 rfl (lv_at hl 0 rfl) ?_
  refine lv_dup hx hb d_D_addBytes_18 rfl ?_
  refine va_get (D := D) (ci := 1) (v := .int (nI n)) (C := R_R) (T := F_R) (N := 3) hx hb hA i_R hown hK hP 0 rfl rfl 1 (by decide) (hA _ k1_38) (fun _ h9 => h9) rfl d_D_addBytes_19 ?_
  refine lv_iload_n hx hb d_D_addBytes_22 rfl (lv_at hl 3 rfl) ?_
  refine lv_iadd hx hb d_D_addBytes_23 ?_
  refine lv_topi (fun v23 ev23 => ?_)
  have ev23 : v23 = nI (n + k) := by rw [ev23]; exact nI_add n k
  subst ev23
  refine va_put (D := D) (ci := 1) (v := .int (nI (n + k))) (ty := .int) (C := R_R) (T := F_R) (N := 3) hx hb hA i_R t_R t_R_ok n_R hown hK hP hD hS 0 rfl rfl 1 (by decide) (hA _ k1_38) (fun _ h9 => h9) rfl (by decide +kernel) rfl rfl (Nat.le_of_ble_eq_true rfl) d_D_addBytes_24 (fun H locs hP hD hS => ?_)
  have hP : va_P D vCl [(y, .inr (1, [.ref b, .int (nI (n + k)), .int (nI p)])), (b, .inl (cB, M, .inl (fun j => sb_b (wr B n k (fun i => B (a + i)) j))))] H := hP
  have hD : va_D A [(y, .inr (1, [.ref b, .int (nI (n + k)), .int (nI p)])), (b, .inl (cB, M, .inl (fun j => sb_b (wr B n k (fun i => B (a + i)) j))))] := hD
  exact W.vret hx hb hr (fun t ht hW => ⟨⟨(), rfl, trivial, by rw [ht]; exact hP, va_K.moved hW.alike hK, hD⟩, hS.F ht⟩) hS.2.2 d_D_addBytes_27
set_option maxHeartbeats 600000 in
set_option maxRecDepth 100000 in
/-- moveBytes -/
theorem c_D_moveBytes (l : Launch) (D : va_G) (cB : ClassId) (y b z d M : Nat) (B C : Nat → Nat) (n p n2 p2 sz a k : Nat) (ha : a + k ≤ M) (hM : M ≤ 65536) : Met l y_D_moveBytes w_D_moveBytes ({ frames := 1, cells := 0, slots := 0, locals := 70 }) (va_Pc [.ref y, .int (nI a), .int (nI k), .ref z] (oxw sz D [(cB, .byte)] [(y, .inr (1, [.ref b, .int (nI n), .int (nI p)])), (b, .inl (cB, M, .inl (fun j => sb_b (B j)))), (z, .inr (1, [.ref d, .int (nI n2), .int (nI p2)])), (d, .inl (cB, M, .inl (fun j => sb_b (C j))))])) (va_Qv (fun _ : Unit => True) (fun _ => ow D [(cB, .byte)] (va_A [(y, .inr (1, [.ref b, .int (nI n), .int (nI p)])), (b, .inl (cB, M, .inl (fun j => sb_b (B j)))), (z, .inr (1, [.ref d, .int (nI n2), .int (nI p2)])), (d, .inl (cB, M, .inl (fun j => sb_b (C j))))] sz) [(y, .inr (1, [.ref b, .int (nI n), .int (nI (a + k))])), (b, .inl (cB, M, .inl (fun j => sb_b (B j)))), (z, .inr (1, [.ref d, .int (nI k), .int (nI 0)])), (d, .inl (cB, M, .inl (fun j => sb_b ((wr C 0 k (fun i => B (a + i))) j))))]) (va_A [(y, .inr (1, [.ref b, .int (nI n), .int (nI p)])), (b, .inl (cB, M, .inl (fun j => sb_b (B j)))), (z, .inr (1, [.ref d, .int (nI n2), .int (nI p2)])), (d, .inl (cB, M, .inl (fun j => sb_b (C j))))] sz)) 0 0 (va_A [(y, .inr (1, [.ref b, .int (nI n), .int (nI p)])), (b, .inl (cB, M, .inl (fun j => sb_b (B j)))), (z, .inr (1, [.ref d, .int (nI n2), .int (nI p2)])), (d, .inl (cB, M, .inl (fun j => sb_b (C j))))] sz) := by
  refine Met.ofW (cc := b_D_moveBytes) (maxL := 4) (ret := none) (by decide) rfl ?_
  intro p9 e9 s m args below meth c9 s₁ BL hml hv
  obtain ⟨rfl, hsz, hP, hK, hD0⟩ := hv
  have hx := BL.exec
  have hb := BL.bytes
  have hr := BL.returns
  have hts := atoms_spec (ws := w_D_moveBytes) BL.pre
  have hA : ∀ w ∈ wsA, w.before _ s = true := fun w h => hts w (List.mem_cons_of_mem _ h)
  have hown : s.vm.findClass R_D = some m.cls := findClass_of_methodNamed BL.named
  have hlocks := BL.notSynchronized
  subst hsz
  have hD := hD0.self (sz := s.heap.size)
  generalize hAe : va_A [(y, .inr (1, [.ref b, .int (nI n), .int (nI p)])), (b, .inl (cB, M, .inl (fun j => sb_b (B j)))), (z, .inr (1, [.ref d, .int (nI n2), .int (nI p2)])), (d, .inl (cB, M, .inl (fun j => sb_b (C j))))] s.heap.size = A at hD ⊢
  have hAq : ∀ q : Nat, s.heap.size ≤ q → A q := fun q h => by rw [← hAe]; exact Or.inr h
  have hS : va_S A s.heap s.heap [] := va_S.rf
  have hP : va_P D vCl [(y, .inr (1, [.ref b, .int (nI n), .int (nI p)])), (b, .inl (cB, M, .inl (fun j => sb_b (B j)))), (z, .inr (1, [.ref d, .int (nI n2), .int (nI p2)])), (d, .inl (cB, M, .inl (fun j => sb_b (C j))))] s.heap := hP
  have hl := lv_entry ([.ref y, .int (nI a), .int (nI k), .ref z]) (n := 4) (Nat.le_of_ble_eq_true rfl)
  rw [lg_entry_eq]
  generalize (lg_sl ([.ref y, .int (nI a), .int (nI k), .ref z]) ++ List.replicate (4 - (lg_sl ([.ref y, .int (nI a), .int (nI k), .ref z])).length) Slot.unset).toArray = ls at hl ⊢
  have hl : lv_has ls 4 [(0, .ref y), (1, .int (nI a)), (2, .int (nI k)), (3, .ref z)] := hl
  refine lv_aload_n hx hb d_D_moveBytes_0 rfl (lv_at hl 0 rfl) ?_
  refine va_get (D := D) (ci := 1) (v := .ref b) (C := R_R) (T := F_R) (N := 3) hx hb hA i_R hown hK hP 0 rfl rfl 0 (by decide) (hA _ k1_37) (fun _ h9 => h9) rfl d_D_moveBytes_1 ?_
  refine lv_iload_n hx hb d_D_moveBytes_4 rfl (lv_at hl 1 rfl) ?_
  refine lv_aload_n hx hb d_D_moveBytes_5 rfl (lv_at hl 3 rfl) ?_
  refine va_get (D := D) (ci := 1) (v := .ref d) (C := R_R) (T := F_R) (N := 3) hx hb hA i_R hown hK hP 2 rfl rfl 0 (by decide) (hA _ k1_37) (fun _ h9 => h9) rfl d_D_moveBytes_6 ?_
  refine lv_iconst (v := 0) hx hb d_D_moveBytes_9 (by decide) ?_
  refine lv_topi (fun v9 ev9 => ?_)
  have ev9 : v9 = nI 0 := by rw [ev9]; rfl
  subst ev9
  refine lv_iload_n hx hb d_D_moveBytes_10 rfl (lv_at hl 2 rfl) ?_
  refine va_copyi hx hb (hml.trans hl.1.symm) hown (hA _ k2_1) (hA _ k2_3) (hA _ k2_2) (hA _ k1_11) hK hP hD hS 1 3 0 0 rfl rfl rfl rfl rfl (nI_pos (by omega)) (nI_pos (by omega)) (nI_pos (by omega)) (by rw [nI_clamp (by omega), nI_clamp (by omega)]; omega) (by rw [nI_clamp (by omega), nI_clamp (by omega)]; omega) (fun i _ => sb_fitB _) (Nat.le_of_ble_eq_true rfl) (by decide +kernel) d_D_moveBytes_11 (fun H locs hP hD hS => ?_)
  have hP : va_P D vCl [(y, .inr (1, [.ref b, .int (nI n), .int (nI p)])), (b, .inl (cB, M, .inl (fun j => sb_b (B j)))), (z, .inr (1, [.ref d, .int (nI n2), .int (nI p2)])), (d, .inl (cB, M, .inl (va_cpy (fun j => sb_b (B j)) (fun j => sb_b (C j)) (nI a).toNatClampNeg (nI 0).toNatClampNeg (nI k).toNatClampNeg)))] H := hP
  have hD : va_D A [(y, .inr (1, [.ref b, .int (nI n), .int (nI p)])), (b, .inl (cB, M, .inl (fun j => sb_b (B j)))), (z, .inr (1, [.ref d, .int (nI n2), .int (nI p2)])), (d, .inl (cB, M, .inl (va_cpy (fun j => sb_b (B j)) (fun j => sb_b (C j)) (nI a).toNatClampNeg (nI 0).toNatClampNeg (nI k).toNatClampNeg)))] := hD
  rw [cp_wr _ _ (by omega) (by omega) (by omega)] at hP hD
  have hP : va_P D vCl [(y, .inr (1, [.ref b, .int (nI n), .int (nI p)])), (b, .inl (cB, M, .inl (fun j => sb_b (B j)))), (z, .inr (1, [.ref d, .int (nI n2), .int (nI p2)])), (d, .inl (cB, M, .inl (fun j => sb_b (wr C 0 k (fun i => B (a + i)) j))))] H := hP
  have hD : va_D A [(y, .inr (1, [.ref b, .int (nI n), .int (nI p)])), (b, .inl (cB, M, .inl (fun j => sb_b (B j)))), (z, .inr (1, [.ref d, .int (nI n2), .int (nI p2)])), (d, .inl (cB, M, .inl (fun j => sb_b (wr C 0 k (fun i => B (a + i)) j))))] := hD
  refine lv_aload_n hx hb d_D_moveBytes_14 rfl (lv_at hl 3 rfl) ?_
  refine lv_iload_n hx hb d_D_moveBytes_15 rfl (lv_at hl 2 rfl) ?_
  refine va_put (D := D) (ci := 1) (v := .int (nI k)) (ty := .int) (C := R_R) (T := F_R) (N := 3) hx hb hA i_R t_R t_R_ok n_R hown hK hP hD hS 2 rfl rfl 1 (by decide) (hA _ k1_38) (fun _ h9 => h9) rfl (by decide +kernel) rfl rfl (Nat.le_of_ble_eq_true rfl) d_D_moveBytes_16 (fun H locs hP hD hS => ?_)
  have hP : va_P D vCl [(y, .inr (1, [.ref b, .int (nI n), .int (nI p)])), (b, .inl (cB, M, .inl (fun j => sb_b (B j)))), (z, .inr (1, [.ref d, .int (nI k), .int (nI p2)])), (d, .inl (cB, M, .inl (fun j => sb_b (wr C 0 k (fun i => B (a + i)) j))))] H := hP
  have hD : va_D A [(y, .inr (1, [.ref b, .int (nI n), .int (nI p)])), (b, .inl (cB, M, .inl (fun j => sb_b (B j)))), (z, .inr (1, [.ref d, .int (nI k), .int (nI p2)])), (d, .inl (cB, M, .inl (fun j => sb_b (wr C 0 k (fun i => B (a + i)) j))))] := hD
  refine lv_aload_n hx hb d_D_moveBytes_19 rfl (lv_at hl 3 rfl) ?_
  refine lv_iconst (v := 0) hx hb d_D_moveBytes_20 (by decide) ?_
  refine va_put (D := D) (ci := 1) (v := .int 0) (ty := .int) (C := R_R) (T := F_R) (N := 3) hx hb hA i_R t_R t_R_ok n_R hown hK hP hD hS 2 rfl rfl 2 (by decide) (hA _ k1_40) (fun _ h9 => h9) rfl (by decide +kernel) rfl rfl (Nat.le_of_ble_eq_true rfl) d_D_moveBytes_21 (fun H locs hP hD hS => ?_)
  have hP : va_P D vCl [(y, .inr (1, [.ref b, .int (nI n), .int (nI p)])), (b, .inl (cB, M, .inl (fun j => sb_b (B j)))), (z, .inr (1, [.ref d, .int (nI k), .int 0])), (d, .inl (cB, M, .inl (fun j => sb_b (wr C 0 k (fun i => B (a + i)) j))))] H := hP
  have hD : va_D A [(y, .inr (1, [.ref b, .int (nI n), .int (nI p)])), (b, .inl (cB, M, .inl (fun j => sb_b (B j)))), (z, .inr (1, [.ref d, .int (nI k), .int 0])), (d, .inl (cB, M, .inl (fun j => sb_b (wr C 0 k (fun i => B (a + i)) j))))] := hD
  refine lv_aload_n hx hb d_D_moveBytes_24 rfl (lv_at hl 0 rfl) ?_
  refine lv_iload_n hx hb d_D_moveBytes_25 rfl (lv_at hl 1 rfl) ?_
  refine lv_iload_n hx hb d_D_moveBytes_26 rfl (lv_at hl 2 rfl) ?_
  refine lv_iadd hx hb d_D_moveBytes_27 ?_
  refine lv_topi (fun v27 ev27 => ?_)
  have ev27 : v27 = nI (a + k) := by rw [ev27]; exact nI_add a k
  subst ev27
  refine va_put (D := D) (ci := 1) (v := .int (nI (a + k))) (ty := .int) (C := R_R) (T := F_R) (N := 3) hx hb hA i_R t_R t_R_ok n_R hown hK hP hD hS 0 rfl rfl 2 (by decide) (hA _ k1_40) (fun _ h9 => h9) rfl (by decide +kernel) rfl rfl (Nat.le_of_ble_eq_true rfl) d_D_moveBytes_28 (fun H locs hP hD hS => ?_)
  have hP : va_P D vCl [(y, .inr (1, [.ref b, .int (nI n), .int (nI (a + k))])), (b, .inl (cB, M, .inl (fun j => sb_b (B j)))), (z, .inr (1, [.ref d, .int (nI k), .int 0])), (d, .inl (cB, M, .inl (fun j => sb_b (wr C 0 k (fun i => B (a + i)) j))))] H := hP
  have hD : va_D A [(y, .inr (1, [.ref b, .int (nI n), .int (nI (a + k))])), (b, .inl (cB, M, .inl (fun j => sb_b (B j)))), (z, .inr (1, [.ref d, .int (nI k), .int 0])), (d, .inl (cB, M, .inl (fun j => sb_b (wr C 0 k (fun i => B (a + i)) j))))] := hD
  exact W.vret hx hb hr (fun t ht hW => ⟨⟨(), rfl, trivial, by rw [ht]; exact hP, va_K.moved hW.alike hK, hD⟩, hS.F ht⟩) hS.2.2 d_D_moveBytes_31
set_option maxHeartbeats 600000 in
set_option maxRecDepth 100000 in
/-- sumOf -/
theorem c_D_sumOf (l : Launch) (D : va_G) (cB : ClassId) (y b M : Nat) (B : Nat → Nat) (nv pv : Int32) (a k : Nat) (ha : a + k ≤ M) (hM : M ≤ 65536) (hB : ∀ j, B j < 256) : Met l y_D_sumOf w_D_sumOf ({ frames := 1, cells := 0, slots := 0, locals := 21 }) (va_Pc [.ref y, .int (nI a), .int (nI k)] (ox D [(cB, .byte)] [(y, .inr (1, [.ref b, .int nv, .int pv])), (b, .inl (cB, M, .inl (fun j => sb_b (B j))))])) (vp_Si (fun r => r = crcs B a k ^^^ (-1))) 0 0 (fun _ => False) := by
  refine Met.ofW (cc := b_D_sumOf) (maxL := 6) (ret := (some .int)) (by decide) rfl ?_
  intro p9 e9 s m args below meth c9 s₁ BL hml hv
  obtain ⟨rfl, hP, hK⟩ := hv
  have hx := BL.exec
  have hb := BL.bytes
  have hr := BL.returns
  have hts := atoms_spec (ws := w_D_sumOf) BL.pre
  have hA : ∀ w ∈ wsA, w.before _ s = true := fun w h => hts w (List.mem_cons_of_mem _ h)
  have hown : s.vm.findClass R_D = some m.cls := findClass_of_methodNamed BL.named
  have hlocks := BL.notSynchronized
  have hP : va_P D vCl [(y, .inr (1, [.ref b, .int nv, .int pv])), (b, .inl (cB, M, .inl (fun j => sb_b (B j))))] s.heap := hP
  have hl := lv_entry ([.ref y, .int (nI a), .int (nI k)]) (n := 6) (Nat.le_of_ble_eq_true rfl)
  rw [lg_entry_eq]
  generalize (lg_sl ([.ref y, .int (nI a), .int (nI k)]) ++ List.replicate (6 - (lg_sl ([.ref y, .int (nI a), .int (nI k)])).length) Slot.unset).toArray = ls at hl ⊢
  have hl : lv_has ls 6 [(0, .ref y), (1, .int (nI a)), (2, .int (nI k))] := hl
  refine lv_iconst (v := (-1)) hx hb d_D_sumOf_0 (by decide) ?_
  refine lv_istore_n (lv' := [(3, .int (-1)), (0, .ref y), (1, .int (nI a)), (2, .int (nI k))]) hx hb d_D_sumOf_1 rfl hl (by decide) rfl (fun ls hl => ?_)
  refine lv_iconst (v := 0) hx hb d_D_sumOf_2 (by decide) ?_
  refine lv_istore (lv' := [(4, .int 0), (3, .int (-1)), (0, .ref y), (1, .int (nI a)), (2, .int (nI k))]) hx hb d_D_sumOf_3 hl (by decide) rfl (fun ls hl => ?_)
  have loop : ∀ (q i : Nat), i + q = k + 1 → i ≤ k → ∀ (ls : Array Slot), lv_has ls 6 [(4, .int (nI i)), (3, .int (crcs B a i)), (0, .ref y), (1, .int (nI a)), (2, .int (nI k))] → W p9 l e9 (headSpec w_D_sumOf ({ frames := 1, cells := 0, slots := 0, locals := 21 })).room s m [.ref y, .int (nI a), .int (nI k)].toArray below meth c9 s.heap [] 0 0 (MQ below (vp_Si (fun r => r = crcs B a k ^^^ (-1))) [.ref y, .int (nI a), .int (nI k)].toArray s 0 0 (fun _ => False)) (F0 m 5 ls []) := by
    intro q
    induction q with
    | zero =>
      intro i hq hi ls hl
      exact absurd hq (by omega)
    | succ q ih_loop =>
      intro i hq hi ls hl
      refine lv_iload hx hb d_D_sumOf_5 (lv_at hl 0 rfl) ?_
      refine lv_iload_n hx hb d_D_sumOf_7 rfl (lv_at hl 4 rfl) ?_
      refine lv_icmp_ge (tgt := 63) hx hb d_D_sumOf_8 (by decide) (fun c8 => ?_) (fun c8 => ?_)
      · obtain rfl : i = k := by have := (nI_leI (a := k) (b := i) (by omega) (by omega)).mp c8; omega
        refine lv_iload_n hx hb d_D_sumOf_63 rfl (lv_at hl 1 rfl) ?_
        refine lv_iconst (v := (-1)) hx hb d_D_sumOf_64 (by decide) ?_
        refine lv_ixor hx hb d_D_sumOf_65 ?_
        refine lv_topi (fun v65 ev65 => ?_)
        exact W.iret (v := v65) hx hb hr (fun t ht hW => ⟨_, rfl, (ev65), ht⟩) (fun q h => by cases h) d_D_sumOf_66
      · have hi2 : i < k := by have := mt (nI_leI (a := k) (b := i) (by omega) (by omega)).mpr c8; omega
        refine lv_iload_n hx hb d_D_sumOf_11 rfl (lv_at hl 1 rfl) ?_
        refine lv_aload_n hx hb d_D_sumOf_12 rfl (lv_at hl 2 rfl) ?_
        refine lv_iload_n hx hb d_D_sumOf_13 rfl (lv_at hl 3 rfl) ?_
        refine lv_iload hx hb d_D_sumOf_14 (lv_at hl 0 rfl) ?_
        refine lv_iadd hx hb d_D_sumOf_16 ?_
        refine lv_topi (fun v16 ev16 => ?_)
        have ev16 : v16 = nI (a + i) := by rw [ev16]; exact nI_add a i
        subst ev16
        have hPc := hP.sub (ws' := [(y, .inr (1, [.ref b, .int nv, .int pv])), (b, .inl (cB, M, .inl (fun j => sb_b (B j))))]) [0, 1] rfl
        have hKc := hK.sub (tys' := [(cB, .byte)]) [0] rfl
        refine vp_callSi (W.runV (As := [.int (nI (a + i))]) (rest := [.int (crcs B a i)]) ⟨hx, hb, hml, hown, hA⟩ (c_R_get l D cB y b M B nv pv (a + i) (by omega) hM hB) (q_R_get hA k2_21 rfl rfl ⟨(Nat.le_of_ble_eq_true rfl), (Nat.le_of_ble_eq_true rfl)⟩) (ox_V (va_recv hKc hPc (ci := 1) (q0 := 0) rfl rfl) (ox_S hPc hKc)) rfl rfl hl.1 rfl (lv_room (Nat.le_of_ble_eq_true rfl)) d_D_sumOf_17 ⟨(Nat.le_of_ble_eq_true rfl), (Nat.le_of_ble_eq_true rfl)⟩) (fun r17 hr17 => ?_)
        have er17 : r17 = nI (B (a + i)) := hr17
        subst er17
        refine lv_ixor hx hb d_D_sumOf_20 ?_
        refine lv_topi (fun v20 ev20 => ?_)
        subst ev20
        refine lv_istore_n (lv' := [(3, .int (crcs B a i ^^^ nI (B (a + i)))), (4, .int (nI i)), (0, .ref y), (1, .int (nI a)), (2, .int (nI k))]) hx hb d_D_sumOf_21 rfl hl (by decide) rfl (fun ls hl => ?_)
        refine lv_iconst (v := 0) hx hb d_D_sumOf_22 (by decide) ?_
        refine lv_istore (lv' := [(5, .int 0), (3, .int (crcs B a i ^^^ nI (B (a + i)))), (4, .int (nI i)), (0, .ref y), (1, .int (nI a)), (2, .int (nI k))]) hx hb d_D_sumOf_23 hl (by decide) rfl (fun ls hl => ?_)
        have loop2 : ∀ (q2 t : Nat), t + q2 = 9 → t ≤ 8 → ∀ (ls : Array Slot), lv_has ls 6 [(5, .int (nI t)), (3, .int (crc8 t (crcs B a i ^^^ nI (B (a + i))))), (0, .ref y), (1, .int (nI a)), (2, .int (nI k)), (4, .int (nI i))] → W p9 l e9 (headSpec w_D_sumOf ({ frames := 1, cells := 0, slots := 0, locals := 21 })).room s m [.ref y, .int (nI a), .int (nI k)].toArray below meth c9 s.heap [] 0 0 (MQ below (vp_Si (fun r => r = crcs B a k ^^^ (-1))) [.ref y, .int (nI a), .int (nI k)].toArray s 0 0 (fun _ => False)) (F0 m 25 ls []) := by
          intro q2
          induction q2 with
          | zero =>
            intro t hq2 ht ls hl
            exact absurd hq2 (by omega)
          | succ q2 ih_loop2 =>
            intro t hq2 ht ls hl
            refine lv_iload hx hb d_D_sumOf_25 (lv_at hl 0 rfl) ?_
            refine lv_bipush (v := 8) hx hb d_D_sumOf_27 (by decide) ?_
            refine lv_icmp_ge (tgt := 57) hx hb d_D_sumOf_29 (by decide) (fun c29 => ?_) (fun c29 => ?_)
            · obtain rfl : t = 8 := by have := (nI_leI (a := 8) (b := t) (by omega) (by omega)).mp c29; omega
              obtain ⟨v57, ev57⟩ : ∃ y : Int32, y = nI i + 1 := ⟨_, rfl⟩
              refine lv_iinc (v := v57) (lv' := [(4, .int v57), (5, .int (nI 8)), (3, .int (crc8 8 (crcs B a i ^^^ nI (B (a + i))))), (0, .ref y), (1, .int (nI a)), (2, .int (nI k))]) hx hb d_D_sumOf_57 hl (k := 5) rfl (by rw [ev57]; rfl) (by decide) rfl (fun ls hl => ?_)
              have ev57 : v57 = nI (i + 1) := by rw [ev57]; exact nI_1 i
              subst ev57
              refine lv_goto (tgt := 5) hx hb d_D_sumOf_60 (by decide) ?_
              exact ih_loop (i + 1) (by omega) (by omega) ls (lv_sub hl [0, 2, 3, 4, 5] rfl)
            · have ht2 : t < 8 := by have := mt (nI_leI (a := 8) (b := t) (by omega) (by omega)).mpr c29; omega
              refine lv_iload_n hx hb d_D_sumOf_32 rfl (lv_at hl 1 rfl) ?_
              refine lv_iconst (v := 1) hx hb d_D_sumOf_33 (by decide) ?_
              refine lv_iand hx hb d_D_sumOf_34 ?_
              refine lv_topi (fun v34 ev34 => ?_)
              refine lv_if_eq (tgt := 47) hx hb d_D_sumOf_35 (by decide) (fun c35 => ?_) (fun c35 => ?_)
              · refine lv_iload_n hx hb d_D_sumOf_47 rfl (lv_at hl 1 rfl) ?_
                refine lv_iconst (v := 1) hx hb d_D_sumOf_48 (by decide) ?_
                refine lv_iushr hx hb d_D_sumOf_49 rfl ?_
                refine lv_topi (fun v49 ev49 => ?_)
                have ev49 : v49 = crc8 (t + 1) (crcs B a i ^^^ nI (B (a + i))) := by rw [ev49]; exact (crc1_0 (by rw [← ev34]; exact c35)).symm
                subst ev49
                refine lv_istore_n (lv' := [(3, .int (crc8 (t + 1) (crcs B a i ^^^ nI (B (a + i))))), (5, .int (nI t)), (0, .ref y), (1, .int (nI a)), (2, .int (nI k)), (4, .int (nI i))]) hx hb d_D_sumOf_50 rfl hl (by decide) rfl (fun ls hl => ?_)
                obtain ⟨v51, ev51⟩ : ∃ y : Int32, y = nI t + 1 := ⟨_, rfl⟩
                refine lv_iinc (v := v51) (lv' := [(5, .int v51), (3, .int (crc8 (t + 1) (crcs B a i ^^^ nI (B (a + i))))), (0, .ref y), (1, .int (nI a)), (2, .int (nI k)), (4, .int (nI i))]) hx hb d_D_sumOf_51 hl (k := 1) rfl (by rw [ev51]; rfl) (by decide) rfl (fun ls hl => ?_)
                have ev51 : v51 = nI (t + 1) := by rw [ev51]; exact nI_1 t
                subst ev51
                refine lv_goto (tgt := 25) hx hb d_D_sumOf_54 (by decide) ?_
                exact ih_loop2 (t + 1) (by omega) (by omega) ls (lv_sub hl [0, 1, 2, 3, 4, 5] rfl)
              · refine lv_iload_n hx hb d_D_sumOf_38 rfl (lv_at hl 1 rfl) ?_
                refine lv_iconst (v := 1) hx hb d_D_sumOf_39 (by decide) ?_
                refine lv_iushr hx hb d_D_sumOf_40 rfl ?_
                refine lv_topi (fun v40 ev40 => ?_)
                refine lv_ldc (v := (-306674912)) hx hb hown (hA _ k2_25) d_D_sumOf_41 ?_
                refine lv_ixor hx hb d_D_sumOf_43 ?_
                refine lv_topi (fun v43 ev43 => ?_)
                refine lv_goto (tgt := 50) hx hb d_D_sumOf_44 (by decide) ?_
                have ev43 : v43 = crc8 (t + 1) (crcs B a i ^^^ nI (B (a + i))) := by rw [ev43, ev40]; exact (crc1_1 (by rw [← ev34]; exact c35)).symm
                subst ev43
                refine lv_istore_n (lv' := [(3, .int (crc8 (t + 1) (crcs B a i ^^^ nI (B (a + i))))), (5, .int (nI t)), (0, .ref y), (1, .int (nI a)), (2, .int (nI k)), (4, .int (nI i))]) hx hb d_D_sumOf_50 rfl hl (by decide) rfl (fun ls hl => ?_)
                obtain ⟨v51, ev51⟩ : ∃ y : Int32, y = nI t + 1 := ⟨_, rfl⟩
                refine lv_iinc (v := v51) (lv' := [(5, .int v51), (3, .int (crc8 (t + 1) (crcs B a i ^^^ nI (B (a + i))))), (0, .ref y), (1, .int (nI a)), (2, .int (nI k)), (4, .int (nI i))]) hx hb d_D_sumOf_51 hl (k := 1) rfl (by rw [ev51]; rfl) (by decide) rfl (fun ls hl => ?_)
                have ev51 : v51 = nI (t + 1) := by rw [ev51]; exact nI_1 t
                subst ev51
                refine lv_goto (tgt := 25) hx hb d_D_sumOf_54 (by decide) ?_
                exact ih_loop2 (t + 1) (by omega) (by omega) ls (lv_sub hl [0, 1, 2, 3, 4, 5] rfl)
        exact loop2 9 0 (by omega) (by omega) ls (lv_sub hl [0, 1, 3, 4, 5, 2] rfl)
  exact loop (k + 1) 0 (by omega) (by omega) ls (lv_sub hl [0, 1, 2, 3, 4] rfl)
