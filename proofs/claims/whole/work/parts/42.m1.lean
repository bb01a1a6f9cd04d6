/-! THE REFERENCE: LEAVES -/
set_option maxHeartbeats 600000 in
set_option maxRecDepth 100000 in
/-- thrown -/
theorem c_M_thrown (l : Launch) (D : va_G) (cL cI : ClassId) (h cl sa pa M : Nat) (th tk : Int32) (σ : dkS)  : Met l y_M_thrown w_M_thrown ({ frames := 0, cells := 0, slots := 0, locals := 0 }) (va_Pc [.ref h] (ox D [(cL, .long), (cI, .int)] [(h, .inr (2, [.int th, .int (nI M), .ref cl, .ref sa, .ref pa, .int tk])), (cl, .inl (cL, 32768, .inr (.inl (pkF (σ))))), (sa, .inl (cI, 4, .inl (fun i9 => nI ((σ) i9).2.1))), (pa, .inl (cI, 4, .inl (fun i9 => nI ((σ) i9).2.2)))])) (vp_Si (fun r => r = th)) 0 0 (fun _ => False) := by
  refine Met.ofW (cc := b_M_thrown) (maxL := 1) (ret := (some .int)) (by decide) rfl ?_
  intro p9 e9 s m args below meth c9 s₁ BL hml hv
  obtain ⟨rfl, hP, hK⟩ := hv
  have hx := BL.exec
  have hb := BL.bytes
  have hr := BL.returns
  have hts := atoms_spec (ws := w_M_thrown) BL.pre
  have hA : ∀ w ∈ wsA, w.before _ s = true := fun w h => hts w (List.mem_cons_of_mem _ h)
  have hown : s.vm.findClass R_M = some m.cls := findClass_of_methodNamed BL.named
  have hlocks := BL.notSynchronized
  have hP : va_P D vCl [(h, .inr (2, [.int th, .int (nI M), .ref cl, .ref sa, .ref pa, .int tk])), (cl, .inl (cL, 32768, .inr (.inl (pkF (σ))))), (sa, .inl (cI, 4, .inl (fun i9 => nI ((σ) i9).2.1))), (pa, .inl (cI, 4, .inl (fun i9 => nI ((σ) i9).2.2)))] s.heap := hP
  have hl := lv_entry ([.ref h]) (n := 1) (Nat.le_of_ble_eq_true rfl)
  rw [lg_entry_eq]
  generalize (lg_sl ([.ref h]) ++ List.replicate (1 - (lg_sl ([.ref h])).length) Slot.unset).toArray = ls at hl ⊢
  have hl : lv_has ls 1 [(0, .ref h)] := hl
  refine lv_aload_n hx hb d_M_thrown_0 rfl (lv_at hl 0 rfl) ?_
  refine va_get (D := D) (ci := 2) (v := .int th) (C := R_M) (T := F_M) (N := 6) hx hb hA i_M hown hK hP 0 rfl rfl 0 (by decide) (hA _ k2_212) (fun _ h9 => h9) rfl d_M_thrown_1 ?_
  exact W.iret (v := th) hx hb hr (fun t ht hW => ⟨_, rfl, (rfl), ht⟩) (fun q h => by cases h) d_M_thrown_4
set_option maxHeartbeats 600000 in
set_option maxRecDepth 100000 in
/-- fail -/
theorem c_M_fail (l : Launch) (D : va_G) (cL cI : ClassId) (h cl sa pa M : Nat) (th tk : Int32) (σ : dkS) (sz : Nat) (x : Int32) : Met l y_M_fail w_M_fail ({ frames := 0, cells := 0, slots := 0, locals := 0 }) (va_Pc [.ref h, .int x] (oxw sz D [(cL, .long), (cI, .int)] [(h, .inr (2, [.int th, .int (nI M), .ref cl, .ref sa, .ref pa, .int tk])), (cl, .inl (cL, 32768, .inr (.inl (pkF (σ))))), (sa, .inl (cI, 4, .inl (fun i9 => nI ((σ) i9).2.1))), (pa, .inl (cI, 4, .inl (fun i9 => nI ((σ) i9).2.2)))])) (va_Qi (fun (r : Int32) (uu : Unit) => r = 0) (fun uu => ow D [(cL, .long), (cI, .int)] (va_A [(h, .inr (2, [.int th, .int (nI M), .ref cl, .ref sa, .ref pa, .int tk])), (cl, .inl (cL, 32768, .inr (.inl (pkF (σ))))), (sa, .inl (cI, 4, .inl (fun i9 => nI ((σ) i9).2.1))), (pa, .inl (cI, 4, .inl (fun i9 => nI ((σ) i9).2.2)))] sz) (rfW cL cI h cl sa pa M x tk (σ))) (va_A [(h, .inr (2, [.int th, .int (nI M), .ref cl, .ref sa, .ref pa, .int tk])), (cl, .inl (cL, 32768, .inr (.inl (pkF (σ))))), (sa, .inl (cI, 4, .inl (fun i9 => nI ((σ) i9).2.1))), (pa, .inl (cI, 4, .inl (fun i9 => nI ((σ) i9).2.2)))] sz)) 0 0 (va_A [(h, .inr (2, [.int th, .int (nI M), .ref cl, .ref sa, .ref pa, .int tk])), (cl, .inl (cL, 32768, .inr (.inl (pkF (σ))))), (sa, .inl (cI, 4, .inl (fun i9 => nI ((σ) i9).2.1))), (pa, .inl (cI, 4, .inl (fun i9 => nI ((σ) i9).2.2)))] sz) := by
  refine Met.ofW (cc := b_M_fail) (maxL := 2) (ret := (some .int)) (by decide) rfl ?_
  intro p9 e9 s m args below meth c9 s₁ BL hml hv
  obtain ⟨rfl, hsz, hP, hK, hD0⟩ := hv
  have hx := BL.exec
  have hb := BL.bytes
  have hr := BL.returns
  have hts := atoms_spec (ws := w_M_fail) BL.pre
  have hA : ∀ w ∈ wsA, w.before _ s = true := fun w h => hts w (List.mem_cons_of_mem _ h)
  have hown : s.vm.findClass R_M = some m.cls := findClass_of_methodNamed BL.named
  have hlocks := BL.notSynchronized
  subst hsz
  have hD := hD0.self (sz := s.heap.size)
  generalize hAe : va_A [(h, .inr (2, [.int th, .int (nI M), .ref cl, .ref sa, .ref pa, .int tk])), (cl, .inl (cL, 32768, .inr (.inl (pkF (σ))))), (sa, .inl (cI, 4, .inl (fun i9 => nI ((σ) i9).2.1))), (pa, .inl (cI, 4, .inl (fun i9 => nI ((σ) i9).2.2)))] s.heap.size = A at hD ⊢
  have hAq : ∀ q : Nat, s.heap.size ≤ q → A q := fun q h => by rw [← hAe]; exact Or.inr h
  have hS : va_S A s.heap s.heap [] := va_S.rf
  have hP : va_P D vCl [(h, .inr (2, [.int th, .int (nI M), .ref cl, .ref sa, .ref pa, .int tk])), (cl, .inl (cL, 32768, .inr (.inl (pkF (σ))))), (sa, .inl (cI, 4, .inl (fun i9 => nI ((σ) i9).2.1))), (pa, .inl (cI, 4, .inl (fun i9 => nI ((σ) i9).2.2)))] s.heap := hP
  have hl := lv_entry ([.ref h, .int x]) (n := 2) (Nat.le_of_ble_eq_true rfl)
  rw [lg_entry_eq]
  generalize (lg_sl ([.ref h, .int x]) ++ List.replicate (2 - (lg_sl ([.ref h, .int x])).length) Slot.unset).toArray = ls at hl ⊢
  have hl : lv_has ls 2 [(0, .ref h), (1, .int x)] := hl
  refine lv_aload_n hx hb d_M_fail_0 rfl (lv_at hl 0 rfl) ?_
  refine lv_iload_n hx hb d_M_fail_1 rfl (lv_at hl 1 rfl) ?_
  refine va_put (D := D) (ci := 2) (v := .int x) (ty := .int) (C := R_M) (T := F_M) (N := 6) hx hb hA i_M t_M t_M_ok n_M hown hK hP hD hS 0 rfl rfl 0 (by decide) (hA _ k2_212) (fun _ h9 => h9) rfl (by decide +kernel) rfl rfl (Nat.le_of_ble_eq_true rfl) d_M_fail_2 (fun H locs hP hD hS => ?_)
  have hP : va_P D vCl [(h, .inr (2, [.int x, .int (nI M), .ref cl, .ref sa, .ref pa, .int tk])), (cl, .inl (cL, 32768, .inr (.inl (pkF (σ))))), (sa, .inl (cI, 4, .inl (fun i9 => nI ((σ) i9).2.1))), (pa, .inl (cI, 4, .inl (fun i9 => nI ((σ) i9).2.2)))] H := hP
  have hD : va_D A [(h, .inr (2, [.int x, .int (nI M), .ref cl, .ref sa, .ref pa, .int tk])), (cl, .inl (cL, 32768, .inr (.inl (pkF (σ))))), (sa, .inl (cI, 4, .inl (fun i9 => nI ((σ) i9).2.1))), (pa, .inl (cI, 4, .inl (fun i9 => nI ((σ) i9).2.2)))] := hD
  refine lv_iconst (v := 0) hx hb d_M_fail_5 (by decide) ?_
  exact W.iret (v := 0) hx hb hr (fun t ht hW => ⟨⟨_, (), rfl, (rfl), by rw [ht]; exact hP, va_K.moved hW.alike hK, hD⟩, hS.F ht⟩) hS.2.2 d_M_fail_6
set_option maxHeartbeats 600000 in
set_option maxRecDepth 100000 in
/-- isRow -/
theorem c_M_isRow (l : Launch) (x : Int32) : Met l y_M_isRow w_M_isRow ({ frames := 0, cells := 0, slots := 0, locals := 0 }) (va_Pc [.int x] (fun _ => True)) (vp_Si (fun r => (isR x ∧ r = 1) ∨ (¬ (isR x) ∧ r = 0))) 0 0 (fun _ => False) := by
  refine Met.ofW (cc := b_M_isRow) (maxL := 1) (ret := (some .boolean)) (by decide) rfl ?_
  intro p9 e9 s m args below meth c9 s₁ BL hml hv
  obtain ⟨rfl, -⟩ := hv
  have hx := BL.exec
  have hb := BL.bytes
  have hr := BL.returns
  have hts := atoms_spec (ws := w_M_isRow) BL.pre
  have hA : ∀ w ∈ wsA, w.before _ s = true := fun w h => hts w (List.mem_cons_of_mem _ h)
  have hown : s.vm.findClass R_M = some m.cls := findClass_of_methodNamed BL.named
  have hlocks := BL.notSynchronized
  have hl := lv_entry ([.int x]) (n := 1) (Nat.le_of_ble_eq_true rfl)
  rw [lg_entry_eq]
  generalize (lg_sl ([.int x]) ++ List.replicate (1 - (lg_sl ([.int x])).length) Slot.unset).toArray = ls at hl ⊢
  have hl : lv_has ls 1 [(0, .int x)] := hl
  refine lv_iload_n hx hb d_M_isRow_0 rfl (lv_at hl 0 rfl) ?_
  refine lv_if_lt (tgt := 13) hx hb d_M_isRow_1 (by decide) (fun c1 => ?_) (fun c1 => ?_)
  · refine lv_iconst (v := 0) hx hb d_M_isRow_13 (by decide) ?_
    simp only [Int32.lt_iff_toInt_lt, Int32.le_iff_toInt_le, li_0, li_1, li_2, li_3, li_4, li_8, li_10, li_16, li_63, li_127, li_128, li_191, li_192, li_194, li_224, li_240, li_244, li_255, li_2048, li_55296, li_57343, li_65536, li_1114111, li_m1, li_m2] at *
    have hP9 : ¬ isR x := by unfold isR; omega
    exact W.zret (v := 0) (ty := .boolean) hx hb hr (by decide) (fun t ht hW => ⟨_, rfl, (Or.inr ⟨hP9, rfl⟩), ht⟩) (fun q h => by cases h) d_M_isRow_14
  · refine lv_iload_n hx hb d_M_isRow_4 rfl (lv_at hl 0 rfl) ?_
    refine lv_iconst (v := 4) hx hb d_M_isRow_5 (by decide) ?_
    refine lv_icmp_ge (tgt := 13) hx hb d_M_isRow_6 (by decide) (fun c6 => ?_) (fun c6 => ?_)
    · refine lv_iconst (v := 0) hx hb d_M_isRow_13 (by decide) ?_
      simp only [Int32.lt_iff_toInt_lt, Int32.le_iff_toInt_le, li_0, li_1, li_2, li_3, li_4, li_8, li_10, li_16, li_63, li_127, li_128, li_191, li_192, li_194, li_224, li_240, li_244, li_255, li_2048, li_55296, li_57343, li_65536, li_1114111, li_m1, li_m2] at *
      have hP9 : ¬ isR x := by unfold isR; omega
      exact W.zret (v := 0) (ty := .boolean) hx hb hr (by decide) (fun t ht hW => ⟨_, rfl, (Or.inr ⟨hP9, rfl⟩), ht⟩) (fun q h => by cases h) d_M_isRow_14
    · refine lv_iconst (v := 1) hx hb d_M_isRow_9 (by decide) ?_
      refine lv_goto (tgt := 14) hx hb d_M_isRow_10 (by decide) ?_
      simp only [Int32.lt_iff_toInt_lt, Int32.le_iff_toInt_le, li_0, li_1, li_2, li_3, li_4, li_8, li_10, li_16, li_63, li_127, li_128, li_191, li_192, li_194, li_224, li_240, li_244, li_255, li_2048, li_55296, li_57343, li_65536, li_1114111, li_m1, li_m2] at *
      have hP9 : isR x := by unfold isR; omega
      exact W.zret (v := 1) (ty := .boolean) hx hb hr (by decide) (fun t ht hW => ⟨_, rfl, (Or.inl ⟨hP9, rfl⟩), ht⟩) (fun q h => by cases h) d_M_isRow_14
set_option maxHeartbeats 600000 in
set_option maxRecDepth 100000 in
/-- at -/
theorem c_M_at (l : Launch) (D : va_G) (cL cI : ClassId) (h cl sa pa M : Nat) (th tk : Int32) (σ : dkS) (k i : Nat) (hk : k < 4) (hi : i < 65536) (hB : ∀ j, (σ k).1 j < 256) : Met l y_M_at w_M_at ({ frames := 0, cells := 0, slots := 0, locals := 0 }) (va_Pc [.ref h, .int (nI k), .int (nI i)] (ox D [(cL, .long), (cI, .int)] [(h, .inr (2, [.int th, .int (nI M), .ref cl, .ref sa, .ref pa, .int tk])), (cl, .inl (cL, 32768, .inr (.inl (pkF (σ))))), (sa, .inl (cI, 4, .inl (fun i9 => nI ((σ) i9).2.1))), (pa, .inl (cI, 4, .inl (fun i9 => nI ((σ) i9).2.2)))])) (vp_Si (fun r => r = nI ((σ k).1 i))) 0 0 (fun _ => False) := by
  refine Met.ofW (cc := b_M_at) (maxL := 3) (ret := (some .int)) (by decide) rfl ?_
  intro p9 e9 s m args below meth c9 s₁ BL hml hv
  obtain ⟨rfl, hP, hK⟩ := hv
  have hx := BL.exec
  have hb := BL.bytes
  have hr := BL.returns
  have hts := atoms_spec (ws := w_M_at) BL.pre
  have hA : ∀ w ∈ wsA, w.before _ s = true := fun w h => hts w (List.mem_cons_of_mem _ h)
  have hown : s.vm.findClass R_M = some m.cls := findClass_of_methodNamed BL.named
  have hlocks := BL.notSynchronized
  have hP : va_P D vCl [(h, .inr (2, [.int th, .int (nI M), .ref cl, .ref sa, .ref pa, .int tk])), (cl, .inl (cL, 32768, .inr (.inl (pkF (σ))))), (sa, .inl (cI, 4, .inl (fun i9 => nI ((σ) i9).2.1))), (pa, .inl (cI, 4, .inl (fun i9 => nI ((σ) i9).2.2)))] s.heap := hP
  have hl := lv_entry ([.ref h, .int (nI k), .int (nI i)]) (n := 3) (Nat.le_of_ble_eq_true rfl)
  rw [lg_entry_eq]
  generalize (lg_sl ([.ref h, .int (nI k), .int (nI i)]) ++ List.replicate (3 - (lg_sl ([.ref h, .int (nI k), .int (nI i)])).length) Slot.unset).toArray = ls at hl ⊢
  have hl : lv_has ls 3 [(0, .ref h), (1, .int (nI k)), (2, .int (nI i))] := hl
  refine lv_aload_n hx hb d_M_at_0 rfl (lv_at hl 0 rfl) ?_
  refine va_get (D := D) (ci := 2) (v := .ref cl) (C := R_M) (T := F_M) (N := 6) hx hb hA i_M hown hK hP 0 rfl rfl 2 (by decide) (hA _ k2_214) (fun _ h9 => h9) rfl d_M_at_1 ?_
  refine lv_ldc (v := 65536) hx hb hown (hA _ k2_211) d_M_at_4 ?_
  refine lv_iload_n hx hb d_M_at_6 rfl (lv_at hl 1 rfl) ?_
  refine lv_imul hx hb d_M_at_7 ?_
  refine lv_topi (fun v7 ev7 => ?_)
  have ev7 : v7 = nI (65536 * k) := by rw [ev7]; exact pk_mul 65536 k
  subst ev7
  refine lv_iload_n hx hb d_M_at_8 rfl (lv_at hl 2 rfl) ?_
  refine lv_iadd hx hb d_M_at_9 ?_
  refine lv_topi (fun v9 ev9 => ?_)
  have ev9 : v9 = nI (65536 * k + i) := by rw [ev9]; exact nI_add _ _
  subst ev9
  refine lv_bipush (v := 8) hx hb d_M_at_10 (by decide) ?_
  refine lv_idiv hx hb d_M_at_12 (by decide) ?_
  refine lv_topi (fun v12 ev12 => ?_)
  have ev12 : v12 = nI (8192 * k + i / 8) := by rw [ev12, show 8192 * k + i / 8 = (65536 * k + i) / 8 by omega]; exact pk_div (d := 8) (by omega) (by decide) (by decide)
  subst ev12
  refine va_lald hx hb hK hP 1 0 rfl rfl (vp_in_nI (n := 8192 * k + i / 8) (N := 32768) (by omega) (by decide)) d_M_at_13 ?_
  refine lv_topl (fun v13 ev13 => ?_)
  have ev13 : v13 = lN (fx (σ k).1 (8 * (i / 8)) 8) := by rw [ev13]; exact pk_get σ hk hi
  subst ev13
  refine lv_bipush (v := 8) hx hb d_M_at_14 (by decide) ?_
  refine lv_iload_n hx hb d_M_at_16 rfl (lv_at hl 2 rfl) ?_
  refine lv_bipush (v := 8) hx hb d_M_at_17 (by decide) ?_
  refine lv_irem hx hb d_M_at_19 (by decide) ?_
  refine lv_topi (fun v19 ev19 => ?_)
  have ev19 : v19 = nI (i % 8) := by rw [ev19]; exact pk_rem (d := 8) (by omega) (by decide) (by decide)
  subst ev19
  refine lv_imul hx hb d_M_at_20 ?_
  refine lv_topi (fun v20 ev20 => ?_)
  have ev20 : v20 = nI (8 * (i % 8)) := by rw [ev20]; exact pk_mul 8 _
  subst ev20
  refine lv_lshr hx hb d_M_at_21 rfl ?_
  refine lv_topl (fun v21 ev21 => ?_)
  refine lv_ldc2 (v := 255) hx hb hown (hA _ k3_12) d_M_at_22 ?_
  refine lv_land hx hb d_M_at_25 ?_
  refine lv_topl (fun v25 ev25 => ?_)
  have ev25 : v25 = lN ((σ k).1 i) := by rw [ev25, ev21, sh8 _ (by omega), fx_div hB _ (by omega), show 8 * (i / 8) + i % 8 = i by omega]
  subst ev25
  refine lv_l2i hx hb d_M_at_26 rfl ?_
  refine lv_topi (fun v26 ev26 => ?_)
  have ev26 : v26 = nI ((σ k).1 i) := by rw [ev26]; exact lN_i _
  subst ev26
  exact W.iret (v := nI ((σ k).1 i)) hx hb hr (fun t ht hW => ⟨_, rfl, (rfl), ht⟩) (fun q h => by cases h) d_M_at_27
set_option maxHeartbeats 600000 in
set_option maxRecDepth 100000 in
/-- set -/
theorem c_M_set (l : Launch) (D : va_G) (cL cI : ClassId) (h cl sa pa M : Nat) (th tk : Int32) (σ : dkS) (sz : Nat) (k : Nat) (hk : k < 4) (B : Nat → Nat) (n p : Nat) (hB : ∀ j, B j < 256) (i v : Nat) (hi : i < 65536) (hv : v < 256) : Met l y_M_set w_M_set ({ frames := 0, cells := 0, slots := 0, locals := 0 }) (va_Pc [.ref h, .int (nI k), .int (nI i), .int (nI v)] (oxw sz D [(cL, .long), (cI, .int)] [(h, .inr (2, [.int th, .int (nI M), .ref cl, .ref sa, .ref pa, .int tk])), (cl, .inl (cL, 32768, .inr (.inl (pkF (va_up σ k (B, n, p)))))), (sa, .inl (cI, 4, .inl (fun i9 => nI ((va_up σ k (B, n, p)) i9).2.1))), (pa, .inl (cI, 4, .inl (fun i9 => nI ((va_up σ k (B, n, p)) i9).2.2)))])) (va_Qv (fun uu : Unit => True) (fun uu => ow D [(cL, .long), (cI, .int)] (va_A [(h, .inr (2, [.int th, .int (nI M), .ref cl, .ref sa, .ref pa, .int tk])), (cl, .inl (cL, 32768, .inr (.inl (pkF (va_up σ k (B, n, p)))))), (sa, .inl (cI, 4, .inl (fun i9 => nI ((va_up σ k (B, n, p)) i9).2.1))), (pa, .inl (cI, 4, .inl (fun i9 => nI ((va_up σ k (B, n, p)) i9).2.2)))] sz) (rfW cL cI h cl sa pa M th tk (va_up σ k (va_up B i v, n, p)))) (va_A [(h, .inr (2, [.int th, .int (nI M), .ref cl, .ref sa, .ref pa, .int tk])), (cl, .inl (cL, 32768, .inr (.inl (pkF (va_up σ k (B, n, p)))))), (sa, .inl (cI, 4, .inl (fun i9 => nI ((va_up σ k (B, n, p)) i9).2.1))), (pa, .inl (cI, 4, .inl (fun i9 => nI ((va_up σ k (B, n, p)) i9).2.2)))] sz)) 0 0 (va_A [(h, .inr (2, [.int th, .int (nI M), .ref cl, .ref sa, .ref pa, .int tk])), (cl, .inl (cL, 32768, .inr (.inl (pkF (va_up σ k (B, n, p)))))), (sa, .inl (cI, 4, .inl (fun i9 => nI ((va_up σ k (B, n, p)) i9).2.1))), (pa, .inl (cI, 4, .inl (fun i9 => nI ((va_up σ k (B, n, p)) i9).2.2)))] sz) := by
  refine Met.ofW (cc := b_M_set) (maxL := 6) (ret := none) (by decide) rfl ?_
  intro p9 e9 s m args below meth c9 s₁ BL hml hv
  obtain ⟨rfl, hsz, hP, hK, hD0⟩ := hv
  have hx := BL.exec
  have hb := BL.bytes
  have hr := BL.returns
  have hts := atoms_spec (ws := w_M_set) BL.pre
  have hA : ∀ w ∈ wsA, w.before _ s = true := fun w h => hts w (List.mem_cons_of_mem _ h)
  have hown : s.vm.findClass R_M = some m.cls := findClass_of_methodNamed BL.named
  have hlocks := BL.notSynchronized
  subst hsz
  have hD := hD0.self (sz := s.heap.size)
  generalize hAe : va_A [(h, .inr (2, [.int th, .int (nI M), .ref cl, .ref sa, .ref pa, .int tk])), (cl, .inl (cL, 32768, .inr (.inl (pkF (va_up σ k (B, n, p)))))), (sa, .inl (cI, 4, .inl (fun i9 => nI ((va_up σ k (B, n, p)) i9).2.1))), (pa, .inl (cI, 4, .inl (fun i9 => nI ((va_up σ k (B, n, p)) i9).2.2)))] s.heap.size = A at hD ⊢
  have hAq : ∀ q : Nat, s.heap.size ≤ q → A q := fun q h => by rw [← hAe]; exact Or.inr h
  have hS : va_S A s.heap s.heap [] := va_S.rf
  have hP : va_P D vCl [(h, .inr (2, [.int th, .int (nI M), .ref cl, .ref sa, .ref pa, .int tk])), (cl, .inl (cL, 32768, .inr (.inl (pkF (va_up σ k (B, n, p)))))), (sa, .inl (cI, 4, .inl (fun i9 => nI ((va_up σ k (B, n, p)) i9).2.1))), (pa, .inl (cI, 4, .inl (fun i9 => nI ((va_up σ k (B, n, p)) i9).2.2)))] s.heap := hP
  have hl := lv_entry ([.ref h, .int (nI k), .int (nI i), .int (nI v)]) (n := 6) (Nat.le_of_ble_eq_true rfl)
  rw [lg_entry_eq]
  generalize (lg_sl ([.ref h, .int (nI k), .int (nI i), .int (nI v)]) ++ List.replicate (6 - (lg_sl ([.ref h, .int (nI k), .int (nI i), .int (nI v)])).length) Slot.unset).toArray = ls at hl ⊢
  have hl : lv_has ls 6 [(0, .ref h), (1, .int (nI k)), (2, .int (nI i)), (3, .int (nI v))] := hl
  refine lv_ldc (v := 65536) hx hb hown (hA _ k2_211) d_M_set_0 ?_
  refine lv_iload_n hx hb d_M_set_2 rfl (lv_at hl 1 rfl) ?_
  refine lv_imul hx hb d_M_set_3 ?_
  refine lv_topi (fun v3 ev3 => ?_)
  have ev3 : v3 = nI (65536 * k) := by rw [ev3]; exact pk_mul 65536 k
  subst ev3
  refine lv_iload_n hx hb d_M_set_4 rfl (lv_at hl 2 rfl) ?_
  refine lv_iadd hx hb d_M_set_5 ?_
  refine lv_topi (fun v5 ev5 => ?_)
  have ev5 : v5 = nI (65536 * k + i) := by rw [ev5]; exact nI_add _ _
  subst ev5
  refine lv_bipush (v := 8) hx hb d_M_set_6 (by decide) ?_
  refine lv_idiv hx hb d_M_set_8 (by decide) ?_
  refine lv_topi (fun v8 ev8 => ?_)
  have ev8 : v8 = nI (8192 * k + i / 8) := by rw [ev8, show 8192 * k + i / 8 = (65536 * k + i) / 8 by omega]; exact pk_div (d := 8) (by omega) (by decide) (by decide)
  subst ev8
  refine lv_istore (lv' := [(4, .int (nI (8192 * k + i / 8))), (0, .ref h), (1, .int (nI k)), (2, .int (nI i)), (3, .int (nI v))]) hx hb d_M_set_9 hl (by decide) rfl (fun ls hl => ?_)
  refine lv_bipush (v := 8) hx hb d_M_set_11 (by decide) ?_
  refine lv_iload_n hx hb d_M_set_13 rfl (lv_at hl 3 rfl) ?_
  refine lv_bipush (v := 8) hx hb d_M_set_14 (by decide) ?_
  refine lv_irem hx hb d_M_set_16 (by decide) ?_
  refine lv_topi (fun v16 ev16 => ?_)
  have ev16 : v16 = nI (i % 8) := by rw [ev16]; exact pk_rem (d := 8) (by omega) (by decide) (by decide)
  subst ev16
  refine lv_imul hx hb d_M_set_17 ?_
  refine lv_topi (fun v17 ev17 => ?_)
  have ev17 : v17 = nI (8 * (i % 8)) := by rw [ev17]; exact pk_mul 8 _
  subst ev17
  refine lv_istore (lv' := [(5, .int (nI (8 * (i % 8)))), (4, .int (nI (8192 * k + i / 8))), (0, .ref h), (1, .int (nI k)), (2, .int (nI i)), (3, .int (nI v))]) hx hb d_M_set_18 hl (by decide) rfl (fun ls hl => ?_)
  refine lv_aload_n hx hb d_M_set_20 rfl (lv_at hl 2 rfl) ?_
  refine va_get (D := D) (ci := 2) (v := .ref cl) (C := R_M) (T := F_M) (N := 6) hx hb hA i_M hown hK hP 0 rfl rfl 2 (by decide) (hA _ k2_214) (fun _ h9 => h9) rfl d_M_set_21 ?_
  refine lv_iload hx hb d_M_set_24 (lv_at hl 1 rfl) ?_
  refine lv_aload_n hx hb d_M_set_26 rfl (lv_at hl 2 rfl) ?_
  refine va_get (D := D) (ci := 2) (v := .ref cl) (C := R_M) (T := F_M) (N := 6) hx hb hA i_M hown hK hP 0 rfl rfl 2 (by decide) (hA _ k2_214) (fun _ h9 => h9) rfl d_M_set_27 ?_
  refine lv_iload hx hb d_M_set_30 (lv_at hl 1 rfl) ?_
  refine va_lald hx hb hK hP 1 0 rfl rfl (vp_in_nI (n := 8192 * k + i / 8) (N := 32768) (by omega) (by decide)) d_M_set_32 ?_
  refine lv_topl (fun v32 ev32 => ?_)
  have ev32 : v32 = lN (fx B (8 * (i / 8)) 8) := by rw [ev32]; exact (pk_get _ hk hi).trans (by rw [up_s])
  subst ev32
  refine lv_ldc2 (v := 255) hx hb hown (hA _ k3_12) d_M_set_33 ?_
  refine lv_iload hx hb d_M_set_36 (lv_at hl 0 rfl) ?_
  refine lv_lshl hx hb d_M_set_38 rfl ?_
  refine lv_topl (fun v38 ev38 => ?_)
  refine lv_ldc2 (v := (-1)) hx hb hown (hA _ k3_21) d_M_set_39 ?_
  refine lv_lxor hx hb d_M_set_42 ?_
  refine lv_topl (fun v42 ev42 => ?_)
  refine lv_land hx hb d_M_set_43 ?_
  refine lv_topl (fun v43 ev43 => ?_)
  refine lv_iload_n hx hb d_M_set_44 rfl (lv_at hl 5 rfl) ?_
  refine lv_i2l hx hb d_M_set_45 rfl ?_
  refine lv_topl (fun v45 ev45 => ?_)
  have ev45 : v45 = lN v := by rw [ev45]; exact nI_l (by omega)
  subst ev45
  refine lv_iload hx hb d_M_set_46 (lv_at hl 0 rfl) ?_
  refine lv_lshl hx hb d_M_set_48 rfl ?_
  refine lv_topl (fun v48 ev48 => ?_)
  refine lv_lor hx hb d_M_set_49 ?_
  refine lv_topl (fun v49 ev49 => ?_)
  refine va_last hx hb hK hP hD hS 1 0 rfl rfl (vp_in_nI (n := 8192 * k + i / 8) (N := 32768) (by omega) (by decide)) d_M_set_50 (fun H locs hP hD hS => ?_)
  have hP : va_P D vCl [(h, .inr (2, [.int th, .int (nI M), .ref cl, .ref sa, .ref pa, .int tk])), (cl, .inl (cL, 32768, .inr (.inl (vp_updL (pkF (va_up σ k (B, n, p))) (nI (8192 * k + i / 8)).toNatClampNeg v49)))), (sa, .inl (cI, 4, .inl (fun i9 => nI ((va_up σ k (B, n, p)) i9).2.1))), (pa, .inl (cI, 4, .inl (fun i9 => nI ((va_up σ k (B, n, p)) i9).2.2)))] H := hP
  have hD : va_D A [(h, .inr (2, [.int th, .int (nI M), .ref cl, .ref sa, .ref pa, .int tk])), (cl, .inl (cL, 32768, .inr (.inl (vp_updL (pkF (va_up σ k (B, n, p))) (nI (8192 * k + i / 8)).toNatClampNeg v49)))), (sa, .inl (cI, 4, .inl (fun i9 => nI ((va_up σ k (B, n, p)) i9).2.1))), (pa, .inl (cI, 4, .inl (fun i9 => nI ((va_up σ k (B, n, p)) i9).2.2)))] := hD
  rw [show vp_updL (pkF (va_up σ k (B, n, p))) (nI (8192 * k + i / 8)).toNatClampNeg v49 = pkF (va_up σ k (va_up B i v, n, p)) from pk_set σ n p hB hk hi (by rw [ev49, ev43, ev42, ev38, ev48]; exact set8 hB _ (by omega) hv)] at hP hD
  rw [sz_nc σ k B (va_up B i v) n p p, pl_nc σ k B (va_up B i v) n n p] at hP hD
  have hP : va_P D vCl [(h, .inr (2, [.int th, .int (nI M), .ref cl, .ref sa, .ref pa, .int tk])), (cl, .inl (cL, 32768, .inr (.inl (pkF (va_up σ k (va_up B i v, n, p)))))), (sa, .inl (cI, 4, .inl (fun i9 => nI ((va_up σ k (va_up B i v, n, p)) i9).2.1))), (pa, .inl (cI, 4, .inl (fun i9 => nI ((va_up σ k (va_up B i v, n, p)) i9).2.2)))] H := hP
  have hD : va_D A [(h, .inr (2, [.int th, .int (nI M), .ref cl, .ref sa, .ref pa, .int tk])), (cl, .inl (cL, 32768, .inr (.inl (pkF (va_up σ k (va_up B i v, n, p)))))), (sa, .inl (cI, 4, .inl (fun i9 => nI ((va_up σ k (va_up B i v, n, p)) i9).2.1))), (pa, .inl (cI, 4, .inl (fun i9 => nI ((va_up σ k (va_up B i v, n, p)) i9).2.2)))] := hD
  exact W.vret hx hb hr (fun t ht hW => ⟨⟨(), rfl, (trivial), by rw [ht]; exact hP, va_K.moved hW.alike hK, hD⟩, hS.F ht⟩) hS.2.2 d_M_set_51
set_option maxHeartbeats 600000 in
set_option maxRecDepth 100000 in
/-- add -/
theorem c_M_add (l : Launch) (D : va_G) (cL cI : ClassId) (h cl sa pa M : Nat) (th tk : Int32) (σ : dkS) (sz : Nat) (k : Nat) (hk : k < 4) (B : Nat → Nat) (n p : Nat) (hB : ∀ j, B j < 256) (v : Nat) (hn : n < 65536) (hv : v < 256) : Met l y_M_add w_M_add ({ frames := 1, cells := 0, slots := 0, locals := 25 }) (va_Pc [.ref h, .int (nI k), .int (nI v)] (oxw sz D [(cL, .long), (cI, .int)] [(h, .inr (2, [.int th, .int (nI M), .ref cl, .ref sa, .ref pa, .int tk])), (cl, .inl (cL, 32768, .inr (.inl (pkF (va_up σ k (B, n, p)))))), (sa, .inl (cI, 4, .inl (fun i9 => nI ((va_up σ k (B, n, p)) i9).2.1))), (pa, .inl (cI, 4, .inl (fun i9 => nI ((va_up σ k (B, n, p)) i9).2.2)))])) (va_Qv (fun uu : Unit => True) (fun uu => ow D [(cL, .long), (cI, .int)] (va_A [(h, .inr (2, [.int th, .int (nI M), .ref cl, .ref sa, .ref pa, .int tk])), (cl, .inl (cL, 32768, .inr (.inl (pkF (va_up σ k (B, n, p)))))), (sa, .inl (cI, 4, .inl (fun i9 => nI ((va_up σ k (B, n, p)) i9).2.1))), (pa, .inl (cI, 4, .inl (fun i9 => nI ((va_up σ k (B, n, p)) i9).2.2)))] sz) (rfW cL cI h cl sa pa M th tk (va_up σ k (va_up B n v, n + 1, p)))) (va_A [(h, .inr (2, [.int th, .int (nI M), .ref cl, .ref sa, .ref pa, .int tk])), (cl, .inl (cL, 32768, .inr (.inl (pkF (va_up σ k (B, n, p)))))), (sa, .inl (cI, 4, .inl (fun i9 => nI ((va_up σ k (B, n, p)) i9).2.1))), (pa, .inl (cI, 4, .inl (fun i9 => nI ((va_up σ k (B, n, p)) i9).2.2)))] sz)) 0 0 (va_A [(h, .inr (2, [.int th, .int (nI M), .ref cl, .ref sa, .ref pa, .int tk])), (cl, .inl (cL, 32768, .inr (.inl (pkF (va_up σ k (B, n, p)))))), (sa, .inl (cI, 4, .inl (fun i9 => nI ((va_up σ k (B, n, p)) i9).2.1))), (pa, .inl (cI, 4, .inl (fun i9 => nI ((va_up σ k (B, n, p)) i9).2.2)))] sz) := by
  refine Met.ofW (cc := b_M_add) (maxL := 3) (ret := none) (by decide) rfl ?_
  intro p9 e9 s m args below meth c9 s₁ BL hml hv
  obtain ⟨rfl, hsz, hP, hK, hD0⟩ := hv
  have hx := BL.exec
  have hb := BL.bytes
  have hr := BL.returns
  have hts := atoms_spec (ws := w_M_add) BL.pre
  have hA : ∀ w ∈ wsA, w.before _ s = true := fun w h => hts w (List.mem_cons_of_mem _ h)
  have hown : s.vm.findClass R_M = some m.cls := findClass_of_methodNamed BL.named
  have hlocks := BL.notSynchronized
  subst hsz
  have hD := hD0.self (sz := s.heap.size)
  generalize hAe : va_A [(h, .inr (2, [.int th, .int (nI M), .ref cl, .ref sa, .ref pa, .int tk])), (cl, .inl (cL, 32768, .inr (.inl (pkF (va_up σ k (B, n, p)))))), (sa, .inl (cI, 4, .inl (fun i9 => nI ((va_up σ k (B, n, p)) i9).2.1))), (pa, .inl (cI, 4, .inl (fun i9 => nI ((va_up σ k (B, n, p)) i9).2.2)))] s.heap.size = A at hD ⊢
  have hAq : ∀ q : Nat, s.heap.size ≤ q → A q := fun q h => by rw [← hAe]; exact Or.inr h
  have hS : va_S A s.heap s.heap [] := va_S.rf
  have hP : va_P D vCl [(h, .inr (2, [.int th, .int (nI M), .ref cl, .ref sa, .ref pa, .int tk])), (cl, .inl (cL, 32768, .inr (.inl (pkF (va_up σ k (B, n, p)))))), (sa, .inl (cI, 4, .inl (fun i9 => nI ((va_up σ k (B, n, p)) i9).2.1))), (pa, .inl (cI, 4, .inl (fun i9 => nI ((va_up σ k (B, n, p)) i9).2.2)))] s.heap := hP
  have hl := lv_entry ([.ref h, .int (nI k), .int (nI v)]) (n := 3) (Nat.le_of_ble_eq_true rfl)
  rw [lg_entry_eq]
  generalize (lg_sl ([.ref h, .int (nI k), .int (nI v)]) ++ List.replicate (3 - (lg_sl ([.ref h, .int (nI k), .int (nI v)])).length) Slot.unset).toArray = ls at hl ⊢
  have hl : lv_has ls 3 [(0, .ref h), (1, .int (nI k)), (2, .int (nI v))] := hl
  refine lv_aload_n hx hb d_M_add_0 rfl (lv_at hl 0 rfl) ?_
  refine lv_iload_n hx hb d_M_add_1 rfl (lv_at hl 1 rfl) ?_
  refine lv_aload_n hx hb d_M_add_2 rfl (lv_at hl 0 rfl) ?_
  refine va_get (D := D) (ci := 2) (v := .ref sa) (C := R_M) (T := F_M) (N := 6) hx hb hA i_M hown hK hP 0 rfl rfl 3 (by decide) (hA _ k2_215) (fun _ h9 => h9) rfl d_M_add_3 ?_
  refine lv_iload_n hx hb d_M_add_6 rfl (lv_at hl 1 rfl) ?_
  refine va_iald hx hb hK hP 2 1 rfl rfl (vp_in_nI hk (by decide)) d_M_add_7 ?_
  refine lv_topi (fun v7 ev7 => ?_)
  have ev7 : v7 = nI n := by rw [ev7]; show nI ((va_up σ k (B, n, p)) (nI k).toNatClampNeg).2.1 = _; rw [nI_clamp (by omega), up_s]
  subst ev7
  refine lv_iload_n hx hb d_M_add_8 rfl (lv_at hl 2 rfl) ?_
  have hPc := hP
  have hFc := va_free (wc := [(h, .inr (2, [.int th, .int (nI M), .ref cl, .ref sa, .ref pa, .int tk])), (cl, .inl (cL, 32768, .inr (.inl (pkF (va_up σ k (B, n, p)))))), (sa, .inl (cI, 4, .inl (fun i9 => nI ((va_up σ k (B, n, p)) i9).2.1))), (pa, .inl (cI, 4, .inl (fun i9 => nI ((va_up σ k (B, n, p)) i9).2.2)))]) hD hS hAq [0, 1, 2, 3] rfl
  have hKc := hK.sub (tys' := [(cL, .long), (cI, .int)]) [0, 1] rfl
  refine va_callv (va_runV (As := [.int (nI k), .int (nI n), .int (nI v)]) (rest := []) ⟨hx, hb, hml, hown, hA⟩ (c_M_set l D cL cI h cl sa pa M th tk σ s.heap.size k hk B n p hB n v hn hv) (q_M_set hA k3_17 rfl rfl ⟨(Nat.le_of_ble_eq_true rfl), (Nat.le_of_ble_eq_true rfl)⟩) (ox_V (va_recv hKc hPc (ci := 2) (q0 := 0) rfl rfl) (oxw_S hPc hKc hD)) rfl rfl hl.1 rfl (lv_room (Nat.le_of_ble_eq_true rfl)) d_M_add_9 ⟨(Nat.le_of_ble_eq_true rfl), (Nat.le_of_ble_eq_true rfl)⟩) hS (fun q _ h => hFc q h) hFc (fun u9 t9 H1 locs ht9 hvm9 hw9 hB9 hz1 hk1 hS => ?_)
  obtain ⟨hP, hK1, hD1⟩ := hB9
  rw [ht9] at hP
  obtain ⟨hP, hD⟩ := va_join (wr := []) (w1 := rfW cL cI h cl sa pa M th tk (va_up σ k (va_up B n v, n, p))) hPc hD [0, 1, 2, 3] [] rfl rfl (by decide) (by decide) hk1 hFc hP hD1
  generalize H1 = H at hP hS ⊢
  have hP : va_P D vCl [(h, .inr (2, [.int th, .int (nI M), .ref cl, .ref sa, .ref pa, .int tk])), (cl, .inl (cL, 32768, .inr (.inl (pkF (va_up σ k (va_up B n v, n, p)))))), (sa, .inl (cI, 4, .inl (fun i9 => nI ((va_up σ k (va_up B n v, n, p)) i9).2.1))), (pa, .inl (cI, 4, .inl (fun i9 => nI ((va_up σ k (va_up B n v, n, p)) i9).2.2)))] H := hP
  have hD : va_D A [(h, .inr (2, [.int th, .int (nI M), .ref cl, .ref sa, .ref pa, .int tk])), (cl, .inl (cL, 32768, .inr (.inl (pkF (va_up σ k (va_up B n v, n, p)))))), (sa, .inl (cI, 4, .inl (fun i9 => nI ((va_up σ k (va_up B n v, n, p)) i9).2.1))), (pa, .inl (cI, 4, .inl (fun i9 => nI ((va_up σ k (va_up B n v, n, p)) i9).2.2)))] := hD
  refine lv_aload_n hx hb d_M_add_12 rfl (lv_at hl 0 rfl) ?_
  refine va_get (D := D) (ci := 2) (v := .ref sa) (C := R_M) (T := F_M) (N := 6) hx hb hA i_M hown hK hP 0 rfl rfl 3 (by decide) (hA _ k2_215) (fun _ h9 => h9) rfl d_M_add_13 ?_
  refine lv_iload_n hx hb d_M_add_16 rfl (lv_at hl 1 rfl) ?_
  refine lv_dup2_11 hx hb d_M_add_17 rfl rfl ?_
  refine va_iald hx hb hK hP 2 1 rfl rfl (vp_in_nI hk (by decide)) d_M_add_18 ?_
  refine lv_topi (fun v18 ev18 => ?_)
  have ev18 : v18 = nI n := by rw [ev18]; show nI ((va_up σ k (va_up B n v, n, p)) (nI k).toNatClampNeg).2.1 = _; rw [nI_clamp (by omega), up_s]
  subst ev18
  refine lv_iconst (v := 1) hx hb d_M_add_19 (by decide) ?_
  refine lv_iadd hx hb d_M_add_20 ?_
  refine lv_topi (fun v20 ev20 => ?_)
  have ev20 : v20 = nI (n + 1) := by rw [ev20]; exact nI_1 n
  subst ev20
  refine va_iast hx hb hK hP hD hS 2 1 rfl rfl (vp_in_nI hk (by decide)) d_M_add_21 (fun H locs hP hD hS => ?_)
  have hP : va_P D vCl [(h, .inr (2, [.int th, .int (nI M), .ref cl, .ref sa, .ref pa, .int tk])), (cl, .inl (cL, 32768, .inr (.inl (pkF (va_up σ k (va_up B n v, n, p)))))), (sa, .inl (cI, 4, .inl (upd (fun i9 => nI ((va_up σ k (va_up B n v, n, p)) i9).2.1) (nI k).toNatClampNeg (nI (n + 1))))), (pa, .inl (cI, 4, .inl (fun i9 => nI ((va_up σ k (va_up B n v, n, p)) i9).2.2)))] H := hP
  have hD : va_D A [(h, .inr (2, [.int th, .int (nI M), .ref cl, .ref sa, .ref pa, .int tk])), (cl, .inl (cL, 32768, .inr (.inl (pkF (va_up σ k (va_up B n v, n, p)))))), (sa, .inl (cI, 4, .inl (upd (fun i9 => nI ((va_up σ k (va_up B n v, n, p)) i9).2.1) (nI k).toNatClampNeg (nI (n + 1))))), (pa, .inl (cI, 4, .inl (fun i9 => nI ((va_up σ k (va_up B n v, n, p)) i9).2.2)))] := hD
  rw [sz_up (σ) hk (va_up B n v) (va_up B n v) n p (n + 1) p, pc_nc (σ) k (va_up B n v) n p (n + 1) p, pl_nc (σ) k (va_up B n v) (va_up B n v) n (n + 1) p] at hP hD
  have hP : va_P D vCl [(h, .inr (2, [.int th, .int (nI M), .ref cl, .ref sa, .ref pa, .int tk])), (cl, .inl (cL, 32768, .inr (.inl (pkF (va_up (σ) k (va_up B n v, n + 1, p)))))), (sa, .inl (cI, 4, .inl (fun i9 => nI ((va_up (σ) k (va_up B n v, n + 1, p)) i9).2.1))), (pa, .inl (cI, 4, .inl (fun i9 => nI ((va_up (σ) k (va_up B n v, n + 1, p)) i9).2.2)))] H := hP
  have hD : va_D A [(h, .inr (2, [.int th, .int (nI M), .ref cl, .ref sa, .ref pa, .int tk])), (cl, .inl (cL, 32768, .inr (.inl (pkF (va_up (σ) k (va_up B n v, n + 1, p)))))), (sa, .inl (cI, 4, .inl (fun i9 => nI ((va_up (σ) k (va_up B n v, n + 1, p)) i9).2.1))), (pa, .inl (cI, 4, .inl (fun i9 => nI ((va_up (σ) k (va_up B n v, n + 1, p)) i9).2.2)))] := hD
  exact W.vret hx hb hr (fun t ht hW => ⟨⟨(), rfl, (trivial), by rw [ht]; exact hP, va_K.moved hW.alike hK, hD⟩, hS.F ht⟩) hS.2.2 d_M_add_22
set_option maxHeartbeats 600000 in
set_option maxRecDepth 100000 in
/-- fits -/
theorem c_M_fits (l : Launch) (D : va_G) (cL cI : ClassId) (h cl sa pa M : Nat) (th tk : Int32) (σ : dkS) (k m2 : Nat) (hk : k < 4) (hn : (σ k).2.1 ≤ 65536) (hm : m2 ≤ 1000000) (hM : M ≤ 65536) : Met l y_M_fits w_M_fits ({ frames := 0, cells := 0, slots := 0, locals := 0 }) (va_Pc [.ref h, .int (nI k), .int (nI m2)] (ox D [(cL, .long), (cI, .int)] [(h, .inr (2, [.int th, .int (nI M), .ref cl, .ref sa, .ref pa, .int tk])), (cl, .inl (cL, 32768, .inr (.inl (pkF (σ))))), (sa, .inl (cI, 4, .inl (fun i9 => nI ((σ) i9).2.1))), (pa, .inl (cI, 4, .inl (fun i9 => nI ((σ) i9).2.2)))])) (vp_Si (fun r => ((σ k).2.1 + m2 ≤ M ∧ r = 1) ∨ (¬ ((σ k).2.1 + m2 ≤ M) ∧ r = 0))) 0 0 (fun _ => False) := by
  refine Met.ofW (cc := b_M_fits) (maxL := 3) (ret := (some .boolean)) (by decide) rfl ?_
  intro p9 e9 s m args below meth c9 s₁ BL hml hv
  obtain ⟨rfl, hP, hK⟩ := hv
  have hx := BL.exec
  have hb := BL.bytes
  have hr := BL.returns
  have hts := atoms_spec (ws := w_M_fits) BL.pre
  have hA : ∀ w ∈ wsA, w.before _ s = true := fun w h => hts w (List.mem_cons_of_mem _ h)
  have hown : s.vm.findClass R_M = some m.cls := findClass_of_methodNamed BL.named
  have hlocks := BL.notSynchronized
  have hP : va_P D vCl [(h, .inr (2, [.int th, .int (nI M), .ref cl, .ref sa, .ref pa, .int tk])), (cl, .inl (cL, 32768, .inr (.inl (pkF (σ))))), (sa, .inl (cI, 4, .inl (fun i9 => nI ((σ) i9).2.1))), (pa, .inl (cI, 4, .inl (fun i9 => nI ((σ) i9).2.2)))] s.heap := hP
  have hl := lv_entry ([.ref h, .int (nI k), .int (nI m2)]) (n := 3) (Nat.le_of_ble_eq_true rfl)
  rw [lg_entry_eq]
  generalize (lg_sl ([.ref h, .int (nI k), .int (nI m2)]) ++ List.replicate (3 - (lg_sl ([.ref h, .int (nI k), .int (nI m2)])).length) Slot.unset).toArray = ls at hl ⊢
  have hl : lv_has ls 3 [(0, .ref h), (1, .int (nI k)), (2, .int (nI m2))] := hl
  refine lv_aload_n hx hb d_M_fits_0 rfl (lv_at hl 0 rfl) ?_
  refine va_get (D := D) (ci := 2) (v := .ref sa) (C := R_M) (T := F_M) (N := 6) hx hb hA i_M hown hK hP 0 rfl rfl 3 (by decide) (hA _ k2_215) (fun _ h9 => h9) rfl d_M_fits_1 ?_
  refine lv_iload_n hx hb d_M_fits_4 rfl (lv_at hl 1 rfl) ?_
  refine va_iald hx hb hK hP 2 1 rfl rfl (vp_in_nI hk (by decide)) d_M_fits_5 ?_
  refine lv_topi (fun v5 ev5 => ?_)
  have ev5 : v5 = nI (σ k).2.1 := by rw [ev5]; show nI ((σ) (nI k).toNatClampNeg).2.1 = _; rw [nI_clamp (by omega)]
  subst ev5
  refine lv_iload_n hx hb d_M_fits_6 rfl (lv_at hl 2 rfl) ?_
  refine lv_iadd hx hb d_M_fits_7 ?_
  refine lv_topi (fun v7 ev7 => ?_)
  have ev7 : v7 = nI ((σ k).2.1 + m2) := by rw [ev7]; exact nI_add _ _
  subst ev7
  refine lv_aload_n hx hb d_M_fits_8 rfl (lv_at hl 0 rfl) ?_
  refine va_get (D := D) (ci := 2) (v := .int (nI M)) (C := R_M) (T := F_M) (N := 6) hx hb hA i_M hown hK hP 0 rfl rfl 1 (by decide) (hA _ k2_213) (fun _ h9 => h9) rfl d_M_fits_9 ?_
  refine lv_icmp_gt (tgt := 19) hx hb d_M_fits_12 (by decide) (fun c12 => ?_) (fun c12 => ?_)
  · refine lv_iconst (v := 0) hx hb d_M_fits_19 (by decide) ?_
    have hP9 : ¬ ((σ k).2.1 + m2 ≤ M) := by have := (nI_ltI (a := M) (b := (σ k).2.1 + m2) (by omega) (by omega)); have := this.mp c12; omega
    exact W.zret (v := 0) (ty := .boolean) hx hb hr (by decide) (fun t ht hW => ⟨_, rfl, (Or.inr ⟨hP9, rfl⟩), ht⟩) (fun q h => by cases h) d_M_fits_20
  · refine lv_iconst (v := 1) hx hb d_M_fits_15 (by decide) ?_
    refine lv_goto (tgt := 20) hx hb d_M_fits_16 (by decide) ?_
    have hP9 : (σ k).2.1 + m2 ≤ M := by have := (nI_ltI (a := M) (b := (σ k).2.1 + m2) (by omega) (by omega)); have := mt this.mpr c12; omega
    exact W.zret (v := 1) (ty := .boolean) hx hb hr (by decide) (fun t ht hW => ⟨_, rfl, (Or.inl ⟨hP9, rfl⟩), ht⟩) (fun q h => by cases h) d_M_fits_20
set_option maxHeartbeats 600000 in
set_option maxRecDepth 100000 in
/-- groups -/
theorem c_M_groups (l : Launch) (u : Nat) (hu : u < 2 ^ 64) : Met l y_M_groups w_M_groups ({ frames := 0, cells := 0, slots := 0, locals := 0 }) (va_Pc [.long (lN u)] (fun _ => True)) (vp_Si (fun r => r = nI (sw u))) 0 0 (fun _ => False) := by
  refine Met.ofW (cc := b_M_groups) (maxL := 5) (ret := (some .int)) (by decide) rfl ?_
  intro p9 e9 s m args below meth c9 s₁ BL hml hv
  obtain ⟨rfl, -⟩ := hv
  have hx := BL.exec
  have hb := BL.bytes
  have hr := BL.returns
  have hts := atoms_spec (ws := w_M_groups) BL.pre
  have hA : ∀ w ∈ wsA, w.before _ s = true := fun w h => hts w (List.mem_cons_of_mem _ h)
  have hown : s.vm.findClass R_M = some m.cls := findClass_of_methodNamed BL.named
  have hlocks := BL.notSynchronized
  have hl := lv_entry ([.long (lN u)]) (n := 5) (Nat.le_of_ble_eq_true rfl)
  rw [lg_entry_eq]
  generalize (lg_sl ([.long (lN u)]) ++ List.replicate (5 - (lg_sl ([.long (lN u)])).length) Slot.unset).toArray = ls at hl ⊢
  have hl : lv_has ls 5 [(0, .long (lN u))] := hl
  refine lv_iconst (v := 1) hx hb d_M_groups_0 (by decide) ?_
  refine lv_topi (fun v0 ev0 => ?_)
  have ev0 : v0 = nI 1 := by rw [ev0]; rfl
  subst ev0
  refine lv_istore_n (lv' := [(2, .int (nI 1)), (0, .long (lN u))]) hx hb d_M_groups_1 rfl hl (by decide) rfl (fun ls hl => ?_)
  refine lv_lload_n hx hb d_M_groups_2 rfl (lv_at hl 1 rfl) ?_
  refine lv_bipush (v := 7) hx hb d_M_groups_3 (by decide) ?_
  refine lv_lushr hx hb d_M_groups_5 rfl ?_
  refine lv_topl (fun v5 ev5 => ?_)
  have ev5 : v5 = lN (u / 2 ^ (7 * 1)) := by rw [ev5]; exact wb_shr (k := 7) hu (by decide)
  subst ev5
  refine lv_lstore_n (lv' := [(3, .long (lN (u / 2 ^ (7 * 1)))), (2, .int (nI 1)), (0, .long (lN u))]) hx hb d_M_groups_6 rfl hl (by decide) rfl (fun ls hl => ?_)
  have loop : ∀ (k w : Nat), w + k = 11 → 1 ≤ w → w ≤ 10 → (∀ i, 1 ≤ i → i < w → 2 ^ (7 * i) ≤ u) → ∀ (ls : Array Slot), lv_has ls 5 [(2, .int (nI w)), (3, .long (lN (u / 2 ^ (7 * w)))), (0, .long (lN u))] → W p9 l e9 (headSpec w_M_groups ({ frames := 0, cells := 0, slots := 0, locals := 0 })).room s m [.long (lN u)].toArray below meth c9 s.heap [] 0 0 (MQ below (vp_Si (fun r => r = nI (sw u))) [.long (lN u)].toArray s 0 0 (fun _ => False)) (F0 m 7 ls []) := by
    intro k
    induction k with
    | zero =>
      intro w hk h1 h2 hw ls hl
      exact absurd hk (by omega)
    | succ k ih_loop =>
      intro w hk h1 h2 hw ls hl
      refine lv_lload_n hx hb d_M_groups_7 rfl (lv_at hl 1 rfl) ?_
      refine lv_lconst (v := 0) hx hb d_M_groups_8 (by decide) ?_
      refine W.lcmp hx hb d_M_groups_9 ?_
      refine lv_topi (fun v9 ev9 => ?_)
      refine lv_if_eq (tgt := 24) hx hb d_M_groups_10 (by decide) (fun c10 => ?_) (fun c10 => ?_)
      · have hlt : u < 2 ^ (7 * w) := (sw_z hu).mp (by rw [← ev9]; exact c10)
        refine lv_iload_n hx hb d_M_groups_24 rfl (lv_at hl 0 rfl) ?_
        exact W.iret (v := nI w) hx hb hr (fun t ht hW => ⟨_, rfl, (by rw [← sw_of h1 h2 (fun _ => hlt) hw]), ht⟩) (fun q h => by cases h) d_M_groups_25
      · have hge : ¬ u < 2 ^ (7 * w) := fun z => c10 (by rw [ev9]; exact (sw_z hu).mpr z)
        have hw10 : w < 10 := by
          rcases Nat.lt_or_ge w 10 with q9 | q9
          · exact q9
          · exact absurd (Nat.lt_of_lt_of_le hu (Nat.pow_le_pow_right (by decide) (show 64 ≤ 7 * w by omega))) hge
        obtain ⟨v13, ev13⟩ : ∃ y : Int32, y = nI w + 1 := ⟨_, rfl⟩
        refine lv_iinc (v := v13) (lv' := [(2, .int v13), (3, .long (lN (u / 2 ^ (7 * w)))), (0, .long (lN u))]) hx hb d_M_groups_13 hl (k := 0) rfl (by rw [ev13]; rfl) (by decide) rfl (fun ls hl => ?_)
        have ev13 : v13 = nI (w + 1) := by rw [ev13]; exact nI_1 w
        subst ev13
        refine lv_lload_n hx hb d_M_groups_16 rfl (lv_at hl 1 rfl) ?_
        refine lv_bipush (v := 7) hx hb d_M_groups_17 (by decide) ?_
        refine lv_lushr hx hb d_M_groups_19 rfl ?_
        refine lv_topl (fun v19 ev19 => ?_)
        have ev19 : v19 = lN (u / 2 ^ (7 * (w + 1))) := by rw [ev19]; exact (wb_shr (k := 7) (Nat.lt_of_le_of_lt (Nat.div_le_self _ _) hu) (by decide)).trans (by rw [Nat.div_div_eq_div_mul, ← Nat.pow_add, show 7 * (w + 1) = 7 * w + 7 by omega])
        subst ev19
        refine lv_lstore_n (lv' := [(3, .long (lN (u / 2 ^ (7 * (w + 1))))), (2, .int (nI (w + 1))), (0, .long (lN u))]) hx hb d_M_groups_20 rfl hl (by decide) rfl (fun ls hl => ?_)
        refine lv_goto (tgt := 7) hx hb d_M_groups_21 (by decide) ?_
        exact ih_loop (w + 1) (by omega) (by omega) (by omega) (sw_up hw hge) ls (lv_sub hl [1, 0, 2] rfl)
  exact loop 10 1 rfl (Nat.le_refl 1) (by omega) (fun i a b => absurd b (by omega)) ls (lv_sub hl [1, 0, 2] rfl)
set_option maxHeartbeats 600000 in
set_option maxRecDepth 100000 in
/-- folded -/
theorem c_M_folded (l : Launch) (v : Int64) : Met l y_M_folded w_M_folded ({ frames := 0, cells := 0, slots := 0, locals := 0 }) (va_Pc [.long v] (fun _ => True)) (vp_Sl (fun r => r = zz v)) 0 0 (fun _ => False) := by
  refine Met.ofW (cc := b_M_folded) (maxL := 2) (ret := (some .long)) (by decide) rfl ?_
  intro p9 e9 s m args below meth c9 s₁ BL hml hv
  obtain ⟨rfl, -⟩ := hv
  have hx := BL.exec
  have hb := BL.bytes
  have hr := BL.returns
  have hts := atoms_spec (ws := w_M_folded) BL.pre
  have hA : ∀ w ∈ wsA, w.before _ s = true := fun w h => hts w (List.mem_cons_of_mem _ h)
  have hown : s.vm.findClass R_M = some m.cls := findClass_of_methodNamed BL.named
  have hlocks := BL.notSynchronized
  have hl := lv_entry ([.long v]) (n := 2) (Nat.le_of_ble_eq_true rfl)
  rw [lg_entry_eq]
  generalize (lg_sl ([.long v]) ++ List.replicate (2 - (lg_sl ([.long v])).length) Slot.unset).toArray = ls at hl ⊢
  have hl : lv_has ls 2 [(0, .long v)] := hl
  refine lv_lload_n hx hb d_M_folded_0 rfl (lv_at hl 0 rfl) ?_
  refine lv_iconst (v := 1) hx hb d_M_folded_1 (by decide) ?_
  refine lv_lshl hx hb d_M_folded_2 rfl ?_
  refine lv_topl (fun v2 ev2 => ?_)
  refine lv_lload_n hx hb d_M_folded_3 rfl (lv_at hl 0 rfl) ?_
  refine lv_bipush (v := 63) hx hb d_M_folded_4 (by decide) ?_
  refine lv_lshr hx hb d_M_folded_6 rfl ?_
  refine lv_topl (fun v6 ev6 => ?_)
  refine lv_lxor hx hb d_M_folded_7 ?_
  refine lv_topl (fun v7 ev7 => ?_)
  exact W.lret (v := v7) hx hb hr (fun t ht hW => ⟨_, rfl, (by rw [ev7, ev2, ev6]; rfl), ht⟩) (fun q h => by cases h) d_M_folded_8
