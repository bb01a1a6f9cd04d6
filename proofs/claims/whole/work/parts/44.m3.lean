/-! THE REFERENCE: QUESTIONS -/
set_option maxHeartbeats 600000 in
set_option maxRecDepth 100000 in
/-- has -/
theorem c_M_has (l : Launch) (D : va_G) (cL cI : ClassId) (h cl sa pa M : Nat) (th tk : Int32) (σ : dkS) (k : Nat) (hk : k < 4) (hn : (σ k).2.1 ≤ 65536) (a m2 : Int32) : Met l y_M_has w_M_has ({ frames := 0, cells := 0, slots := 0, locals := 0 }) (va_Pc [.ref h, .int (nI k), .int a, .int m2] (ox D [(cL, .long), (cI, .int)] [(h, .inr (2, [.int th, .int (nI M), .ref cl, .ref sa, .ref pa, .int tk])), (cl, .inl (cL, 32768, .inr (.inl (pkF (σ))))), (sa, .inl (cI, 4, .inl (fun i9 => nI ((σ) i9).2.1))), (pa, .inl (cI, 4, .inl (fun i9 => nI ((σ) i9).2.2)))])) (vp_Si (fun r => (inr (σ k).2.1 a m2 ∧ r = 1) ∨ (¬ (inr (σ k).2.1 a m2) ∧ r = 0))) 0 0 (fun _ => False) := by
  refine Met.ofW (cc := b_M_has) (maxL := 4) (ret := (some .boolean)) (by decide) rfl ?_
  intro p9 e9 s m args below meth c9 s₁ BL hml hv
  obtain ⟨rfl, hP, hK⟩ := hv
  have hx := BL.exec
  have hb := BL.bytes
  have hr := BL.returns
  have hts := atoms_spec (ws := w_M_has) BL.pre
  have hA : ∀ w ∈ wsA, w.before _ s = true := fun w h => hts w (List.mem_cons_of_mem _ h)
  have hown : s.vm.findClass R_M = some m.cls := findClass_of_methodNamed BL.named
  have hlocks := BL.notSynchronized
  have hP : va_P D vCl [(h, .inr (2, [.int th, .int (nI M), .ref cl, .ref sa, .ref pa, .int tk])), (cl, .inl (cL, 32768, .inr (.inl (pkF (σ))))), (sa, .inl (cI, 4, .inl (fun i9 => nI ((σ) i9).2.1))), (pa, .inl (cI, 4, .inl (fun i9 => nI ((σ) i9).2.2)))] s.heap := hP
  have hl := lv_entry ([.ref h, .int (nI k), .int a, .int m2]) (n := 4) (Nat.le_of_ble_eq_true rfl)
  rw [lg_entry_eq]
  generalize (lg_sl ([.ref h, .int (nI k), .int a, .int m2]) ++ List.replicate (4 - (lg_sl ([.ref h, .int (nI k), .int a, .int m2])).length) Slot.unset).toArray = ls at hl ⊢
  have hl : lv_has ls 4 [(0, .ref h), (1, .int (nI k)), (2, .int a), (3, .int m2)] := hl
  refine lv_iload_n hx hb d_M_has_0 rfl (lv_at hl 2 rfl) ?_
  refine lv_if_lt (tgt := 34) hx hb d_M_has_1 (by decide) (fun c1 => ?_) (fun c1 => ?_)
  · refine lv_iconst (v := 0) hx hb d_M_has_34 (by decide) ?_
    have hni : (nI (σ k).2.1).toInt = (((σ k).2.1 : Nat) : Int) := nI_toInt (by omega)
    simp only [Int32.lt_iff_toInt_lt, Int32.le_iff_toInt_le, li_0, li_1, li_2, li_3, li_4, li_8, li_10, li_16, li_63, li_127, li_128, li_191, li_192, li_194, li_224, li_240, li_244, li_255, li_2048, li_55296, li_57343, li_65536, li_1114111, li_m1, li_m2] at *
    have hP9 : ¬ (inr (σ k).2.1 a m2) := by unfold inr; omega
    exact W.zret (v := 0) (ty := .boolean) hx hb hr (by decide) (fun t ht hW => ⟨_, rfl, (Or.inr ⟨hP9, rfl⟩), ht⟩) (fun q h => by cases h) d_M_has_35
  · refine lv_iload_n hx hb d_M_has_4 rfl (lv_at hl 3 rfl) ?_
    refine lv_if_lt (tgt := 34) hx hb d_M_has_5 (by decide) (fun c5 => ?_) (fun c5 => ?_)
    · refine lv_iconst (v := 0) hx hb d_M_has_34 (by decide) ?_
      have hni : (nI (σ k).2.1).toInt = (((σ k).2.1 : Nat) : Int) := nI_toInt (by omega)
      simp only [Int32.lt_iff_toInt_lt, Int32.le_iff_toInt_le, li_0, li_1, li_2, li_3, li_4, li_8, li_10, li_16, li_63, li_127, li_128, li_191, li_192, li_194, li_224, li_240, li_244, li_255, li_2048, li_55296, li_57343, li_65536, li_1114111, li_m1, li_m2] at *
      have hP9 : ¬ (inr (σ k).2.1 a m2) := by unfold inr; omega
      exact W.zret (v := 0) (ty := .boolean) hx hb hr (by decide) (fun t ht hW => ⟨_, rfl, (Or.inr ⟨hP9, rfl⟩), ht⟩) (fun q h => by cases h) d_M_has_35
    · refine lv_iload_n hx hb d_M_has_8 rfl (lv_at hl 2 rfl) ?_
      refine lv_aload_n hx hb d_M_has_9 rfl (lv_at hl 0 rfl) ?_
      refine va_get (D := D) (ci := 2) (v := .ref sa) (C := R_M) (T := F_M) (N := 6) hx hb hA i_M hown hK hP 0 rfl rfl 3 (by decide) (hA _ k2_215) (fun _ h9 => h9) rfl d_M_has_10 ?_
      refine lv_iload_n hx hb d_M_has_13 rfl (lv_at hl 1 rfl) ?_
      refine va_iald hx hb hK hP 2 1 rfl rfl (vp_in_nI hk (by decide)) d_M_has_14 ?_
      refine lv_topi (fun v14 ev14 => ?_)
      have ev14 : v14 = nI (σ k).2.1 := by rw [ev14]; show nI ((σ) (nI k).toNatClampNeg).2.1 = _; rw [nI_clamp (by omega)]
      subst ev14
      refine lv_icmp_gt (tgt := 34) hx hb d_M_has_15 (by decide) (fun c15 => ?_) (fun c15 => ?_)
      · refine lv_iconst (v := 0) hx hb d_M_has_34 (by decide) ?_
        have hni : (nI (σ k).2.1).toInt = (((σ k).2.1 : Nat) : Int) := nI_toInt (by omega)
        simp only [Int32.lt_iff_toInt_lt, Int32.le_iff_toInt_le, li_0, li_1, li_2, li_3, li_4, li_8, li_10, li_16, li_63, li_127, li_128, li_191, li_192, li_194, li_224, li_240, li_244, li_255, li_2048, li_55296, li_57343, li_65536, li_1114111, li_m1, li_m2] at *
        have hP9 : ¬ (inr (σ k).2.1 a m2) := by unfold inr; omega
        exact W.zret (v := 0) (ty := .boolean) hx hb hr (by decide) (fun t ht hW => ⟨_, rfl, (Or.inr ⟨hP9, rfl⟩), ht⟩) (fun q h => by cases h) d_M_has_35
      · obtain ⟨j, hj2, rfl⟩ := nI_of c1
        have hji : (nI j).toInt = (j : Int) := nI_toInt (by omega)
        have hjn : j ≤ (σ k).2.1 := by have := mt (nI_ltI (a := (σ k).2.1) (b := j) (by omega) (by omega)).mpr c15; omega
        have hdi : (nI ((σ k).2.1 - j)).toInt = (((σ k).2.1 - j : Nat) : Int) := nI_toInt (by omega)
        refine lv_iload_n hx hb d_M_has_18 rfl (lv_at hl 3 rfl) ?_
        refine lv_aload_n hx hb d_M_has_19 rfl (lv_at hl 0 rfl) ?_
        refine va_get (D := D) (ci := 2) (v := .ref sa) (C := R_M) (T := F_M) (N := 6) hx hb hA i_M hown hK hP 0 rfl rfl 3 (by decide) (hA _ k2_215) (fun _ h9 => h9) rfl d_M_has_20 ?_
        refine lv_iload_n hx hb d_M_has_23 rfl (lv_at hl 1 rfl) ?_
        refine va_iald hx hb hK hP 2 1 rfl rfl (vp_in_nI hk (by decide)) d_M_has_24 ?_
        refine lv_topi (fun v24 ev24 => ?_)
        have ev24 : v24 = nI (σ k).2.1 := by rw [ev24]; show nI ((σ) (nI k).toNatClampNeg).2.1 = _; rw [nI_clamp (by omega)]
        subst ev24
        refine lv_iload_n hx hb d_M_has_25 rfl (lv_at hl 2 rfl) ?_
        refine lv_isub hx hb d_M_has_26 ?_
        refine lv_topi (fun v26 ev26 => ?_)
        have ev26 : v26 = nI ((σ k).2.1 - j) := by rw [ev26]; exact pk_sub hjn
        subst ev26
        refine lv_icmp_gt (tgt := 34) hx hb d_M_has_27 (by decide) (fun c27 => ?_) (fun c27 => ?_)
        · refine lv_iconst (v := 0) hx hb d_M_has_34 (by decide) ?_
          have hni : (nI (σ k).2.1).toInt = (((σ k).2.1 : Nat) : Int) := nI_toInt (by omega)
          simp only [Int32.lt_iff_toInt_lt, Int32.le_iff_toInt_le, li_0, li_1, li_2, li_3, li_4, li_8, li_10, li_16, li_63, li_127, li_128, li_191, li_192, li_194, li_224, li_240, li_244, li_255, li_2048, li_55296, li_57343, li_65536, li_1114111, li_m1, li_m2] at *
          have hP9 : ¬ (inr (σ k).2.1 (nI j) m2) := by unfold inr; omega
          exact W.zret (v := 0) (ty := .boolean) hx hb hr (by decide) (fun t ht hW => ⟨_, rfl, (Or.inr ⟨hP9, rfl⟩), ht⟩) (fun q h => by cases h) d_M_has_35
        · refine lv_iconst (v := 1) hx hb d_M_has_30 (by decide) ?_
          refine lv_goto (tgt := 35) hx hb d_M_has_31 (by decide) ?_
          have hni : (nI (σ k).2.1).toInt = (((σ k).2.1 : Nat) : Int) := nI_toInt (by omega)
          simp only [Int32.lt_iff_toInt_lt, Int32.le_iff_toInt_le, li_0, li_1, li_2, li_3, li_4, li_8, li_10, li_16, li_63, li_127, li_128, li_191, li_192, li_194, li_224, li_240, li_244, li_255, li_2048, li_55296, li_57343, li_65536, li_1114111, li_m1, li_m2] at *
          have hP9 : inr (σ k).2.1 (nI j) m2 := by unfold inr; omega
          exact W.zret (v := 1) (ty := .boolean) hx hb hr (by decide) (fun t ht hW => ⟨_, rfl, (Or.inl ⟨hP9, rfl⟩), ht⟩) (fun q h => by cases h) d_M_has_35
set_option maxHeartbeats 600000 in
set_option maxRecDepth 100000 in
/-- isLetter -/
theorem c_M_isLetter (l : Launch) (x : Int32) : Met l y_M_isLetter w_M_isLetter ({ frames := 0, cells := 0, slots := 0, locals := 0 }) (va_Pc [.int x] (fun _ => True)) (vp_Si (fun r => (¬ lwI x.toInt = 0 ∧ r = 1) ∨ (¬ (¬ lwI x.toInt = 0) ∧ r = 0))) 0 0 (fun _ => False) := by
  refine Met.ofW (cc := b_M_isLetter) (maxL := 1) (ret := (some .boolean)) (by decide) rfl ?_
  intro p9 e9 s m args below meth c9 s₁ BL hml hv
  obtain ⟨rfl, -⟩ := hv
  have hx := BL.exec
  have hb := BL.bytes
  have hr := BL.returns
  have hts := atoms_spec (ws := w_M_isLetter) BL.pre
  have hA : ∀ w ∈ wsA, w.before _ s = true := fun w h => hts w (List.mem_cons_of_mem _ h)
  have hown : s.vm.findClass R_M = some m.cls := findClass_of_methodNamed BL.named
  have hlocks := BL.notSynchronized
  have hl := lv_entry ([.int x]) (n := 1) (Nat.le_of_ble_eq_true rfl)
  rw [lg_entry_eq]
  generalize (lg_sl ([.int x]) ++ List.replicate (1 - (lg_sl ([.int x])).length) Slot.unset).toArray = ls at hl ⊢
  have hl : lv_has ls 1 [(0, .int x)] := hl
  refine lv_iload_n hx hb d_M_isLetter_0 rfl (lv_at hl 0 rfl) ?_
  refine lv_if_lt (tgt := 26) hx hb d_M_isLetter_1 (by decide) (fun c1 => ?_) (fun c1 => ?_)
  · refine lv_iconst (v := 0) hx hb d_M_isLetter_26 (by decide) ?_
    simp only [Int32.lt_iff_toInt_lt, Int32.le_iff_toInt_le, li_0, li_1, li_2, li_3, li_4, li_8, li_10, li_16, li_63, li_127, li_128, li_191, li_192, li_194, li_224, li_240, li_244, li_255, li_2048, li_55296, li_57343, li_65536, li_1114111, li_m1, li_m2] at *
    have hP9 : ¬ (¬ lwI x.toInt = 0) := by unfold lwI; (repeat' split) <;> omega
    exact W.zret (v := 0) (ty := .boolean) hx hb hr (by decide) (fun t ht hW => ⟨_, rfl, (Or.inr ⟨hP9, rfl⟩), ht⟩) (fun q h => by cases h) d_M_isLetter_27
  · refine lv_iload_n hx hb d_M_isLetter_4 rfl (lv_at hl 0 rfl) ?_
    refine lv_ldc (v := 1114111) hx hb hown (hA _ k3_52) d_M_isLetter_5 ?_
    refine lv_icmp_gt (tgt := 26) hx hb d_M_isLetter_7 (by decide) (fun c7 => ?_) (fun c7 => ?_)
    · refine lv_iconst (v := 0) hx hb d_M_isLetter_26 (by decide) ?_
      simp only [Int32.lt_iff_toInt_lt, Int32.le_iff_toInt_le, li_0, li_1, li_2, li_3, li_4, li_8, li_10, li_16, li_63, li_127, li_128, li_191, li_192, li_194, li_224, li_240, li_244, li_255, li_2048, li_55296, li_57343, li_65536, li_1114111, li_m1, li_m2] at *
      have hP9 : ¬ (¬ lwI x.toInt = 0) := by unfold lwI; (repeat' split) <;> omega
      exact W.zret (v := 0) (ty := .boolean) hx hb hr (by decide) (fun t ht hW => ⟨_, rfl, (Or.inr ⟨hP9, rfl⟩), ht⟩) (fun q h => by cases h) d_M_isLetter_27
    · refine lv_iload_n hx hb d_M_isLetter_10 rfl (lv_at hl 0 rfl) ?_
      refine lv_ldc (v := 55296) hx hb hown (hA _ k3_53) d_M_isLetter_11 ?_
      refine lv_icmp_lt (tgt := 22) hx hb d_M_isLetter_13 (by decide) (fun c13 => ?_) (fun c13 => ?_)
      · refine lv_iconst (v := 1) hx hb d_M_isLetter_22 (by decide) ?_
        refine lv_goto (tgt := 27) hx hb d_M_isLetter_23 (by decide) ?_
        simp only [Int32.lt_iff_toInt_lt, Int32.le_iff_toInt_le, li_0, li_1, li_2, li_3, li_4, li_8, li_10, li_16, li_63, li_127, li_128, li_191, li_192, li_194, li_224, li_240, li_244, li_255, li_2048, li_55296, li_57343, li_65536, li_1114111, li_m1, li_m2] at *
        have hP9 : ¬ lwI x.toInt = 0 := by unfold lwI; (repeat' split) <;> omega
        exact W.zret (v := 1) (ty := .boolean) hx hb hr (by decide) (fun t ht hW => ⟨_, rfl, (Or.inl ⟨hP9, rfl⟩), ht⟩) (fun q h => by cases h) d_M_isLetter_27
      · refine lv_iload_n hx hb d_M_isLetter_16 rfl (lv_at hl 0 rfl) ?_
        refine lv_ldc (v := 57343) hx hb hown (hA _ k3_54) d_M_isLetter_17 ?_
        refine lv_icmp_le (tgt := 26) hx hb d_M_isLetter_19 (by decide) (fun c19 => ?_) (fun c19 => ?_)
        · refine lv_iconst (v := 0) hx hb d_M_isLetter_26 (by decide) ?_
          simp only [Int32.lt_iff_toInt_lt, Int32.le_iff_toInt_le, li_0, li_1, li_2, li_3, li_4, li_8, li_10, li_16, li_63, li_127, li_128, li_191, li_192, li_194, li_224, li_240, li_244, li_255, li_2048, li_55296, li_57343, li_65536, li_1114111, li_m1, li_m2] at *
          have hP9 : ¬ (¬ lwI x.toInt = 0) := by unfold lwI; (repeat' split) <;> omega
          exact W.zret (v := 0) (ty := .boolean) hx hb hr (by decide) (fun t ht hW => ⟨_, rfl, (Or.inr ⟨hP9, rfl⟩), ht⟩) (fun q h => by cases h) d_M_isLetter_27
        · refine lv_iconst (v := 1) hx hb d_M_isLetter_22 (by decide) ?_
          refine lv_goto (tgt := 27) hx hb d_M_isLetter_23 (by decide) ?_
          simp only [Int32.lt_iff_toInt_lt, Int32.le_iff_toInt_le, li_0, li_1, li_2, li_3, li_4, li_8, li_10, li_16, li_63, li_127, li_128, li_191, li_192, li_194, li_224, li_240, li_244, li_255, li_2048, li_55296, li_57343, li_65536, li_1114111, li_m1, li_m2] at *
          have hP9 : ¬ lwI x.toInt = 0 := by unfold lwI; (repeat' split) <;> omega
          exact W.zret (v := 1) (ty := .boolean) hx hb hr (by decide) (fun t ht hW => ⟨_, rfl, (Or.inl ⟨hP9, rfl⟩), ht⟩) (fun q h => by cases h) d_M_isLetter_27
set_option maxHeartbeats 600000 in
set_option maxRecDepth 100000 in
/-- lengthOf -/
theorem c_M_lengthOf (l : Launch) (x : Int32) (hx0 : ¬ lwI x.toInt = 0) : Met l y_M_lengthOf w_M_lengthOf ({ frames := 0, cells := 0, slots := 0, locals := 0 }) (va_Pc [.int x] (fun _ => True)) (vp_Si (fun r => r = nI (lwI x.toInt))) 0 0 (fun _ => False) := by
  refine Met.ofW (cc := b_M_lengthOf) (maxL := 1) (ret := (some .int)) (by decide) rfl ?_
  intro p9 e9 s m args below meth c9 s₁ BL hml hv
  obtain ⟨rfl, -⟩ := hv
  have hx := BL.exec
  have hb := BL.bytes
  have hr := BL.returns
  have hts := atoms_spec (ws := w_M_lengthOf) BL.pre
  have hA : ∀ w ∈ wsA, w.before _ s = true := fun w h => hts w (List.mem_cons_of_mem _ h)
  have hown : s.vm.findClass R_M = some m.cls := findClass_of_methodNamed BL.named
  have hlocks := BL.notSynchronized
  have hl := lv_entry ([.int x]) (n := 1) (Nat.le_of_ble_eq_true rfl)
  rw [lg_entry_eq]
  generalize (lg_sl ([.int x]) ++ List.replicate (1 - (lg_sl ([.int x])).length) Slot.unset).toArray = ls at hl ⊢
  have hl : lv_has ls 1 [(0, .int x)] := hl
  refine lv_iload_n hx hb d_M_lengthOf_0 rfl (lv_at hl 0 rfl) ?_
  refine lv_sipush (v := 128) hx hb d_M_lengthOf_1 (by decide) ?_
  refine lv_icmp_ge (tgt := 11) hx hb d_M_lengthOf_4 (by decide) (fun c4 => ?_) (fun c4 => ?_)
  · refine lv_iload_n hx hb d_M_lengthOf_11 rfl (lv_at hl 0 rfl) ?_
    refine lv_sipush (v := 2048) hx hb d_M_lengthOf_12 (by decide) ?_
    refine lv_icmp_ge (tgt := 22) hx hb d_M_lengthOf_15 (by decide) (fun c15 => ?_) (fun c15 => ?_)
    · refine lv_iload_n hx hb d_M_lengthOf_22 rfl (lv_at hl 0 rfl) ?_
      refine lv_ldc (v := 65536) hx hb hown (hA _ k2_211) d_M_lengthOf_23 ?_
      refine lv_icmp_ge (tgt := 32) hx hb d_M_lengthOf_25 (by decide) (fun c25 => ?_) (fun c25 => ?_)
      · refine lv_iconst (v := 4) hx hb d_M_lengthOf_32 (by decide) ?_
        simp only [Int32.lt_iff_toInt_lt, Int32.le_iff_toInt_le, li_0, li_1, li_2, li_3, li_4, li_8, li_10, li_16, li_63, li_127, li_128, li_191, li_192, li_194, li_224, li_240, li_244, li_255, li_2048, li_55296, li_57343, li_65536, li_1114111, li_m1, li_m2] at *
        have hz : lwI x.toInt = 4 := by revert hx0; unfold lwI; (repeat' split) <;> omega
        exact W.iret (v := 4) hx hb hr (fun t ht hW => ⟨_, rfl, (by rw [hz]; rfl), ht⟩) (fun q h => by cases h) d_M_lengthOf_33
      · refine lv_iconst (v := 3) hx hb d_M_lengthOf_28 (by decide) ?_
        refine lv_goto (tgt := 33) hx hb d_M_lengthOf_29 (by decide) ?_
        simp only [Int32.lt_iff_toInt_lt, Int32.le_iff_toInt_le, li_0, li_1, li_2, li_3, li_4, li_8, li_10, li_16, li_63, li_127, li_128, li_191, li_192, li_194, li_224, li_240, li_244, li_255, li_2048, li_55296, li_57343, li_65536, li_1114111, li_m1, li_m2] at *
        have hz : lwI x.toInt = 3 := by revert hx0; unfold lwI; (repeat' split) <;> omega
        exact W.iret (v := 3) hx hb hr (fun t ht hW => ⟨_, rfl, (by rw [hz]; rfl), ht⟩) (fun q h => by cases h) d_M_lengthOf_33
    · refine lv_iconst (v := 2) hx hb d_M_lengthOf_18 (by decide) ?_
      refine lv_goto (tgt := 33) hx hb d_M_lengthOf_19 (by decide) ?_
      simp only [Int32.lt_iff_toInt_lt, Int32.le_iff_toInt_le, li_0, li_1, li_2, li_3, li_4, li_8, li_10, li_16, li_63, li_127, li_128, li_191, li_192, li_194, li_224, li_240, li_244, li_255, li_2048, li_55296, li_57343, li_65536, li_1114111, li_m1, li_m2] at *
      have hz : lwI x.toInt = 2 := by revert hx0; unfold lwI; (repeat' split) <;> omega
      exact W.iret (v := 2) hx hb hr (fun t ht hW => ⟨_, rfl, (by rw [hz]; rfl), ht⟩) (fun q h => by cases h) d_M_lengthOf_33
  · refine lv_iconst (v := 1) hx hb d_M_lengthOf_7 (by decide) ?_
    refine lv_goto (tgt := 33) hx hb d_M_lengthOf_8 (by decide) ?_
    simp only [Int32.lt_iff_toInt_lt, Int32.le_iff_toInt_le, li_0, li_1, li_2, li_3, li_4, li_8, li_10, li_16, li_63, li_127, li_128, li_191, li_192, li_194, li_224, li_240, li_244, li_255, li_2048, li_55296, li_57343, li_65536, li_1114111, li_m1, li_m2] at *
    have hz : lwI x.toInt = 1 := by revert hx0; unfold lwI; (repeat' split) <;> omega
    exact W.iret (v := 1) hx hb hr (fun t ht hW => ⟨_, rfl, (by rw [hz]; rfl), ht⟩) (fun q h => by cases h) d_M_lengthOf_33
def cbP (w lo hi : Nat) : Prop := w = 1 ∨ (w = 2 ∧ 128 ≤ hi) ∨ (w = 3 ∧ 2048 ≤ hi ∧ (lo < 55296 ∨ 57343 < hi)) ∨ (w = 4 ∧ 65536 ≤ hi ∧ lo ≤ 1114111)
set_option maxHeartbeats 600000 in
set_option maxRecDepth 100000 in
/-- canBe -/
theorem c_M_canBe (l : Launch) (w lo hi : Nat) (hw : 1 ≤ w ∧ w ≤ 4) (hlo : lo < 2 ^ 31) (hhi : hi < 2 ^ 31) : Met l y_M_canBe w_M_canBe ({ frames := 0, cells := 0, slots := 0, locals := 0 }) (va_Pc [.int (nI w), .int (nI lo), .int (nI hi)] (fun _ => True)) (vp_Si (fun r => (cbP w lo hi ∧ r = 1) ∨ (¬ (cbP w lo hi) ∧ r = 0))) 0 0 (fun _ => False) := by
  refine Met.ofW (cc := b_M_canBe) (maxL := 3) (ret := (some .boolean)) (by decide) rfl ?_
  intro p9 e9 s m args below meth c9 s₁ BL hml hv
  obtain ⟨rfl, -⟩ := hv
  have hx := BL.exec
  have hb := BL.bytes
  have hr := BL.returns
  have hts := atoms_spec (ws := w_M_canBe) BL.pre
  have hA : ∀ w ∈ wsA, w.before _ s = true := fun w h => hts w (List.mem_cons_of_mem _ h)
  have hown : s.vm.findClass R_M = some m.cls := findClass_of_methodNamed BL.named
  have hlocks := BL.notSynchronized
  have hl := lv_entry ([.int (nI w), .int (nI lo), .int (nI hi)]) (n := 3) (Nat.le_of_ble_eq_true rfl)
  rw [lg_entry_eq]
  generalize (lg_sl ([.int (nI w), .int (nI lo), .int (nI hi)]) ++ List.replicate (3 - (lg_sl ([.int (nI w), .int (nI lo), .int (nI hi)])).length) Slot.unset).toArray = ls at hl ⊢
  have hl : lv_has ls 3 [(0, .int (nI w)), (1, .int (nI lo)), (2, .int (nI hi))] := hl
  refine lv_iload_n hx hb d_M_canBe_0 rfl (lv_at hl 0 rfl) ?_
  refine lv_iconst (v := 1) hx hb d_M_canBe_1 (by decide) ?_
  refine lv_icmp_ne (tgt := 7) hx hb d_M_canBe_2 (by decide) (fun c2 => ?_) (fun c2 => ?_)
  · refine lv_iload_n hx hb d_M_canBe_7 rfl (lv_at hl 0 rfl) ?_
    refine lv_iconst (v := 2) hx hb d_M_canBe_8 (by decide) ?_
    refine lv_icmp_ne (tgt := 25) hx hb d_M_canBe_9 (by decide) (fun c9 => ?_) (fun c9 => ?_)
    · refine lv_iload_n hx hb d_M_canBe_25 rfl (lv_at hl 0 rfl) ?_
      refine lv_iconst (v := 3) hx hb d_M_canBe_26 (by decide) ?_
      refine lv_icmp_ne (tgt := 55) hx hb d_M_canBe_27 (by decide) (fun c27 => ?_) (fun c27 => ?_)
      · refine lv_iload_n hx hb d_M_canBe_55 rfl (lv_at hl 2 rfl) ?_
        refine lv_ldc (v := 65536) hx hb hown (hA _ k2_211) d_M_canBe_56 ?_
        refine lv_icmp_lt (tgt := 71) hx hb d_M_canBe_58 (by decide) (fun c58 => ?_) (fun c58 => ?_)
        · refine lv_iconst (v := 0) hx hb d_M_canBe_71 (by decide) ?_
          have hi_w : (nI w).toInt = (w : Int) := nI_toInt (by omega)
          have hi_lo : (nI lo).toInt = (lo : Int) := nI_toInt (by omega)
          have hi_hi : (nI hi).toInt = (hi : Int) := nI_toInt (by omega)
          have e_1 : nI w = 1 ↔ w = 1 := nI_eq (b := 1) (by omega) (by omega)
          have e_2 : nI w = 2 ↔ w = 2 := nI_eq (b := 2) (by omega) (by omega)
          have e_3 : nI w = 3 ↔ w = 3 := nI_eq (b := 3) (by omega) (by omega)
          try simp only [Int32.lt_iff_toInt_lt, Int32.le_iff_toInt_le, li_0, li_1, li_2, li_3, li_4, li_8, li_10, li_16, li_63, li_127, li_128, li_191, li_192, li_194, li_224, li_240, li_244, li_255, li_2048, li_55296, li_57343, li_65536, li_1114111, li_m1, li_m2] at *
          try rw [e_1] at c2
          try rw [e_2] at c9
          try rw [e_3] at c27
          have hP9 : ¬ (cbP w lo hi) := by unfold cbP; omega
          exact W.zret (v := 0) (ty := .boolean) hx hb hr (by decide) (fun t ht hW => ⟨_, rfl, (Or.inr ⟨hP9, rfl⟩), ht⟩) (fun q h => by cases h) d_M_canBe_72
        · refine lv_iload_n hx hb d_M_canBe_61 rfl (lv_at hl 1 rfl) ?_
          refine lv_ldc (v := 1114111) hx hb hown (hA _ k3_52) d_M_canBe_62 ?_
          refine lv_icmp_gt (tgt := 71) hx hb d_M_canBe_64 (by decide) (fun c64 => ?_) (fun c64 => ?_)
          · refine lv_iconst (v := 0) hx hb d_M_canBe_71 (by decide) ?_
            have hi_w : (nI w).toInt = (w : Int) := nI_toInt (by omega)
            have hi_lo : (nI lo).toInt = (lo : Int) := nI_toInt (by omega)
            have hi_hi : (nI hi).toInt = (hi : Int) := nI_toInt (by omega)
            have e_1 : nI w = 1 ↔ w = 1 := nI_eq (b := 1) (by omega) (by omega)
            have e_2 : nI w = 2 ↔ w = 2 := nI_eq (b := 2) (by omega) (by omega)
            have e_3 : nI w = 3 ↔ w = 3 := nI_eq (b := 3) (by omega) (by omega)
            try simp only [Int32.lt_iff_toInt_lt, Int32.le_iff_toInt_le, li_0, li_1, li_2, li_3, li_4, li_8, li_10, li_16, li_63, li_127, li_128, li_191, li_192, li_194, li_224, li_240, li_244, li_255, li_2048, li_55296, li_57343, li_65536, li_1114111, li_m1, li_m2] at *
            try rw [e_1] at c2
            try rw [e_2] at c9
            try rw [e_3] at c27
            have hP9 : ¬ (cbP w lo hi) := by unfold cbP; omega
            exact W.zret (v := 0) (ty := .boolean) hx hb hr (by decide) (fun t ht hW => ⟨_, rfl, (Or.inr ⟨hP9, rfl⟩), ht⟩) (fun q h => by cases h) d_M_canBe_72
          · refine lv_iconst (v := 1) hx hb d_M_canBe_67 (by decide) ?_
            refine lv_goto (tgt := 72) hx hb d_M_canBe_68 (by decide) ?_
            have hi_w : (nI w).toInt = (w : Int) := nI_toInt (by omega)
            have hi_lo : (nI lo).toInt = (lo : Int) := nI_toInt (by omega)
            have hi_hi : (nI hi).toInt = (hi : Int) := nI_toInt (by omega)
            have e_1 : nI w = 1 ↔ w = 1 := nI_eq (b := 1) (by omega) (by omega)
            have e_2 : nI w = 2 ↔ w = 2 := nI_eq (b := 2) (by omega) (by omega)
            have e_3 : nI w = 3 ↔ w = 3 := nI_eq (b := 3) (by omega) (by omega)
            try simp only [Int32.lt_iff_toInt_lt, Int32.le_iff_toInt_le, li_0, li_1, li_2, li_3, li_4, li_8, li_10, li_16, li_63, li_127, li_128, li_191, li_192, li_194, li_224, li_240, li_244, li_255, li_2048, li_55296, li_57343, li_65536, li_1114111, li_m1, li_m2] at *
            try rw [e_1] at c2
            try rw [e_2] at c9
            try rw [e_3] at c27
            have hP9 : cbP w lo hi := by unfold cbP; omega
            exact W.zret (v := 1) (ty := .boolean) hx hb hr (by decide) (fun t ht hW => ⟨_, rfl, (Or.inl ⟨hP9, rfl⟩), ht⟩) (fun q h => by cases h) d_M_canBe_72
      · refine lv_iload_n hx hb d_M_canBe_30 rfl (lv_at hl 2 rfl) ?_
        refine lv_sipush (v := 2048) hx hb d_M_canBe_31 (by decide) ?_
        refine lv_icmp_lt (tgt := 53) hx hb d_M_canBe_34 (by decide) (fun c34 => ?_) (fun c34 => ?_)
        · refine lv_iconst (v := 0) hx hb d_M_canBe_53 (by decide) ?_
          have hi_w : (nI w).toInt = (w : Int) := nI_toInt (by omega)
          have hi_lo : (nI lo).toInt = (lo : Int) := nI_toInt (by omega)
          have hi_hi : (nI hi).toInt = (hi : Int) := nI_toInt (by omega)
          have e_1 : nI w = 1 ↔ w = 1 := nI_eq (b := 1) (by omega) (by omega)
          have e_2 : nI w = 2 ↔ w = 2 := nI_eq (b := 2) (by omega) (by omega)
          have e_3 : nI w = 3 ↔ w = 3 := nI_eq (b := 3) (by omega) (by omega)
          try simp only [Int32.lt_iff_toInt_lt, Int32.le_iff_toInt_le, li_0, li_1, li_2, li_3, li_4, li_8, li_10, li_16, li_63, li_127, li_128, li_191, li_192, li_194, li_224, li_240, li_244, li_255, li_2048, li_55296, li_57343, li_65536, li_1114111, li_m1, li_m2] at *
          try rw [e_1] at c2
          try rw [e_2] at c9
          try rw [e_3] at c27
          have hP9 : ¬ (cbP w lo hi) := by unfold cbP; omega
          exact W.zret (v := 0) (ty := .boolean) hx hb hr (by decide) (fun t ht hW => ⟨_, rfl, (Or.inr ⟨hP9, rfl⟩), ht⟩) (fun q h => by cases h) d_M_canBe_54
        · refine lv_iload_n hx hb d_M_canBe_37 rfl (lv_at hl 1 rfl) ?_
          refine lv_ldc (v := 55296) hx hb hown (hA _ k3_53) d_M_canBe_38 ?_
          refine lv_icmp_lt (tgt := 49) hx hb d_M_canBe_40 (by decide) (fun c40 => ?_) (fun c40 => ?_)
          · refine lv_iconst (v := 1) hx hb d_M_canBe_49 (by decide) ?_
            refine lv_goto (tgt := 54) hx hb d_M_canBe_50 (by decide) ?_
            have hi_w : (nI w).toInt = (w : Int) := nI_toInt (by omega)
            have hi_lo : (nI lo).toInt = (lo : Int) := nI_toInt (by omega)
            have hi_hi : (nI hi).toInt = (hi : Int) := nI_toInt (by omega)
            have e_1 : nI w = 1 ↔ w = 1 := nI_eq (b := 1) (by omega) (by omega)
            have e_2 : nI w = 2 ↔ w = 2 := nI_eq (b := 2) (by omega) (by omega)
            have e_3 : nI w = 3 ↔ w = 3 := nI_eq (b := 3) (by omega) (by omega)
            try simp only [Int32.lt_iff_toInt_lt, Int32.le_iff_toInt_le, li_0, li_1, li_2, li_3, li_4, li_8, li_10, li_16, li_63, li_127, li_128, li_191, li_192, li_194, li_224, li_240, li_244, li_255, li_2048, li_55296, li_57343, li_65536, li_1114111, li_m1, li_m2] at *
            try rw [e_1] at c2
            try rw [e_2] at c9
            try rw [e_3] at c27
            have hP9 : cbP w lo hi := by unfold cbP; omega
            exact W.zret (v := 1) (ty := .boolean) hx hb hr (by decide) (fun t ht hW => ⟨_, rfl, (Or.inl ⟨hP9, rfl⟩), ht⟩) (fun q h => by cases h) d_M_canBe_54
          · refine lv_iload_n hx hb d_M_canBe_43 rfl (lv_at hl 2 rfl) ?_
            refine lv_ldc (v := 57343) hx hb hown (hA _ k3_54) d_M_canBe_44 ?_
            refine lv_icmp_le (tgt := 53) hx hb d_M_canBe_46 (by decide) (fun c46 => ?_) (fun c46 => ?_)
            · refine lv_iconst (v := 0) hx hb d_M_canBe_53 (by decide) ?_
              have hi_w : (nI w).toInt = (w : Int) := nI_toInt (by omega)
              have hi_lo : (nI lo).toInt = (lo : Int) := nI_toInt (by omega)
              have hi_hi : (nI hi).toInt = (hi : Int) := nI_toInt (by omega)
              have e_1 : nI w = 1 ↔ w = 1 := nI_eq (b := 1) (by omega) (by omega)
              have e_2 : nI w = 2 ↔ w = 2 := nI_eq (b := 2) (by omega) (by omega)
              have e_3 : nI w = 3 ↔ w = 3 := nI_eq (b := 3) (by omega) (by omega)
              try simp only [Int32.lt_iff_toInt_lt, Int32.le_iff_toInt_le, li_0, li_1, li_2, li_3, li_4, li_8, li_10, li_16, li_63, li_127, li_128, li_191, li_192, li_194, li_224, li_240, li_244, li_255, li_2048, li_55296, li_57343, li_65536, li_1114111, li_m1, li_m2] at *
              try rw [e_1] at c2
              try rw [e_2] at c9
              try rw [e_3] at c27
              have hP9 : ¬ (cbP w lo hi) := by unfold cbP; omega
              exact W.zret (v := 0) (ty := .boolean) hx hb hr (by decide) (fun t ht hW => ⟨_, rfl, (Or.inr ⟨hP9, rfl⟩), ht⟩) (fun q h => by cases h) d_M_canBe_54
            · refine lv_iconst (v := 1) hx hb d_M_canBe_49 (by decide) ?_
              refine lv_goto (tgt := 54) hx hb d_M_canBe_50 (by decide) ?_
              have hi_w : (nI w).toInt = (w : Int) := nI_toInt (by omega)
              have hi_lo : (nI lo).toInt = (lo : Int) := nI_toInt (by omega)
              have hi_hi : (nI hi).toInt = (hi : Int) := nI_toInt (by omega)
              have e_1 : nI w = 1 ↔ w = 1 := nI_eq (b := 1) (by omega) (by omega)
              have e_2 : nI w = 2 ↔ w = 2 := nI_eq (b := 2) (by omega) (by omega)
              have e_3 : nI w = 3 ↔ w = 3 := nI_eq (b := 3) (by omega) (by omega)
              try simp only [Int32.lt_iff_toInt_lt, Int32.le_iff_toInt_le, li_0, li_1, li_2, li_3, li_4, li_8, li_10, li_16, li_63, li_127, li_128, li_191, li_192, li_194, li_224, li_240, li_244, li_255, li_2048, li_55296, li_57343, li_65536, li_1114111, li_m1, li_m2] at *
              try rw [e_1] at c2
              try rw [e_2] at c9
              try rw [e_3] at c27
              have hP9 : cbP w lo hi := by unfold cbP; omega
              exact W.zret (v := 1) (ty := .boolean) hx hb hr (by decide) (fun t ht hW => ⟨_, rfl, (Or.inl ⟨hP9, rfl⟩), ht⟩) (fun q h => by cases h) d_M_canBe_54
    · refine lv_iload_n hx hb d_M_canBe_12 rfl (lv_at hl 2 rfl) ?_
      refine lv_sipush (v := 128) hx hb d_M_canBe_13 (by decide) ?_
      refine lv_icmp_lt (tgt := 23) hx hb d_M_canBe_16 (by decide) (fun c16 => ?_) (fun c16 => ?_)
      · refine lv_iconst (v := 0) hx hb d_M_canBe_23 (by decide) ?_
        have hi_w : (nI w).toInt = (w : Int) := nI_toInt (by omega)
        have hi_lo : (nI lo).toInt = (lo : Int) := nI_toInt (by omega)
        have hi_hi : (nI hi).toInt = (hi : Int) := nI_toInt (by omega)
        have e_1 : nI w = 1 ↔ w = 1 := nI_eq (b := 1) (by omega) (by omega)
        have e_2 : nI w = 2 ↔ w = 2 := nI_eq (b := 2) (by omega) (by omega)
        have e_3 : nI w = 3 ↔ w = 3 := nI_eq (b := 3) (by omega) (by omega)
        try simp only [Int32.lt_iff_toInt_lt, Int32.le_iff_toInt_le, li_0, li_1, li_2, li_3, li_4, li_8, li_10, li_16, li_63, li_127, li_128, li_191, li_192, li_194, li_224, li_240, li_244, li_255, li_2048, li_55296, li_57343, li_65536, li_1114111, li_m1, li_m2] at *
        try rw [e_1] at c2
        try rw [e_2] at c9
        try rw [e_3] at c27
        have hP9 : ¬ (cbP w lo hi) := by unfold cbP; omega
        exact W.zret (v := 0) (ty := .boolean) hx hb hr (by decide) (fun t ht hW => ⟨_, rfl, (Or.inr ⟨hP9, rfl⟩), ht⟩) (fun q h => by cases h) d_M_canBe_24
      · refine lv_iconst (v := 1) hx hb d_M_canBe_19 (by decide) ?_
        refine lv_goto (tgt := 24) hx hb d_M_canBe_20 (by decide) ?_
        have hi_w : (nI w).toInt = (w : Int) := nI_toInt (by omega)
        have hi_lo : (nI lo).toInt = (lo : Int) := nI_toInt (by omega)
        have hi_hi : (nI hi).toInt = (hi : Int) := nI_toInt (by omega)
        have e_1 : nI w = 1 ↔ w = 1 := nI_eq (b := 1) (by omega) (by omega)
        have e_2 : nI w = 2 ↔ w = 2 := nI_eq (b := 2) (by omega) (by omega)
        have e_3 : nI w = 3 ↔ w = 3 := nI_eq (b := 3) (by omega) (by omega)
        try simp only [Int32.lt_iff_toInt_lt, Int32.le_iff_toInt_le, li_0, li_1, li_2, li_3, li_4, li_8, li_10, li_16, li_63, li_127, li_128, li_191, li_192, li_194, li_224, li_240, li_244, li_255, li_2048, li_55296, li_57343, li_65536, li_1114111, li_m1, li_m2] at *
        try rw [e_1] at c2
        try rw [e_2] at c9
        try rw [e_3] at c27
        have hP9 : cbP w lo hi := by unfold cbP; omega
        exact W.zret (v := 1) (ty := .boolean) hx hb hr (by decide) (fun t ht hW => ⟨_, rfl, (Or.inl ⟨hP9, rfl⟩), ht⟩) (fun q h => by cases h) d_M_canBe_24
  · refine lv_iconst (v := 1) hx hb d_M_canBe_5 (by decide) ?_
    have hi_w : (nI w).toInt = (w : Int) := nI_toInt (by omega)
    have hi_lo : (nI lo).toInt = (lo : Int) := nI_toInt (by omega)
    have hi_hi : (nI hi).toInt = (hi : Int) := nI_toInt (by omega)
    have e_1 : nI w = 1 ↔ w = 1 := nI_eq (b := 1) (by omega) (by omega)
    have e_2 : nI w = 2 ↔ w = 2 := nI_eq (b := 2) (by omega) (by omega)
    have e_3 : nI w = 3 ↔ w = 3 := nI_eq (b := 3) (by omega) (by omega)
    try simp only [Int32.lt_iff_toInt_lt, Int32.le_iff_toInt_le, li_0, li_1, li_2, li_3, li_4, li_8, li_10, li_16, li_63, li_127, li_128, li_191, li_192, li_194, li_224, li_240, li_244, li_255, li_2048, li_55296, li_57343, li_65536, li_1114111, li_m1, li_m2] at *
    try rw [e_1] at c2
    try rw [e_2] at c9
    try rw [e_3] at c27
    have hP9 : cbP w lo hi := by unfold cbP; omega
    exact W.zret (v := 1) (ty := .boolean) hx hb hr (by decide) (fun t ht hW => ⟨_, rfl, (Or.inl ⟨hP9, rfl⟩), ht⟩) (fun q h => by cases h) d_M_canBe_6
set_option maxHeartbeats 600000 in
set_option maxRecDepth 100000 in
/-- failed -/
theorem c_M_failed (l : Launch) (D : va_G) (cL cI : ClassId) (h cl sa pa M : Nat) (th tk : Int32) (σ : dkS) (sz : Nat) (cd : Nat) (htk : (tk = -2 ∧ cd = 2) ∨ (tk = -3 ∧ cd = 3)) : Met l y_M_failed w_M_failed ({ frames := 1, cells := 0, slots := 0, locals := 21 }) (va_Pc [.ref h] (oxw sz D [(cL, .long), (cI, .int)] [(h, .inr (2, [.int th, .int (nI M), .ref cl, .ref sa, .ref pa, .int tk])), (cl, .inl (cL, 32768, .inr (.inl (pkF (σ))))), (sa, .inl (cI, 4, .inl (fun i9 => nI ((σ) i9).2.1))), (pa, .inl (cI, 4, .inl (fun i9 => nI ((σ) i9).2.2)))])) (va_Qi (fun (r : Int32) (uu : Unit) => r = 0) (fun uu => ow D [(cL, .long), (cI, .int)] (va_A [(h, .inr (2, [.int th, .int (nI M), .ref cl, .ref sa, .ref pa, .int tk])), (cl, .inl (cL, 32768, .inr (.inl (pkF (σ))))), (sa, .inl (cI, 4, .inl (fun i9 => nI ((σ) i9).2.1))), (pa, .inl (cI, 4, .inl (fun i9 => nI ((σ) i9).2.2)))] sz) (rfW cL cI h cl sa pa M (nI cd) tk (σ))) (va_A [(h, .inr (2, [.int th, .int (nI M), .ref cl, .ref sa, .ref pa, .int tk])), (cl, .inl (cL, 32768, .inr (.inl (pkF (σ))))), (sa, .inl (cI, 4, .inl (fun i9 => nI ((σ) i9).2.1))), (pa, .inl (cI, 4, .inl (fun i9 => nI ((σ) i9).2.2)))] sz)) 0 0 (va_A [(h, .inr (2, [.int th, .int (nI M), .ref cl, .ref sa, .ref pa, .int tk])), (cl, .inl (cL, 32768, .inr (.inl (pkF (σ))))), (sa, .inl (cI, 4, .inl (fun i9 => nI ((σ) i9).2.1))), (pa, .inl (cI, 4, .inl (fun i9 => nI ((σ) i9).2.2)))] sz) := by
  refine Met.ofW (cc := b_M_failed) (maxL := 1) (ret := (some .int)) (by decide) rfl ?_
  intro p9 e9 s m args below meth c9 s₁ BL hml hv
  obtain ⟨rfl, hsz, hP, hK, hD0⟩ := hv
  have hx := BL.exec
  have hb := BL.bytes
  have hr := BL.returns
  have hts := atoms_spec (ws := w_M_failed) BL.pre
  have hA : ∀ w ∈ wsA, w.before _ s = true := fun w h => hts w (List.mem_cons_of_mem _ h)
  have hown : s.vm.findClass R_M = some m.cls := findClass_of_methodNamed BL.named
  have hlocks := BL.notSynchronized
  subst hsz
  have hD := hD0.self (sz := s.heap.size)
  generalize hAe : va_A [(h, .inr (2, [.int th, .int (nI M), .ref cl, .ref sa, .ref pa, .int tk])), (cl, .inl (cL, 32768, .inr (.inl (pkF (σ))))), (sa, .inl (cI, 4, .inl (fun i9 => nI ((σ) i9).2.1))), (pa, .inl (cI, 4, .inl (fun i9 => nI ((σ) i9).2.2)))] s.heap.size = A at hD ⊢
  have hAq : ∀ q : Nat, s.heap.size ≤ q → A q := fun q h => by rw [← hAe]; exact Or.inr h
  have hS : va_S A s.heap s.heap [] := va_S.rf
  have hP : va_P D vCl [(h, .inr (2, [.int th, .int (nI M), .ref cl, .ref sa, .ref pa, .int tk])), (cl, .inl (cL, 32768, .inr (.inl (pkF (σ))))), (sa, .inl (cI, 4, .inl (fun i9 => nI ((σ) i9).2.1))), (pa, .inl (cI, 4, .inl (fun i9 => nI ((σ) i9).2.2)))] s.heap := hP
  have hl := lv_entry ([.ref h]) (n := 1) (Nat.le_of_ble_eq_true rfl)
  rw [lg_entry_eq]
  generalize (lg_sl ([.ref h]) ++ List.replicate (1 - (lg_sl ([.ref h])).length) Slot.unset).toArray = ls at hl ⊢
  have hl : lv_has ls 1 [(0, .ref h)] := hl
  rcases htk with ⟨rfl, rfl⟩ | ⟨rfl, rfl⟩
  · refine lv_aload_n hx hb d_M_failed_0 rfl (lv_at hl 0 rfl) ?_
    refine lv_aload_n hx hb d_M_failed_1 rfl (lv_at hl 0 rfl) ?_
    refine va_get (D := D) (ci := 2) (v := .int (-2)) (C := R_M) (T := F_M) (N := 6) hx hb hA i_M hown hK hP 0 rfl rfl 5 (by decide) (hA _ k2_217) (fun _ h9 => h9) rfl d_M_failed_2 ?_
    refine lv_bipush (v := (-2)) hx hb d_M_failed_5 (by decide) ?_
    refine lv_icmp_ne (tgt := 14) hx hb d_M_failed_7 (by decide) (fun q9 => absurd (by decide) q9) (fun _ => ?_)
    refine lv_iconst (v := 2) hx hb d_M_failed_10 (by decide) ?_
    refine lv_goto (tgt := 15) hx hb d_M_failed_11 (by decide) ?_
    have hPc := hP
    have hFc := va_free (wc := [(h, .inr (2, [.int th, .int (nI M), .ref cl, .ref sa, .ref pa, .int (-2)])), (cl, .inl (cL, 32768, .inr (.inl (pkF (σ))))), (sa, .inl (cI, 4, .inl (fun i9 => nI ((σ) i9).2.1))), (pa, .inl (cI, 4, .inl (fun i9 => nI ((σ) i9).2.2)))]) hD hS hAq [0, 1, 2, 3] rfl
    have hKc := hK.sub (tys' := [(cL, .long), (cI, .int)]) [0, 1] rfl
    refine va_calli (va_runV (As := [.int 2]) (rest := []) ⟨hx, hb, hml, hown, hA⟩ (c_M_fail l D cL cI h cl sa pa M th (-2) σ s.heap.size 2) (q_M_fail hA k3_4 rfl rfl ⟨(Nat.le_of_ble_eq_true rfl), (Nat.le_of_ble_eq_true rfl)⟩) (ox_V (va_recv hKc hPc (ci := 2) (q0 := 0) rfl rfl) (oxw_S hPc hKc hD)) rfl rfl hl.1 rfl (lv_room (Nat.le_of_ble_eq_true rfl)) d_M_failed_15 ⟨(Nat.le_of_ble_eq_true rfl), (Nat.le_of_ble_eq_true rfl)⟩) hS (fun q _ h => hFc q h) hFc (fun r15 u9 t9 H1 locs ht9 hvm9 hw9 hB9 hz1 hk1 hS => ?_)
    obtain ⟨hP, hK1, hD1⟩ := hB9
    rw [ht9] at hP
    obtain ⟨hP, hD⟩ := va_join (wr := []) (w1 := rfW cL cI h cl sa pa M 2 (-2) (σ)) hPc hD [0, 1, 2, 3] [] rfl rfl (by decide) (by decide) hk1 hFc hP hD1
    generalize H1 = H at hP hS ⊢
    have hP : va_P D vCl [(h, .inr (2, [.int 2, .int (nI M), .ref cl, .ref sa, .ref pa, .int (-2)])), (cl, .inl (cL, 32768, .inr (.inl (pkF (σ))))), (sa, .inl (cI, 4, .inl (fun i9 => nI ((σ) i9).2.1))), (pa, .inl (cI, 4, .inl (fun i9 => nI ((σ) i9).2.2)))] H := hP
    have hD : va_D A [(h, .inr (2, [.int 2, .int (nI M), .ref cl, .ref sa, .ref pa, .int (-2)])), (cl, .inl (cL, 32768, .inr (.inl (pkF (σ))))), (sa, .inl (cI, 4, .inl (fun i9 => nI ((σ) i9).2.1))), (pa, .inl (cI, 4, .inl (fun i9 => nI ((σ) i9).2.2)))] := hD
    exact W.iret (v := r15) hx hb hr (fun t ht hW => ⟨⟨_, (), rfl, (hw9), by rw [ht]; exact hP, va_K.moved hW.alike hK, hD⟩, hS.F ht⟩) hS.2.2 d_M_failed_18
  · refine lv_aload_n hx hb d_M_failed_0 rfl (lv_at hl 0 rfl) ?_
    refine lv_aload_n hx hb d_M_failed_1 rfl (lv_at hl 0 rfl) ?_
    refine va_get (D := D) (ci := 2) (v := .int (-3)) (C := R_M) (T := F_M) (N := 6) hx hb hA i_M hown hK hP 0 rfl rfl 5 (by decide) (hA _ k2_217) (fun _ h9 => h9) rfl d_M_failed_2 ?_
    refine lv_bipush (v := (-2)) hx hb d_M_failed_5 (by decide) ?_
    refine lv_icmp_ne (tgt := 14) hx hb d_M_failed_7 (by decide) (fun _ => ?_) (fun q9 => absurd q9 (by decide))
    refine lv_iconst (v := 3) hx hb d_M_failed_14 (by decide) ?_
    have hPc := hP
    have hFc := va_free (wc := [(h, .inr (2, [.int th, .int (nI M), .ref cl, .ref sa, .ref pa, .int (-3)])), (cl, .inl (cL, 32768, .inr (.inl (pkF (σ))))), (sa, .inl (cI, 4, .inl (fun i9 => nI ((σ) i9).2.1))), (pa, .inl (cI, 4, .inl (fun i9 => nI ((σ) i9).2.2)))]) hD hS hAq [0, 1, 2, 3] rfl
    have hKc := hK.sub (tys' := [(cL, .long), (cI, .int)]) [0, 1] rfl
    refine va_calli (va_runV (As := [.int 3]) (rest := []) ⟨hx, hb, hml, hown, hA⟩ (c_M_fail l D cL cI h cl sa pa M th (-3) σ s.heap.size 3) (q_M_fail hA k3_4 rfl rfl ⟨(Nat.le_of_ble_eq_true rfl), (Nat.le_of_ble_eq_true rfl)⟩) (ox_V (va_recv hKc hPc (ci := 2) (q0 := 0) rfl rfl) (oxw_S hPc hKc hD)) rfl rfl hl.1 rfl (lv_room (Nat.le_of_ble_eq_true rfl)) d_M_failed_15 ⟨(Nat.le_of_ble_eq_true rfl), (Nat.le_of_ble_eq_true rfl)⟩) hS (fun q _ h => hFc q h) hFc (fun r15 u9 t9 H1 locs ht9 hvm9 hw9 hB9 hz1 hk1 hS => ?_)
    obtain ⟨hP, hK1, hD1⟩ := hB9
    rw [ht9] at hP
    obtain ⟨hP, hD⟩ := va_join (wr := []) (w1 := rfW cL cI h cl sa pa M 3 (-3) (σ)) hPc hD [0, 1, 2, 3] [] rfl rfl (by decide) (by decide) hk1 hFc hP hD1
    generalize H1 = H at hP hS ⊢
    have hP : va_P D vCl [(h, .inr (2, [.int 3, .int (nI M), .ref cl, .ref sa, .ref pa, .int (-3)])), (cl, .inl (cL, 32768, .inr (.inl (pkF (σ))))), (sa, .inl (cI, 4, .inl (fun i9 => nI ((σ) i9).2.1))), (pa, .inl (cI, 4, .inl (fun i9 => nI ((σ) i9).2.2)))] H := hP
    have hD : va_D A [(h, .inr (2, [.int 3, .int (nI M), .ref cl, .ref sa, .ref pa, .int (-3)])), (cl, .inl (cL, 32768, .inr (.inl (pkF (σ))))), (sa, .inl (cI, 4, .inl (fun i9 => nI ((σ) i9).2.1))), (pa, .inl (cI, 4, .inl (fun i9 => nI ((σ) i9).2.2)))] := hD
    exact W.iret (v := r15) hx hb hr (fun t ht hW => ⟨⟨_, (), rfl, (hw9), by rw [ht]; exact hP, va_K.moved hW.alike hK, hD⟩, hS.F ht⟩) hS.2.2 d_M_failed_18
set_option maxHeartbeats 600000 in
set_option maxRecDepth 100000 in
/-- grouped -/
theorem c_M_grouped (l : Launch) (D : va_G) (cL cI : ClassId) (h cl sa pa M : Nat) (th tk : Int32) (σ : dkS) (sz : Nat) (k : Nat) (hk : k < 4) (hB : ∀ j, (σ k).1 j < 256) (hn : (σ k).2.1 ≤ 65536) (q : Nat) (hq0 : q ≤ (σ k).2.1) : Met l y_M_grouped w_M_grouped ({ frames := 1, cells := 0, slots := 0, locals := 22 }) (va_Pc [.ref h, .int (nI k), .int (nI q)] (oxw sz D [(cL, .long), (cI, .int)] [(h, .inr (2, [.int th, .int (nI M), .ref cl, .ref sa, .ref pa, .int tk])), (cl, .inl (cL, 32768, .inr (.inl (pkF (σ))))), (sa, .inl (cI, 4, .inl (fun i9 => nI ((σ) i9).2.1))), (pa, .inl (cI, 4, .inl (fun i9 => nI ((σ) i9).2.2)))])) (va_Ql (fun (r : Int64) (uu : Int32) => (gw (σ k).1 q (σ k).2.1 10 = -2 ∧ uu = -2 ∧ r = 0) ∨ (gw (σ k).1 q (σ k).2.1 10 = -3 ∧ uu = -3 ∧ r = 0) ∨ ∃ w : Nat, gw (σ k).1 q (σ k).2.1 10 = (w : Int) ∧ uu = nI w ∧ r = lN (gs (σ k).1 q w)) (fun uu => ow D [(cL, .long), (cI, .int)] (va_A [(h, .inr (2, [.int th, .int (nI M), .ref cl, .ref sa, .ref pa, .int tk])), (cl, .inl (cL, 32768, .inr (.inl (pkF (σ))))), (sa, .inl (cI, 4, .inl (fun i9 => nI ((σ) i9).2.1))), (pa, .inl (cI, 4, .inl (fun i9 => nI ((σ) i9).2.2)))] sz) (rfW cL cI h cl sa pa M th uu (σ))) (va_A [(h, .inr (2, [.int th, .int (nI M), .ref cl, .ref sa, .ref pa, .int tk])), (cl, .inl (cL, 32768, .inr (.inl (pkF (σ))))), (sa, .inl (cI, 4, .inl (fun i9 => nI ((σ) i9).2.1))), (pa, .inl (cI, 4, .inl (fun i9 => nI ((σ) i9).2.2)))] sz)) 0 0 (va_A [(h, .inr (2, [.int th, .int (nI M), .ref cl, .ref sa, .ref pa, .int tk])), (cl, .inl (cL, 32768, .inr (.inl (pkF (σ))))), (sa, .inl (cI, 4, .inl (fun i9 => nI ((σ) i9).2.1))), (pa, .inl (cI, 4, .inl (fun i9 => nI ((σ) i9).2.2)))] sz) := by
  refine Met.ofW (cc := b_M_grouped) (maxL := 8) (ret := (some .long)) (by decide) rfl ?_
  intro p9 e9 s m args below meth c9 s₁ BL hml hv
  obtain ⟨rfl, hsz, hP, hK, hD0⟩ := hv
  have hx := BL.exec
  have hb := BL.bytes
  have hr := BL.returns
  have hts := atoms_spec (ws := w_M_grouped) BL.pre
  have hA : ∀ w ∈ wsA, w.before _ s = true := fun w h => hts w (List.mem_cons_of_mem _ h)
  have hown : s.vm.findClass R_M = some m.cls := findClass_of_methodNamed BL.named
  have hlocks := BL.notSynchronized
  subst hsz
  have hD := hD0.self (sz := s.heap.size)
  generalize hAe : va_A [(h, .inr (2, [.int th, .int (nI M), .ref cl, .ref sa, .ref pa, .int tk])), (cl, .inl (cL, 32768, .inr (.inl (pkF (σ))))), (sa, .inl (cI, 4, .inl (fun i9 => nI ((σ) i9).2.1))), (pa, .inl (cI, 4, .inl (fun i9 => nI ((σ) i9).2.2)))] s.heap.size = A at hD ⊢
  have hAq : ∀ q : Nat, s.heap.size ≤ q → A q := fun q h => by rw [← hAe]; exact Or.inr h
  have hS : va_S A s.heap s.heap [] := va_S.rf
  have hP : va_P D vCl [(h, .inr (2, [.int th, .int (nI M), .ref cl, .ref sa, .ref pa, .int tk])), (cl, .inl (cL, 32768, .inr (.inl (pkF (σ))))), (sa, .inl (cI, 4, .inl (fun i9 => nI ((σ) i9).2.1))), (pa, .inl (cI, 4, .inl (fun i9 => nI ((σ) i9).2.2)))] s.heap := hP
  have hl := lv_entry ([.ref h, .int (nI k), .int (nI q)]) (n := 8) (Nat.le_of_ble_eq_true rfl)
  rw [lg_entry_eq]
  generalize (lg_sl ([.ref h, .int (nI k), .int (nI q)]) ++ List.replicate (8 - (lg_sl ([.ref h, .int (nI k), .int (nI q)])).length) Slot.unset).toArray = ls at hl ⊢
  have hl : lv_has ls 8 [(0, .ref h), (1, .int (nI k)), (2, .int (nI q))] := hl
  refine lv_lconst (v := 0) hx hb d_M_grouped_0 (by decide) ?_
  refine lv_lstore_n (lv' := [(3, .long 0), (0, .ref h), (1, .int (nI k)), (2, .int (nI q))]) hx hb d_M_grouped_1 rfl hl (by decide) rfl (fun ls hl => ?_)
  refine lv_iconst (v := 0) hx hb d_M_grouped_2 (by decide) ?_
  refine lv_topi (fun v2 ev2 => ?_)
  have ev2 : v2 = nI 0 := by rw [ev2]; rfl
  subst ev2
  refine lv_istore (lv' := [(5, .int (nI 0)), (3, .long 0), (0, .ref h), (1, .int (nI k)), (2, .int (nI q))]) hx hb d_M_grouped_3 hl (by decide) rfl (fun ls hl => ?_)
  have loop : ∀ (t g : Nat), g + t = 11 → g ≤ 9 → gw (σ k).1 q (σ k).2.1 (10 - g) = gw (σ k).1 q (σ k).2.1 10 → ∀ (ls : Array Slot), lv_has ls 8 [(5, .int (nI g)), (3, .long (lN (gs (σ k).1 q g))), (0, .ref h), (1, .int (nI k)), (2, .int (nI q))] → W p9 l e9 (headSpec w_M_grouped ({ frames := 1, cells := 0, slots := 0, locals := 22 })).room s m [.ref h, .int (nI k), .int (nI q)].toArray below meth c9 s.heap [] 0 0 (MQ below (va_Ql (fun (r : Int64) (uu : Int32) => (gw (σ k).1 q (σ k).2.1 10 = -2 ∧ uu = -2 ∧ r = 0) ∨ (gw (σ k).1 q (σ k).2.1 10 = -3 ∧ uu = -3 ∧ r = 0) ∨ ∃ w : Nat, gw (σ k).1 q (σ k).2.1 10 = (w : Int) ∧ uu = nI w ∧ r = lN (gs (σ k).1 q w)) (fun uu => ow D [(cL, .long), (cI, .int)] A (rfW cL cI h cl sa pa M th uu (σ))) A) [.ref h, .int (nI k), .int (nI q)].toArray s 0 0 A) (F0 m 5 ls []) := by
    intro t
    induction t with
    | zero =>
      intro g ht hg9a hg ls hl
      exact absurd ht (by omega)
    | succ t ih_loop =>
      intro g ht hg9a hg ls hl
      refine lv_iload hx hb d_M_grouped_5 (lv_at hl 0 rfl) ?_
      refine lv_bipush (v := 10) hx hb d_M_grouped_7 (by decide) ?_
      refine lv_icmp_ge (tgt := 131) hx hb d_M_grouped_9 (by decide) (fun c9 => ?_) (fun c9 => ?_)
      · exact absurd ((nI_leI (a := 10) (b := g) (by omega) (by omega)).mp c9) (by omega)
      · rw [gw_s (by omega)] at hg
        have hb8 := hB (q + g)
        refine lv_iload_n hx hb d_M_grouped_12 rfl (lv_at hl 4 rfl) ?_
        refine lv_iload hx hb d_M_grouped_13 (lv_at hl 0 rfl) ?_
        refine lv_iadd hx hb d_M_grouped_15 ?_
        refine lv_topi (fun v15 ev15 => ?_)
        have ev15 : v15 = nI (q + g) := by rw [ev15]; exact nI_add _ _
        subst ev15
        refine lv_aload_n hx hb d_M_grouped_16 rfl (lv_at hl 2 rfl) ?_
        refine va_get (D := D) (ci := 2) (v := .ref sa) (C := R_M) (T := F_M) (N := 6) hx hb hA i_M hown hK hP 0 rfl rfl 3 (by decide) (hA _ k2_215) (fun _ h9 => h9) rfl d_M_grouped_17 ?_
        refine lv_iload_n hx hb d_M_grouped_20 rfl (lv_at hl 3 rfl) ?_
        refine va_iald hx hb hK hP 2 1 rfl rfl (vp_in_nI hk (by decide)) d_M_grouped_21 ?_
        refine lv_topi (fun v21 ev21 => ?_)
        have ev21 : v21 = nI (σ k).2.1 := by rw [ev21]; show nI ((σ) (nI k).toNatClampNeg).2.1 = _; rw [nI_clamp (by omega)]
        subst ev21
        refine lv_icmp_lt (tgt := 33) hx hb d_M_grouped_22 (by decide) (fun c22 => ?_) (fun c22 => ?_)
        · have hlt : q + g < (σ k).2.1 := (nI_ltI (a := q + g) (b := (σ k).2.1) (by omega) (by omega)).mp c22
          rw [if_neg (by omega)] at hg
          refine lv_aload_n hx hb d_M_grouped_33 rfl (lv_at hl 2 rfl) ?_
          refine lv_iload_n hx hb d_M_grouped_34 rfl (lv_at hl 3 rfl) ?_
          refine lv_iload_n hx hb d_M_grouped_35 rfl (lv_at hl 4 rfl) ?_
          refine lv_iload hx hb d_M_grouped_36 (lv_at hl 0 rfl) ?_
          refine lv_iadd hx hb d_M_grouped_38 ?_
          refine lv_topi (fun v38 ev38 => ?_)
          have ev38 : v38 = nI (q + g) := by rw [ev38]; exact nI_add _ _
          subst ev38
          have hPc := hP.sub (ws' := [(h, .inr (2, [.int th, .int (nI M), .ref cl, .ref sa, .ref pa, .int tk])), (cl, .inl (cL, 32768, .inr (.inl (pkF (σ))))), (sa, .inl (cI, 4, .inl (fun i9 => nI ((σ) i9).2.1))), (pa, .inl (cI, 4, .inl (fun i9 => nI ((σ) i9).2.2)))]) [0, 1, 2, 3] rfl
          have hKc := hK.sub (tys' := [(cL, .long), (cI, .int)]) [0, 1] rfl
          refine vp_callSi (W.runV (As := [.int (nI k), .int (nI (q + g))]) (rest := []) ⟨hx, hb, hml, hown, hA⟩ (c_M_at l D cL cI h cl sa pa M th tk σ k (q + g) hk (by omega) hB) (q_M_at hA k3_66 rfl rfl ⟨(Nat.le_of_ble_eq_true rfl), (Nat.le_of_ble_eq_true rfl)⟩) (ox_V (va_recv hKc hPc (ci := 2) (q0 := 0) rfl rfl) (ox_S hPc hKc)) rfl rfl hl.1 rfl (lv_room (Nat.le_of_ble_eq_true rfl)) d_M_grouped_39 ⟨(Nat.le_of_ble_eq_true rfl), (Nat.le_of_ble_eq_true rfl)⟩) (fun r39 hr39 => ?_)
          have er39 : r39 = nI ((σ k).1 (q + g)) := hr39
          subst er39
          refine lv_istore (lv' := [(6, .int (nI ((σ k).1 (q + g)))), (5, .int (nI g)), (3, .long (lN (gs (σ k).1 q g))), (0, .ref h), (1, .int (nI k)), (2, .int (nI q))]) hx hb d_M_grouped_42 hl (by decide) rfl (fun ls hl => ?_)
          refine lv_lload_n hx hb d_M_grouped_44 rfl (lv_at hl 2 rfl) ?_
          refine lv_iload hx hb d_M_grouped_45 (lv_at hl 0 rfl) ?_
          refine lv_bipush (v := 127) hx hb d_M_grouped_47 (by decide) ?_
          refine lv_iand hx hb d_M_grouped_49 ?_
          refine lv_topi (fun v49 ev49 => ?_)
          have ev49 : v49 = nI (((σ k).1 (q + g)) % 128) := by rw [ev49]; exact pk_andN (by omega) 7 (by decide)
          subst ev49
          refine lv_i2l hx hb d_M_grouped_50 rfl ?_
          refine lv_topl (fun v50 ev50 => ?_)
          have ev50 : v50 = lN (((σ k).1 (q + g)) % 128) := by rw [ev50]; exact nI_l (by omega)
          subst ev50
          refine lv_bipush (v := 7) hx hb d_M_grouped_51 (by decide) ?_
          refine lv_iload hx hb d_M_grouped_53 (lv_at hl 1 rfl) ?_
          refine lv_imul hx hb d_M_grouped_55 ?_
          refine lv_topi (fun v55 ev55 => ?_)
          have ev55 : v55 = nI (7 * g) := by rw [ev55]; exact sw_7 g
          subst ev55
          refine lv_lshl hx hb d_M_grouped_56 rfl ?_
          refine lv_topl (fun v56 ev56 => ?_)
          have ev56 : v56 = lN (((σ k).1 (q + g)) % 128 * 2 ^ (7 * g)) := by rw [ev56]; exact wb_shl _ (by omega)
          subst ev56
          refine lv_lor hx hb d_M_grouped_57 ?_
          refine lv_topl (fun v57 ev57 => ?_)
          refine lv_lstore_n (lv' := [(3, .long v57), (6, .int (nI ((σ k).1 (q + g)))), (5, .int (nI g)), (0, .ref h), (1, .int (nI k)), (2, .int (nI q))]) hx hb d_M_grouped_58 rfl hl (by decide) rfl (fun ls hl => ?_)
          refine lv_iload hx hb d_M_grouped_59 (lv_at hl 1 rfl) ?_
          refine lv_sipush (v := 128) hx hb d_M_grouped_61 (by decide) ?_
          refine lv_icmp_ge (tgt := 71) hx hb d_M_grouped_64 (by decide) (fun c64 => ?_) (fun c64 => ?_)
          · have h128 : 128 ≤ ((σ k).1 (q + g)) := (nI_leI (a := 128) (b := ((σ k).1 (q + g))) (by omega) (by omega)).mp c64
            rw [if_neg (by omega)] at hg
            refine lv_iconst (v := 0) hx hb d_M_grouped_71 (by decide) ?_
            refine lv_istore (lv' := [(7, .int 0), (3, .long v57), (6, .int (nI ((σ k).1 (q + g)))), (5, .int (nI g)), (0, .ref h), (1, .int (nI k)), (2, .int (nI q))]) hx hb d_M_grouped_72 hl (by decide) rfl (fun ls hl => ?_)
            refine lv_iload hx hb d_M_grouped_74 (lv_at hl 3 rfl) ?_
            refine lv_bipush (v := 9) hx hb d_M_grouped_76 (by decide) ?_
            refine lv_icmp_ne (tgt := 87) hx hb d_M_grouped_78 (by decide) (fun c78 => ?_) (fun c78 => ?_)
            · have hok : g < 9 ∨ ((σ k).1 (q + g)) ≤ 1 := by
                first
                | (have := mt (nI_ltI (a := 1) (b := ((σ k).1 (q + g))) (by omega) (by omega)).mpr c84; omega)
                | (have := mt (nI_eq (a := g) (b := 9) (by omega) (by omega)).mpr c78; omega)
              refine lv_iload hx hb d_M_grouped_87 (lv_at hl 0 rfl) ?_
              refine lv_if_eq (tgt := 110) hx hb d_M_grouped_89 (by decide) (fun _ => ?_) (fun q9 => absurd (by decide) q9)
              refine lv_iload hx hb d_M_grouped_110 (lv_at hl 0 rfl) ?_
              refine lv_if_eq (tgt := 125) hx hb d_M_grouped_112 (by decide) (fun _ => ?_) (fun q9 => absurd (by decide) q9)
              have hv57 : v57 = lN (gs (σ k).1 q (g + 1)) := by rw [ev57]; exact gr_or (by omega) hok
              subst hv57
              obtain ⟨v125, ev125⟩ : ∃ y : Int32, y = nI g + 1 := ⟨_, rfl⟩
              refine lv_iinc (v := v125) (lv' := [(5, .int v125), (7, .int 0), (3, .long (lN (gs (σ k).1 q (g + 1)))), (6, .int (nI ((σ k).1 (q + g)))), (0, .ref h), (1, .int (nI k)), (2, .int (nI q))]) hx hb d_M_grouped_125 hl (k := 3) rfl (by rw [ev125]; rfl) (by decide) rfl (fun ls hl => ?_)
              have ev125 : v125 = nI (g + 1) := by rw [ev125]; exact nI_1 g
              subst ev125
              refine lv_goto (tgt := 5) hx hb d_M_grouped_128 (by decide) ?_
              exact ih_loop (g + 1) (by omega) (by omega) hg ls (lv_sub hl [0, 2, 4, 5, 6] rfl)
            · have hg9 : g = 9 := (nI_eq (a := g) (b := 9) (by omega) (by omega)).mp c78
              refine lv_iload hx hb d_M_grouped_81 (lv_at hl 2 rfl) ?_
              refine lv_iconst (v := 1) hx hb d_M_grouped_83 (by decide) ?_
              refine lv_icmp_gt (tgt := 102) hx hb d_M_grouped_84 (by decide) (fun c84 => ?_) (fun c84 => ?_)
              · have hbad : gw (σ k).1 q (σ k).2.1 10 = -2 := by
                  first
                  | (have h1 := (nI_ltI (a := 1) (b := ((σ k).1 (q + g))) (by omega) (by omega)).mp c84; rw [if_pos (by omega)] at hg; exact hg.symm)
                  | (have h1 := (nI_ltI (a := 1) (b := ((σ k).1 (q + g))) (by omega) (by omega)).mp c84; subst hg9; exact hg.symm)
                  | (have h1 : ((σ k).1 (q + g)) = 0 := (nI_eq (b := 0) (by omega) (by omega)).mp c94; have h2 := mt (nI_leI (a := g) (b := 0) (by omega) (by omega)).mpr c99; rw [if_pos (by omega)] at hg; exact hg.symm)
                refine lv_aload_n hx hb d_M_grouped_102 rfl (lv_at hl 4 rfl) ?_
                refine lv_bipush (v := (-2)) hx hb d_M_grouped_103 (by decide) ?_
                refine va_put (D := D) (ci := 2) (v := .int (-2)) (ty := .int) (C := R_M) (T := F_M) (N := 6) hx hb hA i_M t_M t_M_ok n_M hown hK hP hD hS 0 rfl rfl 5 (by decide) (hA _ k2_217) (fun _ h9 => h9) rfl (by decide +kernel) rfl rfl (Nat.le_of_ble_eq_true rfl) d_M_grouped_105 (fun H locs hP hD hS => ?_)
                have hP : va_P D vCl [(h, .inr (2, [.int th, .int (nI M), .ref cl, .ref sa, .ref pa, .int (-2)])), (cl, .inl (cL, 32768, .inr (.inl (pkF (σ))))), (sa, .inl (cI, 4, .inl (fun i9 => nI ((σ) i9).2.1))), (pa, .inl (cI, 4, .inl (fun i9 => nI ((σ) i9).2.2)))] H := hP
                have hD : va_D A [(h, .inr (2, [.int th, .int (nI M), .ref cl, .ref sa, .ref pa, .int (-2)])), (cl, .inl (cL, 32768, .inr (.inl (pkF (σ))))), (sa, .inl (cI, 4, .inl (fun i9 => nI ((σ) i9).2.1))), (pa, .inl (cI, 4, .inl (fun i9 => nI ((σ) i9).2.2)))] := hD
                refine lv_lconst (v := 0) hx hb d_M_grouped_108 (by decide) ?_
                exact W.lret (v := 0) hx hb hr (fun t ht hW => ⟨⟨_, (-2), rfl, (Or.inl ⟨hbad, rfl, rfl⟩), by rw [ht]; exact hP, va_K.moved hW.alike hK, hD⟩, hS.F ht⟩) hS.2.2 d_M_grouped_109
              · have hok : g < 9 ∨ ((σ k).1 (q + g)) ≤ 1 := by
                  first
                  | (have := mt (nI_ltI (a := 1) (b := ((σ k).1 (q + g))) (by omega) (by omega)).mpr c84; omega)
                  | (have := mt (nI_eq (a := g) (b := 9) (by omega) (by omega)).mpr c78; omega)
                refine lv_iload hx hb d_M_grouped_87 (lv_at hl 0 rfl) ?_
                refine lv_if_eq (tgt := 110) hx hb d_M_grouped_89 (by decide) (fun _ => ?_) (fun q9 => absurd (by decide) q9)
                refine lv_iload hx hb d_M_grouped_110 (lv_at hl 0 rfl) ?_
                refine lv_if_eq (tgt := 125) hx hb d_M_grouped_112 (by decide) (fun _ => ?_) (fun q9 => absurd (by decide) q9)
                have hv57 : v57 = lN (gs (σ k).1 q (g + 1)) := by rw [ev57]; exact gr_or (by omega) hok
                subst hv57
                obtain ⟨v125, ev125⟩ : ∃ y : Int32, y = nI g + 1 := ⟨_, rfl⟩
                refine lv_iinc (v := v125) (lv' := [(5, .int v125), (7, .int 0), (3, .long (lN (gs (σ k).1 q (g + 1)))), (6, .int (nI ((σ k).1 (q + g)))), (0, .ref h), (1, .int (nI k)), (2, .int (nI q))]) hx hb d_M_grouped_125 hl (k := 3) rfl (by rw [ev125]; rfl) (by decide) rfl (fun ls hl => ?_)
                have ev125 : v125 = nI (g + 1) := by rw [ev125]; exact nI_1 g
                subst ev125
                refine lv_goto (tgt := 5) hx hb d_M_grouped_128 (by decide) ?_
                exact ih_loop (g + 1) (by omega) (by omega) hg ls (lv_sub hl [0, 2, 4, 5, 6] rfl)
          · have h128 : ((σ k).1 (q + g)) < 128 := by have := mt (nI_leI (a := 128) (b := ((σ k).1 (q + g))) (by omega) (by omega)).mpr c64; omega
            rw [if_pos h128] at hg
            refine lv_iconst (v := 1) hx hb d_M_grouped_67 (by decide) ?_
            refine lv_goto (tgt := 72) hx hb d_M_grouped_68 (by decide) ?_
            refine lv_istore (lv' := [(7, .int 1), (3, .long v57), (6, .int (nI ((σ k).1 (q + g)))), (5, .int (nI g)), (0, .ref h), (1, .int (nI k)), (2, .int (nI q))]) hx hb d_M_grouped_72 hl (by decide) rfl (fun ls hl => ?_)
            refine lv_iload hx hb d_M_grouped_74 (lv_at hl 3 rfl) ?_
            refine lv_bipush (v := 9) hx hb d_M_grouped_76 (by decide) ?_
            refine lv_icmp_ne (tgt := 87) hx hb d_M_grouped_78 (by decide) (fun c78 => ?_) (fun c78 => ?_)
            · have hok : g < 9 ∨ ((σ k).1 (q + g)) ≤ 1 := by
                first
                | (have := mt (nI_ltI (a := 1) (b := ((σ k).1 (q + g))) (by omega) (by omega)).mpr c84; omega)
                | (have := mt (nI_eq (a := g) (b := 9) (by omega) (by omega)).mpr c78; omega)
              refine lv_iload hx hb d_M_grouped_87 (lv_at hl 0 rfl) ?_
              refine lv_if_eq (tgt := 110) hx hb d_M_grouped_89 (by decide) (fun q9 => absurd q9 (by decide)) (fun _ => ?_)
              refine lv_iload hx hb d_M_grouped_92 (lv_at hl 2 rfl) ?_
              refine lv_if_ne (tgt := 110) hx hb d_M_grouped_94 (by decide) (fun c94 => ?_) (fun c94 => ?_)
              · refine lv_iload hx hb d_M_grouped_110 (lv_at hl 0 rfl) ?_
                refine lv_if_eq (tgt := 125) hx hb d_M_grouped_112 (by decide) (fun q9 => absurd q9 (by decide)) (fun _ => ?_)
                have hgood : gw (σ k).1 q (σ k).2.1 10 = (g : Int) + 1 := by
                  rw [if_neg ?_] at hg
                  · exact hg.symm
                  · first
                    | (have h1 := mt (nI_eq (a := ((σ k).1 (q + g))) (b := 0) (by omega) (by omega)).mpr c94; omega)
                    | (have h2 := (nI_leI (a := g) (b := 0) (by omega) (by omega)).mp c99; omega)
                refine lv_aload_n hx hb d_M_grouped_115 rfl (lv_at hl 4 rfl) ?_
                refine lv_iload hx hb d_M_grouped_116 (lv_at hl 3 rfl) ?_
                refine lv_iconst (v := 1) hx hb d_M_grouped_118 (by decide) ?_
                refine lv_iadd hx hb d_M_grouped_119 ?_
                refine lv_topi (fun v119 ev119 => ?_)
                have ev119 : v119 = nI (g + 1) := by rw [ev119]; exact nI_1 g
                subst ev119
                refine va_put (D := D) (ci := 2) (v := .int (nI (g + 1))) (ty := .int) (C := R_M) (T := F_M) (N := 6) hx hb hA i_M t_M t_M_ok n_M hown hK hP hD hS 0 rfl rfl 5 (by decide) (hA _ k2_217) (fun _ h9 => h9) rfl (by decide +kernel) rfl rfl (Nat.le_of_ble_eq_true rfl) d_M_grouped_120 (fun H locs hP hD hS => ?_)
                have hP : va_P D vCl [(h, .inr (2, [.int th, .int (nI M), .ref cl, .ref sa, .ref pa, .int (nI (g + 1))])), (cl, .inl (cL, 32768, .inr (.inl (pkF (σ))))), (sa, .inl (cI, 4, .inl (fun i9 => nI ((σ) i9).2.1))), (pa, .inl (cI, 4, .inl (fun i9 => nI ((σ) i9).2.2)))] H := hP
                have hD : va_D A [(h, .inr (2, [.int th, .int (nI M), .ref cl, .ref sa, .ref pa, .int (nI (g + 1))])), (cl, .inl (cL, 32768, .inr (.inl (pkF (σ))))), (sa, .inl (cI, 4, .inl (fun i9 => nI ((σ) i9).2.1))), (pa, .inl (cI, 4, .inl (fun i9 => nI ((σ) i9).2.2)))] := hD
                refine lv_lload_n hx hb d_M_grouped_123 rfl (lv_at hl 1 rfl) ?_
                exact W.lret (v := v57) hx hb hr (fun t ht hW => ⟨⟨_, (nI (g + 1)), rfl, (Or.inr (Or.inr ⟨g + 1, hgood, rfl, by rw [ev57]; exact gr_or (by omega) hok⟩)), by rw [ht]; exact hP, va_K.moved hW.alike hK, hD⟩, hS.F ht⟩) hS.2.2 d_M_grouped_124
              · refine lv_iload hx hb d_M_grouped_97 (lv_at hl 3 rfl) ?_
                refine lv_if_le (tgt := 110) hx hb d_M_grouped_99 (by decide) (fun c99 => ?_) (fun c99 => ?_)
                · refine lv_iload hx hb d_M_grouped_110 (lv_at hl 0 rfl) ?_
                  refine lv_if_eq (tgt := 125) hx hb d_M_grouped_112 (by decide) (fun q9 => absurd q9 (by decide)) (fun _ => ?_)
                  have hgood : gw (σ k).1 q (σ k).2.1 10 = (g : Int) + 1 := by
                    rw [if_neg ?_] at hg
                    · exact hg.symm
                    · first
                      | (have h1 := mt (nI_eq (a := ((σ k).1 (q + g))) (b := 0) (by omega) (by omega)).mpr c94; omega)
                      | (have h2 := (nI_leI (a := g) (b := 0) (by omega) (by omega)).mp c99; omega)
                  refine lv_aload_n hx hb d_M_grouped_115 rfl (lv_at hl 4 rfl) ?_
                  refine lv_iload hx hb d_M_grouped_116 (lv_at hl 3 rfl) ?_
                  refine lv_iconst (v := 1) hx hb d_M_grouped_118 (by decide) ?_
                  refine lv_iadd hx hb d_M_grouped_119 ?_
                  refine lv_topi (fun v119 ev119 => ?_)
                  have ev119 : v119 = nI (g + 1) := by rw [ev119]; exact nI_1 g
                  subst ev119
                  refine va_put (D := D) (ci := 2) (v := .int (nI (g + 1))) (ty := .int) (C := R_M) (T := F_M) (N := 6) hx hb hA i_M t_M t_M_ok n_M hown hK hP hD hS 0 rfl rfl 5 (by decide) (hA _ k2_217) (fun _ h9 => h9) rfl (by decide +kernel) rfl rfl (Nat.le_of_ble_eq_true rfl) d_M_grouped_120 (fun H locs hP hD hS => ?_)
                  have hP : va_P D vCl [(h, .inr (2, [.int th, .int (nI M), .ref cl, .ref sa, .ref pa, .int (nI (g + 1))])), (cl, .inl (cL, 32768, .inr (.inl (pkF (σ))))), (sa, .inl (cI, 4, .inl (fun i9 => nI ((σ) i9).2.1))), (pa, .inl (cI, 4, .inl (fun i9 => nI ((σ) i9).2.2)))] H := hP
                  have hD : va_D A [(h, .inr (2, [.int th, .int (nI M), .ref cl, .ref sa, .ref pa, .int (nI (g + 1))])), (cl, .inl (cL, 32768, .inr (.inl (pkF (σ))))), (sa, .inl (cI, 4, .inl (fun i9 => nI ((σ) i9).2.1))), (pa, .inl (cI, 4, .inl (fun i9 => nI ((σ) i9).2.2)))] := hD
                  refine lv_lload_n hx hb d_M_grouped_123 rfl (lv_at hl 1 rfl) ?_
                  exact W.lret (v := v57) hx hb hr (fun t ht hW => ⟨⟨_, (nI (g + 1)), rfl, (Or.inr (Or.inr ⟨g + 1, hgood, rfl, by rw [ev57]; exact gr_or (by omega) hok⟩)), by rw [ht]; exact hP, va_K.moved hW.alike hK, hD⟩, hS.F ht⟩) hS.2.2 d_M_grouped_124
                · have hbad : gw (σ k).1 q (σ k).2.1 10 = -2 := by
                    first
                    | (have h1 := (nI_ltI (a := 1) (b := ((σ k).1 (q + g))) (by omega) (by omega)).mp c84; rw [if_pos (by omega)] at hg; exact hg.symm)
                    | (have h1 := (nI_ltI (a := 1) (b := ((σ k).1 (q + g))) (by omega) (by omega)).mp c84; subst hg9; exact hg.symm)
                    | (have h1 : ((σ k).1 (q + g)) = 0 := (nI_eq (b := 0) (by omega) (by omega)).mp c94; have h2 := mt (nI_leI (a := g) (b := 0) (by omega) (by omega)).mpr c99; rw [if_pos (by omega)] at hg; exact hg.symm)
                  refine lv_aload_n hx hb d_M_grouped_102 rfl (lv_at hl 4 rfl) ?_
                  refine lv_bipush (v := (-2)) hx hb d_M_grouped_103 (by decide) ?_
                  refine va_put (D := D) (ci := 2) (v := .int (-2)) (ty := .int) (C := R_M) (T := F_M) (N := 6) hx hb hA i_M t_M t_M_ok n_M hown hK hP hD hS 0 rfl rfl 5 (by decide) (hA _ k2_217) (fun _ h9 => h9) rfl (by decide +kernel) rfl rfl (Nat.le_of_ble_eq_true rfl) d_M_grouped_105 (fun H locs hP hD hS => ?_)
                  have hP : va_P D vCl [(h, .inr (2, [.int th, .int (nI M), .ref cl, .ref sa, .ref pa, .int (-2)])), (cl, .inl (cL, 32768, .inr (.inl (pkF (σ))))), (sa, .inl (cI, 4, .inl (fun i9 => nI ((σ) i9).2.1))), (pa, .inl (cI, 4, .inl (fun i9 => nI ((σ) i9).2.2)))] H := hP
                  have hD : va_D A [(h, .inr (2, [.int th, .int (nI M), .ref cl, .ref sa, .ref pa, .int (-2)])), (cl, .inl (cL, 32768, .inr (.inl (pkF (σ))))), (sa, .inl (cI, 4, .inl (fun i9 => nI ((σ) i9).2.1))), (pa, .inl (cI, 4, .inl (fun i9 => nI ((σ) i9).2.2)))] := hD
                  refine lv_lconst (v := 0) hx hb d_M_grouped_108 (by decide) ?_
                  exact W.lret (v := 0) hx hb hr (fun t ht hW => ⟨⟨_, (-2), rfl, (Or.inl ⟨hbad, rfl, rfl⟩), by rw [ht]; exact hP, va_K.moved hW.alike hK, hD⟩, hS.F ht⟩) hS.2.2 d_M_grouped_109
            · have hg9 : g = 9 := (nI_eq (a := g) (b := 9) (by omega) (by omega)).mp c78
              refine lv_iload hx hb d_M_grouped_81 (lv_at hl 2 rfl) ?_
              refine lv_iconst (v := 1) hx hb d_M_grouped_83 (by decide) ?_
              refine lv_icmp_gt (tgt := 102) hx hb d_M_grouped_84 (by decide) (fun c84 => ?_) (fun c84 => ?_)
              · have hbad : gw (σ k).1 q (σ k).2.1 10 = -2 := by
                  first
                  | (have h1 := (nI_ltI (a := 1) (b := ((σ k).1 (q + g))) (by omega) (by omega)).mp c84; rw [if_pos (by omega)] at hg; exact hg.symm)
                  | (have h1 := (nI_ltI (a := 1) (b := ((σ k).1 (q + g))) (by omega) (by omega)).mp c84; subst hg9; exact hg.symm)
                  | (have h1 : ((σ k).1 (q + g)) = 0 := (nI_eq (b := 0) (by omega) (by omega)).mp c94; have h2 := mt (nI_leI (a := g) (b := 0) (by omega) (by omega)).mpr c99; rw [if_pos (by omega)] at hg; exact hg.symm)
                refine lv_aload_n hx hb d_M_grouped_102 rfl (lv_at hl 4 rfl) ?_
                refine lv_bipush (v := (-2)) hx hb d_M_grouped_103 (by decide) ?_
                refine va_put (D := D) (ci := 2) (v := .int (-2)) (ty := .int) (C := R_M) (T := F_M) (N := 6) hx hb hA i_M t_M t_M_ok n_M hown hK hP hD hS 0 rfl rfl 5 (by decide) (hA _ k2_217) (fun _ h9 => h9) rfl (by decide +kernel) rfl rfl (Nat.le_of_ble_eq_true rfl) d_M_grouped_105 (fun H locs hP hD hS => ?_)
                have hP : va_P D vCl [(h, .inr (2, [.int th, .int (nI M), .ref cl, .ref sa, .ref pa, .int (-2)])), (cl, .inl (cL, 32768, .inr (.inl (pkF (σ))))), (sa, .inl (cI, 4, .inl (fun i9 => nI ((σ) i9).2.1))), (pa, .inl (cI, 4, .inl (fun i9 => nI ((σ) i9).2.2)))] H := hP
                have hD : va_D A [(h, .inr (2, [.int th, .int (nI M), .ref cl, .ref sa, .ref pa, .int (-2)])), (cl, .inl (cL, 32768, .inr (.inl (pkF (σ))))), (sa, .inl (cI, 4, .inl (fun i9 => nI ((σ) i9).2.1))), (pa, .inl (cI, 4, .inl (fun i9 => nI ((σ) i9).2.2)))] := hD
                refine lv_lconst (v := 0) hx hb d_M_grouped_108 (by decide) ?_
                exact W.lret (v := 0) hx hb hr (fun t ht hW => ⟨⟨_, (-2), rfl, (Or.inl ⟨hbad, rfl, rfl⟩), by rw [ht]; exact hP, va_K.moved hW.alike hK, hD⟩, hS.F ht⟩) hS.2.2 d_M_grouped_109
              · have hok : g < 9 ∨ ((σ k).1 (q + g)) ≤ 1 := by
                  first
                  | (have := mt (nI_ltI (a := 1) (b := ((σ k).1 (q + g))) (by omega) (by omega)).mpr c84; omega)
                  | (have := mt (nI_eq (a := g) (b := 9) (by omega) (by omega)).mpr c78; omega)
                refine lv_iload hx hb d_M_grouped_87 (lv_at hl 0 rfl) ?_
                refine lv_if_eq (tgt := 110) hx hb d_M_grouped_89 (by decide) (fun q9 => absurd q9 (by decide)) (fun _ => ?_)
                refine lv_iload hx hb d_M_grouped_92 (lv_at hl 2 rfl) ?_
                refine lv_if_ne (tgt := 110) hx hb d_M_grouped_94 (by decide) (fun c94 => ?_) (fun c94 => ?_)
                · refine lv_iload hx hb d_M_grouped_110 (lv_at hl 0 rfl) ?_
                  refine lv_if_eq (tgt := 125) hx hb d_M_grouped_112 (by decide) (fun q9 => absurd q9 (by decide)) (fun _ => ?_)
                  have hgood : gw (σ k).1 q (σ k).2.1 10 = (g : Int) + 1 := by
                    rw [if_neg ?_] at hg
                    · exact hg.symm
                    · first
                      | (have h1 := mt (nI_eq (a := ((σ k).1 (q + g))) (b := 0) (by omega) (by omega)).mpr c94; omega)
                      | (have h2 := (nI_leI (a := g) (b := 0) (by omega) (by omega)).mp c99; omega)
                  refine lv_aload_n hx hb d_M_grouped_115 rfl (lv_at hl 4 rfl) ?_
                  refine lv_iload hx hb d_M_grouped_116 (lv_at hl 3 rfl) ?_
                  refine lv_iconst (v := 1) hx hb d_M_grouped_118 (by decide) ?_
                  refine lv_iadd hx hb d_M_grouped_119 ?_
                  refine lv_topi (fun v119 ev119 => ?_)
                  have ev119 : v119 = nI (g + 1) := by rw [ev119]; exact nI_1 g
                  subst ev119
                  refine va_put (D := D) (ci := 2) (v := .int (nI (g + 1))) (ty := .int) (C := R_M) (T := F_M) (N := 6) hx hb hA i_M t_M t_M_ok n_M hown hK hP hD hS 0 rfl rfl 5 (by decide) (hA _ k2_217) (fun _ h9 => h9) rfl (by decide +kernel) rfl rfl (Nat.le_of_ble_eq_true rfl) d_M_grouped_120 (fun H locs hP hD hS => ?_)
                  have hP : va_P D vCl [(h, .inr (2, [.int th, .int (nI M), .ref cl, .ref sa, .ref pa, .int (nI (g + 1))])), (cl, .inl (cL, 32768, .inr (.inl (pkF (σ))))), (sa, .inl (cI, 4, .inl (fun i9 => nI ((σ) i9).2.1))), (pa, .inl (cI, 4, .inl (fun i9 => nI ((σ) i9).2.2)))] H := hP
                  have hD : va_D A [(h, .inr (2, [.int th, .int (nI M), .ref cl, .ref sa, .ref pa, .int (nI (g + 1))])), (cl, .inl (cL, 32768, .inr (.inl (pkF (σ))))), (sa, .inl (cI, 4, .inl (fun i9 => nI ((σ) i9).2.1))), (pa, .inl (cI, 4, .inl (fun i9 => nI ((σ) i9).2.2)))] := hD
                  refine lv_lload_n hx hb d_M_grouped_123 rfl (lv_at hl 1 rfl) ?_
                  exact W.lret (v := v57) hx hb hr (fun t ht hW => ⟨⟨_, (nI (g + 1)), rfl, (Or.inr (Or.inr ⟨g + 1, hgood, rfl, by rw [ev57]; exact gr_or (by omega) hok⟩)), by rw [ht]; exact hP, va_K.moved hW.alike hK, hD⟩, hS.F ht⟩) hS.2.2 d_M_grouped_124
                · refine lv_iload hx hb d_M_grouped_97 (lv_at hl 3 rfl) ?_
                  refine lv_if_le (tgt := 110) hx hb d_M_grouped_99 (by decide) (fun c99 => ?_) (fun c99 => ?_)
                  · refine lv_iload hx hb d_M_grouped_110 (lv_at hl 0 rfl) ?_
                    refine lv_if_eq (tgt := 125) hx hb d_M_grouped_112 (by decide) (fun q9 => absurd q9 (by decide)) (fun _ => ?_)
                    have hgood : gw (σ k).1 q (σ k).2.1 10 = (g : Int) + 1 := by
                      rw [if_neg ?_] at hg
                      · exact hg.symm
                      · first
                        | (have h1 := mt (nI_eq (a := ((σ k).1 (q + g))) (b := 0) (by omega) (by omega)).mpr c94; omega)
                        | (have h2 := (nI_leI (a := g) (b := 0) (by omega) (by omega)).mp c99; omega)
                    refine lv_aload_n hx hb d_M_grouped_115 rfl (lv_at hl 4 rfl) ?_
                    refine lv_iload hx hb d_M_grouped_116 (lv_at hl 3 rfl) ?_
                    refine lv_iconst (v := 1) hx hb d_M_grouped_118 (by decide) ?_
                    refine lv_iadd hx hb d_M_grouped_119 ?_
                    refine lv_topi (fun v119 ev119 => ?_)
                    have ev119 : v119 = nI (g + 1) := by rw [ev119]; exact nI_1 g
                    subst ev119
                    refine va_put (D := D) (ci := 2) (v := .int (nI (g + 1))) (ty := .int) (C := R_M) (T := F_M) (N := 6) hx hb hA i_M t_M t_M_ok n_M hown hK hP hD hS 0 rfl rfl 5 (by decide) (hA _ k2_217) (fun _ h9 => h9) rfl (by decide +kernel) rfl rfl (Nat.le_of_ble_eq_true rfl) d_M_grouped_120 (fun H locs hP hD hS => ?_)
                    have hP : va_P D vCl [(h, .inr (2, [.int th, .int (nI M), .ref cl, .ref sa, .ref pa, .int (nI (g + 1))])), (cl, .inl (cL, 32768, .inr (.inl (pkF (σ))))), (sa, .inl (cI, 4, .inl (fun i9 => nI ((σ) i9).2.1))), (pa, .inl (cI, 4, .inl (fun i9 => nI ((σ) i9).2.2)))] H := hP
                    have hD : va_D A [(h, .inr (2, [.int th, .int (nI M), .ref cl, .ref sa, .ref pa, .int (nI (g + 1))])), (cl, .inl (cL, 32768, .inr (.inl (pkF (σ))))), (sa, .inl (cI, 4, .inl (fun i9 => nI ((σ) i9).2.1))), (pa, .inl (cI, 4, .inl (fun i9 => nI ((σ) i9).2.2)))] := hD
                    refine lv_lload_n hx hb d_M_grouped_123 rfl (lv_at hl 1 rfl) ?_
                    exact W.lret (v := v57) hx hb hr (fun t ht hW => ⟨⟨_, (nI (g + 1)), rfl, (Or.inr (Or.inr ⟨g + 1, hgood, rfl, by rw [ev57]; exact gr_or (by omega) hok⟩)), by rw [ht]; exact hP, va_K.moved hW.alike hK, hD⟩, hS.F ht⟩) hS.2.2 d_M_grouped_124
                  · have hbad : gw (σ k).1 q (σ k).2.1 10 = -2 := by
                      first
                      | (have h1 := (nI_ltI (a := 1) (b := ((σ k).1 (q + g))) (by omega) (by omega)).mp c84; rw [if_pos (by omega)] at hg; exact hg.symm)
                      | (have h1 := (nI_ltI (a := 1) (b := ((σ k).1 (q + g))) (by omega) (by omega)).mp c84; subst hg9; exact hg.symm)
                      | (have h1 : ((σ k).1 (q + g)) = 0 := (nI_eq (b := 0) (by omega) (by omega)).mp c94; have h2 := mt (nI_leI (a := g) (b := 0) (by omega) (by omega)).mpr c99; rw [if_pos (by omega)] at hg; exact hg.symm)
                    refine lv_aload_n hx hb d_M_grouped_102 rfl (lv_at hl 4 rfl) ?_
                    refine lv_bipush (v := (-2)) hx hb d_M_grouped_103 (by decide) ?_
                    refine va_put (D := D) (ci := 2) (v := .int (-2)) (ty := .int) (C := R_M) (T := F_M) (N := 6) hx hb hA i_M t_M t_M_ok n_M hown hK hP hD hS 0 rfl rfl 5 (by decide) (hA _ k2_217) (fun _ h9 => h9) rfl (by decide +kernel) rfl rfl (Nat.le_of_ble_eq_true rfl) d_M_grouped_105 (fun H locs hP hD hS => ?_)
                    have hP : va_P D vCl [(h, .inr (2, [.int th, .int (nI M), .ref cl, .ref sa, .ref pa, .int (-2)])), (cl, .inl (cL, 32768, .inr (.inl (pkF (σ))))), (sa, .inl (cI, 4, .inl (fun i9 => nI ((σ) i9).2.1))), (pa, .inl (cI, 4, .inl (fun i9 => nI ((σ) i9).2.2)))] H := hP
                    have hD : va_D A [(h, .inr (2, [.int th, .int (nI M), .ref cl, .ref sa, .ref pa, .int (-2)])), (cl, .inl (cL, 32768, .inr (.inl (pkF (σ))))), (sa, .inl (cI, 4, .inl (fun i9 => nI ((σ) i9).2.1))), (pa, .inl (cI, 4, .inl (fun i9 => nI ((σ) i9).2.2)))] := hD
                    refine lv_lconst (v := 0) hx hb d_M_grouped_108 (by decide) ?_
                    exact W.lret (v := 0) hx hb hr (fun t ht hW => ⟨⟨_, (-2), rfl, (Or.inl ⟨hbad, rfl, rfl⟩), by rw [ht]; exact hP, va_K.moved hW.alike hK, hD⟩, hS.F ht⟩) hS.2.2 d_M_grouped_109
        · have hge : (σ k).2.1 ≤ q + g := by have := mt (nI_ltI (a := q + g) (b := (σ k).2.1) (by omega) (by omega)).mpr c22; omega
          rw [if_pos hge] at hg
          refine lv_aload_n hx hb d_M_grouped_25 rfl (lv_at hl 2 rfl) ?_
          refine lv_bipush (v := (-3)) hx hb d_M_grouped_26 (by decide) ?_
          refine va_put (D := D) (ci := 2) (v := .int (-3)) (ty := .int) (C := R_M) (T := F_M) (N := 6) hx hb hA i_M t_M t_M_ok n_M hown hK hP hD hS 0 rfl rfl 5 (by decide) (hA _ k2_217) (fun _ h9 => h9) rfl (by decide +kernel) rfl rfl (Nat.le_of_ble_eq_true rfl) d_M_grouped_28 (fun H locs hP hD hS => ?_)
          have hP : va_P D vCl [(h, .inr (2, [.int th, .int (nI M), .ref cl, .ref sa, .ref pa, .int (-3)])), (cl, .inl (cL, 32768, .inr (.inl (pkF (σ))))), (sa, .inl (cI, 4, .inl (fun i9 => nI ((σ) i9).2.1))), (pa, .inl (cI, 4, .inl (fun i9 => nI ((σ) i9).2.2)))] H := hP
          have hD : va_D A [(h, .inr (2, [.int th, .int (nI M), .ref cl, .ref sa, .ref pa, .int (-3)])), (cl, .inl (cL, 32768, .inr (.inl (pkF (σ))))), (sa, .inl (cI, 4, .inl (fun i9 => nI ((σ) i9).2.1))), (pa, .inl (cI, 4, .inl (fun i9 => nI ((σ) i9).2.2)))] := hD
          refine lv_lconst (v := 0) hx hb d_M_grouped_31 (by decide) ?_
          exact W.lret (v := 0) hx hb hr (fun t ht hW => ⟨⟨_, (-3), rfl, (Or.inr (Or.inl ⟨hg.symm, rfl, rfl⟩)), by rw [ht]; exact hP, va_K.moved hW.alike hK, hD⟩, hS.F ht⟩) hS.2.2 d_M_grouped_32
  exact loop 11 0 (by omega) (by omega) rfl ls (lv_sub hl [0, 1, 2, 3, 4] rfl)
