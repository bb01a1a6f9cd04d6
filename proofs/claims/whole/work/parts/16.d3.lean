/-! THE CLASS, LEAVES THAT MAY THROW -/
set_option maxHeartbeats 600000 in
set_option maxRecDepth 100000 in
/-- rowOf -/
theorem c_D_rowOf (l : Launch) (hL0 : l.stackTraces = false) (D : va_G) (cR : ClassId) (h ra : Nat) (g : Nat → Option Nat) (y : Nat → Nat) (hg : ∀ i, i < 4 → g i = some (y i)) (x : Int32) : tx_Met l y_D_rowOf w_D_rowOf ({ frames := 6, cells := 1, slots := 6, locals := 90 }) (va_Pc [.ref h, .int x] (oxg D [(cR, .object "PacketDesk$Row")] [(h, .inr (0, [.ref ra])), (ra, .inl (cR, 4, .inr (.inr (.inr (.inr g)))))])) (tx_Q (fun E => E = X_IOOBE ∧ ¬ (0 ≤ x.toInt ∧ x.toInt < 4)) (va_Sr (fun k => k < 4 ∧ x = nI k) (fun k => .ref (y k)))) 0 0 (fun _ => False) := by
  refine tx_ofW (cc := b_D_rowOf) (maxL := 2) (ret := (some (.object "PacketDesk$Row"))) (by decide) rfl ?_
  intro p9 e9 s m args below meth c9 s₁ BL hml hce hadm hv
  obtain ⟨rfl, hP, hK, hG⟩ := hv
  have hx := BL.exec
  have hb := BL.bytes
  have hr := BL.returns
  have hts := atoms_spec (ws := w_D_rowOf) BL.pre
  have hA : ∀ w ∈ wsA, w.before _ s = true := fun w h => hts w (List.mem_cons_of_mem _ h)
  have hown : s.vm.findClass R_D = some m.cls := findClass_of_methodNamed BL.named
  have hlocks := BL.notSynchronized
  have htr : e9.platform.stackTraces = false := by rw [hadm.platform]; exact hL0
  have hP : va_P D vCl [(h, .inr (0, [.ref ra])), (ra, .inl (cR, 4, .inr (.inr (.inr (.inr g)))))] s.heap := hP
  have hl := lv_entry ([.ref h, .int x]) (n := 2) (Nat.le_of_ble_eq_true rfl)
  rw [lg_entry_eq]
  generalize (lg_sl ([.ref h, .int x]) ++ List.replicate (2 - (lg_sl ([.ref h, .int x])).length) Slot.unset).toArray = ls at hl ⊢
  have hl : lv_has ls 2 [(0, .ref h), (1, .int x)] := hl
  refine lv_iload_n hx hb d_D_rowOf_0 rfl (lv_at hl 1 rfl) ?_
  refine lv_if_lt (tgt := 9) hx hb d_D_rowOf_1 (by decide) (fun c1 => ?_) (fun c1 => ?_)
  · exact th_IOOBE hx hb hml hlocks hce htr hown hA hG hl.1 (Nat.le_of_ble_eq_true rfl) (tx := "no such row") (by decide) d_D_rowOf_9 d_D_rowOf_12 d_D_rowOf_13 d_D_rowOf_15 d_D_rowOf_18 (Nat.le_of_ble_eq_true rfl) (Nat.le_of_ble_eq_true rfl) (Nat.le_of_ble_eq_true rfl) (Nat.le_of_ble_eq_true rfl) (by exact ⟨rfl, by simp only [Int32.lt_iff_toInt_lt, Int32.le_iff_toInt_le, li_0, li_1, li_2, li_3, li_4, li_8, li_10, li_16, li_63, li_127, li_128, li_191, li_192, li_194, li_224, li_240, li_244, li_255, li_2048, li_55296, li_57343, li_65536, li_1114111, li_m1, li_m2] at *; omega⟩)
  · refine lv_iload_n hx hb d_D_rowOf_4 rfl (lv_at hl 1 rfl) ?_
    refine lv_iconst (v := 4) hx hb d_D_rowOf_5 (by decide) ?_
    refine lv_icmp_lt (tgt := 19) hx hb d_D_rowOf_6 (by decide) (fun c6 => ?_) (fun c6 => ?_)
    · obtain ⟨j, hj2, rfl⟩ := nI_of c1
      have hj : j < 4 := (nI_ltI (b := 4) hj2 (by omega)).mp c6
      refine lv_aload_n hx hb d_D_rowOf_19 rfl (lv_at hl 0 rfl) ?_
      refine va_get (D := D) (ci := 0) (v := .ref ra) (C := R_D) (T := F_D) (N := 1) hx hb hA i_D hown hK hP 0 rfl rfl 0 (by decide) (hA _ k1_49) (fun _ h9 => h9) rfl d_D_rowOf_20 ?_
      refine lv_iload_n hx hb d_D_rowOf_23 rfl (lv_at hl 1 rfl) ?_
      refine va_aldq hx hb hK hP 1 0 rfl rfl (vp_in_nI hj (by omega)) d_D_rowOf_24 ?_
      rw [show va_rf (g (nI j).toNatClampNeg) = .ref (y j) from by rw [nI_clamp (by omega), hg j hj]; rfl]
      exact tx_ret (W.aret (v := .ref (y j)) hx hb hr (Or.inl ⟨_, rfl⟩) (Or.inr ⟨_, rfl⟩) (fun t ht hW => Or.inl ⟨_, rfl, j, rfl, ⟨hj, rfl⟩, ht⟩) (fun q h => by cases h) d_D_rowOf_25)
    · exact th_IOOBE hx hb hml hlocks hce htr hown hA hG hl.1 (Nat.le_of_ble_eq_true rfl) (tx := "no such row") (by decide) d_D_rowOf_9 d_D_rowOf_12 d_D_rowOf_13 d_D_rowOf_15 d_D_rowOf_18 (Nat.le_of_ble_eq_true rfl) (Nat.le_of_ble_eq_true rfl) (Nat.le_of_ble_eq_true rfl) (Nat.le_of_ble_eq_true rfl) (by exact ⟨rfl, by simp only [Int32.lt_iff_toInt_lt, Int32.le_iff_toInt_le, li_0, li_1, li_2, li_3, li_4, li_8, li_10, li_16, li_63, li_127, li_128, li_191, li_192, li_194, li_224, li_240, li_244, li_255, li_2048, li_55296, li_57343, li_65536, li_1114111, li_m1, li_m2] at *; omega⟩)
set_option maxHeartbeats 600000 in
set_option maxRecDepth 100000 in
/-- needFixedWidth -/
theorem c_D_needFixedWidth (l : Launch) (hL0 : l.stackTraces = false) (x : Int32) : tx_Met l y_D_needFixedWidth w_D_needFixedWidth ({ frames := 6, cells := 1, slots := 6, locals := 90 }) (va_Pc [.int x] tx_G) (tx_Q (fun E => E = X_IAE ∧ ¬ (1 ≤ x.toInt ∧ x.toInt ≤ 8)) (va_Sv (fun _ => 1 ≤ x.toInt ∧ x.toInt ≤ 8))) 0 0 (fun _ => False) := by
  refine tx_ofW (cc := b_D_needFixedWidth) (maxL := 1) (ret := none) (by decide) rfl ?_
  intro p9 e9 s m args below meth c9 s₁ BL hml hce hadm hv
  obtain ⟨rfl, hG⟩ := hv
  have hx := BL.exec
  have hb := BL.bytes
  have hr := BL.returns
  have hts := atoms_spec (ws := w_D_needFixedWidth) BL.pre
  have hA : ∀ w ∈ wsA, w.before _ s = true := fun w h => hts w (List.mem_cons_of_mem _ h)
  have hown : s.vm.findClass R_D = some m.cls := findClass_of_methodNamed BL.named
  have hlocks := BL.notSynchronized
  have htr : e9.platform.stackTraces = false := by rw [hadm.platform]; exact hL0
  have hl := lv_entry ([.int x]) (n := 1) (Nat.le_of_ble_eq_true rfl)
  rw [lg_entry_eq]
  generalize (lg_sl ([.int x]) ++ List.replicate (1 - (lg_sl ([.int x])).length) Slot.unset).toArray = ls at hl ⊢
  have hl : lv_has ls 1 [(0, .int x)] := hl
  refine lv_iload_n hx hb d_D_needFixedWidth_0 rfl (lv_at hl 0 rfl) ?_
  refine lv_iconst (v := 1) hx hb d_D_needFixedWidth_1 (by decide) ?_
  refine lv_icmp_lt (tgt := 11) hx hb d_D_needFixedWidth_2 (by decide) (fun c2 => ?_) (fun c2 => ?_)
  · exact th_IAE hx hb hml hlocks hce htr hown hA hG hl.1 (Nat.le_of_ble_eq_true rfl) (tx := "a number has 1 to 8 bytes") (by decide) d_D_needFixedWidth_11 d_D_needFixedWidth_14 d_D_needFixedWidth_15 d_D_needFixedWidth_17 d_D_needFixedWidth_20 (Nat.le_of_ble_eq_true rfl) (Nat.le_of_ble_eq_true rfl) (Nat.le_of_ble_eq_true rfl) (Nat.le_of_ble_eq_true rfl) (by exact ⟨rfl, by simp only [Int32.lt_iff_toInt_lt, Int32.le_iff_toInt_le, li_0, li_1, li_2, li_3, li_4, li_8, li_10, li_16, li_63, li_127, li_128, li_191, li_192, li_194, li_224, li_240, li_244, li_255, li_2048, li_55296, li_57343, li_65536, li_1114111, li_m1, li_m2] at *; omega⟩)
  · refine lv_iload_n hx hb d_D_needFixedWidth_5 rfl (lv_at hl 0 rfl) ?_
    refine lv_bipush (v := 8) hx hb d_D_needFixedWidth_6 (by decide) ?_
    refine lv_icmp_le (tgt := 21) hx hb d_D_needFixedWidth_8 (by decide) (fun c8 => ?_) (fun c8 => ?_)
    · exact tx_ret (W.vret hx hb hr (fun t ht hW => Or.inl ⟨_, rfl, ⟨rfl, (by simp only [Int32.lt_iff_toInt_lt, Int32.le_iff_toInt_le, li_0, li_1, li_2, li_3, li_4, li_8, li_10, li_16, li_63, li_127, li_128, li_191, li_192, li_194, li_224, li_240, li_244, li_255, li_2048, li_55296, li_57343, li_65536, li_1114111, li_m1, li_m2] at *; omega), ht⟩⟩) (fun q h => by cases h) d_D_needFixedWidth_21)
    · exact th_IAE hx hb hml hlocks hce htr hown hA hG hl.1 (Nat.le_of_ble_eq_true rfl) (tx := "a number has 1 to 8 bytes") (by decide) d_D_needFixedWidth_11 d_D_needFixedWidth_14 d_D_needFixedWidth_15 d_D_needFixedWidth_17 d_D_needFixedWidth_20 (Nat.le_of_ble_eq_true rfl) (Nat.le_of_ble_eq_true rfl) (Nat.le_of_ble_eq_true rfl) (Nat.le_of_ble_eq_true rfl) (by exact ⟨rfl, by simp only [Int32.lt_iff_toInt_lt, Int32.le_iff_toInt_le, li_0, li_1, li_2, li_3, li_4, li_8, li_10, li_16, li_63, li_127, li_128, li_191, li_192, li_194, li_224, li_240, li_244, li_255, li_2048, li_55296, li_57343, li_65536, li_1114111, li_m1, li_m2] at *; omega⟩)
set_option maxHeartbeats 600000 in
set_option maxRecDepth 100000 in
/-- needTwoRows -/
theorem c_D_needTwoRows (l : Launch) (hL0 : l.stackTraces = false) (x z : Int32) : tx_Met l y_D_needTwoRows w_D_needTwoRows ({ frames := 6, cells := 1, slots := 6, locals := 90 }) (va_Pc [.int x, .int z] tx_G) (tx_Q (fun E => E = X_IAE ∧ x = z) (va_Sv (fun _ => ¬ x = z))) 0 0 (fun _ => False) := by
  refine tx_ofW (cc := b_D_needTwoRows) (maxL := 2) (ret := none) (by decide) rfl ?_
  intro p9 e9 s m args below meth c9 s₁ BL hml hce hadm hv
  obtain ⟨rfl, hG⟩ := hv
  have hx := BL.exec
  have hb := BL.bytes
  have hr := BL.returns
  have hts := atoms_spec (ws := w_D_needTwoRows) BL.pre
  have hA : ∀ w ∈ wsA, w.before _ s = true := fun w h => hts w (List.mem_cons_of_mem _ h)
  have hown : s.vm.findClass R_D = some m.cls := findClass_of_methodNamed BL.named
  have hlocks := BL.notSynchronized
  have htr : e9.platform.stackTraces = false := by rw [hadm.platform]; exact hL0
  have hl := lv_entry ([.int x, .int z]) (n := 2) (Nat.le_of_ble_eq_true rfl)
  rw [lg_entry_eq]
  generalize (lg_sl ([.int x, .int z]) ++ List.replicate (2 - (lg_sl ([.int x, .int z])).length) Slot.unset).toArray = ls at hl ⊢
  have hl : lv_has ls 2 [(0, .int x), (1, .int z)] := hl
  refine lv_iload_n hx hb d_D_needTwoRows_0 rfl (lv_at hl 0 rfl) ?_
  refine lv_iload_n hx hb d_D_needTwoRows_1 rfl (lv_at hl 1 rfl) ?_
  refine lv_icmp_ne (tgt := 15) hx hb d_D_needTwoRows_2 (by decide) (fun c2 => ?_) (fun c2 => ?_)
  · exact tx_ret (W.vret hx hb hr (fun t ht hW => Or.inl ⟨_, rfl, ⟨rfl, (c2), ht⟩⟩) (fun q h => by cases h) d_D_needTwoRows_15)
  · exact th_IAE hx hb hml hlocks hce htr hown hA hG hl.1 (Nat.le_of_ble_eq_true rfl) (tx := "a row is not read into itself") (by decide) d_D_needTwoRows_5 d_D_needTwoRows_8 d_D_needTwoRows_9 d_D_needTwoRows_11 d_D_needTwoRows_14 (Nat.le_of_ble_eq_true rfl) (Nat.le_of_ble_eq_true rfl) (Nat.le_of_ble_eq_true rfl) (Nat.le_of_ble_eq_true rfl) (by exact ⟨rfl, c2⟩)
set_option maxHeartbeats 600000 in
set_option maxRecDepth 100000 in
/-- needRange -/
theorem c_D_needRange (l : Launch) (hL0 : l.stackTraces = false) (D : va_G) (cB : ClassId) (y b M : Nat) (B : Nat → Nat) (n p : Nat) (hn : n ≤ M) (hM : M ≤ 65536) (a k : Int32) : tx_Met l y_D_needRange w_D_needRange ({ frames := 6, cells := 1, slots := 6, locals := 90 }) (va_Pc [.ref y, .int a, .int k] (oxg D [(cB, .byte)] [(y, .inr (1, [.ref b, .int (nI n), .int (nI p)])), (b, .inl (cB, M, .inl (fun j => sb_b (B j))))])) (tx_Q (fun E => E = X_IAE ∧ ¬ (0 ≤ a.toInt ∧ 0 ≤ k.toInt ∧ a.toInt + k.toInt ≤ (n : Int))) (va_Sv (fun _ => 0 ≤ a.toInt ∧ 0 ≤ k.toInt ∧ a.toInt + k.toInt ≤ (n : Int)))) 0 0 (fun _ => False) := by
  refine tx_ofW (cc := b_D_needRange) (maxL := 3) (ret := none) (by decide) rfl ?_
  intro p9 e9 s m args below meth c9 s₁ BL hml hce hadm hv
  obtain ⟨rfl, hP, hK, hG⟩ := hv
  have hx := BL.exec
  have hb := BL.bytes
  have hr := BL.returns
  have hts := atoms_spec (ws := w_D_needRange) BL.pre
  have hA : ∀ w ∈ wsA, w.before _ s = true := fun w h => hts w (List.mem_cons_of_mem _ h)
  have hown : s.vm.findClass R_D = some m.cls := findClass_of_methodNamed BL.named
  have hlocks := BL.notSynchronized
  have htr : e9.platform.stackTraces = false := by rw [hadm.platform]; exact hL0
  have hP : va_P D vCl [(y, .inr (1, [.ref b, .int (nI n), .int (nI p)])), (b, .inl (cB, M, .inl (fun j => sb_b (B j))))] s.heap := hP
  have hl := lv_entry ([.ref y, .int a, .int k]) (n := 3) (Nat.le_of_ble_eq_true rfl)
  rw [lg_entry_eq]
  generalize (lg_sl ([.ref y, .int a, .int k]) ++ List.replicate (3 - (lg_sl ([.ref y, .int a, .int k])).length) Slot.unset).toArray = ls at hl ⊢
  have hl : lv_has ls 3 [(0, .ref y), (1, .int a), (2, .int k)] := hl
  have hni : (nI n).toInt = (n : Int) := nI_toInt (by omega)
  refine lv_iload_n hx hb d_D_needRange_0 rfl (lv_at hl 1 rfl) ?_
  refine lv_if_lt (tgt := 26) hx hb d_D_needRange_1 (by decide) (fun c1 => ?_) (fun c1 => ?_)
  · exact th_IAE hx hb hml hlocks hce htr hown hA hG hl.1 (Nat.le_of_ble_eq_true rfl) (tx := "the row has not so many bytes") (by decide) d_D_needRange_26 d_D_needRange_29 d_D_needRange_30 d_D_needRange_32 d_D_needRange_35 (Nat.le_of_ble_eq_true rfl) (Nat.le_of_ble_eq_true rfl) (Nat.le_of_ble_eq_true rfl) (Nat.le_of_ble_eq_true rfl) (by exact ⟨rfl, by simp only [Int32.lt_iff_toInt_lt, Int32.le_iff_toInt_le, li_0, li_1, li_2, li_3, li_4, li_8, li_10, li_16, li_63, li_127, li_128, li_191, li_192, li_194, li_224, li_240, li_244, li_255, li_2048, li_55296, li_57343, li_65536, li_1114111, li_m1, li_m2] at *; omega⟩)
  · refine lv_iload_n hx hb d_D_needRange_4 rfl (lv_at hl 2 rfl) ?_
    refine lv_if_lt (tgt := 26) hx hb d_D_needRange_5 (by decide) (fun c5 => ?_) (fun c5 => ?_)
    · exact th_IAE hx hb hml hlocks hce htr hown hA hG hl.1 (Nat.le_of_ble_eq_true rfl) (tx := "the row has not so many bytes") (by decide) d_D_needRange_26 d_D_needRange_29 d_D_needRange_30 d_D_needRange_32 d_D_needRange_35 (Nat.le_of_ble_eq_true rfl) (Nat.le_of_ble_eq_true rfl) (Nat.le_of_ble_eq_true rfl) (Nat.le_of_ble_eq_true rfl) (by exact ⟨rfl, by simp only [Int32.lt_iff_toInt_lt, Int32.le_iff_toInt_le, li_0, li_1, li_2, li_3, li_4, li_8, li_10, li_16, li_63, li_127, li_128, li_191, li_192, li_194, li_224, li_240, li_244, li_255, li_2048, li_55296, li_57343, li_65536, li_1114111, li_m1, li_m2] at *; omega⟩)
    · refine lv_iload_n hx hb d_D_needRange_8 rfl (lv_at hl 1 rfl) ?_
      refine lv_aload_n hx hb d_D_needRange_9 rfl (lv_at hl 0 rfl) ?_
      refine va_get (D := D) (ci := 1) (v := .int (nI n)) (C := R_R) (T := F_R) (N := 3) hx hb hA i_R hown hK hP 0 rfl rfl 1 (by decide) (hA _ k1_38) (fun _ h9 => h9) rfl d_D_needRange_10 ?_
      refine lv_icmp_gt (tgt := 26) hx hb d_D_needRange_13 (by decide) (fun c13 => ?_) (fun c13 => ?_)
      · exact th_IAE hx hb hml hlocks hce htr hown hA hG hl.1 (Nat.le_of_ble_eq_true rfl) (tx := "the row has not so many bytes") (by decide) d_D_needRange_26 d_D_needRange_29 d_D_needRange_30 d_D_needRange_32 d_D_needRange_35 (Nat.le_of_ble_eq_true rfl) (Nat.le_of_ble_eq_true rfl) (Nat.le_of_ble_eq_true rfl) (Nat.le_of_ble_eq_true rfl) (by exact ⟨rfl, by simp only [Int32.lt_iff_toInt_lt, Int32.le_iff_toInt_le, li_0, li_1, li_2, li_3, li_4, li_8, li_10, li_16, li_63, li_127, li_128, li_191, li_192, li_194, li_224, li_240, li_244, li_255, li_2048, li_55296, li_57343, li_65536, li_1114111, li_m1, li_m2] at *; omega⟩)
      · obtain ⟨j, hj2, rfl⟩ := nI_of c1
        have hji : (nI j).toInt = (j : Int) := nI_toInt (by omega)
        have hjn : j ≤ n := by have := mt (nI_ltI (a := n) (b := j) (by omega) (by omega)).mpr c13; omega
        have hdi : (nI (n - j)).toInt = ((n - j : Nat) : Int) := nI_toInt (by omega)
        refine lv_iload_n hx hb d_D_needRange_16 rfl (lv_at hl 2 rfl) ?_
        refine lv_aload_n hx hb d_D_needRange_17 rfl (lv_at hl 0 rfl) ?_
        refine va_get (D := D) (ci := 1) (v := .int (nI n)) (C := R_R) (T := F_R) (N := 3) hx hb hA i_R hown hK hP 0 rfl rfl 1 (by decide) (hA _ k1_38) (fun _ h9 => h9) rfl d_D_needRange_18 ?_
        refine lv_iload_n hx hb d_D_needRange_21 rfl (lv_at hl 1 rfl) ?_
        refine lv_isub hx hb d_D_needRange_22 ?_
        refine lv_topi (fun v22 ev22 => ?_)
        have ev22 : v22 = nI (n - j) := by rw [ev22]; exact pk_sub hjn
        subst ev22
        refine lv_icmp_le (tgt := 36) hx hb d_D_needRange_23 (by decide) (fun c23 => ?_) (fun c23 => ?_)
        · exact tx_ret (W.vret hx hb hr (fun t ht hW => Or.inl ⟨_, rfl, ⟨rfl, (by simp only [Int32.lt_iff_toInt_lt, Int32.le_iff_toInt_le, li_0, li_1, li_2, li_3, li_4, li_8, li_10, li_16, li_63, li_127, li_128, li_191, li_192, li_194, li_224, li_240, li_244, li_255, li_2048, li_55296, li_57343, li_65536, li_1114111, li_m1, li_m2] at *; omega), ht⟩⟩) (fun q h => by cases h) d_D_needRange_36)
        · exact th_IAE hx hb hml hlocks hce htr hown hA hG hl.1 (Nat.le_of_ble_eq_true rfl) (tx := "the row has not so many bytes") (by decide) d_D_needRange_26 d_D_needRange_29 d_D_needRange_30 d_D_needRange_32 d_D_needRange_35 (Nat.le_of_ble_eq_true rfl) (Nat.le_of_ble_eq_true rfl) (Nat.le_of_ble_eq_true rfl) (Nat.le_of_ble_eq_true rfl) (by exact ⟨rfl, by simp only [Int32.lt_iff_toInt_lt, Int32.le_iff_toInt_le, li_0, li_1, li_2, li_3, li_4, li_8, li_10, li_16, li_63, li_127, li_128, li_191, li_192, li_194, li_224, li_240, li_244, li_255, li_2048, li_55296, li_57343, li_65536, li_1114111, li_m1, li_m2] at *; omega⟩)
set_option maxHeartbeats 600000 in
set_option maxRecDepth 100000 in
/-- needRoom -/
theorem c_D_needRoom (l : Launch) (hL0 : l.stackTraces = false) (D : va_G) (cB : ClassId) (y b M : Nat) (B : Nat → Nat) (n p : Nat) (hn : n ≤ M) (hM : M ≤ 65536) (k : Nat) (hk : k ≤ 1000000) : tx_Met l y_D_needRoom w_D_needRoom ({ frames := 6, cells := 1, slots := 6, locals := 90 }) (va_Pc [.ref y, .int (nI k)] (oxg D [(cB, .byte)] [(y, .inr (1, [.ref b, .int (nI n), .int (nI p)])), (b, .inl (cB, M, .inl (fun j => sb_b (B j))))])) (tx_Q (fun E => E = X_ISE ∧ M < n + k) (va_Sv (fun _ => n + k ≤ M))) 0 0 (fun _ => False) := by
  refine tx_ofW (cc := b_D_needRoom) (maxL := 2) (ret := none) (by decide) rfl ?_
  intro p9 e9 s m args below meth c9 s₁ BL hml hce hadm hv
  obtain ⟨rfl, hP, hK, hG⟩ := hv
  have hx := BL.exec
  have hb := BL.bytes
  have hr := BL.returns
  have hts := atoms_spec (ws := w_D_needRoom) BL.pre
  have hA : ∀ w ∈ wsA, w.before _ s = true := fun w h => hts w (List.mem_cons_of_mem _ h)
  have hown : s.vm.findClass R_D = some m.cls := findClass_of_methodNamed BL.named
  have hlocks := BL.notSynchronized
  have htr : e9.platform.stackTraces = false := by rw [hadm.platform]; exact hL0
  have hP : va_P D vCl [(y, .inr (1, [.ref b, .int (nI n), .int (nI p)])), (b, .inl (cB, M, .inl (fun j => sb_b (B j))))] s.heap := hP
  have hl := lv_entry ([.ref y, .int (nI k)]) (n := 2) (Nat.le_of_ble_eq_true rfl)
  rw [lg_entry_eq]
  generalize (lg_sl ([.ref y, .int (nI k)]) ++ List.replicate (2 - (lg_sl ([.ref y, .int (nI k)])).length) Slot.unset).toArray = ls at hl ⊢
  have hl : lv_has ls 2 [(0, .ref y), (1, .int (nI k))] := hl
  refine lv_iload_n hx hb d_D_needRoom_0 rfl (lv_at hl 1 rfl) ?_
  refine lv_aload_n hx hb d_D_needRoom_1 rfl (lv_at hl 0 rfl) ?_
  refine va_get (D := D) (ci := 1) (v := .ref b) (C := R_R) (T := F_R) (N := 3) hx hb hA i_R hown hK hP 0 rfl rfl 0 (by decide) (hA _ k1_37) (fun _ h9 => h9) rfl d_D_needRoom_2 ?_
  refine va_alen (v := nI M) hx hb hK hP 1 0 rfl rfl (rfl) d_D_needRoom_5 ?_
  refine lv_aload_n hx hb d_D_needRoom_6 rfl (lv_at hl 0 rfl) ?_
  refine va_get (D := D) (ci := 1) (v := .int (nI n)) (C := R_R) (T := F_R) (N := 3) hx hb hA i_R hown hK hP 0 rfl rfl 1 (by decide) (hA _ k1_38) (fun _ h9 => h9) rfl d_D_needRoom_7 ?_
  refine lv_isub hx hb d_D_needRoom_10 ?_
  refine lv_topi (fun v10 ev10 => ?_)
  have ev10 : v10 = nI (M - n) := by rw [ev10]; exact pk_sub hn
  subst ev10
  refine lv_icmp_le (tgt := 24) hx hb d_D_needRoom_11 (by decide) (fun c11 => ?_) (fun c11 => ?_)
  · have hle := (nI_leI (a := k) (b := M - n) (by omega) (by omega)).mp c11
    exact tx_ret (W.vret hx hb hr (fun t ht hW => Or.inl ⟨_, rfl, ⟨rfl, (by omega), ht⟩⟩) (fun q h => by cases h) d_D_needRoom_24)
  · have hle := mt (nI_leI (a := k) (b := M - n) (by omega) (by omega)).mpr c11
    exact th_ISE hx hb hml hlocks hce htr hown hA hG hl.1 (Nat.le_of_ble_eq_true rfl) (tx := "the row would be too long") (by decide) d_D_needRoom_14 d_D_needRoom_17 d_D_needRoom_18 d_D_needRoom_20 d_D_needRoom_23 (Nat.le_of_ble_eq_true rfl) (Nat.le_of_ble_eq_true rfl) (Nat.le_of_ble_eq_true rfl) (Nat.le_of_ble_eq_true rfl) (by exact ⟨rfl, by omega⟩)
set_option maxHeartbeats 600000 in
set_option maxRecDepth 100000 in
/-- needLeft -/
theorem c_D_needLeft (l : Launch) (hL0 : l.stackTraces = false) (D : va_G) (cB : ClassId) (y b M : Nat) (B : Nat → Nat) (n p : Nat) (hn : n ≤ M) (hM : M ≤ 65536) (hp : p ≤ n) (k : Nat) (hk : k ≤ 1000000) : tx_Met l y_D_needLeft w_D_needLeft ({ frames := 6, cells := 1, slots := 6, locals := 90 }) (va_Pc [.ref y, .int (nI k)] (oxg D [(cB, .byte)] [(y, .inr (1, [.ref b, .int (nI n), .int (nI p)])), (b, .inl (cB, M, .inl (fun j => sb_b (B j))))])) (tx_Q (fun E => E = X_NSEE ∧ n < p + k) (va_Sv (fun _ => p + k ≤ n))) 0 0 (fun _ => False) := by
  refine tx_ofW (cc := b_D_needLeft) (maxL := 2) (ret := none) (by decide) rfl ?_
  intro p9 e9 s m args below meth c9 s₁ BL hml hce hadm hv
  obtain ⟨rfl, hP, hK, hG⟩ := hv
  have hx := BL.exec
  have hb := BL.bytes
  have hr := BL.returns
  have hts := atoms_spec (ws := w_D_needLeft) BL.pre
  have hA : ∀ w ∈ wsA, w.before _ s = true := fun w h => hts w (List.mem_cons_of_mem _ h)
  have hown : s.vm.findClass R_D = some m.cls := findClass_of_methodNamed BL.named
  have hlocks := BL.notSynchronized
  have htr : e9.platform.stackTraces = false := by rw [hadm.platform]; exact hL0
  have hP : va_P D vCl [(y, .inr (1, [.ref b, .int (nI n), .int (nI p)])), (b, .inl (cB, M, .inl (fun j => sb_b (B j))))] s.heap := hP
  have hl := lv_entry ([.ref y, .int (nI k)]) (n := 2) (Nat.le_of_ble_eq_true rfl)
  rw [lg_entry_eq]
  generalize (lg_sl ([.ref y, .int (nI k)]) ++ List.replicate (2 - (lg_sl ([.ref y, .int (nI k)])).length) Slot.unset).toArray = ls at hl ⊢
  have hl : lv_has ls 2 [(0, .ref y), (1, .int (nI k))] := hl
  refine lv_iload_n hx hb d_D_needLeft_0 rfl (lv_at hl 1 rfl) ?_
  refine lv_aload_n hx hb d_D_needLeft_1 rfl (lv_at hl 0 rfl) ?_
  refine va_get (D := D) (ci := 1) (v := .int (nI n)) (C := R_R) (T := F_R) (N := 3) hx hb hA i_R hown hK hP 0 rfl rfl 1 (by decide) (hA _ k1_38) (fun _ h9 => h9) rfl d_D_needLeft_2 ?_
  refine lv_aload_n hx hb d_D_needLeft_5 rfl (lv_at hl 0 rfl) ?_
  refine va_get (D := D) (ci := 1) (v := .int (nI p)) (C := R_R) (T := F_R) (N := 3) hx hb hA i_R hown hK hP 0 rfl rfl 2 (by decide) (hA _ k1_40) (fun _ h9 => h9) rfl d_D_needLeft_6 ?_
  refine lv_isub hx hb d_D_needLeft_9 ?_
  refine lv_topi (fun v9 ev9 => ?_)
  have ev9 : v9 = nI (n - p) := by rw [ev9]; exact pk_sub hp
  subst ev9
  refine lv_icmp_le (tgt := 23) hx hb d_D_needLeft_10 (by decide) (fun c10 => ?_) (fun c10 => ?_)
  · have hle := (nI_leI (a := k) (b := n - p) (by omega) (by omega)).mp c10
    exact tx_ret (W.vret hx hb hr (fun t ht hW => Or.inl ⟨_, rfl, ⟨rfl, (by omega), ht⟩⟩) (fun q h => by cases h) d_D_needLeft_23)
  · have hle := mt (nI_leI (a := k) (b := n - p) (by omega) (by omega)).mpr c10
    exact th_NSEE hx hb hml hlocks hce htr hown hA hG hl.1 (Nat.le_of_ble_eq_true rfl) (tx := "the row ends before it is whole") (by decide) d_D_needLeft_13 d_D_needLeft_16 d_D_needLeft_17 d_D_needLeft_19 d_D_needLeft_22 (Nat.le_of_ble_eq_true rfl) (Nat.le_of_ble_eq_true rfl) (Nat.le_of_ble_eq_true rfl) (Nat.le_of_ble_eq_true rfl) (by exact ⟨rfl, by omega⟩)
set_option maxHeartbeats 600000 in
set_option maxRecDepth 100000 in
/-- needRightLast -/
theorem c_D_needRightLast (l : Launch) (hL0 : l.stackTraces = false) (f w : Nat) (hf : f < 256) (hw : w ≤ 10) : tx_Met l y_D_needRightLast w_D_needRightLast ({ frames := 6, cells := 1, slots := 6, locals := 90 }) (va_Pc [.int (nI f), .int (nI w)] tx_G) (tx_Q (fun E => E = X_IAE ∧ ((1 < w ∧ f = 0) ∨ (w = 10 ∧ 1 < f))) (va_Sv (fun _ => ¬ (1 < w ∧ f = 0) ∧ ¬ (w = 10 ∧ 1 < f)))) 0 0 (fun _ => False) := by
  refine tx_ofW (cc := b_D_needRightLast) (maxL := 2) (ret := none) (by decide) rfl ?_
  intro p9 e9 s m args below meth c9 s₁ BL hml hce hadm hv
  obtain ⟨rfl, hG⟩ := hv
  have hx := BL.exec
  have hb := BL.bytes
  have hr := BL.returns
  have hts := atoms_spec (ws := w_D_needRightLast) BL.pre
  have hA : ∀ w ∈ wsA, w.before _ s = true := fun w h => hts w (List.mem_cons_of_mem _ h)
  have hown : s.vm.findClass R_D = some m.cls := findClass_of_methodNamed BL.named
  have hlocks := BL.notSynchronized
  have htr : e9.platform.stackTraces = false := by rw [hadm.platform]; exact hL0
  have hl := lv_entry ([.int (nI f), .int (nI w)]) (n := 2) (Nat.le_of_ble_eq_true rfl)
  rw [lg_entry_eq]
  generalize (lg_sl ([.int (nI f), .int (nI w)]) ++ List.replicate (2 - (lg_sl ([.int (nI f), .int (nI w)])).length) Slot.unset).toArray = ls at hl ⊢
  have hl : lv_has ls 2 [(0, .int (nI f)), (1, .int (nI w))] := hl
  have hfi : (nI f).toInt = (f : Int) := nI_toInt (by omega)
  have hwi : (nI w).toInt = (w : Int) := nI_toInt (by omega)
  have z0 : nI f = 0 ↔ f = 0 := nI_eq (b := 0) (by omega) (by omega)
  have z1 : nI w = 10 ↔ w = 10 := nI_eq (b := 10) (by omega) (by omega)
  refine lv_iload_n hx hb d_D_needRightLast_0 rfl (lv_at hl 1 rfl) ?_
  refine lv_iconst (v := 1) hx hb d_D_needRightLast_1 (by decide) ?_
  refine lv_icmp_le (tgt := 19) hx hb d_D_needRightLast_2 (by decide) (fun c2 => ?_) (fun c2 => ?_)
  · refine lv_iload_n hx hb d_D_needRightLast_19 rfl (lv_at hl 1 rfl) ?_
    refine lv_bipush (v := 10) hx hb d_D_needRightLast_20 (by decide) ?_
    refine lv_icmp_ne (tgt := 40) hx hb d_D_needRightLast_22 (by decide) (fun c22 => ?_) (fun c22 => ?_)
    · simp only [Int32.lt_iff_toInt_lt, Int32.le_iff_toInt_le, li_0, li_1, li_2, li_3, li_4, li_8, li_10, li_16, li_63, li_127, li_128, li_191, li_192, li_194, li_224, li_240, li_244, li_255, li_2048, li_55296, li_57343, li_65536, li_1114111, li_m1, li_m2] at *
      try rw [z0] at c6
      try rw [z1] at c22
      exact tx_ret (W.vret hx hb hr (fun t ht hW => Or.inl ⟨_, rfl, ⟨rfl, (by omega), ht⟩⟩) (fun q h => by cases h) d_D_needRightLast_40)
    · refine lv_iload_n hx hb d_D_needRightLast_25 rfl (lv_at hl 0 rfl) ?_
      refine lv_iconst (v := 1) hx hb d_D_needRightLast_26 (by decide) ?_
      refine lv_icmp_le (tgt := 40) hx hb d_D_needRightLast_27 (by decide) (fun c27 => ?_) (fun c27 => ?_)
      · simp only [Int32.lt_iff_toInt_lt, Int32.le_iff_toInt_le, li_0, li_1, li_2, li_3, li_4, li_8, li_10, li_16, li_63, li_127, li_128, li_191, li_192, li_194, li_224, li_240, li_244, li_255, li_2048, li_55296, li_57343, li_65536, li_1114111, li_m1, li_m2] at *
        try rw [z0] at c6
        try rw [z1] at c22
        exact tx_ret (W.vret hx hb hr (fun t ht hW => Or.inl ⟨_, rfl, ⟨rfl, (by omega), ht⟩⟩) (fun q h => by cases h) d_D_needRightLast_40)
      · simp only [Int32.lt_iff_toInt_lt, Int32.le_iff_toInt_le, li_0, li_1, li_2, li_3, li_4, li_8, li_10, li_16, li_63, li_127, li_128, li_191, li_192, li_194, li_224, li_240, li_244, li_255, li_2048, li_55296, li_57343, li_65536, li_1114111, li_m1, li_m2] at *
        rw [z1] at c22
        exact th_IAE hx hb hml hlocks hce htr hown hA hG hl.1 (Nat.le_of_ble_eq_true rfl) (tx := "sevens of more than 64 bits") (by decide) d_D_needRightLast_30 d_D_needRightLast_33 d_D_needRightLast_34 d_D_needRightLast_36 d_D_needRightLast_39 (Nat.le_of_ble_eq_true rfl) (Nat.le_of_ble_eq_true rfl) (Nat.le_of_ble_eq_true rfl) (Nat.le_of_ble_eq_true rfl) (by exact ⟨rfl, by omega⟩)
  · refine lv_iload_n hx hb d_D_needRightLast_5 rfl (lv_at hl 0 rfl) ?_
    refine lv_if_ne (tgt := 19) hx hb d_D_needRightLast_6 (by decide) (fun c6 => ?_) (fun c6 => ?_)
    · refine lv_iload_n hx hb d_D_needRightLast_19 rfl (lv_at hl 1 rfl) ?_
      refine lv_bipush (v := 10) hx hb d_D_needRightLast_20 (by decide) ?_
      refine lv_icmp_ne (tgt := 40) hx hb d_D_needRightLast_22 (by decide) (fun c22 => ?_) (fun c22 => ?_)
      · simp only [Int32.lt_iff_toInt_lt, Int32.le_iff_toInt_le, li_0, li_1, li_2, li_3, li_4, li_8, li_10, li_16, li_63, li_127, li_128, li_191, li_192, li_194, li_224, li_240, li_244, li_255, li_2048, li_55296, li_57343, li_65536, li_1114111, li_m1, li_m2] at *
        try rw [z0] at c6
        try rw [z1] at c22
        exact tx_ret (W.vret hx hb hr (fun t ht hW => Or.inl ⟨_, rfl, ⟨rfl, (by omega), ht⟩⟩) (fun q h => by cases h) d_D_needRightLast_40)
      · refine lv_iload_n hx hb d_D_needRightLast_25 rfl (lv_at hl 0 rfl) ?_
        refine lv_iconst (v := 1) hx hb d_D_needRightLast_26 (by decide) ?_
        refine lv_icmp_le (tgt := 40) hx hb d_D_needRightLast_27 (by decide) (fun c27 => ?_) (fun c27 => ?_)
        · simp only [Int32.lt_iff_toInt_lt, Int32.le_iff_toInt_le, li_0, li_1, li_2, li_3, li_4, li_8, li_10, li_16, li_63, li_127, li_128, li_191, li_192, li_194, li_224, li_240, li_244, li_255, li_2048, li_55296, li_57343, li_65536, li_1114111, li_m1, li_m2] at *
          try rw [z0] at c6
          try rw [z1] at c22
          exact tx_ret (W.vret hx hb hr (fun t ht hW => Or.inl ⟨_, rfl, ⟨rfl, (by omega), ht⟩⟩) (fun q h => by cases h) d_D_needRightLast_40)
        · simp only [Int32.lt_iff_toInt_lt, Int32.le_iff_toInt_le, li_0, li_1, li_2, li_3, li_4, li_8, li_10, li_16, li_63, li_127, li_128, li_191, li_192, li_194, li_224, li_240, li_244, li_255, li_2048, li_55296, li_57343, li_65536, li_1114111, li_m1, li_m2] at *
          rw [z1] at c22
          exact th_IAE hx hb hml hlocks hce htr hown hA hG hl.1 (Nat.le_of_ble_eq_true rfl) (tx := "sevens of more than 64 bits") (by decide) d_D_needRightLast_30 d_D_needRightLast_33 d_D_needRightLast_34 d_D_needRightLast_36 d_D_needRightLast_39 (Nat.le_of_ble_eq_true rfl) (Nat.le_of_ble_eq_true rfl) (Nat.le_of_ble_eq_true rfl) (Nat.le_of_ble_eq_true rfl) (by exact ⟨rfl, by omega⟩)
    · simp only [Int32.lt_iff_toInt_lt, Int32.le_iff_toInt_le, li_0, li_1, li_2, li_3, li_4, li_8, li_10, li_16, li_63, li_127, li_128, li_191, li_192, li_194, li_224, li_240, li_244, li_255, li_2048, li_55296, li_57343, li_65536, li_1114111, li_m1, li_m2] at *
      rw [z0] at c6
      exact th_IAE hx hb hml hlocks hce htr hown hA hG hl.1 (Nat.le_of_ble_eq_true rfl) (tx := "the last of several sevens is 0") (by decide) d_D_needRightLast_9 d_D_needRightLast_12 d_D_needRightLast_13 d_D_needRightLast_15 d_D_needRightLast_18 (Nat.le_of_ble_eq_true rfl) (Nat.le_of_ble_eq_true rfl) (Nat.le_of_ble_eq_true rfl) (Nat.le_of_ble_eq_true rfl) (by exact ⟨rfl, by omega⟩)
