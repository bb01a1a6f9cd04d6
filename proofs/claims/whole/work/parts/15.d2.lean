/-! THE CLASS, LEAVES THAT ONLY COUNT -/
theorem li_0 : (0 : Int32).toInt = 0 := by decide
theorem li_1 : (1 : Int32).toInt = 1 := by decide
theorem li_2 : (2 : Int32).toInt = 2 := by decide
theorem li_3 : (3 : Int32).toInt = 3 := by decide
theorem li_4 : (4 : Int32).toInt = 4 := by decide
theorem li_8 : (8 : Int32).toInt = 8 := by decide
theorem li_10 : (10 : Int32).toInt = 10 := by decide
theorem li_16 : (16 : Int32).toInt = 16 := by decide
theorem li_63 : (63 : Int32).toInt = 63 := by decide
theorem li_127 : (127 : Int32).toInt = 127 := by decide
theorem li_128 : (128 : Int32).toInt = 128 := by decide
theorem li_191 : (191 : Int32).toInt = 191 := by decide
theorem li_192 : (192 : Int32).toInt = 192 := by decide
theorem li_194 : (194 : Int32).toInt = 194 := by decide
theorem li_224 : (224 : Int32).toInt = 224 := by decide
theorem li_240 : (240 : Int32).toInt = 240 := by decide
theorem li_244 : (244 : Int32).toInt = 244 := by decide
theorem li_255 : (255 : Int32).toInt = 255 := by decide
theorem li_2048 : (2048 : Int32).toInt = 2048 := by decide
theorem li_55296 : (55296 : Int32).toInt = 55296 := by decide
theorem li_57343 : (57343 : Int32).toInt = 57343 := by decide
theorem li_65536 : (65536 : Int32).toInt = 65536 := by decide
theorem li_1114111 : (1114111 : Int32).toInt = 1114111 := by decide
theorem li_m1 : ((-1) : Int32).toInt = -1 := by decide
theorem li_m2 : ((-2) : Int32).toInt = -2 := by decide
/-- how many sevens u has -/
def sw (u : Nat) : Nat := if u < 2 ^ 7 then 1 else if u < 2 ^ 14 then 2 else if u < 2 ^ 21 then 3 else if u < 2 ^ 28 then 4 else if u < 2 ^ 35 then 5 else if u < 2 ^ 42 then 6 else if u < 2 ^ 49 then 7 else if u < 2 ^ 56 then 8 else if u < 2 ^ 63 then 9 else 10
theorem sw_of {u w : Nat} (h1 : 1 ≤ w) (h2 : w ≤ 10) (h3 : w < 10 → u < 2 ^ (7 * w)) (h4 : ∀ i, 1 ≤ i → i < w → 2 ^ (7 * i) ≤ u) : w = sw u := by
  have a : ∀ i, 1 ≤ i → i < w → 2 ^ (7 * i) ≤ u := h4
  rcases (show w = 1 ∨ w = 2 ∨ w = 3 ∨ w = 4 ∨ w = 5 ∨ w = 6 ∨ w = 7 ∨ w = 8 ∨ w = 9 ∨ w = 10 by omega) with rfl | rfl | rfl | rfl | rfl | rfl | rfl | rfl | rfl | rfl
  all_goals
    unfold sw
    have b3 := h3
    have b1 := a 1 (by omega)
    have b2 := a 2 (by omega)
    have b4 := a 3 (by omega)
    have b5 := a 4 (by omega)
    have b6 := a 5 (by omega)
    have b7 := a 6 (by omega)
    have b8 := a 7 (by omega)
    have b9 := a 8 (by omega)
    have b0 := a 9 (by omega)
    simp only [Nat.reduceMul, Nat.reducePow, Nat.reduceLT, forall_const, false_imp_iff, true_imp_iff] at *
    repeat' split
    all_goals omega
theorem sw_in (u : Nat) : 1 ≤ sw u ∧ sw u ≤ 10 := by
  unfold sw
  repeat' split
  all_goals omega
theorem sw_7 (w : Nat) : (7 : Int32) * nI w = nI (7 * w) := pk_mul 7 w
theorem sw_8 (w : Nat) : (8 : Int32) * nI w = nI (8 * w) := pk_mul 8 w
theorem sw_6 (w : Nat) : (6 : Int32) * nI w = nI (6 * w) := pk_mul 6 w
theorem sw_z {u k : Nat} (hu : u < 2 ^ 64) : lg_cmp (lN (u / 2 ^ k)) 0 = 0 ↔ u < 2 ^ k := by
  rw [lg_cmp_eq]
  constructor
  · intro h
    have h1 := congrArg (fun z : Int64 => z.toBitVec.toNat) h
    rw [show (lN (u / 2 ^ k)).toBitVec.toNat = u / 2 ^ k from wb_tn (Nat.lt_of_le_of_lt (Nat.div_le_self _ _) hu)] at h1
    have h2 : u / 2 ^ k = 0 := h1
    exact (Nat.div_eq_zero_iff_lt (Nat.pow_pos (by decide))).mp h2
  · intro h
    rw [Nat.div_eq_of_lt h]
    rfl
theorem sw_up {u w : Nat} (h : ∀ i, 1 ≤ i → i < w → 2 ^ (7 * i) ≤ u) (h2 : ¬ u < 2 ^ (7 * w)) : ∀ i, 1 ≤ i → i < w + 1 → 2 ^ (7 * i) ≤ u := by
  intro i a b
  rcases Nat.lt_or_ge i w with q | q
  · exact h i a q
  · obtain rfl : i = w := by omega
    exact Nat.not_lt.mp h2
/-- how many bytes a letter has, 0: no letter -/
def lwI (z : Int) : Nat := if z < 0 ∨ 1114111 < z ∨ (55296 ≤ z ∧ z ≤ 57343) then 0 else if z < 128 then 1 else if z < 2048 then 2 else if z < 65536 then 3 else 4
def fmN (w : Nat) : Nat := if w = 2 then 192 else if w = 3 then 224 else if w = 4 then 240 else 0
def wfN (f : Nat) : Nat := if f < 128 then 1 else if f < 194 ∨ 244 < f then 0 else if f < 224 then 2 else if f < 240 then 3 else 4
set_option maxHeartbeats 4000000 in
set_option maxRecDepth 100000 in
/-- sevensWidth -/
theorem c_D_sevensWidth (l : Launch) (u : Nat) (hu : u < 2 ^ 64) : Met l y_D_sevensWidth w_D_sevensWidth ({ frames := 0, cells := 0, slots := 0, locals := 0 }) (va_Pc [.long (lN u)] (fun _ => True)) (vp_Si (fun r => r = nI (sw u))) 0 0 (fun _ => False) := by
  refine Met.ofW (cc := b_D_sevensWidth) (maxL := 3) (ret := (some .int)) (by decide) rfl ?_
  intro p9 e9 s m args below meth c9 s₁ BL hml hv
  obtain ⟨rfl, -⟩ := hv
  have hx := BL.exec
  have hb := BL.bytes
  have hr := BL.returns
  have hts := atoms_spec (ws := w_D_sevensWidth) BL.pre
  have hA : ∀ w ∈ wsA, w.before _ s = true := fun w h => hts w (List.mem_cons_of_mem _ h)
  have hown : s.vm.findClass R_D = some m.cls := findClass_of_methodNamed BL.named
  have hlocks := BL.notSynchronized
  have hl := lv_entry ([.long (lN u)]) (n := 3) (Nat.le_of_ble_eq_true rfl)
  rw [lg_entry_eq]
  generalize (lg_sl ([.long (lN u)]) ++ List.replicate (3 - (lg_sl ([.long (lN u)])).length) Slot.unset).toArray = ls at hl ⊢
  have hl : lv_has ls 3 [(0, .long (lN u))] := hl
  refine lv_iconst (v := 1) hx hb d_D_sevensWidth_0 (by decide) ?_
  refine lv_istore_n (lv' := [(2, .int 1), (0, .long (lN u))]) hx hb d_D_sevensWidth_1 rfl hl (by decide) rfl (fun ls hl => ?_)
  have loop : ∀ (k w : Nat), w + k = 11 → 1 ≤ w → w ≤ 10 → (∀ i, 1 ≤ i → i < w → 2 ^ (7 * i) ≤ u) → ∀ (ls : Array Slot), lv_has ls 3 [(2, .int (nI w)), (0, .long (lN u))] → W p9 l e9 (headSpec w_D_sevensWidth ({ frames := 0, cells := 0, slots := 0, locals := 0 })).room s m [.long (lN u)].toArray below meth c9 s.heap [] 0 0 (MQ below (vp_Si (fun r => r = nI (sw u))) [.long (lN u)].toArray s 0 0 (fun _ => False)) (F0 m 2 ls []) := by
    intro k
    induction k with
    | zero =>
      intro w hk h1 h2 hw ls hl
      exact absurd hk (by omega)
    | succ k ih_loop =>
      intro w hk h1 h2 hw ls hl
      refine lv_iload_n hx hb d_D_sevensWidth_2 rfl (lv_at hl 0 rfl) ?_
      refine lv_bipush (v := 10) hx hb d_D_sevensWidth_3 (by decide) ?_
      refine lv_icmp_ge (tgt := 27) hx hb d_D_sevensWidth_5 (by decide) (fun c5 => ?_) (fun c5 => ?_)
      · have hw10 := (nI_leI (a := 10) (b := w) (by omega) (by omega)).mp c5
        obtain rfl : w = 10 := by omega
        refine lv_bipush (v := 10) hx hb d_D_sevensWidth_27 (by decide) ?_
        exact W.iret (v := 10) hx hb hr (fun t ht hW => ⟨_, rfl, (by rw [← sw_of h1 h2 (fun q => absurd q (by omega)) hw]; rfl), ht⟩) (fun q h => by cases h) d_D_sevensWidth_29
      · have hw10 : w < 10 := by have := mt (nI_leI (a := 10) (b := w) (by omega) (by omega)).mpr c5; omega
        refine lv_lload_n hx hb d_D_sevensWidth_8 rfl (lv_at hl 1 rfl) ?_
        refine lv_bipush (v := 7) hx hb d_D_sevensWidth_9 (by decide) ?_
        refine lv_iload_n hx hb d_D_sevensWidth_11 rfl (lv_at hl 0 rfl) ?_
        refine lv_imul hx hb d_D_sevensWidth_12 ?_
        refine lv_topi (fun v12 ev12 => ?_)
        refine lv_lushr hx hb d_D_sevensWidth_13 rfl ?_
        refine lv_topl (fun v13 ev13 => ?_)
        have ev13 : v13 = lN (u / 2 ^ (7 * w)) := by rw [ev13, ev12, sw_7]; exact wb_shr hu (by omega)
        subst ev13
        refine lv_lconst (v := 0) hx hb d_D_sevensWidth_14 (by decide) ?_
        refine W.lcmp hx hb d_D_sevensWidth_15 ?_
        refine lv_topi (fun v15 ev15 => ?_)
        refine lv_if_ne (tgt := 21) hx hb d_D_sevensWidth_16 (by decide) (fun c16 => ?_) (fun c16 => ?_)
        · obtain ⟨v21, ev21⟩ : ∃ y : Int32, y = nI w + 1 := ⟨_, rfl⟩
          refine lv_iinc (v := v21) (lv' := [(2, .int v21), (0, .long (lN u))]) hx hb d_D_sevensWidth_21 hl (k := 0) rfl (by rw [ev21]; rfl) (by decide) rfl (fun ls hl => ?_)
          have ev21 : v21 = nI (w + 1) := by rw [ev21]; exact nI_1 w
          subst ev21
          refine lv_goto (tgt := 2) hx hb d_D_sevensWidth_24 (by decide) ?_
          exact ih_loop (w + 1) (by omega) (by omega) (by have := mt (nI_leI (a := 10) (b := w) (by omega) (by omega)).mpr c5; omega) (sw_up hw (fun z => c16 (by rw [ev15]; exact (sw_z hu).mpr z))) ls (lv_sub hl [0, 1] rfl)
        · refine lv_iload_n hx hb d_D_sevensWidth_19 rfl (lv_at hl 0 rfl) ?_
          exact W.iret (v := nI w) hx hb hr (fun t ht hW => ⟨_, rfl, (by rw [← sw_of h1 h2 (fun _ => (sw_z hu).mp (by rw [← ev15]; exact c16)) hw]), ht⟩) (fun q h => by cases h) d_D_sevensWidth_20
  exact loop 10 1 rfl (Nat.le_refl 1) (by omega) (fun i a b => absurd b (by omega)) ls (lv_sub hl [0, 1] rfl)
set_option maxHeartbeats 4000000 in
set_option maxRecDepth 100000 in
/-- letterWidth -/
theorem c_D_letterWidth (l : Launch) (x : Int32) : Met l y_D_letterWidth w_D_letterWidth ({ frames := 0, cells := 0, slots := 0, locals := 0 }) (va_Pc [.int x] (fun _ => True)) (vp_Si (fun r => r = nI (lwI x.toInt))) 0 0 (fun _ => False) := by
  refine Met.ofW (cc := b_D_letterWidth) (maxL := 1) (ret := (some .int)) (by decide) rfl ?_
  intro p9 e9 s m args below meth c9 s₁ BL hml hv
  obtain ⟨rfl, -⟩ := hv
  have hx := BL.exec
  have hb := BL.bytes
  have hr := BL.returns
  have hts := atoms_spec (ws := w_D_letterWidth) BL.pre
  have hA : ∀ w ∈ wsA, w.before _ s = true := fun w h => hts w (List.mem_cons_of_mem _ h)
  have hown : s.vm.findClass R_D = some m.cls := findClass_of_methodNamed BL.named
  have hlocks := BL.notSynchronized
  have hl := lv_entry ([.int x]) (n := 1) (Nat.le_of_ble_eq_true rfl)
  rw [lg_entry_eq]
  generalize (lg_sl ([.int x]) ++ List.replicate (1 - (lg_sl ([.int x])).length) Slot.unset).toArray = ls at hl ⊢
  have hl : lv_has ls 1 [(0, .int x)] := hl
  refine lv_iload_n hx hb d_D_letterWidth_0 rfl (lv_at hl 0 rfl) ?_
  refine lv_if_lt (tgt := 22) hx hb d_D_letterWidth_1 (by decide) (fun c1 => ?_) (fun c1 => ?_)
  · refine lv_iconst (v := 0) hx hb d_D_letterWidth_22 (by decide) ?_
    simp only [Int32.lt_iff_toInt_lt, Int32.le_iff_toInt_le, li_0, li_1, li_2, li_3, li_4, li_8, li_10, li_16, li_63, li_127, li_128, li_191, li_192, li_194, li_224, li_240, li_244, li_255, li_2048, li_55296, li_57343, li_65536, li_1114111, li_m1, li_m2] at *
    have hz : lwI x.toInt = 0 := by unfold lwI; (repeat' split) <;> omega
    exact W.iret (v := 0) hx hb hr (fun t ht hW => ⟨_, rfl, by rw [hz]; rfl, ht⟩) (fun q h => by cases h) d_D_letterWidth_23
  · refine lv_iload_n hx hb d_D_letterWidth_4 rfl (lv_at hl 0 rfl) ?_
    refine lv_ldc (v := 1114111) hx hb hown (hA _ k1_217) d_D_letterWidth_5 ?_
    refine lv_icmp_gt (tgt := 22) hx hb d_D_letterWidth_7 (by decide) (fun c7 => ?_) (fun c7 => ?_)
    · refine lv_iconst (v := 0) hx hb d_D_letterWidth_22 (by decide) ?_
      simp only [Int32.lt_iff_toInt_lt, Int32.le_iff_toInt_le, li_0, li_1, li_2, li_3, li_4, li_8, li_10, li_16, li_63, li_127, li_128, li_191, li_192, li_194, li_224, li_240, li_244, li_255, li_2048, li_55296, li_57343, li_65536, li_1114111, li_m1, li_m2] at *
      have hz : lwI x.toInt = 0 := by unfold lwI; (repeat' split) <;> omega
      exact W.iret (v := 0) hx hb hr (fun t ht hW => ⟨_, rfl, by rw [hz]; rfl, ht⟩) (fun q h => by cases h) d_D_letterWidth_23
    · refine lv_iload_n hx hb d_D_letterWidth_10 rfl (lv_at hl 0 rfl) ?_
      refine lv_ldc (v := 55296) hx hb hown (hA _ k1_218) d_D_letterWidth_11 ?_
      refine lv_icmp_lt (tgt := 24) hx hb d_D_letterWidth_13 (by decide) (fun c13 => ?_) (fun c13 => ?_)
      · refine lv_iload_n hx hb d_D_letterWidth_24 rfl (lv_at hl 0 rfl) ?_
        refine lv_sipush (v := 128) hx hb d_D_letterWidth_25 (by decide) ?_
        refine lv_icmp_ge (tgt := 33) hx hb d_D_letterWidth_28 (by decide) (fun c28 => ?_) (fun c28 => ?_)
        · refine lv_iload_n hx hb d_D_letterWidth_33 rfl (lv_at hl 0 rfl) ?_
          refine lv_sipush (v := 2048) hx hb d_D_letterWidth_34 (by decide) ?_
          refine lv_icmp_ge (tgt := 42) hx hb d_D_letterWidth_37 (by decide) (fun c37 => ?_) (fun c37 => ?_)
          · refine lv_iload_n hx hb d_D_letterWidth_42 rfl (lv_at hl 0 rfl) ?_
            refine lv_ldc (v := 65536) hx hb hown (hA _ k1_22) d_D_letterWidth_43 ?_
            refine lv_icmp_ge (tgt := 52) hx hb d_D_letterWidth_45 (by decide) (fun c45 => ?_) (fun c45 => ?_)
            · refine lv_iconst (v := 4) hx hb d_D_letterWidth_52 (by decide) ?_
              simp only [Int32.lt_iff_toInt_lt, Int32.le_iff_toInt_le, li_0, li_1, li_2, li_3, li_4, li_8, li_10, li_16, li_63, li_127, li_128, li_191, li_192, li_194, li_224, li_240, li_244, li_255, li_2048, li_55296, li_57343, li_65536, li_1114111, li_m1, li_m2] at *
              have hz : lwI x.toInt = 4 := by unfold lwI; (repeat' split) <;> omega
              exact W.iret (v := 4) hx hb hr (fun t ht hW => ⟨_, rfl, by rw [hz]; rfl, ht⟩) (fun q h => by cases h) d_D_letterWidth_53
            · refine lv_iconst (v := 3) hx hb d_D_letterWidth_48 (by decide) ?_
              refine lv_goto (tgt := 53) hx hb d_D_letterWidth_49 (by decide) ?_
              simp only [Int32.lt_iff_toInt_lt, Int32.le_iff_toInt_le, li_0, li_1, li_2, li_3, li_4, li_8, li_10, li_16, li_63, li_127, li_128, li_191, li_192, li_194, li_224, li_240, li_244, li_255, li_2048, li_55296, li_57343, li_65536, li_1114111, li_m1, li_m2] at *
              have hz : lwI x.toInt = 3 := by unfold lwI; (repeat' split) <;> omega
              exact W.iret (v := 3) hx hb hr (fun t ht hW => ⟨_, rfl, by rw [hz]; rfl, ht⟩) (fun q h => by cases h) d_D_letterWidth_53
          · refine lv_iconst (v := 2) hx hb d_D_letterWidth_40 (by decide) ?_
            simp only [Int32.lt_iff_toInt_lt, Int32.le_iff_toInt_le, li_0, li_1, li_2, li_3, li_4, li_8, li_10, li_16, li_63, li_127, li_128, li_191, li_192, li_194, li_224, li_240, li_244, li_255, li_2048, li_55296, li_57343, li_65536, li_1114111, li_m1, li_m2] at *
            have hz : lwI x.toInt = 2 := by unfold lwI; (repeat' split) <;> omega
            exact W.iret (v := 2) hx hb hr (fun t ht hW => ⟨_, rfl, by rw [hz]; rfl, ht⟩) (fun q h => by cases h) d_D_letterWidth_41
        · refine lv_iconst (v := 1) hx hb d_D_letterWidth_31 (by decide) ?_
          simp only [Int32.lt_iff_toInt_lt, Int32.le_iff_toInt_le, li_0, li_1, li_2, li_3, li_4, li_8, li_10, li_16, li_63, li_127, li_128, li_191, li_192, li_194, li_224, li_240, li_244, li_255, li_2048, li_55296, li_57343, li_65536, li_1114111, li_m1, li_m2] at *
          have hz : lwI x.toInt = 1 := by unfold lwI; (repeat' split) <;> omega
          exact W.iret (v := 1) hx hb hr (fun t ht hW => ⟨_, rfl, by rw [hz]; rfl, ht⟩) (fun q h => by cases h) d_D_letterWidth_32
      · refine lv_iload_n hx hb d_D_letterWidth_16 rfl (lv_at hl 0 rfl) ?_
        refine lv_ldc (v := 57343) hx hb hown (hA _ k1_219) d_D_letterWidth_17 ?_
        refine lv_icmp_gt (tgt := 24) hx hb d_D_letterWidth_19 (by decide) (fun c19 => ?_) (fun c19 => ?_)
        · refine lv_iload_n hx hb d_D_letterWidth_24 rfl (lv_at hl 0 rfl) ?_
          refine lv_sipush (v := 128) hx hb d_D_letterWidth_25 (by decide) ?_
          refine lv_icmp_ge (tgt := 33) hx hb d_D_letterWidth_28 (by decide) (fun c28 => ?_) (fun c28 => ?_)
          · refine lv_iload_n hx hb d_D_letterWidth_33 rfl (lv_at hl 0 rfl) ?_
            refine lv_sipush (v := 2048) hx hb d_D_letterWidth_34 (by decide) ?_
            refine lv_icmp_ge (tgt := 42) hx hb d_D_letterWidth_37 (by decide) (fun c37 => ?_) (fun c37 => ?_)
            · refine lv_iload_n hx hb d_D_letterWidth_42 rfl (lv_at hl 0 rfl) ?_
              refine lv_ldc (v := 65536) hx hb hown (hA _ k1_22) d_D_letterWidth_43 ?_
              refine lv_icmp_ge (tgt := 52) hx hb d_D_letterWidth_45 (by decide) (fun c45 => ?_) (fun c45 => ?_)
              · refine lv_iconst (v := 4) hx hb d_D_letterWidth_52 (by decide) ?_
                simp only [Int32.lt_iff_toInt_lt, Int32.le_iff_toInt_le, li_0, li_1, li_2, li_3, li_4, li_8, li_10, li_16, li_63, li_127, li_128, li_191, li_192, li_194, li_224, li_240, li_244, li_255, li_2048, li_55296, li_57343, li_65536, li_1114111, li_m1, li_m2] at *
                have hz : lwI x.toInt = 4 := by unfold lwI; (repeat' split) <;> omega
                exact W.iret (v := 4) hx hb hr (fun t ht hW => ⟨_, rfl, by rw [hz]; rfl, ht⟩) (fun q h => by cases h) d_D_letterWidth_53
              · refine lv_iconst (v := 3) hx hb d_D_letterWidth_48 (by decide) ?_
                refine lv_goto (tgt := 53) hx hb d_D_letterWidth_49 (by decide) ?_
                simp only [Int32.lt_iff_toInt_lt, Int32.le_iff_toInt_le, li_0, li_1, li_2, li_3, li_4, li_8, li_10, li_16, li_63, li_127, li_128, li_191, li_192, li_194, li_224, li_240, li_244, li_255, li_2048, li_55296, li_57343, li_65536, li_1114111, li_m1, li_m2] at *
                have hz : lwI x.toInt = 3 := by unfold lwI; (repeat' split) <;> omega
                exact W.iret (v := 3) hx hb hr (fun t ht hW => ⟨_, rfl, by rw [hz]; rfl, ht⟩) (fun q h => by cases h) d_D_letterWidth_53
            · refine lv_iconst (v := 2) hx hb d_D_letterWidth_40 (by decide) ?_
              simp only [Int32.lt_iff_toInt_lt, Int32.le_iff_toInt_le, li_0, li_1, li_2, li_3, li_4, li_8, li_10, li_16, li_63, li_127, li_128, li_191, li_192, li_194, li_224, li_240, li_244, li_255, li_2048, li_55296, li_57343, li_65536, li_1114111, li_m1, li_m2] at *
              have hz : lwI x.toInt = 2 := by unfold lwI; (repeat' split) <;> omega
              exact W.iret (v := 2) hx hb hr (fun t ht hW => ⟨_, rfl, by rw [hz]; rfl, ht⟩) (fun q h => by cases h) d_D_letterWidth_41
          · refine lv_iconst (v := 1) hx hb d_D_letterWidth_31 (by decide) ?_
            simp only [Int32.lt_iff_toInt_lt, Int32.le_iff_toInt_le, li_0, li_1, li_2, li_3, li_4, li_8, li_10, li_16, li_63, li_127, li_128, li_191, li_192, li_194, li_224, li_240, li_244, li_255, li_2048, li_55296, li_57343, li_65536, li_1114111, li_m1, li_m2] at *
            have hz : lwI x.toInt = 1 := by unfold lwI; (repeat' split) <;> omega
            exact W.iret (v := 1) hx hb hr (fun t ht hW => ⟨_, rfl, by rw [hz]; rfl, ht⟩) (fun q h => by cases h) d_D_letterWidth_32
        · refine lv_iconst (v := 0) hx hb d_D_letterWidth_22 (by decide) ?_
          simp only [Int32.lt_iff_toInt_lt, Int32.le_iff_toInt_le, li_0, li_1, li_2, li_3, li_4, li_8, li_10, li_16, li_63, li_127, li_128, li_191, li_192, li_194, li_224, li_240, li_244, li_255, li_2048, li_55296, li_57343, li_65536, li_1114111, li_m1, li_m2] at *
          have hz : lwI x.toInt = 0 := by unfold lwI; (repeat' split) <;> omega
          exact W.iret (v := 0) hx hb hr (fun t ht hW => ⟨_, rfl, by rw [hz]; rfl, ht⟩) (fun q h => by cases h) d_D_letterWidth_23
set_option maxHeartbeats 4000000 in
set_option maxRecDepth 100000 in
/-- widthByFirst -/
theorem c_D_widthByFirst (l : Launch) (f : Nat) (hf : f < 256) : Met l y_D_widthByFirst w_D_widthByFirst ({ frames := 0, cells := 0, slots := 0, locals := 0 }) (va_Pc [.int (nI f)] (fun _ => True)) (vp_Si (fun r => r = nI (wfN f))) 0 0 (fun _ => False) := by
  refine Met.ofW (cc := b_D_widthByFirst) (maxL := 1) (ret := (some .int)) (by decide) rfl ?_
  intro p9 e9 s m args below meth c9 s₁ BL hml hv
  obtain ⟨rfl, -⟩ := hv
  have hx := BL.exec
  have hb := BL.bytes
  have hr := BL.returns
  have hts := atoms_spec (ws := w_D_widthByFirst) BL.pre
  have hA : ∀ w ∈ wsA, w.before _ s = true := fun w h => hts w (List.mem_cons_of_mem _ h)
  have hown : s.vm.findClass R_D = some m.cls := findClass_of_methodNamed BL.named
  have hlocks := BL.notSynchronized
  have hl := lv_entry ([.int (nI f)]) (n := 1) (Nat.le_of_ble_eq_true rfl)
  rw [lg_entry_eq]
  generalize (lg_sl ([.int (nI f)]) ++ List.replicate (1 - (lg_sl ([.int (nI f)])).length) Slot.unset).toArray = ls at hl ⊢
  have hl : lv_has ls 1 [(0, .int (nI f))] := hl
  refine lv_iload_n hx hb d_D_widthByFirst_0 rfl (lv_at hl 0 rfl) ?_
  refine lv_sipush (v := 128) hx hb d_D_widthByFirst_1 (by decide) ?_
  refine lv_icmp_ge (tgt := 9) hx hb d_D_widthByFirst_4 (by decide) (fun c4 => ?_) (fun c4 => ?_)
  · refine lv_iload_n hx hb d_D_widthByFirst_9 rfl (lv_at hl 0 rfl) ?_
    refine lv_sipush (v := 194) hx hb d_D_widthByFirst_10 (by decide) ?_
    refine lv_icmp_lt (tgt := 23) hx hb d_D_widthByFirst_13 (by decide) (fun c13 => ?_) (fun c13 => ?_)
    · refine lv_iconst (v := 0) hx hb d_D_widthByFirst_23 (by decide) ?_
      have hfi : (nI f).toInt = (f : Int) := nI_toInt (by omega)
      simp only [Int32.lt_iff_toInt_lt, Int32.le_iff_toInt_le, li_0, li_1, li_2, li_3, li_4, li_8, li_10, li_16, li_63, li_127, li_128, li_191, li_192, li_194, li_224, li_240, li_244, li_255, li_2048, li_55296, li_57343, li_65536, li_1114111, li_m1, li_m2] at *
      have hz : wfN f = 0 := by unfold wfN; (repeat' split) <;> omega
      exact W.iret (v := 0) hx hb hr (fun t ht hW => ⟨_, rfl, by rw [hz]; rfl, ht⟩) (fun q h => by cases h) d_D_widthByFirst_24
    · refine lv_iload_n hx hb d_D_widthByFirst_16 rfl (lv_at hl 0 rfl) ?_
      refine lv_sipush (v := 244) hx hb d_D_widthByFirst_17 (by decide) ?_
      refine lv_icmp_le (tgt := 25) hx hb d_D_widthByFirst_20 (by decide) (fun c20 => ?_) (fun c20 => ?_)
      · refine lv_iload_n hx hb d_D_widthByFirst_25 rfl (lv_at hl 0 rfl) ?_
        refine lv_sipush (v := 224) hx hb d_D_widthByFirst_26 (by decide) ?_
        refine lv_icmp_ge (tgt := 34) hx hb d_D_widthByFirst_29 (by decide) (fun c29 => ?_) (fun c29 => ?_)
        · refine lv_iload_n hx hb d_D_widthByFirst_34 rfl (lv_at hl 0 rfl) ?_
          refine lv_sipush (v := 240) hx hb d_D_widthByFirst_35 (by decide) ?_
          refine lv_icmp_ge (tgt := 45) hx hb d_D_widthByFirst_38 (by decide) (fun c38 => ?_) (fun c38 => ?_)
          · refine lv_iconst (v := 4) hx hb d_D_widthByFirst_45 (by decide) ?_
            have hfi : (nI f).toInt = (f : Int) := nI_toInt (by omega)
            simp only [Int32.lt_iff_toInt_lt, Int32.le_iff_toInt_le, li_0, li_1, li_2, li_3, li_4, li_8, li_10, li_16, li_63, li_127, li_128, li_191, li_192, li_194, li_224, li_240, li_244, li_255, li_2048, li_55296, li_57343, li_65536, li_1114111, li_m1, li_m2] at *
            have hz : wfN f = 4 := by unfold wfN; (repeat' split) <;> omega
            exact W.iret (v := 4) hx hb hr (fun t ht hW => ⟨_, rfl, by rw [hz]; rfl, ht⟩) (fun q h => by cases h) d_D_widthByFirst_46
          · refine lv_iconst (v := 3) hx hb d_D_widthByFirst_41 (by decide) ?_
            refine lv_goto (tgt := 46) hx hb d_D_widthByFirst_42 (by decide) ?_
            have hfi : (nI f).toInt = (f : Int) := nI_toInt (by omega)
            simp only [Int32.lt_iff_toInt_lt, Int32.le_iff_toInt_le, li_0, li_1, li_2, li_3, li_4, li_8, li_10, li_16, li_63, li_127, li_128, li_191, li_192, li_194, li_224, li_240, li_244, li_255, li_2048, li_55296, li_57343, li_65536, li_1114111, li_m1, li_m2] at *
            have hz : wfN f = 3 := by unfold wfN; (repeat' split) <;> omega
            exact W.iret (v := 3) hx hb hr (fun t ht hW => ⟨_, rfl, by rw [hz]; rfl, ht⟩) (fun q h => by cases h) d_D_widthByFirst_46
        · refine lv_iconst (v := 2) hx hb d_D_widthByFirst_32 (by decide) ?_
          have hfi : (nI f).toInt = (f : Int) := nI_toInt (by omega)
          simp only [Int32.lt_iff_toInt_lt, Int32.le_iff_toInt_le, li_0, li_1, li_2, li_3, li_4, li_8, li_10, li_16, li_63, li_127, li_128, li_191, li_192, li_194, li_224, li_240, li_244, li_255, li_2048, li_55296, li_57343, li_65536, li_1114111, li_m1, li_m2] at *
          have hz : wfN f = 2 := by unfold wfN; (repeat' split) <;> omega
          exact W.iret (v := 2) hx hb hr (fun t ht hW => ⟨_, rfl, by rw [hz]; rfl, ht⟩) (fun q h => by cases h) d_D_widthByFirst_33
      · refine lv_iconst (v := 0) hx hb d_D_widthByFirst_23 (by decide) ?_
        have hfi : (nI f).toInt = (f : Int) := nI_toInt (by omega)
        simp only [Int32.lt_iff_toInt_lt, Int32.le_iff_toInt_le, li_0, li_1, li_2, li_3, li_4, li_8, li_10, li_16, li_63, li_127, li_128, li_191, li_192, li_194, li_224, li_240, li_244, li_255, li_2048, li_55296, li_57343, li_65536, li_1114111, li_m1, li_m2] at *
        have hz : wfN f = 0 := by unfold wfN; (repeat' split) <;> omega
        exact W.iret (v := 0) hx hb hr (fun t ht hW => ⟨_, rfl, by rw [hz]; rfl, ht⟩) (fun q h => by cases h) d_D_widthByFirst_24
  · refine lv_iconst (v := 1) hx hb d_D_widthByFirst_7 (by decide) ?_
    have hfi : (nI f).toInt = (f : Int) := nI_toInt (by omega)
    simp only [Int32.lt_iff_toInt_lt, Int32.le_iff_toInt_le, li_0, li_1, li_2, li_3, li_4, li_8, li_10, li_16, li_63, li_127, li_128, li_191, li_192, li_194, li_224, li_240, li_244, li_255, li_2048, li_55296, li_57343, li_65536, li_1114111, li_m1, li_m2] at *
    have hz : wfN f = 1 := by unfold wfN; (repeat' split) <;> omega
    exact W.iret (v := 1) hx hb hr (fun t ht hW => ⟨_, rfl, by rw [hz]; rfl, ht⟩) (fun q h => by cases h) d_D_widthByFirst_8
set_option maxHeartbeats 4000000 in
set_option maxRecDepth 100000 in
/-- firstMark -/
theorem c_D_firstMark (l : Launch) (w : Nat) (hw : w ≤ 4) : Met l y_D_firstMark w_D_firstMark ({ frames := 0, cells := 0, slots := 0, locals := 0 }) (va_Pc [.int (nI w)] (fun _ => True)) (vp_Si (fun r => r = nI (fmN w))) 0 0 (fun _ => False) := by
  refine Met.ofW (cc := b_D_firstMark) (maxL := 1) (ret := (some .int)) (by decide) rfl ?_
  intro p9 e9 s m args below meth c9 s₁ BL hml hv
  obtain ⟨rfl, -⟩ := hv
  have hx := BL.exec
  have hb := BL.bytes
  have hr := BL.returns
  have hts := atoms_spec (ws := w_D_firstMark) BL.pre
  have hA : ∀ w ∈ wsA, w.before _ s = true := fun w h => hts w (List.mem_cons_of_mem _ h)
  have hown : s.vm.findClass R_D = some m.cls := findClass_of_methodNamed BL.named
  have hlocks := BL.notSynchronized
  have hl := lv_entry ([.int (nI w)]) (n := 1) (Nat.le_of_ble_eq_true rfl)
  rw [lg_entry_eq]
  generalize (lg_sl ([.int (nI w)]) ++ List.replicate (1 - (lg_sl ([.int (nI w)])).length) Slot.unset).toArray = ls at hl ⊢
  have hl : lv_has ls 1 [(0, .int (nI w))] := hl
  refine lv_iload_n hx hb d_D_firstMark_0 rfl (lv_at hl 0 rfl) ?_
  rcases (show w = 0 ∨ w = 1 ∨ w = 2 ∨ w = 3 ∨ w = 4 by omega) with rfl | rfl | rfl | rfl | rfl
  · refine lv_tableOut (tgt := 40) hx hb d_D_firstMark_1 (by decide) (by decide) ?_
    refine lv_iconst (v := 0) hx hb d_D_firstMark_40 (by decide) ?_
    exact W.iret (v := 0) hx hb hr (fun t ht hW => ⟨_, rfl, (rfl), ht⟩) (fun q h => by cases h) d_D_firstMark_41
  · refine lv_tableOut (tgt := 40) hx hb d_D_firstMark_1 (by decide) (by decide) ?_
    refine lv_iconst (v := 0) hx hb d_D_firstMark_40 (by decide) ?_
    exact W.iret (v := 0) hx hb hr (fun t ht hW => ⟨_, rfl, (rfl), ht⟩) (fun q h => by cases h) d_D_firstMark_41
  · refine lv_tableIn (tgt := 28) hx hb d_D_firstMark_1 (by decide) (by decide) rfl (by decide) ?_
    refine lv_sipush (v := 192) hx hb d_D_firstMark_28 (by decide) ?_
    exact W.iret (v := 192) hx hb hr (fun t ht hW => ⟨_, rfl, (rfl), ht⟩) (fun q h => by cases h) d_D_firstMark_31
  · refine lv_tableIn (tgt := 32) hx hb d_D_firstMark_1 (by decide) (by decide) rfl (by decide) ?_
    refine lv_sipush (v := 224) hx hb d_D_firstMark_32 (by decide) ?_
    exact W.iret (v := 224) hx hb hr (fun t ht hW => ⟨_, rfl, (rfl), ht⟩) (fun q h => by cases h) d_D_firstMark_35
  · refine lv_tableIn (tgt := 36) hx hb d_D_firstMark_1 (by decide) (by decide) rfl (by decide) ?_
    refine lv_sipush (v := 240) hx hb d_D_firstMark_36 (by decide) ?_
    exact W.iret (v := 240) hx hb hr (fun t ht hW => ⟨_, rfl, (rfl), ht⟩) (fun q h => by cases h) d_D_firstMark_39
