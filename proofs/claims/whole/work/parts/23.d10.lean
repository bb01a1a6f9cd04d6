/-! THE CLASS: A LETTER READ -/
set_option maxHeartbeats 3000000 in
set_option maxRecDepth 100000 in
/-- letterAt -/
theorem c_D_letterAt (l : Launch) (D : va_G) (cB : ClassId) (y b M : Nat) (B : Nat → Nat) (nv pv : Int32) (a e1 : Nat) (he : e1 ≤ M) (ha : a ≤ M) (hM : M ≤ 65536) (hB : ∀ j, B j < 256) : Met l y_D_letterAt w_D_letterAt ({ frames := 1, cells := 0, slots := 0, locals := 21 }) (va_Pc [.ref y, .int (nI a), .int (nI e1)] (ox D [(cB, .byte)] [(y, .inr (1, [.ref b, .int nv, .int pv])), (b, .inl (cB, M, .inl (fun j => sb_b (B j))))])) (vp_Si (fun r => r.toInt = la B a e1)) 0 0 (fun _ => False) := by
  refine Met.ofW (cc := b_D_letterAt) (maxL := 8) (ret := (some .int)) (by decide) rfl ?_
  intro p9 e9 s m args below meth c9 s₁ BL hml hv
  obtain ⟨rfl, hP, hK⟩ := hv
  have hx := BL.exec
  have hb := BL.bytes
  have hr := BL.returns
  have hts := atoms_spec (ws := w_D_letterAt) BL.pre
  have hA : ∀ w ∈ wsA, w.before _ s = true := fun w h => hts w (List.mem_cons_of_mem _ h)
  have hown : s.vm.findClass R_D = some m.cls := findClass_of_methodNamed BL.named
  have hlocks := BL.notSynchronized
  have hP : va_P D vCl [(y, .inr (1, [.ref b, .int nv, .int pv])), (b, .inl (cB, M, .inl (fun j => sb_b (B j))))] s.heap := hP
  have hl := lv_entry ([.ref y, .int (nI a), .int (nI e1)]) (n := 8) (Nat.le_of_ble_eq_true rfl)
  rw [lg_entry_eq]
  generalize (lg_sl ([.ref y, .int (nI a), .int (nI e1)]) ++ List.replicate (8 - (lg_sl ([.ref y, .int (nI a), .int (nI e1)])).length) Slot.unset).toArray = ls at hl ⊢
  have hl : lv_has ls 8 [(0, .ref y), (1, .int (nI a)), (2, .int (nI e1))] := hl
  refine lv_iload_n hx hb d_D_letterAt_0 rfl (lv_at hl 1 rfl) ?_
  refine lv_iload_n hx hb d_D_letterAt_1 rfl (lv_at hl 2 rfl) ?_
  refine lv_icmp_lt (tgt := 8) hx hb d_D_letterAt_2 (by decide) (fun c2 => ?_) (fun c2 => ?_)
  · have q2 : a < e1 := (nI_ltI (a := a) (b := e1) (by omega) (by omega)).mp c2
    have hb0 := hB a
    have hb1 := hB (a + 1)
    have hb2 := hB (a + 2)
    have hb3 := hB (a + 3)
    refine lv_aload_n hx hb d_D_letterAt_8 rfl (lv_at hl 0 rfl) ?_
    refine lv_iload_n hx hb d_D_letterAt_9 rfl (lv_at hl 1 rfl) ?_
    have hPc := hP.sub (ws' := [(y, .inr (1, [.ref b, .int nv, .int pv])), (b, .inl (cB, M, .inl (fun j => sb_b (B j))))]) [0, 1] rfl
    have hKc := hK.sub (tys' := [(cB, .byte)]) [0] rfl
    refine vp_callSi (W.runV (As := [.int (nI a)]) (rest := []) ⟨hx, hb, hml, hown, hA⟩ (c_R_get l D cB y b M B nv pv a (by omega) hM hB) (q_R_get hA k2_21 rfl rfl ⟨(Nat.le_of_ble_eq_true rfl), (Nat.le_of_ble_eq_true rfl)⟩) (ox_V (va_recv hKc hPc (ci := 1) (q0 := 0) rfl rfl) (ox_S hPc hKc)) rfl rfl hl.1 rfl (lv_room (Nat.le_of_ble_eq_true rfl)) d_D_letterAt_10 ⟨(Nat.le_of_ble_eq_true rfl), (Nat.le_of_ble_eq_true rfl)⟩) (fun r10 hr10 => ?_)
    have er10 : r10 = nI (B a) := hr10
    subst er10
    refine lv_istore_n (lv' := [(3, .int (nI (B a))), (0, .ref y), (1, .int (nI a)), (2, .int (nI e1))]) hx hb d_D_letterAt_13 rfl hl (by decide) rfl (fun ls hl => ?_)
    refine lv_iload_n hx hb d_D_letterAt_14 rfl (lv_at hl 0 rfl) ?_
    refine vp_callSi (W.runS (As := [.int (nI (B a))]) (rest := []) ⟨hx, hb, hml, hown, hA⟩ (c_D_widthByFirst l (B a) hb0) (q_D_widthByFirst hA k2_118 rfl rfl ⟨(Nat.le_of_ble_eq_true rfl), (Nat.le_of_ble_eq_true rfl)⟩) (⟨fun a U g mk q => q, fun U hU hW => ⟨rfl, trivial⟩⟩) rfl rfl hl.1 rfl (lv_room (Nat.le_of_ble_eq_true rfl)) d_D_letterAt_15 ⟨(Nat.le_of_ble_eq_true rfl), (Nat.le_of_ble_eq_true rfl)⟩) (fun r15 hr15 => ?_)
    have er15 : r15 = nI (wfN (B a)) := hr15
    subst er15
    rcases (show (B a < 128 ∧ wfN (B a) = 1) ∨ ((¬ B a < 128 ∧ (B a < 194 ∨ 244 < B a)) ∧ wfN (B a) = 0) ∨ ((194 ≤ B a ∧ B a < 224) ∧ wfN (B a) = 2) ∨ ((224 ≤ B a ∧ B a < 240) ∧ wfN (B a) = 3) ∨ ((240 ≤ B a ∧ B a ≤ 244) ∧ wfN (B a) = 4) by unfold wfN; (repeat' split) <;> omega) with ⟨q1, ew⟩ | ⟨q1, ew⟩ | ⟨q1, ew⟩ | ⟨q1, ew⟩ | ⟨q1, ew⟩
    · rw [ew]
      refine lv_istore (lv' := [(4, .int (nI 1)), (3, .int (nI (B a))), (0, .ref y), (1, .int (nI a)), (2, .int (nI e1))]) hx hb d_D_letterAt_18 hl (by decide) rfl (fun ls hl => ?_)
      refine lv_iload hx hb d_D_letterAt_20 (lv_at hl 0 rfl) ?_
      refine lv_if_ne (tgt := 27) hx hb d_D_letterAt_22 (by decide) (fun _ => ?_) (fun q9 => absurd q9 (by decide))
      refine lv_iload_n hx hb d_D_letterAt_27 rfl (lv_at hl 1 rfl) ?_
      refine lv_iload hx hb d_D_letterAt_28 (lv_at hl 0 rfl) ?_
      refine vp_callSi (W.runS (As := [.int (nI 1)]) (rest := [.int (nI (B a))]) ⟨hx, hb, hml, hown, hA⟩ (c_D_firstMark l 1 (by decide)) (q_D_firstMark hA k1_224 rfl rfl ⟨(Nat.le_of_ble_eq_true rfl), (Nat.le_of_ble_eq_true rfl)⟩) (⟨fun a U g mk q => q, fun U hU hW => ⟨rfl, trivial⟩⟩) rfl rfl hl.1 rfl (lv_room (Nat.le_of_ble_eq_true rfl)) d_D_letterAt_30 ⟨(Nat.le_of_ble_eq_true rfl), (Nat.le_of_ble_eq_true rfl)⟩) (fun r30 hr30 => ?_)
      have er30 : r30 = nI 0 := by rw [hr30]; rfl
      subst er30
      refine lv_isub hx hb d_D_letterAt_33 ?_
      refine lv_topi (fun v33 ev33 => ?_)
      have ev33 : v33 = nI (B a - 0) := by rw [ev33]; exact pk_sub (by omega)
      subst ev33
      refine lv_istore (lv' := [(5, .int (nI (B a - 0))), (4, .int (nI 1)), (3, .int (nI (B a))), (0, .ref y), (1, .int (nI a)), (2, .int (nI e1))]) hx hb d_D_letterAt_34 hl (by decide) rfl (fun ls hl => ?_)
      refine lv_iconst (v := 1) hx hb d_D_letterAt_36 (by decide) ?_
      refine lv_istore (lv' := [(6, .int 1), (5, .int (nI (B a - 0))), (4, .int (nI 1)), (3, .int (nI (B a))), (0, .ref y), (1, .int (nI a)), (2, .int (nI e1))]) hx hb d_D_letterAt_37 hl (by decide) rfl (fun ls hl => ?_)
      refine lv_iload hx hb d_D_letterAt_39 (lv_at hl 0 rfl) ?_
      refine lv_iload hx hb d_D_letterAt_41 (lv_at hl 2 rfl) ?_
      refine lv_icmp_ge (tgt := 127) hx hb d_D_letterAt_43 (by decide) (fun _ => ?_) (fun q9 => absurd (by decide) q9)
      refine lv_iload hx hb d_D_letterAt_127 (lv_at hl 1 rfl) ?_
      exact W.iret (v := nI (B a - 0)) hx hb hr (fun t ht hW => ⟨_, rfl, (by show Int32.toInt _ = la B a e1; rw [nI_toInt (by omega)]; exact (la_1 q2 q1).symm), ht⟩) (fun q h => by cases h) d_D_letterAt_129
    · rw [ew]
      refine lv_istore (lv' := [(4, .int (nI 0)), (3, .int (nI (B a))), (0, .ref y), (1, .int (nI a)), (2, .int (nI e1))]) hx hb d_D_letterAt_18 hl (by decide) rfl (fun ls hl => ?_)
      refine lv_iload hx hb d_D_letterAt_20 (lv_at hl 0 rfl) ?_
      refine lv_if_ne (tgt := 27) hx hb d_D_letterAt_22 (by decide) (fun q9 => absurd (by decide) q9) (fun _ => ?_)
      refine lv_iconst (v := (-1)) hx hb d_D_letterAt_25 (by decide) ?_
      exact W.iret (v := (-1)) hx hb hr (fun t ht hW => ⟨_, rfl, (by show Int32.toInt _ = la B a e1; rw [li_m1]; exact (la_b0 q2 q1.1 q1.2).symm), ht⟩) (fun q h => by cases h) d_D_letterAt_26
    · rw [ew]
      refine lv_istore (lv' := [(4, .int (nI 2)), (3, .int (nI (B a))), (0, .ref y), (1, .int (nI a)), (2, .int (nI e1))]) hx hb d_D_letterAt_18 hl (by decide) rfl (fun ls hl => ?_)
      refine lv_iload hx hb d_D_letterAt_20 (lv_at hl 0 rfl) ?_
      refine lv_if_ne (tgt := 27) hx hb d_D_letterAt_22 (by decide) (fun _ => ?_) (fun q9 => absurd q9 (by decide))
      refine lv_iload_n hx hb d_D_letterAt_27 rfl (lv_at hl 1 rfl) ?_
      refine lv_iload hx hb d_D_letterAt_28 (lv_at hl 0 rfl) ?_
      refine vp_callSi (W.runS (As := [.int (nI 2)]) (rest := [.int (nI (B a))]) ⟨hx, hb, hml, hown, hA⟩ (c_D_firstMark l 2 (by decide)) (q_D_firstMark hA k1_224 rfl rfl ⟨(Nat.le_of_ble_eq_true rfl), (Nat.le_of_ble_eq_true rfl)⟩) (⟨fun a U g mk q => q, fun U hU hW => ⟨rfl, trivial⟩⟩) rfl rfl hl.1 rfl (lv_room (Nat.le_of_ble_eq_true rfl)) d_D_letterAt_30 ⟨(Nat.le_of_ble_eq_true rfl), (Nat.le_of_ble_eq_true rfl)⟩) (fun r30 hr30 => ?_)
      have er30 : r30 = nI 192 := by rw [hr30]; rfl
      subst er30
      refine lv_isub hx hb d_D_letterAt_33 ?_
      refine lv_topi (fun v33 ev33 => ?_)
      have ev33 : v33 = nI (B a - 192) := by rw [ev33]; exact pk_sub (by omega)
      subst ev33
      refine lv_istore (lv' := [(5, .int (nI (B a - 192))), (4, .int (nI 2)), (3, .int (nI (B a))), (0, .ref y), (1, .int (nI a)), (2, .int (nI e1))]) hx hb d_D_letterAt_34 hl (by decide) rfl (fun ls hl => ?_)
      refine lv_iconst (v := 1) hx hb d_D_letterAt_36 (by decide) ?_
      refine lv_istore (lv' := [(6, .int 1), (5, .int (nI (B a - 192))), (4, .int (nI 2)), (3, .int (nI (B a))), (0, .ref y), (1, .int (nI a)), (2, .int (nI e1))]) hx hb d_D_letterAt_37 hl (by decide) rfl (fun ls hl => ?_)
      refine lv_iload hx hb d_D_letterAt_39 (lv_at hl 0 rfl) ?_
      refine lv_iload hx hb d_D_letterAt_41 (lv_at hl 2 rfl) ?_
      refine lv_icmp_ge (tgt := 127) hx hb d_D_letterAt_43 (by decide) (fun q9 => absurd q9 (by decide)) (fun _ => ?_)
      refine lv_iload_n hx hb d_D_letterAt_46 rfl (lv_at hl 5 rfl) ?_
      refine lv_iload hx hb d_D_letterAt_47 (lv_at hl 0 rfl) ?_
      refine lv_iadd hx hb d_D_letterAt_49 ?_
      refine lv_topi (fun v49 ev49 => ?_)
      have ev49 : v49 = nI (a + 1) := by rw [ev49]; exact nI_add a 1
      subst ev49
      refine lv_iload_n hx hb d_D_letterAt_50 rfl (lv_at hl 6 rfl) ?_
      refine lv_icmp_lt (tgt := 57) hx hb d_D_letterAt_51 (by decide) (fun c51 => ?_) (fun c51 => ?_)
      · have q51_1 : a + 1 < e1 := (nI_ltI (a := a + 1) (b := e1) (by omega) (by omega)).mp c51
        refine lv_aload_n hx hb d_D_letterAt_57 rfl (lv_at hl 4 rfl) ?_
        refine lv_iload_n hx hb d_D_letterAt_58 rfl (lv_at hl 5 rfl) ?_
        refine lv_iload hx hb d_D_letterAt_59 (lv_at hl 0 rfl) ?_
        refine lv_iadd hx hb d_D_letterAt_61 ?_
        refine lv_topi (fun v61 ev61 => ?_)
        have ev61 : v61 = nI (a + 1) := by rw [ev61]; exact nI_add a 1
        subst ev61
        have hPc := hP.sub (ws' := [(y, .inr (1, [.ref b, .int nv, .int pv])), (b, .inl (cB, M, .inl (fun j => sb_b (B j))))]) [0, 1] rfl
        have hKc := hK.sub (tys' := [(cB, .byte)]) [0] rfl
        refine vp_callSi (W.runV (As := [.int (nI (a + 1))]) (rest := []) ⟨hx, hb, hml, hown, hA⟩ (c_R_get l D cB y b M B nv pv (a + 1) (by omega) hM hB) (q_R_get hA k2_21 rfl rfl ⟨(Nat.le_of_ble_eq_true rfl), (Nat.le_of_ble_eq_true rfl)⟩) (ox_V (va_recv hKc hPc (ci := 1) (q0 := 0) rfl rfl) (ox_S hPc hKc)) rfl rfl hl.1 rfl (lv_room (Nat.le_of_ble_eq_true rfl)) d_D_letterAt_62 ⟨(Nat.le_of_ble_eq_true rfl), (Nat.le_of_ble_eq_true rfl)⟩) (fun r62 hr62 => ?_)
        have er62 : r62 = nI (B (a + 1)) := hr62
        subst er62
        refine lv_istore (lv' := [(7, .int (nI (B (a + 1)))), (6, .int 1), (5, .int (nI (B a - 192))), (4, .int (nI 2)), (3, .int (nI (B a))), (0, .ref y), (1, .int (nI a)), (2, .int (nI e1))]) hx hb d_D_letterAt_65 hl (by decide) rfl (fun ls hl => ?_)
        refine lv_iload hx hb d_D_letterAt_67 (lv_at hl 0 rfl) ?_
        refine lv_sipush (v := 128) hx hb d_D_letterAt_69 (by decide) ?_
        refine lv_icmp_lt (tgt := 83) hx hb d_D_letterAt_72 (by decide) (fun c72 => ?_) (fun c72 => ?_)
        · have q83_1 : B (a + 1) < 128 ∨ 191 < B (a + 1) := by
            first
            | exact Or.inl ((nI_ltI (b := 128) (by omega) (by omega)).mp c72)
            | exact Or.inr (by have := mt (nI_leI (a := B (a + 1)) (b := 191) (by omega) (by omega)).mpr c80; omega)
          refine lv_iconst (v := (-1)) hx hb d_D_letterAt_83 (by decide) ?_
          exact W.iret (v := (-1)) hx hb hr (fun t ht hW => ⟨_, rfl, (by show Int32.toInt _ = la B a e1; rw [li_m1]; exact (la_b1 (by omega) (by omega) (by omega) (by omega)).symm), ht⟩) (fun q h => by cases h) d_D_letterAt_84
        · refine lv_iload hx hb d_D_letterAt_75 (lv_at hl 0 rfl) ?_
          refine lv_sipush (v := 191) hx hb d_D_letterAt_77 (by decide) ?_
          refine lv_icmp_le (tgt := 85) hx hb d_D_letterAt_80 (by decide) (fun c80 => ?_) (fun c80 => ?_)
          · have q85_1 : 128 ≤ B (a + 1) := by have := mt (nI_ltI (a := B (a + 1)) (b := 128) (by omega) (by omega)).mpr c72; omega
            have q86_1 : B (a + 1) ≤ 191 := (nI_leI (a := B (a + 1)) (b := 191) (by omega) (by omega)).mp c80
            refine lv_iload hx hb d_D_letterAt_85 (lv_at hl 2 rfl) ?_
            refine lv_bipush (v := 6) hx hb d_D_letterAt_87 (by decide) ?_
            refine lv_ishl hx hb d_D_letterAt_89 ?_
            refine lv_topi (fun v89 ev89 => ?_)
            have ev89 : v89 = nI ((B a - 192) * 64) := by rw [ev89]; exact sh_n (k := 6) (by decide) (by omega)
            subst ev89
            refine lv_iload hx hb d_D_letterAt_90 (lv_at hl 0 rfl) ?_
            refine lv_bipush (v := 63) hx hb d_D_letterAt_92 (by decide) ?_
            refine lv_iand hx hb d_D_letterAt_94 ?_
            refine lv_topi (fun v94 ev94 => ?_)
            have ev94 : v94 = nI (B (a + 1) - 128) := by rw [ev94, pk_andN (n := B (a + 1)) (by omega) 6 (by decide)]; congr 1; omega
            subst ev94
            refine lv_ior hx hb d_D_letterAt_95 ?_
            refine lv_topi (fun v95 ev95 => ?_)
            have ev95 : v95 = nI ((B a - 192) * 64 + (B (a + 1) - 128)) := by rw [ev95]; exact or64 (by omega) (by omega)
            subst ev95
            refine lv_istore (lv' := [(5, .int (nI ((B a - 192) * 64 + (B (a + 1) - 128)))), (7, .int (nI (B (a + 1)))), (6, .int 1), (4, .int (nI 2)), (3, .int (nI (B a))), (0, .ref y), (1, .int (nI a)), (2, .int (nI e1))]) hx hb d_D_letterAt_96 hl (by decide) rfl (fun ls hl => ?_)
            refine lv_iload hx hb d_D_letterAt_98 (lv_at hl 0 rfl) ?_
            refine lv_bipush (v := 6) hx hb d_D_letterAt_100 (by decide) ?_
            refine lv_iload hx hb d_D_letterAt_102 (lv_at hl 3 rfl) ?_
            refine lv_iconst (v := 1) hx hb d_D_letterAt_104 (by decide) ?_
            refine lv_isub hx hb d_D_letterAt_105 ?_
            refine lv_topi (fun v105 ev105 => ?_)
            have ev105 : v105 = 1 := by rw [ev105]; decide
            subst ev105
            refine lv_iload hx hb d_D_letterAt_106 (lv_at hl 2 rfl) ?_
            refine lv_isub hx hb d_D_letterAt_108 ?_
            refine lv_topi (fun v108 ev108 => ?_)
            have ev108 : v108 = 0 := by rw [ev108]; decide
            subst ev108
            refine lv_imul hx hb d_D_letterAt_109 ?_
            refine lv_topi (fun v109 ev109 => ?_)
            have ev109 : v109 = 0 := by rw [ev109]; decide
            subst ev109
            refine lv_ishl hx hb d_D_letterAt_110 ?_
            refine lv_topi (fun v110 ev110 => ?_)
            have ev110 : v110 = nI (((B a - 192) * 64 + (B (a + 1) - 128)) * 2 ^ 0) := by rw [ev110]; exact sh_n (k := 0) (by decide) (by omega)
            subst ev110
            refine vp_callSi (W.runS (As := [.int (nI (((B a - 192) * 64 + (B (a + 1) - 128)) * 2 ^ 0))]) (rest := []) ⟨hx, hb, hml, hown, hA⟩ (c_D_letterWidth l (nI (((B a - 192) * 64 + (B (a + 1) - 128)) * 2 ^ 0))) (q_D_letterWidth hA k1_214 rfl rfl ⟨(Nat.le_of_ble_eq_true rfl), (Nat.le_of_ble_eq_true rfl)⟩) (⟨fun a U g mk q => q, fun U hU hW => ⟨rfl, trivial⟩⟩) rfl rfl hl.1 rfl (lv_room (Nat.le_of_ble_eq_true rfl)) d_D_letterAt_111 ⟨(Nat.le_of_ble_eq_true rfl), (Nat.le_of_ble_eq_true rfl)⟩) (fun r111 hr111 => ?_)
            have er111 : r111 = nI (lwI ((((B a - 192) * 64 + (B (a + 1) - 128)) * 2 ^ 0 : Nat) : Int)) := by rw [hr111, nI_toInt (by omega)]
            subst er111
            refine lv_iload hx hb d_D_letterAt_114 (lv_at hl 3 rfl) ?_
            refine lv_icmp_eq (tgt := 121) hx hb d_D_letterAt_116 (by decide) (fun c116 => ?_) (fun c116 => ?_)
            · have q116_1 := (lwI_2 (((B a - 192) * 64 + (B (a + 1) - 128)) * 2 ^ 0)).mp ((nI_eq (b := 2) (by have := lwI_le ((((B a - 192) * 64 + (B (a + 1) - 128)) * 2 ^ 0 : Nat) : Int); omega) (by omega)).mp c116)
              obtain ⟨v121, ev121⟩ : ∃ y : Int32, y = 1 + 1 := ⟨_, rfl⟩
              refine lv_iinc (v := v121) (lv' := [(6, .int v121), (5, .int (nI ((B a - 192) * 64 + (B (a + 1) - 128)))), (7, .int (nI (B (a + 1)))), (4, .int (nI 2)), (3, .int (nI (B a))), (0, .ref y), (1, .int (nI a)), (2, .int (nI e1))]) hx hb d_D_letterAt_121 hl (k := 2) rfl (by rw [ev121]; rfl) (by decide) rfl (fun ls hl => ?_)
              have ev121 : v121 = 2 := by rw [ev121]; rfl
              subst ev121
              refine lv_goto (tgt := 39) hx hb d_D_letterAt_124 (by decide) ?_
              refine lv_iload hx hb d_D_letterAt_39 (lv_at hl 0 rfl) ?_
              refine lv_iload hx hb d_D_letterAt_41 (lv_at hl 3 rfl) ?_
              refine lv_icmp_ge (tgt := 127) hx hb d_D_letterAt_43 (by decide) (fun _ => ?_) (fun q9 => absurd (by decide) q9)
              refine lv_iload hx hb d_D_letterAt_127 (lv_at hl 1 rfl) ?_
              exact W.iret (v := nI ((B a - 192) * 64 + (B (a + 1) - 128))) hx hb hr (fun t ht hW => ⟨_, rfl, (by show Int32.toInt _ = la B a e1; rw [nI_toInt (by omega)]; exact (la_2 (by omega) (by omega) (by omega) (by omega) (by omega)).symm), ht⟩) (fun q h => by cases h) d_D_letterAt_129
            · have q116_1 := mt (lwI_2 (((B a - 192) * 64 + (B (a + 1) - 128)) * 2 ^ 0)).mpr (fun z9 => c116 (by rw [z9]))
              refine lv_iconst (v := (-1)) hx hb d_D_letterAt_119 (by decide) ?_
              exact W.iret (v := (-1)) hx hb hr (fun t ht hW => ⟨_, rfl, (by show Int32.toInt _ = la B a e1; rw [li_m1]; exfalso; omega), ht⟩) (fun q h => by cases h) d_D_letterAt_120
          · have q83_1 : B (a + 1) < 128 ∨ 191 < B (a + 1) := by
              first
              | exact Or.inl ((nI_ltI (b := 128) (by omega) (by omega)).mp c72)
              | exact Or.inr (by have := mt (nI_leI (a := B (a + 1)) (b := 191) (by omega) (by omega)).mpr c80; omega)
            refine lv_iconst (v := (-1)) hx hb d_D_letterAt_83 (by decide) ?_
            exact W.iret (v := (-1)) hx hb hr (fun t ht hW => ⟨_, rfl, (by show Int32.toInt _ = la B a e1; rw [li_m1]; exact (la_b1 (by omega) (by omega) (by omega) (by omega)).symm), ht⟩) (fun q h => by cases h) d_D_letterAt_84
      · have q51_1 : e1 ≤ a + 1 := by have := mt (nI_ltI (a := a + 1) (b := e1) (by omega) (by omega)).mpr c51; omega
        refine lv_bipush (v := (-2)) hx hb d_D_letterAt_54 (by decide) ?_
        exact W.iret (v := (-2)) hx hb hr (fun t ht hW => ⟨_, rfl, (by show Int32.toInt _ = la B a e1; rw [li_m2]; exact (la_e1 q2 (by omega) (by omega) (by omega)).symm), ht⟩) (fun q h => by cases h) d_D_letterAt_56
    · rw [ew]
      refine lv_istore (lv' := [(4, .int (nI 3)), (3, .int (nI (B a))), (0, .ref y), (1, .int (nI a)), (2, .int (nI e1))]) hx hb d_D_letterAt_18 hl (by decide) rfl (fun ls hl => ?_)
      refine lv_iload hx hb d_D_letterAt_20 (lv_at hl 0 rfl) ?_
      refine lv_if_ne (tgt := 27) hx hb d_D_letterAt_22 (by decide) (fun _ => ?_) (fun q9 => absurd q9 (by decide))
      refine lv_iload_n hx hb d_D_letterAt_27 rfl (lv_at hl 1 rfl) ?_
      refine lv_iload hx hb d_D_letterAt_28 (lv_at hl 0 rfl) ?_
      refine vp_callSi (W.runS (As := [.int (nI 3)]) (rest := [.int (nI (B a))]) ⟨hx, hb, hml, hown, hA⟩ (c_D_firstMark l 3 (by decide)) (q_D_firstMark hA k1_224 rfl rfl ⟨(Nat.le_of_ble_eq_true rfl), (Nat.le_of_ble_eq_true rfl)⟩) (⟨fun a U g mk q => q, fun U hU hW => ⟨rfl, trivial⟩⟩) rfl rfl hl.1 rfl (lv_room (Nat.le_of_ble_eq_true rfl)) d_D_letterAt_30 ⟨(Nat.le_of_ble_eq_true rfl), (Nat.le_of_ble_eq_true rfl)⟩) (fun r30 hr30 => ?_)
      have er30 : r30 = nI 224 := by rw [hr30]; rfl
      subst er30
      refine lv_isub hx hb d_D_letterAt_33 ?_
      refine lv_topi (fun v33 ev33 => ?_)
      have ev33 : v33 = nI (B a - 224) := by rw [ev33]; exact pk_sub (by omega)
      subst ev33
      refine lv_istore (lv' := [(5, .int (nI (B a - 224))), (4, .int (nI 3)), (3, .int (nI (B a))), (0, .ref y), (1, .int (nI a)), (2, .int (nI e1))]) hx hb d_D_letterAt_34 hl (by decide) rfl (fun ls hl => ?_)
      refine lv_iconst (v := 1) hx hb d_D_letterAt_36 (by decide) ?_
      refine lv_istore (lv' := [(6, .int 1), (5, .int (nI (B a - 224))), (4, .int (nI 3)), (3, .int (nI (B a))), (0, .ref y), (1, .int (nI a)), (2, .int (nI e1))]) hx hb d_D_letterAt_37 hl (by decide) rfl (fun ls hl => ?_)
      refine lv_iload hx hb d_D_letterAt_39 (lv_at hl 0 rfl) ?_
      refine lv_iload hx hb d_D_letterAt_41 (lv_at hl 2 rfl) ?_
      refine lv_icmp_ge (tgt := 127) hx hb d_D_letterAt_43 (by decide) (fun q9 => absurd q9 (by decide)) (fun _ => ?_)
      refine lv_iload_n hx hb d_D_letterAt_46 rfl (lv_at hl 5 rfl) ?_
      refine lv_iload hx hb d_D_letterAt_47 (lv_at hl 0 rfl) ?_
      refine lv_iadd hx hb d_D_letterAt_49 ?_
      refine lv_topi (fun v49 ev49 => ?_)
      have ev49 : v49 = nI (a + 1) := by rw [ev49]; exact nI_add a 1
      subst ev49
      refine lv_iload_n hx hb d_D_letterAt_50 rfl (lv_at hl 6 rfl) ?_
      refine lv_icmp_lt (tgt := 57) hx hb d_D_letterAt_51 (by decide) (fun c51 => ?_) (fun c51 => ?_)
      · have q51_1 : a + 1 < e1 := (nI_ltI (a := a + 1) (b := e1) (by omega) (by omega)).mp c51
        refine lv_aload_n hx hb d_D_letterAt_57 rfl (lv_at hl 4 rfl) ?_
        refine lv_iload_n hx hb d_D_letterAt_58 rfl (lv_at hl 5 rfl) ?_
        refine lv_iload hx hb d_D_letterAt_59 (lv_at hl 0 rfl) ?_
        refine lv_iadd hx hb d_D_letterAt_61 ?_
        refine lv_topi (fun v61 ev61 => ?_)
        have ev61 : v61 = nI (a + 1) := by rw [ev61]; exact nI_add a 1
        subst ev61
        have hPc := hP.sub (ws' := [(y, .inr (1, [.ref b, .int nv, .int pv])), (b, .inl (cB, M, .inl (fun j => sb_b (B j))))]) [0, 1] rfl
        have hKc := hK.sub (tys' := [(cB, .byte)]) [0] rfl
        refine vp_callSi (W.runV (As := [.int (nI (a + 1))]) (rest := []) ⟨hx, hb, hml, hown, hA⟩ (c_R_get l D cB y b M B nv pv (a + 1) (by omega) hM hB) (q_R_get hA k2_21 rfl rfl ⟨(Nat.le_of_ble_eq_true rfl), (Nat.le_of_ble_eq_true rfl)⟩) (ox_V (va_recv hKc hPc (ci := 1) (q0 := 0) rfl rfl) (ox_S hPc hKc)) rfl rfl hl.1 rfl (lv_room (Nat.le_of_ble_eq_true rfl)) d_D_letterAt_62 ⟨(Nat.le_of_ble_eq_true rfl), (Nat.le_of_ble_eq_true rfl)⟩) (fun r62 hr62 => ?_)
        have er62 : r62 = nI (B (a + 1)) := hr62
        subst er62
        refine lv_istore (lv' := [(7, .int (nI (B (a + 1)))), (6, .int 1), (5, .int (nI (B a - 224))), (4, .int (nI 3)), (3, .int (nI (B a))), (0, .ref y), (1, .int (nI a)), (2, .int (nI e1))]) hx hb d_D_letterAt_65 hl (by decide) rfl (fun ls hl => ?_)
        refine lv_iload hx hb d_D_letterAt_67 (lv_at hl 0 rfl) ?_
        refine lv_sipush (v := 128) hx hb d_D_letterAt_69 (by decide) ?_
        refine lv_icmp_lt (tgt := 83) hx hb d_D_letterAt_72 (by decide) (fun c72 => ?_) (fun c72 => ?_)
        · have q83_1 : B (a + 1) < 128 ∨ 191 < B (a + 1) := by
            first
            | exact Or.inl ((nI_ltI (b := 128) (by omega) (by omega)).mp c72)
            | exact Or.inr (by have := mt (nI_leI (a := B (a + 1)) (b := 191) (by omega) (by omega)).mpr c80; omega)
          refine lv_iconst (v := (-1)) hx hb d_D_letterAt_83 (by decide) ?_
          exact W.iret (v := (-1)) hx hb hr (fun t ht hW => ⟨_, rfl, (by show Int32.toInt _ = la B a e1; rw [li_m1]; exact (la_b1 (by omega) (by omega) (by omega) (by omega)).symm), ht⟩) (fun q h => by cases h) d_D_letterAt_84
        · refine lv_iload hx hb d_D_letterAt_75 (lv_at hl 0 rfl) ?_
          refine lv_sipush (v := 191) hx hb d_D_letterAt_77 (by decide) ?_
          refine lv_icmp_le (tgt := 85) hx hb d_D_letterAt_80 (by decide) (fun c80 => ?_) (fun c80 => ?_)
          · have q85_1 : 128 ≤ B (a + 1) := by have := mt (nI_ltI (a := B (a + 1)) (b := 128) (by omega) (by omega)).mpr c72; omega
            have q86_1 : B (a + 1) ≤ 191 := (nI_leI (a := B (a + 1)) (b := 191) (by omega) (by omega)).mp c80
            refine lv_iload hx hb d_D_letterAt_85 (lv_at hl 2 rfl) ?_
            refine lv_bipush (v := 6) hx hb d_D_letterAt_87 (by decide) ?_
            refine lv_ishl hx hb d_D_letterAt_89 ?_
            refine lv_topi (fun v89 ev89 => ?_)
            have ev89 : v89 = nI ((B a - 224) * 64) := by rw [ev89]; exact sh_n (k := 6) (by decide) (by omega)
            subst ev89
            refine lv_iload hx hb d_D_letterAt_90 (lv_at hl 0 rfl) ?_
            refine lv_bipush (v := 63) hx hb d_D_letterAt_92 (by decide) ?_
            refine lv_iand hx hb d_D_letterAt_94 ?_
            refine lv_topi (fun v94 ev94 => ?_)
            have ev94 : v94 = nI (B (a + 1) - 128) := by rw [ev94, pk_andN (n := B (a + 1)) (by omega) 6 (by decide)]; congr 1; omega
            subst ev94
            refine lv_ior hx hb d_D_letterAt_95 ?_
            refine lv_topi (fun v95 ev95 => ?_)
            have ev95 : v95 = nI ((B a - 224) * 64 + (B (a + 1) - 128)) := by rw [ev95]; exact or64 (by omega) (by omega)
            subst ev95
            refine lv_istore (lv' := [(5, .int (nI ((B a - 224) * 64 + (B (a + 1) - 128)))), (7, .int (nI (B (a + 1)))), (6, .int 1), (4, .int (nI 3)), (3, .int (nI (B a))), (0, .ref y), (1, .int (nI a)), (2, .int (nI e1))]) hx hb d_D_letterAt_96 hl (by decide) rfl (fun ls hl => ?_)
            refine lv_iload hx hb d_D_letterAt_98 (lv_at hl 0 rfl) ?_
            refine lv_bipush (v := 6) hx hb d_D_letterAt_100 (by decide) ?_
            refine lv_iload hx hb d_D_letterAt_102 (lv_at hl 3 rfl) ?_
            refine lv_iconst (v := 1) hx hb d_D_letterAt_104 (by decide) ?_
            refine lv_isub hx hb d_D_letterAt_105 ?_
            refine lv_topi (fun v105 ev105 => ?_)
            have ev105 : v105 = 2 := by rw [ev105]; decide
            subst ev105
            refine lv_iload hx hb d_D_letterAt_106 (lv_at hl 2 rfl) ?_
            refine lv_isub hx hb d_D_letterAt_108 ?_
            refine lv_topi (fun v108 ev108 => ?_)
            have ev108 : v108 = 1 := by rw [ev108]; decide
            subst ev108
            refine lv_imul hx hb d_D_letterAt_109 ?_
            refine lv_topi (fun v109 ev109 => ?_)
            have ev109 : v109 = 6 := by rw [ev109]; decide
            subst ev109
            refine lv_ishl hx hb d_D_letterAt_110 ?_
            refine lv_topi (fun v110 ev110 => ?_)
            have ev110 : v110 = nI (((B a - 224) * 64 + (B (a + 1) - 128)) * 2 ^ 6) := by rw [ev110]; exact sh_n (k := 6) (by decide) (by omega)
            subst ev110
            refine vp_callSi (W.runS (As := [.int (nI (((B a - 224) * 64 + (B (a + 1) - 128)) * 2 ^ 6))]) (rest := []) ⟨hx, hb, hml, hown, hA⟩ (c_D_letterWidth l (nI (((B a - 224) * 64 + (B (a + 1) - 128)) * 2 ^ 6))) (q_D_letterWidth hA k1_214 rfl rfl ⟨(Nat.le_of_ble_eq_true rfl), (Nat.le_of_ble_eq_true rfl)⟩) (⟨fun a U g mk q => q, fun U hU hW => ⟨rfl, trivial⟩⟩) rfl rfl hl.1 rfl (lv_room (Nat.le_of_ble_eq_true rfl)) d_D_letterAt_111 ⟨(Nat.le_of_ble_eq_true rfl), (Nat.le_of_ble_eq_true rfl)⟩) (fun r111 hr111 => ?_)
            have er111 : r111 = nI (lwI ((((B a - 224) * 64 + (B (a + 1) - 128)) * 2 ^ 6 : Nat) : Int)) := by rw [hr111, nI_toInt (by omega)]
            subst er111
            refine lv_iload hx hb d_D_letterAt_114 (lv_at hl 3 rfl) ?_
            refine lv_icmp_eq (tgt := 121) hx hb d_D_letterAt_116 (by decide) (fun c116 => ?_) (fun c116 => ?_)
            · have q116_1 := (lwI_3 (((B a - 224) * 64 + (B (a + 1) - 128)) * 2 ^ 6)).mp ((nI_eq (b := 3) (by have := lwI_le ((((B a - 224) * 64 + (B (a + 1) - 128)) * 2 ^ 6 : Nat) : Int); omega) (by omega)).mp c116)
              obtain ⟨v121, ev121⟩ : ∃ y : Int32, y = 1 + 1 := ⟨_, rfl⟩
              refine lv_iinc (v := v121) (lv' := [(6, .int v121), (5, .int (nI ((B a - 224) * 64 + (B (a + 1) - 128)))), (7, .int (nI (B (a + 1)))), (4, .int (nI 3)), (3, .int (nI (B a))), (0, .ref y), (1, .int (nI a)), (2, .int (nI e1))]) hx hb d_D_letterAt_121 hl (k := 2) rfl (by rw [ev121]; rfl) (by decide) rfl (fun ls hl => ?_)
              have ev121 : v121 = 2 := by rw [ev121]; rfl
              subst ev121
              refine lv_goto (tgt := 39) hx hb d_D_letterAt_124 (by decide) ?_
              refine lv_iload hx hb d_D_letterAt_39 (lv_at hl 0 rfl) ?_
              refine lv_iload hx hb d_D_letterAt_41 (lv_at hl 3 rfl) ?_
              refine lv_icmp_ge (tgt := 127) hx hb d_D_letterAt_43 (by decide) (fun q9 => absurd q9 (by decide)) (fun _ => ?_)
              refine lv_iload_n hx hb d_D_letterAt_46 rfl (lv_at hl 6 rfl) ?_
              refine lv_iload hx hb d_D_letterAt_47 (lv_at hl 0 rfl) ?_
              refine lv_iadd hx hb d_D_letterAt_49 ?_
              refine lv_topi (fun v49 ev49 => ?_)
              have ev49 : v49 = nI (a + 2) := by rw [ev49]; exact nI_add a 2
              subst ev49
              refine lv_iload_n hx hb d_D_letterAt_50 rfl (lv_at hl 7 rfl) ?_
              refine lv_icmp_lt (tgt := 57) hx hb d_D_letterAt_51 (by decide) (fun c51 => ?_) (fun c51 => ?_)
              · have q51_2 : a + 2 < e1 := (nI_ltI (a := a + 2) (b := e1) (by omega) (by omega)).mp c51
                refine lv_aload_n hx hb d_D_letterAt_57 rfl (lv_at hl 5 rfl) ?_
                refine lv_iload_n hx hb d_D_letterAt_58 rfl (lv_at hl 6 rfl) ?_
                refine lv_iload hx hb d_D_letterAt_59 (lv_at hl 0 rfl) ?_
                refine lv_iadd hx hb d_D_letterAt_61 ?_
                refine lv_topi (fun v61 ev61 => ?_)
                have ev61 : v61 = nI (a + 2) := by rw [ev61]; exact nI_add a 2
                subst ev61
                have hPc := hP.sub (ws' := [(y, .inr (1, [.ref b, .int nv, .int pv])), (b, .inl (cB, M, .inl (fun j => sb_b (B j))))]) [0, 1] rfl
                have hKc := hK.sub (tys' := [(cB, .byte)]) [0] rfl
                refine vp_callSi (W.runV (As := [.int (nI (a + 2))]) (rest := []) ⟨hx, hb, hml, hown, hA⟩ (c_R_get l D cB y b M B nv pv (a + 2) (by omega) hM hB) (q_R_get hA k2_21 rfl rfl ⟨(Nat.le_of_ble_eq_true rfl), (Nat.le_of_ble_eq_true rfl)⟩) (ox_V (va_recv hKc hPc (ci := 1) (q0 := 0) rfl rfl) (ox_S hPc hKc)) rfl rfl hl.1 rfl (lv_room (Nat.le_of_ble_eq_true rfl)) d_D_letterAt_62 ⟨(Nat.le_of_ble_eq_true rfl), (Nat.le_of_ble_eq_true rfl)⟩) (fun r62 hr62 => ?_)
                have er62 : r62 = nI (B (a + 2)) := hr62
                subst er62
                refine lv_istore (lv' := [(7, .int (nI (B (a + 2)))), (6, .int 2), (5, .int (nI ((B a - 224) * 64 + (B (a + 1) - 128)))), (4, .int (nI 3)), (3, .int (nI (B a))), (0, .ref y), (1, .int (nI a)), (2, .int (nI e1))]) hx hb d_D_letterAt_65 hl (by decide) rfl (fun ls hl => ?_)
                refine lv_iload hx hb d_D_letterAt_67 (lv_at hl 0 rfl) ?_
                refine lv_sipush (v := 128) hx hb d_D_letterAt_69 (by decide) ?_
                refine lv_icmp_lt (tgt := 83) hx hb d_D_letterAt_72 (by decide) (fun c72 => ?_) (fun c72 => ?_)
                · have q83_2 : B (a + 2) < 128 ∨ 191 < B (a + 2) := by
                    first
                    | exact Or.inl ((nI_ltI (b := 128) (by omega) (by omega)).mp c72)
                    | exact Or.inr (by have := mt (nI_leI (a := B (a + 2)) (b := 191) (by omega) (by omega)).mpr c80; omega)
                  refine lv_iconst (v := (-1)) hx hb d_D_letterAt_83 (by decide) ?_
                  exact W.iret (v := (-1)) hx hb hr (fun t ht hW => ⟨_, rfl, (by show Int32.toInt _ = la B a e1; rw [li_m1]; rw [la_3 (by omega) (by omega) (by omega) (by omega) (by omega), if_neg (by omega), if_neg (by omega), if_pos (by omega)]), ht⟩) (fun q h => by cases h) d_D_letterAt_84
                · refine lv_iload hx hb d_D_letterAt_75 (lv_at hl 0 rfl) ?_
                  refine lv_sipush (v := 191) hx hb d_D_letterAt_77 (by decide) ?_
                  refine lv_icmp_le (tgt := 85) hx hb d_D_letterAt_80 (by decide) (fun c80 => ?_) (fun c80 => ?_)
                  · have q85_2 : 128 ≤ B (a + 2) := by have := mt (nI_ltI (a := B (a + 2)) (b := 128) (by omega) (by omega)).mpr c72; omega
                    have q86_2 : B (a + 2) ≤ 191 := (nI_leI (a := B (a + 2)) (b := 191) (by omega) (by omega)).mp c80
                    refine lv_iload hx hb d_D_letterAt_85 (lv_at hl 2 rfl) ?_
                    refine lv_bipush (v := 6) hx hb d_D_letterAt_87 (by decide) ?_
                    refine lv_ishl hx hb d_D_letterAt_89 ?_
                    refine lv_topi (fun v89 ev89 => ?_)
                    have ev89 : v89 = nI (((B a - 224) * 64 + (B (a + 1) - 128)) * 64) := by rw [ev89]; exact sh_n (k := 6) (by decide) (by omega)
                    subst ev89
                    refine lv_iload hx hb d_D_letterAt_90 (lv_at hl 0 rfl) ?_
                    refine lv_bipush (v := 63) hx hb d_D_letterAt_92 (by decide) ?_
                    refine lv_iand hx hb d_D_letterAt_94 ?_
                    refine lv_topi (fun v94 ev94 => ?_)
                    have ev94 : v94 = nI (B (a + 2) - 128) := by rw [ev94, pk_andN (n := B (a + 2)) (by omega) 6 (by decide)]; congr 1; omega
                    subst ev94
                    refine lv_ior hx hb d_D_letterAt_95 ?_
                    refine lv_topi (fun v95 ev95 => ?_)
                    have ev95 : v95 = nI (((B a - 224) * 64 + (B (a + 1) - 128)) * 64 + (B (a + 2) - 128)) := by rw [ev95]; exact or64 (by omega) (by omega)
                    subst ev95
                    refine lv_istore (lv' := [(5, .int (nI (((B a - 224) * 64 + (B (a + 1) - 128)) * 64 + (B (a + 2) - 128)))), (7, .int (nI (B (a + 2)))), (6, .int 2), (4, .int (nI 3)), (3, .int (nI (B a))), (0, .ref y), (1, .int (nI a)), (2, .int (nI e1))]) hx hb d_D_letterAt_96 hl (by decide) rfl (fun ls hl => ?_)
                    refine lv_iload hx hb d_D_letterAt_98 (lv_at hl 0 rfl) ?_
                    refine lv_bipush (v := 6) hx hb d_D_letterAt_100 (by decide) ?_
                    refine lv_iload hx hb d_D_letterAt_102 (lv_at hl 3 rfl) ?_
                    refine lv_iconst (v := 1) hx hb d_D_letterAt_104 (by decide) ?_
                    refine lv_isub hx hb d_D_letterAt_105 ?_
                    refine lv_topi (fun v105 ev105 => ?_)
                    have ev105 : v105 = 2 := by rw [ev105]; decide
                    subst ev105
                    refine lv_iload hx hb d_D_letterAt_106 (lv_at hl 2 rfl) ?_
                    refine lv_isub hx hb d_D_letterAt_108 ?_
                    refine lv_topi (fun v108 ev108 => ?_)
                    have ev108 : v108 = 0 := by rw [ev108]; decide
                    subst ev108
                    refine lv_imul hx hb d_D_letterAt_109 ?_
                    refine lv_topi (fun v109 ev109 => ?_)
                    have ev109 : v109 = 0 := by rw [ev109]; decide
                    subst ev109
                    refine lv_ishl hx hb d_D_letterAt_110 ?_
                    refine lv_topi (fun v110 ev110 => ?_)
                    have ev110 : v110 = nI ((((B a - 224) * 64 + (B (a + 1) - 128)) * 64 + (B (a + 2) - 128)) * 2 ^ 0) := by rw [ev110]; exact sh_n (k := 0) (by decide) (by omega)
                    subst ev110
                    refine vp_callSi (W.runS (As := [.int (nI ((((B a - 224) * 64 + (B (a + 1) - 128)) * 64 + (B (a + 2) - 128)) * 2 ^ 0))]) (rest := []) ⟨hx, hb, hml, hown, hA⟩ (c_D_letterWidth l (nI ((((B a - 224) * 64 + (B (a + 1) - 128)) * 64 + (B (a + 2) - 128)) * 2 ^ 0))) (q_D_letterWidth hA k1_214 rfl rfl ⟨(Nat.le_of_ble_eq_true rfl), (Nat.le_of_ble_eq_true rfl)⟩) (⟨fun a U g mk q => q, fun U hU hW => ⟨rfl, trivial⟩⟩) rfl rfl hl.1 rfl (lv_room (Nat.le_of_ble_eq_true rfl)) d_D_letterAt_111 ⟨(Nat.le_of_ble_eq_true rfl), (Nat.le_of_ble_eq_true rfl)⟩) (fun r111 hr111 => ?_)
                    have er111 : r111 = nI (lwI (((((B a - 224) * 64 + (B (a + 1) - 128)) * 64 + (B (a + 2) - 128)) * 2 ^ 0 : Nat) : Int)) := by rw [hr111, nI_toInt (by omega)]
                    subst er111
                    refine lv_iload hx hb d_D_letterAt_114 (lv_at hl 3 rfl) ?_
                    refine lv_icmp_eq (tgt := 121) hx hb d_D_letterAt_116 (by decide) (fun c116 => ?_) (fun c116 => ?_)
                    · have q116_2 := (lwI_3 ((((B a - 224) * 64 + (B (a + 1) - 128)) * 64 + (B (a + 2) - 128)) * 2 ^ 0)).mp ((nI_eq (b := 3) (by have := lwI_le (((((B a - 224) * 64 + (B (a + 1) - 128)) * 64 + (B (a + 2) - 128)) * 2 ^ 0 : Nat) : Int); omega) (by omega)).mp c116)
                      obtain ⟨v121, ev121⟩ : ∃ y : Int32, y = 2 + 1 := ⟨_, rfl⟩
                      refine lv_iinc (v := v121) (lv' := [(6, .int v121), (5, .int (nI (((B a - 224) * 64 + (B (a + 1) - 128)) * 64 + (B (a + 2) - 128)))), (7, .int (nI (B (a + 2)))), (4, .int (nI 3)), (3, .int (nI (B a))), (0, .ref y), (1, .int (nI a)), (2, .int (nI e1))]) hx hb d_D_letterAt_121 hl (k := 2) rfl (by rw [ev121]; rfl) (by decide) rfl (fun ls hl => ?_)
                      have ev121 : v121 = 3 := by rw [ev121]; rfl
                      subst ev121
                      refine lv_goto (tgt := 39) hx hb d_D_letterAt_124 (by decide) ?_
                      refine lv_iload hx hb d_D_letterAt_39 (lv_at hl 0 rfl) ?_
                      refine lv_iload hx hb d_D_letterAt_41 (lv_at hl 3 rfl) ?_
                      refine lv_icmp_ge (tgt := 127) hx hb d_D_letterAt_43 (by decide) (fun _ => ?_) (fun q9 => absurd (by decide) q9)
                      refine lv_iload hx hb d_D_letterAt_127 (lv_at hl 1 rfl) ?_
                      exact W.iret (v := nI (((B a - 224) * 64 + (B (a + 1) - 128)) * 64 + (B (a + 2) - 128))) hx hb hr (fun t ht hW => ⟨_, rfl, (by show Int32.toInt _ = la B a e1; rw [nI_toInt (by omega)]; rw [la_3 (by omega) (by omega) (by omega) (by omega) (by omega), if_neg (by omega), if_neg (by omega), if_neg (by omega)]), ht⟩) (fun q h => by cases h) d_D_letterAt_129
                    · have q116_2 := mt (lwI_3 ((((B a - 224) * 64 + (B (a + 1) - 128)) * 64 + (B (a + 2) - 128)) * 2 ^ 0)).mpr (fun z9 => c116 (by rw [z9]))
                      refine lv_iconst (v := (-1)) hx hb d_D_letterAt_119 (by decide) ?_
                      exact W.iret (v := (-1)) hx hb hr (fun t ht hW => ⟨_, rfl, (by show Int32.toInt _ = la B a e1; rw [li_m1]; exfalso; omega), ht⟩) (fun q h => by cases h) d_D_letterAt_120
                  · have q83_2 : B (a + 2) < 128 ∨ 191 < B (a + 2) := by
                      first
                      | exact Or.inl ((nI_ltI (b := 128) (by omega) (by omega)).mp c72)
                      | exact Or.inr (by have := mt (nI_leI (a := B (a + 2)) (b := 191) (by omega) (by omega)).mpr c80; omega)
                    refine lv_iconst (v := (-1)) hx hb d_D_letterAt_83 (by decide) ?_
                    exact W.iret (v := (-1)) hx hb hr (fun t ht hW => ⟨_, rfl, (by show Int32.toInt _ = la B a e1; rw [li_m1]; rw [la_3 (by omega) (by omega) (by omega) (by omega) (by omega), if_neg (by omega), if_neg (by omega), if_pos (by omega)]), ht⟩) (fun q h => by cases h) d_D_letterAt_84
              · have q51_2 : e1 ≤ a + 2 := by have := mt (nI_ltI (a := a + 2) (b := e1) (by omega) (by omega)).mpr c51; omega
                refine lv_bipush (v := (-2)) hx hb d_D_letterAt_54 (by decide) ?_
                exact W.iret (v := (-2)) hx hb hr (fun t ht hW => ⟨_, rfl, (by show Int32.toInt _ = la B a e1; rw [li_m2]; rw [la_3 (by omega) (by omega) (by omega) (by omega) (by omega), if_neg (by omega), if_pos (by omega)]), ht⟩) (fun q h => by cases h) d_D_letterAt_56
            · have q116_1 := mt (lwI_3 (((B a - 224) * 64 + (B (a + 1) - 128)) * 2 ^ 6)).mpr (fun z9 => c116 (by rw [z9]))
              refine lv_iconst (v := (-1)) hx hb d_D_letterAt_119 (by decide) ?_
              exact W.iret (v := (-1)) hx hb hr (fun t ht hW => ⟨_, rfl, (by show Int32.toInt _ = la B a e1; rw [li_m1]; rw [la_3 (by omega) (by omega) (by omega) (by omega) (by omega), if_pos (by omega)]), ht⟩) (fun q h => by cases h) d_D_letterAt_120
          · have q83_1 : B (a + 1) < 128 ∨ 191 < B (a + 1) := by
              first
              | exact Or.inl ((nI_ltI (b := 128) (by omega) (by omega)).mp c72)
              | exact Or.inr (by have := mt (nI_leI (a := B (a + 1)) (b := 191) (by omega) (by omega)).mpr c80; omega)
            refine lv_iconst (v := (-1)) hx hb d_D_letterAt_83 (by decide) ?_
            exact W.iret (v := (-1)) hx hb hr (fun t ht hW => ⟨_, rfl, (by show Int32.toInt _ = la B a e1; rw [li_m1]; exact (la_b1 (by omega) (by omega) (by omega) (by omega)).symm), ht⟩) (fun q h => by cases h) d_D_letterAt_84
      · have q51_1 : e1 ≤ a + 1 := by have := mt (nI_ltI (a := a + 1) (b := e1) (by omega) (by omega)).mpr c51; omega
        refine lv_bipush (v := (-2)) hx hb d_D_letterAt_54 (by decide) ?_
        exact W.iret (v := (-2)) hx hb hr (fun t ht hW => ⟨_, rfl, (by show Int32.toInt _ = la B a e1; rw [li_m2]; exact (la_e1 q2 (by omega) (by omega) (by omega)).symm), ht⟩) (fun q h => by cases h) d_D_letterAt_56
    · rw [ew]
      refine lv_istore (lv' := [(4, .int (nI 4)), (3, .int (nI (B a))), (0, .ref y), (1, .int (nI a)), (2, .int (nI e1))]) hx hb d_D_letterAt_18 hl (by decide) rfl (fun ls hl => ?_)
      refine lv_iload hx hb d_D_letterAt_20 (lv_at hl 0 rfl) ?_
      refine lv_if_ne (tgt := 27) hx hb d_D_letterAt_22 (by decide) (fun _ => ?_) (fun q9 => absurd q9 (by decide))
      refine lv_iload_n hx hb d_D_letterAt_27 rfl (lv_at hl 1 rfl) ?_
      refine lv_iload hx hb d_D_letterAt_28 (lv_at hl 0 rfl) ?_
      refine vp_callSi (W.runS (As := [.int (nI 4)]) (rest := [.int (nI (B a))]) ⟨hx, hb, hml, hown, hA⟩ (c_D_firstMark l 4 (by decide)) (q_D_firstMark hA k1_224 rfl rfl ⟨(Nat.le_of_ble_eq_true rfl), (Nat.le_of_ble_eq_true rfl)⟩) (⟨fun a U g mk q => q, fun U hU hW => ⟨rfl, trivial⟩⟩) rfl rfl hl.1 rfl (lv_room (Nat.le_of_ble_eq_true rfl)) d_D_letterAt_30 ⟨(Nat.le_of_ble_eq_true rfl), (Nat.le_of_ble_eq_true rfl)⟩) (fun r30 hr30 => ?_)
      have er30 : r30 = nI 240 := by rw [hr30]; rfl
      subst er30
      refine lv_isub hx hb d_D_letterAt_33 ?_
      refine lv_topi (fun v33 ev33 => ?_)
      have ev33 : v33 = nI (B a - 240) := by rw [ev33]; exact pk_sub (by omega)
      subst ev33
      refine lv_istore (lv' := [(5, .int (nI (B a - 240))), (4, .int (nI 4)), (3, .int (nI (B a))), (0, .ref y), (1, .int (nI a)), (2, .int (nI e1))]) hx hb d_D_letterAt_34 hl (by decide) rfl (fun ls hl => ?_)
      refine lv_iconst (v := 1) hx hb d_D_letterAt_36 (by decide) ?_
      refine lv_istore (lv' := [(6, .int 1), (5, .int (nI (B a - 240))), (4, .int (nI 4)), (3, .int (nI (B a))), (0, .ref y), (1, .int (nI a)), (2, .int (nI e1))]) hx hb d_D_letterAt_37 hl (by decide) rfl (fun ls hl => ?_)
      refine lv_iload hx hb d_D_letterAt_39 (lv_at hl 0 rfl) ?_
      refine lv_iload hx hb d_D_letterAt_41 (lv_at hl 2 rfl) ?_
      refine lv_icmp_ge (tgt := 127) hx hb d_D_letterAt_43 (by decide) (fun q9 => absurd q9 (by decide)) (fun _ => ?_)
      refine lv_iload_n hx hb d_D_letterAt_46 rfl (lv_at hl 5 rfl) ?_
      refine lv_iload hx hb d_D_letterAt_47 (lv_at hl 0 rfl) ?_
      refine lv_iadd hx hb d_D_letterAt_49 ?_
      refine lv_topi (fun v49 ev49 => ?_)
      have ev49 : v49 = nI (a + 1) := by rw [ev49]; exact nI_add a 1
      subst ev49
      refine lv_iload_n hx hb d_D_letterAt_50 rfl (lv_at hl 6 rfl) ?_
      refine lv_icmp_lt (tgt := 57) hx hb d_D_letterAt_51 (by decide) (fun c51 => ?_) (fun c51 => ?_)
      · have q51_1 : a + 1 < e1 := (nI_ltI (a := a + 1) (b := e1) (by omega) (by omega)).mp c51
        refine lv_aload_n hx hb d_D_letterAt_57 rfl (lv_at hl 4 rfl) ?_
        refine lv_iload_n hx hb d_D_letterAt_58 rfl (lv_at hl 5 rfl) ?_
        refine lv_iload hx hb d_D_letterAt_59 (lv_at hl 0 rfl) ?_
        refine lv_iadd hx hb d_D_letterAt_61 ?_
        refine lv_topi (fun v61 ev61 => ?_)
        have ev61 : v61 = nI (a + 1) := by rw [ev61]; exact nI_add a 1
        subst ev61
        have hPc := hP.sub (ws' := [(y, .inr (1, [.ref b, .int nv, .int pv])), (b, .inl (cB, M, .inl (fun j => sb_b (B j))))]) [0, 1] rfl
        have hKc := hK.sub (tys' := [(cB, .byte)]) [0] rfl
        refine vp_callSi (W.runV (As := [.int (nI (a + 1))]) (rest := []) ⟨hx, hb, hml, hown, hA⟩ (c_R_get l D cB y b M B nv pv (a + 1) (by omega) hM hB) (q_R_get hA k2_21 rfl rfl ⟨(Nat.le_of_ble_eq_true rfl), (Nat.le_of_ble_eq_true rfl)⟩) (ox_V (va_recv hKc hPc (ci := 1) (q0 := 0) rfl rfl) (ox_S hPc hKc)) rfl rfl hl.1 rfl (lv_room (Nat.le_of_ble_eq_true rfl)) d_D_letterAt_62 ⟨(Nat.le_of_ble_eq_true rfl), (Nat.le_of_ble_eq_true rfl)⟩) (fun r62 hr62 => ?_)
        have er62 : r62 = nI (B (a + 1)) := hr62
        subst er62
        refine lv_istore (lv' := [(7, .int (nI (B (a + 1)))), (6, .int 1), (5, .int (nI (B a - 240))), (4, .int (nI 4)), (3, .int (nI (B a))), (0, .ref y), (1, .int (nI a)), (2, .int (nI e1))]) hx hb d_D_letterAt_65 hl (by decide) rfl (fun ls hl => ?_)
        refine lv_iload hx hb d_D_letterAt_67 (lv_at hl 0 rfl) ?_
        refine lv_sipush (v := 128) hx hb d_D_letterAt_69 (by decide) ?_
        refine lv_icmp_lt (tgt := 83) hx hb d_D_letterAt_72 (by decide) (fun c72 => ?_) (fun c72 => ?_)
        · have q83_1 : B (a + 1) < 128 ∨ 191 < B (a + 1) := by
            first
            | exact Or.inl ((nI_ltI (b := 128) (by omega) (by omega)).mp c72)
            | exact Or.inr (by have := mt (nI_leI (a := B (a + 1)) (b := 191) (by omega) (by omega)).mpr c80; omega)
          refine lv_iconst (v := (-1)) hx hb d_D_letterAt_83 (by decide) ?_
          exact W.iret (v := (-1)) hx hb hr (fun t ht hW => ⟨_, rfl, (by show Int32.toInt _ = la B a e1; rw [li_m1]; exact (la_b1 (by omega) (by omega) (by omega) (by omega)).symm), ht⟩) (fun q h => by cases h) d_D_letterAt_84
        · refine lv_iload hx hb d_D_letterAt_75 (lv_at hl 0 rfl) ?_
          refine lv_sipush (v := 191) hx hb d_D_letterAt_77 (by decide) ?_
          refine lv_icmp_le (tgt := 85) hx hb d_D_letterAt_80 (by decide) (fun c80 => ?_) (fun c80 => ?_)
          · have q85_1 : 128 ≤ B (a + 1) := by have := mt (nI_ltI (a := B (a + 1)) (b := 128) (by omega) (by omega)).mpr c72; omega
            have q86_1 : B (a + 1) ≤ 191 := (nI_leI (a := B (a + 1)) (b := 191) (by omega) (by omega)).mp c80
            refine lv_iload hx hb d_D_letterAt_85 (lv_at hl 2 rfl) ?_
            refine lv_bipush (v := 6) hx hb d_D_letterAt_87 (by decide) ?_
            refine lv_ishl hx hb d_D_letterAt_89 ?_
            refine lv_topi (fun v89 ev89 => ?_)
            have ev89 : v89 = nI ((B a - 240) * 64) := by rw [ev89]; exact sh_n (k := 6) (by decide) (by omega)
            subst ev89
            refine lv_iload hx hb d_D_letterAt_90 (lv_at hl 0 rfl) ?_
            refine lv_bipush (v := 63) hx hb d_D_letterAt_92 (by decide) ?_
            refine lv_iand hx hb d_D_letterAt_94 ?_
            refine lv_topi (fun v94 ev94 => ?_)
            have ev94 : v94 = nI (B (a + 1) - 128) := by rw [ev94, pk_andN (n := B (a + 1)) (by omega) 6 (by decide)]; congr 1; omega
            subst ev94
            refine lv_ior hx hb d_D_letterAt_95 ?_
            refine lv_topi (fun v95 ev95 => ?_)
            have ev95 : v95 = nI ((B a - 240) * 64 + (B (a + 1) - 128)) := by rw [ev95]; exact or64 (by omega) (by omega)
            subst ev95
            refine lv_istore (lv' := [(5, .int (nI ((B a - 240) * 64 + (B (a + 1) - 128)))), (7, .int (nI (B (a + 1)))), (6, .int 1), (4, .int (nI 4)), (3, .int (nI (B a))), (0, .ref y), (1, .int (nI a)), (2, .int (nI e1))]) hx hb d_D_letterAt_96 hl (by decide) rfl (fun ls hl => ?_)
            refine lv_iload hx hb d_D_letterAt_98 (lv_at hl 0 rfl) ?_
            refine lv_bipush (v := 6) hx hb d_D_letterAt_100 (by decide) ?_
            refine lv_iload hx hb d_D_letterAt_102 (lv_at hl 3 rfl) ?_
            refine lv_iconst (v := 1) hx hb d_D_letterAt_104 (by decide) ?_
            refine lv_isub hx hb d_D_letterAt_105 ?_
            refine lv_topi (fun v105 ev105 => ?_)
            have ev105 : v105 = 3 := by rw [ev105]; decide
            subst ev105
            refine lv_iload hx hb d_D_letterAt_106 (lv_at hl 2 rfl) ?_
            refine lv_isub hx hb d_D_letterAt_108 ?_
            refine lv_topi (fun v108 ev108 => ?_)
            have ev108 : v108 = 2 := by rw [ev108]; decide
            subst ev108
            refine lv_imul hx hb d_D_letterAt_109 ?_
            refine lv_topi (fun v109 ev109 => ?_)
            have ev109 : v109 = 12 := by rw [ev109]; decide
            subst ev109
            refine lv_ishl hx hb d_D_letterAt_110 ?_
            refine lv_topi (fun v110 ev110 => ?_)
            have ev110 : v110 = nI (((B a - 240) * 64 + (B (a + 1) - 128)) * 2 ^ 12) := by rw [ev110]; exact sh_n (k := 12) (by decide) (by omega)
            subst ev110
            refine vp_callSi (W.runS (As := [.int (nI (((B a - 240) * 64 + (B (a + 1) - 128)) * 2 ^ 12))]) (rest := []) ⟨hx, hb, hml, hown, hA⟩ (c_D_letterWidth l (nI (((B a - 240) * 64 + (B (a + 1) - 128)) * 2 ^ 12))) (q_D_letterWidth hA k1_214 rfl rfl ⟨(Nat.le_of_ble_eq_true rfl), (Nat.le_of_ble_eq_true rfl)⟩) (⟨fun a U g mk q => q, fun U hU hW => ⟨rfl, trivial⟩⟩) rfl rfl hl.1 rfl (lv_room (Nat.le_of_ble_eq_true rfl)) d_D_letterAt_111 ⟨(Nat.le_of_ble_eq_true rfl), (Nat.le_of_ble_eq_true rfl)⟩) (fun r111 hr111 => ?_)
            have er111 : r111 = nI (lwI ((((B a - 240) * 64 + (B (a + 1) - 128)) * 2 ^ 12 : Nat) : Int)) := by rw [hr111, nI_toInt (by omega)]
            subst er111
            refine lv_iload hx hb d_D_letterAt_114 (lv_at hl 3 rfl) ?_
            refine lv_icmp_eq (tgt := 121) hx hb d_D_letterAt_116 (by decide) (fun c116 => ?_) (fun c116 => ?_)
            · have q116_1 := (lwI_4 (((B a - 240) * 64 + (B (a + 1) - 128)) * 2 ^ 12)).mp ((nI_eq (b := 4) (by have := lwI_le ((((B a - 240) * 64 + (B (a + 1) - 128)) * 2 ^ 12 : Nat) : Int); omega) (by omega)).mp c116)
              obtain ⟨v121, ev121⟩ : ∃ y : Int32, y = 1 + 1 := ⟨_, rfl⟩
              refine lv_iinc (v := v121) (lv' := [(6, .int v121), (5, .int (nI ((B a - 240) * 64 + (B (a + 1) - 128)))), (7, .int (nI (B (a + 1)))), (4, .int (nI 4)), (3, .int (nI (B a))), (0, .ref y), (1, .int (nI a)), (2, .int (nI e1))]) hx hb d_D_letterAt_121 hl (k := 2) rfl (by rw [ev121]; rfl) (by decide) rfl (fun ls hl => ?_)
              have ev121 : v121 = 2 := by rw [ev121]; rfl
              subst ev121
              refine lv_goto (tgt := 39) hx hb d_D_letterAt_124 (by decide) ?_
              refine lv_iload hx hb d_D_letterAt_39 (lv_at hl 0 rfl) ?_
              refine lv_iload hx hb d_D_letterAt_41 (lv_at hl 3 rfl) ?_
              refine lv_icmp_ge (tgt := 127) hx hb d_D_letterAt_43 (by decide) (fun q9 => absurd q9 (by decide)) (fun _ => ?_)
              refine lv_iload_n hx hb d_D_letterAt_46 rfl (lv_at hl 6 rfl) ?_
              refine lv_iload hx hb d_D_letterAt_47 (lv_at hl 0 rfl) ?_
              refine lv_iadd hx hb d_D_letterAt_49 ?_
              refine lv_topi (fun v49 ev49 => ?_)
              have ev49 : v49 = nI (a + 2) := by rw [ev49]; exact nI_add a 2
              subst ev49
              refine lv_iload_n hx hb d_D_letterAt_50 rfl (lv_at hl 7 rfl) ?_
              refine lv_icmp_lt (tgt := 57) hx hb d_D_letterAt_51 (by decide) (fun c51 => ?_) (fun c51 => ?_)
              · have q51_2 : a + 2 < e1 := (nI_ltI (a := a + 2) (b := e1) (by omega) (by omega)).mp c51
                refine lv_aload_n hx hb d_D_letterAt_57 rfl (lv_at hl 5 rfl) ?_
                refine lv_iload_n hx hb d_D_letterAt_58 rfl (lv_at hl 6 rfl) ?_
                refine lv_iload hx hb d_D_letterAt_59 (lv_at hl 0 rfl) ?_
                refine lv_iadd hx hb d_D_letterAt_61 ?_
                refine lv_topi (fun v61 ev61 => ?_)
                have ev61 : v61 = nI (a + 2) := by rw [ev61]; exact nI_add a 2
                subst ev61
                have hPc := hP.sub (ws' := [(y, .inr (1, [.ref b, .int nv, .int pv])), (b, .inl (cB, M, .inl (fun j => sb_b (B j))))]) [0, 1] rfl
                have hKc := hK.sub (tys' := [(cB, .byte)]) [0] rfl
                refine vp_callSi (W.runV (As := [.int (nI (a + 2))]) (rest := []) ⟨hx, hb, hml, hown, hA⟩ (c_R_get l D cB y b M B nv pv (a + 2) (by omega) hM hB) (q_R_get hA k2_21 rfl rfl ⟨(Nat.le_of_ble_eq_true rfl), (Nat.le_of_ble_eq_true rfl)⟩) (ox_V (va_recv hKc hPc (ci := 1) (q0 := 0) rfl rfl) (ox_S hPc hKc)) rfl rfl hl.1 rfl (lv_room (Nat.le_of_ble_eq_true rfl)) d_D_letterAt_62 ⟨(Nat.le_of_ble_eq_true rfl), (Nat.le_of_ble_eq_true rfl)⟩) (fun r62 hr62 => ?_)
                have er62 : r62 = nI (B (a + 2)) := hr62
                subst er62
                refine lv_istore (lv' := [(7, .int (nI (B (a + 2)))), (6, .int 2), (5, .int (nI ((B a - 240) * 64 + (B (a + 1) - 128)))), (4, .int (nI 4)), (3, .int (nI (B a))), (0, .ref y), (1, .int (nI a)), (2, .int (nI e1))]) hx hb d_D_letterAt_65 hl (by decide) rfl (fun ls hl => ?_)
                refine lv_iload hx hb d_D_letterAt_67 (lv_at hl 0 rfl) ?_
                refine lv_sipush (v := 128) hx hb d_D_letterAt_69 (by decide) ?_
                refine lv_icmp_lt (tgt := 83) hx hb d_D_letterAt_72 (by decide) (fun c72 => ?_) (fun c72 => ?_)
                · have q83_2 : B (a + 2) < 128 ∨ 191 < B (a + 2) := by
                    first
                    | exact Or.inl ((nI_ltI (b := 128) (by omega) (by omega)).mp c72)
                    | exact Or.inr (by have := mt (nI_leI (a := B (a + 2)) (b := 191) (by omega) (by omega)).mpr c80; omega)
                  refine lv_iconst (v := (-1)) hx hb d_D_letterAt_83 (by decide) ?_
                  exact W.iret (v := (-1)) hx hb hr (fun t ht hW => ⟨_, rfl, (by show Int32.toInt _ = la B a e1; rw [li_m1]; rw [la_4 (by omega) (by omega) (by omega) (by omega) (by omega), if_neg (by omega), if_neg (by omega), if_pos (by omega)]), ht⟩) (fun q h => by cases h) d_D_letterAt_84
                · refine lv_iload hx hb d_D_letterAt_75 (lv_at hl 0 rfl) ?_
                  refine lv_sipush (v := 191) hx hb d_D_letterAt_77 (by decide) ?_
                  refine lv_icmp_le (tgt := 85) hx hb d_D_letterAt_80 (by decide) (fun c80 => ?_) (fun c80 => ?_)
                  · have q85_2 : 128 ≤ B (a + 2) := by have := mt (nI_ltI (a := B (a + 2)) (b := 128) (by omega) (by omega)).mpr c72; omega
                    have q86_2 : B (a + 2) ≤ 191 := (nI_leI (a := B (a + 2)) (b := 191) (by omega) (by omega)).mp c80
                    refine lv_iload hx hb d_D_letterAt_85 (lv_at hl 2 rfl) ?_
                    refine lv_bipush (v := 6) hx hb d_D_letterAt_87 (by decide) ?_
                    refine lv_ishl hx hb d_D_letterAt_89 ?_
                    refine lv_topi (fun v89 ev89 => ?_)
                    have ev89 : v89 = nI (((B a - 240) * 64 + (B (a + 1) - 128)) * 64) := by rw [ev89]; exact sh_n (k := 6) (by decide) (by omega)
                    subst ev89
                    refine lv_iload hx hb d_D_letterAt_90 (lv_at hl 0 rfl) ?_
                    refine lv_bipush (v := 63) hx hb d_D_letterAt_92 (by decide) ?_
                    refine lv_iand hx hb d_D_letterAt_94 ?_
                    refine lv_topi (fun v94 ev94 => ?_)
                    have ev94 : v94 = nI (B (a + 2) - 128) := by rw [ev94, pk_andN (n := B (a + 2)) (by omega) 6 (by decide)]; congr 1; omega
                    subst ev94
                    refine lv_ior hx hb d_D_letterAt_95 ?_
                    refine lv_topi (fun v95 ev95 => ?_)
                    have ev95 : v95 = nI (((B a - 240) * 64 + (B (a + 1) - 128)) * 64 + (B (a + 2) - 128)) := by rw [ev95]; exact or64 (by omega) (by omega)
                    subst ev95
                    refine lv_istore (lv' := [(5, .int (nI (((B a - 240) * 64 + (B (a + 1) - 128)) * 64 + (B (a + 2) - 128)))), (7, .int (nI (B (a + 2)))), (6, .int 2), (4, .int (nI 4)), (3, .int (nI (B a))), (0, .ref y), (1, .int (nI a)), (2, .int (nI e1))]) hx hb d_D_letterAt_96 hl (by decide) rfl (fun ls hl => ?_)
                    refine lv_iload hx hb d_D_letterAt_98 (lv_at hl 0 rfl) ?_
                    refine lv_bipush (v := 6) hx hb d_D_letterAt_100 (by decide) ?_
                    refine lv_iload hx hb d_D_letterAt_102 (lv_at hl 3 rfl) ?_
                    refine lv_iconst (v := 1) hx hb d_D_letterAt_104 (by decide) ?_
                    refine lv_isub hx hb d_D_letterAt_105 ?_
                    refine lv_topi (fun v105 ev105 => ?_)
                    have ev105 : v105 = 3 := by rw [ev105]; decide
                    subst ev105
                    refine lv_iload hx hb d_D_letterAt_106 (lv_at hl 2 rfl) ?_
                    refine lv_isub hx hb d_D_letterAt_108 ?_
                    refine lv_topi (fun v108 ev108 => ?_)
                    have ev108 : v108 = 1 := by rw [ev108]; decide
                    subst ev108
                    refine lv_imul hx hb d_D_letterAt_109 ?_
                    refine lv_topi (fun v109 ev109 => ?_)
                    have ev109 : v109 = 6 := by rw [ev109]; decide
                    subst ev109
                    refine lv_ishl hx hb d_D_letterAt_110 ?_
                    refine lv_topi (fun v110 ev110 => ?_)
                    have ev110 : v110 = nI ((((B a - 240) * 64 + (B (a + 1) - 128)) * 64 + (B (a + 2) - 128)) * 2 ^ 6) := by rw [ev110]; exact sh_n (k := 6) (by decide) (by omega)
                    subst ev110
                    refine vp_callSi (W.runS (As := [.int (nI ((((B a - 240) * 64 + (B (a + 1) - 128)) * 64 + (B (a + 2) - 128)) * 2 ^ 6))]) (rest := []) ⟨hx, hb, hml, hown, hA⟩ (c_D_letterWidth l (nI ((((B a - 240) * 64 + (B (a + 1) - 128)) * 64 + (B (a + 2) - 128)) * 2 ^ 6))) (q_D_letterWidth hA k1_214 rfl rfl ⟨(Nat.le_of_ble_eq_true rfl), (Nat.le_of_ble_eq_true rfl)⟩) (⟨fun a U g mk q => q, fun U hU hW => ⟨rfl, trivial⟩⟩) rfl rfl hl.1 rfl (lv_room (Nat.le_of_ble_eq_true rfl)) d_D_letterAt_111 ⟨(Nat.le_of_ble_eq_true rfl), (Nat.le_of_ble_eq_true rfl)⟩) (fun r111 hr111 => ?_)
                    have er111 : r111 = nI (lwI (((((B a - 240) * 64 + (B (a + 1) - 128)) * 64 + (B (a + 2) - 128)) * 2 ^ 6 : Nat) : Int)) := by rw [hr111, nI_toInt (by omega)]
                    subst er111
                    refine lv_iload hx hb d_D_letterAt_114 (lv_at hl 3 rfl) ?_
                    refine lv_icmp_eq (tgt := 121) hx hb d_D_letterAt_116 (by decide) (fun c116 => ?_) (fun c116 => ?_)
                    · have q116_2 := (lwI_4 ((((B a - 240) * 64 + (B (a + 1) - 128)) * 64 + (B (a + 2) - 128)) * 2 ^ 6)).mp ((nI_eq (b := 4) (by have := lwI_le (((((B a - 240) * 64 + (B (a + 1) - 128)) * 64 + (B (a + 2) - 128)) * 2 ^ 6 : Nat) : Int); omega) (by omega)).mp c116)
                      obtain ⟨v121, ev121⟩ : ∃ y : Int32, y = 2 + 1 := ⟨_, rfl⟩
                      refine lv_iinc (v := v121) (lv' := [(6, .int v121), (5, .int (nI (((B a - 240) * 64 + (B (a + 1) - 128)) * 64 + (B (a + 2) - 128)))), (7, .int (nI (B (a + 2)))), (4, .int (nI 4)), (3, .int (nI (B a))), (0, .ref y), (1, .int (nI a)), (2, .int (nI e1))]) hx hb d_D_letterAt_121 hl (k := 2) rfl (by rw [ev121]; rfl) (by decide) rfl (fun ls hl => ?_)
                      have ev121 : v121 = 3 := by rw [ev121]; rfl
                      subst ev121
                      refine lv_goto (tgt := 39) hx hb d_D_letterAt_124 (by decide) ?_
                      refine lv_iload hx hb d_D_letterAt_39 (lv_at hl 0 rfl) ?_
                      refine lv_iload hx hb d_D_letterAt_41 (lv_at hl 3 rfl) ?_
                      refine lv_icmp_ge (tgt := 127) hx hb d_D_letterAt_43 (by decide) (fun q9 => absurd q9 (by decide)) (fun _ => ?_)
                      refine lv_iload_n hx hb d_D_letterAt_46 rfl (lv_at hl 6 rfl) ?_
                      refine lv_iload hx hb d_D_letterAt_47 (lv_at hl 0 rfl) ?_
                      refine lv_iadd hx hb d_D_letterAt_49 ?_
                      refine lv_topi (fun v49 ev49 => ?_)
                      have ev49 : v49 = nI (a + 3) := by rw [ev49]; exact nI_add a 3
                      subst ev49
                      refine lv_iload_n hx hb d_D_letterAt_50 rfl (lv_at hl 7 rfl) ?_
                      refine lv_icmp_lt (tgt := 57) hx hb d_D_letterAt_51 (by decide) (fun c51 => ?_) (fun c51 => ?_)
                      · have q51_3 : a + 3 < e1 := (nI_ltI (a := a + 3) (b := e1) (by omega) (by omega)).mp c51
                        refine lv_aload_n hx hb d_D_letterAt_57 rfl (lv_at hl 5 rfl) ?_
                        refine lv_iload_n hx hb d_D_letterAt_58 rfl (lv_at hl 6 rfl) ?_
                        refine lv_iload hx hb d_D_letterAt_59 (lv_at hl 0 rfl) ?_
                        refine lv_iadd hx hb d_D_letterAt_61 ?_
                        refine lv_topi (fun v61 ev61 => ?_)
                        have ev61 : v61 = nI (a + 3) := by rw [ev61]; exact nI_add a 3
                        subst ev61
                        have hPc := hP.sub (ws' := [(y, .inr (1, [.ref b, .int nv, .int pv])), (b, .inl (cB, M, .inl (fun j => sb_b (B j))))]) [0, 1] rfl
                        have hKc := hK.sub (tys' := [(cB, .byte)]) [0] rfl
                        refine vp_callSi (W.runV (As := [.int (nI (a + 3))]) (rest := []) ⟨hx, hb, hml, hown, hA⟩ (c_R_get l D cB y b M B nv pv (a + 3) (by omega) hM hB) (q_R_get hA k2_21 rfl rfl ⟨(Nat.le_of_ble_eq_true rfl), (Nat.le_of_ble_eq_true rfl)⟩) (ox_V (va_recv hKc hPc (ci := 1) (q0 := 0) rfl rfl) (ox_S hPc hKc)) rfl rfl hl.1 rfl (lv_room (Nat.le_of_ble_eq_true rfl)) d_D_letterAt_62 ⟨(Nat.le_of_ble_eq_true rfl), (Nat.le_of_ble_eq_true rfl)⟩) (fun r62 hr62 => ?_)
                        have er62 : r62 = nI (B (a + 3)) := hr62
                        subst er62
                        refine lv_istore (lv' := [(7, .int (nI (B (a + 3)))), (6, .int 3), (5, .int (nI (((B a - 240) * 64 + (B (a + 1) - 128)) * 64 + (B (a + 2) - 128)))), (4, .int (nI 4)), (3, .int (nI (B a))), (0, .ref y), (1, .int (nI a)), (2, .int (nI e1))]) hx hb d_D_letterAt_65 hl (by decide) rfl (fun ls hl => ?_)
                        refine lv_iload hx hb d_D_letterAt_67 (lv_at hl 0 rfl) ?_
                        refine lv_sipush (v := 128) hx hb d_D_letterAt_69 (by decide) ?_
                        refine lv_icmp_lt (tgt := 83) hx hb d_D_letterAt_72 (by decide) (fun c72 => ?_) (fun c72 => ?_)
                        · have q83_3 : B (a + 3) < 128 ∨ 191 < B (a + 3) := by
                            first
                            | exact Or.inl ((nI_ltI (b := 128) (by omega) (by omega)).mp c72)
                            | exact Or.inr (by have := mt (nI_leI (a := B (a + 3)) (b := 191) (by omega) (by omega)).mpr c80; omega)
                          refine lv_iconst (v := (-1)) hx hb d_D_letterAt_83 (by decide) ?_
                          exact W.iret (v := (-1)) hx hb hr (fun t ht hW => ⟨_, rfl, (by show Int32.toInt _ = la B a e1; rw [li_m1]; rw [la_4 (by omega) (by omega) (by omega) (by omega) (by omega), if_neg (by omega), if_neg (by omega), if_neg (by omega), if_neg (by omega), if_pos (by omega)]), ht⟩) (fun q h => by cases h) d_D_letterAt_84
                        · refine lv_iload hx hb d_D_letterAt_75 (lv_at hl 0 rfl) ?_
                          refine lv_sipush (v := 191) hx hb d_D_letterAt_77 (by decide) ?_
                          refine lv_icmp_le (tgt := 85) hx hb d_D_letterAt_80 (by decide) (fun c80 => ?_) (fun c80 => ?_)
                          · have q85_3 : 128 ≤ B (a + 3) := by have := mt (nI_ltI (a := B (a + 3)) (b := 128) (by omega) (by omega)).mpr c72; omega
                            have q86_3 : B (a + 3) ≤ 191 := (nI_leI (a := B (a + 3)) (b := 191) (by omega) (by omega)).mp c80
                            refine lv_iload hx hb d_D_letterAt_85 (lv_at hl 2 rfl) ?_
                            refine lv_bipush (v := 6) hx hb d_D_letterAt_87 (by decide) ?_
                            refine lv_ishl hx hb d_D_letterAt_89 ?_
                            refine lv_topi (fun v89 ev89 => ?_)
                            have ev89 : v89 = nI ((((B a - 240) * 64 + (B (a + 1) - 128)) * 64 + (B (a + 2) - 128)) * 64) := by rw [ev89]; exact sh_n (k := 6) (by decide) (by omega)
                            subst ev89
                            refine lv_iload hx hb d_D_letterAt_90 (lv_at hl 0 rfl) ?_
                            refine lv_bipush (v := 63) hx hb d_D_letterAt_92 (by decide) ?_
                            refine lv_iand hx hb d_D_letterAt_94 ?_
                            refine lv_topi (fun v94 ev94 => ?_)
                            have ev94 : v94 = nI (B (a + 3) - 128) := by rw [ev94, pk_andN (n := B (a + 3)) (by omega) 6 (by decide)]; congr 1; omega
                            subst ev94
                            refine lv_ior hx hb d_D_letterAt_95 ?_
                            refine lv_topi (fun v95 ev95 => ?_)
                            have ev95 : v95 = nI ((((B a - 240) * 64 + (B (a + 1) - 128)) * 64 + (B (a + 2) - 128)) * 64 + (B (a + 3) - 128)) := by rw [ev95]; exact or64 (by omega) (by omega)
                            subst ev95
                            refine lv_istore (lv' := [(5, .int (nI ((((B a - 240) * 64 + (B (a + 1) - 128)) * 64 + (B (a + 2) - 128)) * 64 + (B (a + 3) - 128)))), (7, .int (nI (B (a + 3)))), (6, .int 3), (4, .int (nI 4)), (3, .int (nI (B a))), (0, .ref y), (1, .int (nI a)), (2, .int (nI e1))]) hx hb d_D_letterAt_96 hl (by decide) rfl (fun ls hl => ?_)
                            refine lv_iload hx hb d_D_letterAt_98 (lv_at hl 0 rfl) ?_
                            refine lv_bipush (v := 6) hx hb d_D_letterAt_100 (by decide) ?_
                            refine lv_iload hx hb d_D_letterAt_102 (lv_at hl 3 rfl) ?_
                            refine lv_iconst (v := 1) hx hb d_D_letterAt_104 (by decide) ?_
                            refine lv_isub hx hb d_D_letterAt_105 ?_
                            refine lv_topi (fun v105 ev105 => ?_)
                            have ev105 : v105 = 3 := by rw [ev105]; decide
                            subst ev105
                            refine lv_iload hx hb d_D_letterAt_106 (lv_at hl 2 rfl) ?_
                            refine lv_isub hx hb d_D_letterAt_108 ?_
                            refine lv_topi (fun v108 ev108 => ?_)
                            have ev108 : v108 = 0 := by rw [ev108]; decide
                            subst ev108
                            refine lv_imul hx hb d_D_letterAt_109 ?_
                            refine lv_topi (fun v109 ev109 => ?_)
                            have ev109 : v109 = 0 := by rw [ev109]; decide
                            subst ev109
                            refine lv_ishl hx hb d_D_letterAt_110 ?_
                            refine lv_topi (fun v110 ev110 => ?_)
                            have ev110 : v110 = nI (((((B a - 240) * 64 + (B (a + 1) - 128)) * 64 + (B (a + 2) - 128)) * 64 + (B (a + 3) - 128)) * 2 ^ 0) := by rw [ev110]; exact sh_n (k := 0) (by decide) (by omega)
                            subst ev110
                            refine vp_callSi (W.runS (As := [.int (nI (((((B a - 240) * 64 + (B (a + 1) - 128)) * 64 + (B (a + 2) - 128)) * 64 + (B (a + 3) - 128)) * 2 ^ 0))]) (rest := []) ⟨hx, hb, hml, hown, hA⟩ (c_D_letterWidth l (nI (((((B a - 240) * 64 + (B (a + 1) - 128)) * 64 + (B (a + 2) - 128)) * 64 + (B (a + 3) - 128)) * 2 ^ 0))) (q_D_letterWidth hA k1_214 rfl rfl ⟨(Nat.le_of_ble_eq_true rfl), (Nat.le_of_ble_eq_true rfl)⟩) (⟨fun a U g mk q => q, fun U hU hW => ⟨rfl, trivial⟩⟩) rfl rfl hl.1 rfl (lv_room (Nat.le_of_ble_eq_true rfl)) d_D_letterAt_111 ⟨(Nat.le_of_ble_eq_true rfl), (Nat.le_of_ble_eq_true rfl)⟩) (fun r111 hr111 => ?_)
                            have er111 : r111 = nI (lwI ((((((B a - 240) * 64 + (B (a + 1) - 128)) * 64 + (B (a + 2) - 128)) * 64 + (B (a + 3) - 128)) * 2 ^ 0 : Nat) : Int)) := by rw [hr111, nI_toInt (by omega)]
                            subst er111
                            refine lv_iload hx hb d_D_letterAt_114 (lv_at hl 3 rfl) ?_
                            refine lv_icmp_eq (tgt := 121) hx hb d_D_letterAt_116 (by decide) (fun c116 => ?_) (fun c116 => ?_)
                            · have q116_3 := (lwI_4 (((((B a - 240) * 64 + (B (a + 1) - 128)) * 64 + (B (a + 2) - 128)) * 64 + (B (a + 3) - 128)) * 2 ^ 0)).mp ((nI_eq (b := 4) (by have := lwI_le ((((((B a - 240) * 64 + (B (a + 1) - 128)) * 64 + (B (a + 2) - 128)) * 64 + (B (a + 3) - 128)) * 2 ^ 0 : Nat) : Int); omega) (by omega)).mp c116)
                              obtain ⟨v121, ev121⟩ : ∃ y : Int32, y = 3 + 1 := ⟨_, rfl⟩
                              refine lv_iinc (v := v121) (lv' := [(6, .int v121), (5, .int (nI ((((B a - 240) * 64 + (B (a + 1) - 128)) * 64 + (B (a + 2) - 128)) * 64 + (B (a + 3) - 128)))), (7, .int (nI (B (a + 3)))), (4, .int (nI 4)), (3, .int (nI (B a))), (0, .ref y), (1, .int (nI a)), (2, .int (nI e1))]) hx hb d_D_letterAt_121 hl (k := 2) rfl (by rw [ev121]; rfl) (by decide) rfl (fun ls hl => ?_)
                              have ev121 : v121 = 4 := by rw [ev121]; rfl
                              subst ev121
                              refine lv_goto (tgt := 39) hx hb d_D_letterAt_124 (by decide) ?_
                              refine lv_iload hx hb d_D_letterAt_39 (lv_at hl 0 rfl) ?_
                              refine lv_iload hx hb d_D_letterAt_41 (lv_at hl 3 rfl) ?_
                              refine lv_icmp_ge (tgt := 127) hx hb d_D_letterAt_43 (by decide) (fun _ => ?_) (fun q9 => absurd (by decide) q9)
                              refine lv_iload hx hb d_D_letterAt_127 (lv_at hl 1 rfl) ?_
                              exact W.iret (v := nI ((((B a - 240) * 64 + (B (a + 1) - 128)) * 64 + (B (a + 2) - 128)) * 64 + (B (a + 3) - 128))) hx hb hr (fun t ht hW => ⟨_, rfl, (by show Int32.toInt _ = la B a e1; rw [nI_toInt (by omega)]; rw [la_4 (by omega) (by omega) (by omega) (by omega) (by omega), if_neg (by omega), if_neg (by omega), if_neg (by omega), if_neg (by omega), if_neg (by omega)]), ht⟩) (fun q h => by cases h) d_D_letterAt_129
                            · have q116_3 := mt (lwI_4 (((((B a - 240) * 64 + (B (a + 1) - 128)) * 64 + (B (a + 2) - 128)) * 64 + (B (a + 3) - 128)) * 2 ^ 0)).mpr (fun z9 => c116 (by rw [z9]))
                              refine lv_iconst (v := (-1)) hx hb d_D_letterAt_119 (by decide) ?_
                              exact W.iret (v := (-1)) hx hb hr (fun t ht hW => ⟨_, rfl, (by show Int32.toInt _ = la B a e1; rw [li_m1]; exfalso; omega), ht⟩) (fun q h => by cases h) d_D_letterAt_120
                          · have q83_3 : B (a + 3) < 128 ∨ 191 < B (a + 3) := by
                              first
                              | exact Or.inl ((nI_ltI (b := 128) (by omega) (by omega)).mp c72)
                              | exact Or.inr (by have := mt (nI_leI (a := B (a + 3)) (b := 191) (by omega) (by omega)).mpr c80; omega)
                            refine lv_iconst (v := (-1)) hx hb d_D_letterAt_83 (by decide) ?_
                            exact W.iret (v := (-1)) hx hb hr (fun t ht hW => ⟨_, rfl, (by show Int32.toInt _ = la B a e1; rw [li_m1]; rw [la_4 (by omega) (by omega) (by omega) (by omega) (by omega), if_neg (by omega), if_neg (by omega), if_neg (by omega), if_neg (by omega), if_pos (by omega)]), ht⟩) (fun q h => by cases h) d_D_letterAt_84
                      · have q51_3 : e1 ≤ a + 3 := by have := mt (nI_ltI (a := a + 3) (b := e1) (by omega) (by omega)).mpr c51; omega
                        refine lv_bipush (v := (-2)) hx hb d_D_letterAt_54 (by decide) ?_
                        exact W.iret (v := (-2)) hx hb hr (fun t ht hW => ⟨_, rfl, (by show Int32.toInt _ = la B a e1; rw [li_m2]; rw [la_4 (by omega) (by omega) (by omega) (by omega) (by omega), if_neg (by omega), if_neg (by omega), if_neg (by omega), if_pos (by omega)]), ht⟩) (fun q h => by cases h) d_D_letterAt_56
                    · have q116_2 := mt (lwI_4 ((((B a - 240) * 64 + (B (a + 1) - 128)) * 64 + (B (a + 2) - 128)) * 2 ^ 6)).mpr (fun z9 => c116 (by rw [z9]))
                      refine lv_iconst (v := (-1)) hx hb d_D_letterAt_119 (by decide) ?_
                      exact W.iret (v := (-1)) hx hb hr (fun t ht hW => ⟨_, rfl, (by show Int32.toInt _ = la B a e1; rw [li_m1]; exfalso; omega), ht⟩) (fun q h => by cases h) d_D_letterAt_120
                  · have q83_2 : B (a + 2) < 128 ∨ 191 < B (a + 2) := by
                      first
                      | exact Or.inl ((nI_ltI (b := 128) (by omega) (by omega)).mp c72)
                      | exact Or.inr (by have := mt (nI_leI (a := B (a + 2)) (b := 191) (by omega) (by omega)).mpr c80; omega)
                    refine lv_iconst (v := (-1)) hx hb d_D_letterAt_83 (by decide) ?_
                    exact W.iret (v := (-1)) hx hb hr (fun t ht hW => ⟨_, rfl, (by show Int32.toInt _ = la B a e1; rw [li_m1]; rw [la_4 (by omega) (by omega) (by omega) (by omega) (by omega), if_neg (by omega), if_neg (by omega), if_pos (by omega)]), ht⟩) (fun q h => by cases h) d_D_letterAt_84
              · have q51_2 : e1 ≤ a + 2 := by have := mt (nI_ltI (a := a + 2) (b := e1) (by omega) (by omega)).mpr c51; omega
                refine lv_bipush (v := (-2)) hx hb d_D_letterAt_54 (by decide) ?_
                exact W.iret (v := (-2)) hx hb hr (fun t ht hW => ⟨_, rfl, (by show Int32.toInt _ = la B a e1; rw [li_m2]; rw [la_4 (by omega) (by omega) (by omega) (by omega) (by omega), if_neg (by omega), if_pos (by omega)]), ht⟩) (fun q h => by cases h) d_D_letterAt_56
            · have q116_1 := mt (lwI_4 (((B a - 240) * 64 + (B (a + 1) - 128)) * 2 ^ 12)).mpr (fun z9 => c116 (by rw [z9]))
              refine lv_iconst (v := (-1)) hx hb d_D_letterAt_119 (by decide) ?_
              exact W.iret (v := (-1)) hx hb hr (fun t ht hW => ⟨_, rfl, (by show Int32.toInt _ = la B a e1; rw [li_m1]; rw [la_4 (by omega) (by omega) (by omega) (by omega) (by omega), if_pos (by omega)]), ht⟩) (fun q h => by cases h) d_D_letterAt_120
          · have q83_1 : B (a + 1) < 128 ∨ 191 < B (a + 1) := by
              first
              | exact Or.inl ((nI_ltI (b := 128) (by omega) (by omega)).mp c72)
              | exact Or.inr (by have := mt (nI_leI (a := B (a + 1)) (b := 191) (by omega) (by omega)).mpr c80; omega)
            refine lv_iconst (v := (-1)) hx hb d_D_letterAt_83 (by decide) ?_
            exact W.iret (v := (-1)) hx hb hr (fun t ht hW => ⟨_, rfl, (by show Int32.toInt _ = la B a e1; rw [li_m1]; exact (la_b1 (by omega) (by omega) (by omega) (by omega)).symm), ht⟩) (fun q h => by cases h) d_D_letterAt_84
      · have q51_1 : e1 ≤ a + 1 := by have := mt (nI_ltI (a := a + 1) (b := e1) (by omega) (by omega)).mpr c51; omega
        refine lv_bipush (v := (-2)) hx hb d_D_letterAt_54 (by decide) ?_
        exact W.iret (v := (-2)) hx hb hr (fun t ht hW => ⟨_, rfl, (by show Int32.toInt _ = la B a e1; rw [li_m2]; exact (la_e1 q2 (by omega) (by omega) (by omega)).symm), ht⟩) (fun q h => by cases h) d_D_letterAt_56
  · refine lv_bipush (v := (-2)) hx hb d_D_letterAt_5 (by decide) ?_
    have q2 : e1 ≤ a := by have := mt (nI_ltI (a := a) (b := e1) (by omega) (by omega)).mpr c2; omega
    exact W.iret (v := (-2)) hx hb hr (fun t ht hW => ⟨_, rfl, (by show Int32.toInt _ = la B a e1; rw [li_m2]; exact (la_e0 (by omega)).symm), ht⟩) (fun q h => by cases h) d_D_letterAt_7
