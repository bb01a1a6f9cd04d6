/-! THE REFERENCE: ITS CONSTRUCTOR -/
set_option maxHeartbeats 600000 in
set_option maxRecDepth 100000 in
/-- the reference's constructor -/
theorem c_M_init (l : Launch) (D : va_G) (h sz : Nat) (x : Int32) : Met l y_M_init w_M_init ({ frames := 1, cells := 3, slots := 32776, locals := 30 }) (va_Pc [.ref h, .int x] (oxw sz D [] [(h, .inr (2, [.int 0, .int 0, .null, .null, .null, .int 0]))])) (va_Qv (fun _ : ClassId × ClassId × Nat × Nat × Nat => True) (fun u => ow D [(u.1, .long), (u.2.1, .int)] (va_A [(h, .inr (2, [.int 0, .int 0, .null, .null, .null, .int 0]))] sz) (rfW u.1 u.2.1 h u.2.2.1 u.2.2.2.1 u.2.2.2.2 (lim x) 0 0 σ0)) (va_A [(h, .inr (2, [.int 0, .int 0, .null, .null, .null, .int 0]))] sz)) 3 32776 (va_A [(h, .inr (2, [.int 0, .int 0, .null, .null, .null, .int 0]))] sz) := by
  refine Met.ofW (cc := b_M_init) (maxL := 2) (ret := none) (by decide) rfl ?_
  intro p9 e9 s m args below meth c9 s₁ BL hml hv
  obtain ⟨rfl, hsz, hP, hK, hD0⟩ := hv
  have hx := BL.exec
  have hb := BL.bytes
  have hr := BL.returns
  have hts := atoms_spec (ws := w_M_init) BL.pre
  have hA : ∀ w ∈ wsA, w.before _ s = true := fun w h => hts w (List.mem_cons_of_mem _ h)
  have hown : s.vm.findClass R_M = some m.cls := findClass_of_methodNamed BL.named
  have hlocks := BL.notSynchronized
  subst hsz
  have hD := hD0.self (sz := s.heap.size)
  generalize hAe : va_A [(h, .inr (2, [.int 0, .int 0, .null, .null, .null, .int 0]))] s.heap.size = A at hD ⊢
  have hAq : ∀ q : Nat, s.heap.size ≤ q → A q := fun q h => by rw [← hAe]; exact Or.inr h
  have hS : va_S A s.heap s.heap [] := va_S.rf
  have hP : va_P D vCl [(h, .inr (2, [.int 0, .int 0, .null, .null, .null, .int 0]))] s.heap := hP
  have hin9 : meth.name = "<init>" := (name_of_methodNamed BL.named BL.method).1
  have hl := lv_entry ([.ref h, .int x]) (n := 2) (Nat.le_of_ble_eq_true rfl)
  rw [lg_entry_eq]
  generalize (lg_sl ([.ref h, .int x]) ++ List.replicate (2 - (lg_sl ([.ref h, .int x])).length) Slot.unset).toArray = ls at hl ⊢
  have hl : lv_has ls 2 [(0, .ref h), (1, .int x)] := hl
  refine lv_aload_n hx hb d_M_init_0 rfl (lv_at hl 0 rfl) ?_
  refine W.objInit hx hb hown (hA _ k2_209) (hA _ k1_20) (hA _ k1_21) rfl (by rw [hml]; exact hl.1) rfl d_M_init_1 (Nat.le_of_ble_eq_true rfl) (Nat.le_of_ble_eq_true rfl) ?_
  refine W.eq (g2 := F0 m 4 ls []) rfl ?_
  refine lv_aload_n hx hb d_M_init_4 rfl (lv_at hl 0 rfl) ?_
  refine lv_ldc (v := 32768) hx hb hown (hA _ k2_210) d_M_init_5 ?_
  refine va_newa (atype := .long) (ty := .long) (a0 := (32768, .inr (.inl (fun _ => 0)))) (N' := 32768) hx hb (hA _ k2_231) rfl hK hP hD hS hAq (fun _ => rfl) (by decide) (by decide) (by decide) (Nat.le_of_ble_eq_true rfl) (Nat.le_of_ble_eq_true rfl) d_M_init_7 (fun cl cL H hK hP hD hS => ?_)
  have hK : va_K D vCl [(cL, .long)] s := hK
  have hP : va_P D vCl [(h, .inr (2, [.int 0, .int 0, .null, .null, .null, .int 0])), (cl, .inl (cL, 32768, .inr (.inl (fun _ => 0))))] H := hP
  have hD : va_D A [(h, .inr (2, [.int 0, .int 0, .null, .null, .null, .int 0])), (cl, .inl (cL, 32768, .inr (.inl (fun _ => 0))))] := hD
  refine va_putF (D := D) (ci := 2) (v := .ref cl) (ty := .array .long) (C := R_M) (T := F_M) (N := 6) hx hb hA i_M t_M t_M_ok n_M hown hK hP hD hS 0 rfl rfl 2 (by decide) (hA _ k2_214) (fun _ h9 => h9) rfl hin9 rfl (by decide +kernel) rfl rfl (Nat.le_of_ble_eq_true rfl) d_M_init_9 (fun H locs hP hD hS => ?_)
  have hP : va_P D vCl [(h, .inr (2, [.int 0, .int 0, .ref cl, .null, .null, .int 0])), (cl, .inl (cL, 32768, .inr (.inl (fun _ => 0))))] H := hP
  have hD : va_D A [(h, .inr (2, [.int 0, .int 0, .ref cl, .null, .null, .int 0])), (cl, .inl (cL, 32768, .inr (.inl (fun _ => 0))))] := hD
  refine lv_aload_n hx hb d_M_init_12 rfl (lv_at hl 0 rfl) ?_
  refine lv_iconst (v := 4) hx hb d_M_init_13 (by decide) ?_
  refine va_newa (atype := .int) (ty := .int) (a0 := (4, .inl (fun _ => 0))) (N' := 4) hx hb (hA _ k2_232) rfl hK hP hD hS hAq (fun _ => rfl) (by decide) (by decide) (by decide) (Nat.le_of_ble_eq_true rfl) (Nat.le_of_ble_eq_true rfl) d_M_init_14 (fun sa cI H hK hP hD hS => ?_)
  have hK : va_K D vCl [(cL, .long), (cI, .int)] s := hK
  have hP : va_P D vCl [(h, .inr (2, [.int 0, .int 0, .ref cl, .null, .null, .int 0])), (cl, .inl (cL, 32768, .inr (.inl (fun _ => 0)))), (sa, .inl (cI, 4, .inl (fun _ => 0)))] H := hP
  have hD : va_D A [(h, .inr (2, [.int 0, .int 0, .ref cl, .null, .null, .int 0])), (cl, .inl (cL, 32768, .inr (.inl (fun _ => 0)))), (sa, .inl (cI, 4, .inl (fun _ => 0)))] := hD
  refine va_putF (D := D) (ci := 2) (v := .ref sa) (ty := .array .int) (C := R_M) (T := F_M) (N := 6) hx hb hA i_M t_M t_M_ok n_M hown hK hP hD hS 0 rfl rfl 3 (by decide) (hA _ k2_215) (fun _ h9 => h9) rfl hin9 rfl (by decide +kernel) rfl rfl (Nat.le_of_ble_eq_true rfl) d_M_init_16 (fun H locs hP hD hS => ?_)
  have hP : va_P D vCl [(h, .inr (2, [.int 0, .int 0, .ref cl, .ref sa, .null, .int 0])), (cl, .inl (cL, 32768, .inr (.inl (fun _ => 0)))), (sa, .inl (cI, 4, .inl (fun _ => 0)))] H := hP
  have hD : va_D A [(h, .inr (2, [.int 0, .int 0, .ref cl, .ref sa, .null, .int 0])), (cl, .inl (cL, 32768, .inr (.inl (fun _ => 0)))), (sa, .inl (cI, 4, .inl (fun _ => 0)))] := hD
  refine lv_aload_n hx hb d_M_init_19 rfl (lv_at hl 0 rfl) ?_
  refine lv_iconst (v := 4) hx hb d_M_init_20 (by decide) ?_
  refine va_newa (atype := .int) (ty := .int) (a0 := (4, .inl (fun _ => 0))) (N' := 4) hx hb (hA _ k2_232) rfl hK hP hD hS hAq (fun _ => rfl) (by decide) (by decide) (by decide) (Nat.le_of_ble_eq_true rfl) (Nat.le_of_ble_eq_true rfl) d_M_init_21 (fun pa cJ H hK hP hD hS => ?_)
  have hK : va_K D vCl [(cL, .long), (cI, .int), (cJ, .int)] s := hK
  have hP : va_P D vCl [(h, .inr (2, [.int 0, .int 0, .ref cl, .ref sa, .null, .int 0])), (cl, .inl (cL, 32768, .inr (.inl (fun _ => 0)))), (sa, .inl (cI, 4, .inl (fun _ => 0))), (pa, .inl (cJ, 4, .inl (fun _ => 0)))] H := hP
  have hD : va_D A [(h, .inr (2, [.int 0, .int 0, .ref cl, .ref sa, .null, .int 0])), (cl, .inl (cL, 32768, .inr (.inl (fun _ => 0)))), (sa, .inl (cI, 4, .inl (fun _ => 0))), (pa, .inl (cJ, 4, .inl (fun _ => 0)))] := hD
  refine va_putF (D := D) (ci := 2) (v := .ref pa) (ty := .array .int) (C := R_M) (T := F_M) (N := 6) hx hb hA i_M t_M t_M_ok n_M hown hK hP hD hS 0 rfl rfl 4 (by decide) (hA _ k2_216) (fun _ h9 => h9) rfl hin9 rfl (by decide +kernel) rfl rfl (Nat.le_of_ble_eq_true rfl) d_M_init_23 (fun H locs hP hD hS => ?_)
  have hP : va_P D vCl [(h, .inr (2, [.int 0, .int 0, .ref cl, .ref sa, .ref pa, .int 0])), (cl, .inl (cL, 32768, .inr (.inl (fun _ => 0)))), (sa, .inl (cI, 4, .inl (fun _ => 0))), (pa, .inl (cJ, 4, .inl (fun _ => 0)))] H := hP
  have hD : va_D A [(h, .inr (2, [.int 0, .int 0, .ref cl, .ref sa, .ref pa, .int 0])), (cl, .inl (cL, 32768, .inr (.inl (fun _ => 0)))), (sa, .inl (cI, 4, .inl (fun _ => 0))), (pa, .inl (cJ, 4, .inl (fun _ => 0)))] := hD
  obtain rfl : cI = cJ := arr_2 hK (i := 1) (j := 2) rfl rfl
  have hP : va_P D vCl [(h, .inr (2, [.int 0, .int 0, .ref cl, .ref sa, .ref pa, .int 0])), (cl, .inl (cL, 32768, .inr (.inl (fun _ => 0)))), (sa, .inl (cI, 4, .inl (fun _ => 0))), (pa, .inl (cI, 4, .inl (fun _ => 0)))] H := hP
  have hD : va_D A [(h, .inr (2, [.int 0, .int 0, .ref cl, .ref sa, .ref pa, .int 0])), (cl, .inl (cL, 32768, .inr (.inl (fun _ => 0)))), (sa, .inl (cI, 4, .inl (fun _ => 0))), (pa, .inl (cI, 4, .inl (fun _ => 0)))] := hD
  have hlim := lim_in x
  refine lv_aload_n hx hb d_M_init_26 rfl (lv_at hl 0 rfl) ?_
  refine lv_iload_n hx hb d_M_init_27 rfl (lv_at hl 1 rfl) ?_
  refine lv_bipush (v := 16) hx hb d_M_init_28 (by decide) ?_
  refine lv_icmp_ge (tgt := 38) hx hb d_M_init_30 (by decide) (fun c30 => ?_) (fun c30 => ?_)
  · refine lv_iload_n hx hb d_M_init_38 rfl (lv_at hl 1 rfl) ?_
    refine lv_ldc (v := 65536) hx hb hown (hA _ k2_211) d_M_init_39 ?_
    refine lv_icmp_le (tgt := 49) hx hb d_M_init_41 (by decide) (fun c41 => ?_) (fun c41 => ?_)
    · refine lv_iload_n hx hb d_M_init_49 rfl (lv_at hl 1 rfl) ?_
      refine lv_topi (fun v49 ev49 => ?_)
      have ev49 : v49 = nI (lim x) := by
        rw [ev49]
        apply Int32.toInt_inj.mp
        rw [nI_toInt (by omega)]
        unfold lim
        simp only [Int32.lt_iff_toInt_lt, Int32.le_iff_toInt_le, li_16, li_65536] at *
        (repeat' split) <;> omega
      subst ev49
      refine va_putF (D := D) (ci := 2) (v := .int (nI (lim x))) (ty := .int) (C := R_M) (T := F_M) (N := 6) hx hb hA i_M t_M t_M_ok n_M hown hK hP hD hS 0 rfl rfl 1 (by decide) (hA _ k2_213) (fun _ h9 => h9) rfl hin9 rfl (by decide +kernel) rfl rfl (Nat.le_of_ble_eq_true rfl) d_M_init_50 (fun H locs hP hD hS => ?_)
      have hP : va_P D vCl [(h, .inr (2, [.int 0, .int (nI (lim x)), .ref cl, .ref sa, .ref pa, .int 0])), (cl, .inl (cL, 32768, .inr (.inl (fun _ => 0)))), (sa, .inl (cI, 4, .inl (fun _ => 0))), (pa, .inl (cI, 4, .inl (fun _ => 0)))] H := hP
      have hD : va_D A [(h, .inr (2, [.int 0, .int (nI (lim x)), .ref cl, .ref sa, .ref pa, .int 0])), (cl, .inl (cL, 32768, .inr (.inl (fun _ => 0)))), (sa, .inl (cI, 4, .inl (fun _ => 0))), (pa, .inl (cI, 4, .inl (fun _ => 0)))] := hD
      refine W.widen (k := 3) (n := 32776) (by decide) (by decide) ?_
      rw [← pk_0] at hP hD
      exact W.vret hx hb hr (fun t ht hW => ⟨⟨(cL, cI, cl, sa, pa), rfl, trivial, by rw [ht]; exact hP, va_K.moved hW.alike (hK.sub [0, 1] rfl), hD⟩, hS.F ht⟩) hS.2.2 d_M_init_53
    · refine lv_ldc (v := 65536) hx hb hown (hA _ k2_211) d_M_init_44 ?_
      refine lv_goto (tgt := 50) hx hb d_M_init_46 (by decide) ?_
      refine lv_topi (fun v49 ev49 => ?_)
      have ev49 : v49 = nI (lim x) := by
        rw [ev49]
        apply Int32.toInt_inj.mp
        rw [nI_toInt (by omega)]
        unfold lim
        simp only [Int32.lt_iff_toInt_lt, Int32.le_iff_toInt_le, li_16, li_65536] at *
        (repeat' split) <;> omega
      subst ev49
      refine va_putF (D := D) (ci := 2) (v := .int (nI (lim x))) (ty := .int) (C := R_M) (T := F_M) (N := 6) hx hb hA i_M t_M t_M_ok n_M hown hK hP hD hS 0 rfl rfl 1 (by decide) (hA _ k2_213) (fun _ h9 => h9) rfl hin9 rfl (by decide +kernel) rfl rfl (Nat.le_of_ble_eq_true rfl) d_M_init_50 (fun H locs hP hD hS => ?_)
      have hP : va_P D vCl [(h, .inr (2, [.int 0, .int (nI (lim x)), .ref cl, .ref sa, .ref pa, .int 0])), (cl, .inl (cL, 32768, .inr (.inl (fun _ => 0)))), (sa, .inl (cI, 4, .inl (fun _ => 0))), (pa, .inl (cI, 4, .inl (fun _ => 0)))] H := hP
      have hD : va_D A [(h, .inr (2, [.int 0, .int (nI (lim x)), .ref cl, .ref sa, .ref pa, .int 0])), (cl, .inl (cL, 32768, .inr (.inl (fun _ => 0)))), (sa, .inl (cI, 4, .inl (fun _ => 0))), (pa, .inl (cI, 4, .inl (fun _ => 0)))] := hD
      refine W.widen (k := 3) (n := 32776) (by decide) (by decide) ?_
      rw [← pk_0] at hP hD
      exact W.vret hx hb hr (fun t ht hW => ⟨⟨(cL, cI, cl, sa, pa), rfl, trivial, by rw [ht]; exact hP, va_K.moved hW.alike (hK.sub [0, 1] rfl), hD⟩, hS.F ht⟩) hS.2.2 d_M_init_53
  · refine lv_bipush (v := 16) hx hb d_M_init_33 (by decide) ?_
    refine lv_goto (tgt := 50) hx hb d_M_init_35 (by decide) ?_
    refine lv_topi (fun v49 ev49 => ?_)
    have ev49 : v49 = nI (lim x) := by
      rw [ev49]
      apply Int32.toInt_inj.mp
      rw [nI_toInt (by omega)]
      unfold lim
      simp only [Int32.lt_iff_toInt_lt, Int32.le_iff_toInt_le, li_16, li_65536] at *
      (repeat' split) <;> omega
    subst ev49
    refine va_putF (D := D) (ci := 2) (v := .int (nI (lim x))) (ty := .int) (C := R_M) (T := F_M) (N := 6) hx hb hA i_M t_M t_M_ok n_M hown hK hP hD hS 0 rfl rfl 1 (by decide) (hA _ k2_213) (fun _ h9 => h9) rfl hin9 rfl (by decide +kernel) rfl rfl (Nat.le_of_ble_eq_true rfl) d_M_init_50 (fun H locs hP hD hS => ?_)
    have hP : va_P D vCl [(h, .inr (2, [.int 0, .int (nI (lim x)), .ref cl, .ref sa, .ref pa, .int 0])), (cl, .inl (cL, 32768, .inr (.inl (fun _ => 0)))), (sa, .inl (cI, 4, .inl (fun _ => 0))), (pa, .inl (cI, 4, .inl (fun _ => 0)))] H := hP
    have hD : va_D A [(h, .inr (2, [.int 0, .int (nI (lim x)), .ref cl, .ref sa, .ref pa, .int 0])), (cl, .inl (cL, 32768, .inr (.inl (fun _ => 0)))), (sa, .inl (cI, 4, .inl (fun _ => 0))), (pa, .inl (cI, 4, .inl (fun _ => 0)))] := hD
    refine W.widen (k := 3) (n := 32776) (by decide) (by decide) ?_
    rw [← pk_0] at hP hD
    exact W.vret hx hb hr (fun t ht hW => ⟨⟨(cL, cI, cl, sa, pa), rfl, trivial, by rw [ht]; exact hP, va_K.moved hW.alike (hK.sub [0, 1] rfl), hD⟩, hS.F ht⟩) hS.2.2 d_M_init_53
