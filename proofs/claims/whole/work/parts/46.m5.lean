/-! THE REFERENCE: A LETTER -/
set_option maxHeartbeats 4000000 in
set_option maxRecDepth 100000 in
/-- lettered -/
theorem c_M_lettered (l : Launch) (D : va_G) (cL cI : ClassId) (h cl sa pa M : Nat) (th tk : Int32) (σ : dkS) (sz : Nat) (k : Nat) (hk : k < 4) (hB : ∀ j, (σ k).1 j < 256) (a e1 : Nat) (ha : a ≤ 65536) (he : e1 ≤ 65536) : Met l y_M_lettered w_M_lettered ({ frames := 1, cells := 0, slots := 0, locals := 22 }) (va_Pc [.ref h, .int (nI k), .int (nI a), .int (nI e1)] (oxw sz D [(cL, .long), (cI, .int)] [(h, .inr (2, [.int th, .int (nI M), .ref cl, .ref sa, .ref pa, .int tk])), (cl, .inl (cL, 32768, .inr (.inl (pkF (σ))))), (sa, .inl (cI, 4, .inl (fun i9 => nI ((σ) i9).2.1))), (pa, .inl (cI, 4, .inl (fun i9 => nI ((σ) i9).2.2)))])) (va_Qi (fun (r : Int32) (uu : Int32) => (la (σ k).1 a e1 = -1 ∧ uu = -2 ∧ r = 0) ∨ (la (σ k).1 a e1 = -2 ∧ uu = -3 ∧ r = 0) ∨ (0 ≤ la (σ k).1 a e1 ∧ uu = nI (lwI (la (σ k).1 a e1)) ∧ r = nI (la (σ k).1 a e1).toNat)) (fun uu => ow D [(cL, .long), (cI, .int)] (va_A [(h, .inr (2, [.int th, .int (nI M), .ref cl, .ref sa, .ref pa, .int tk])), (cl, .inl (cL, 32768, .inr (.inl (pkF (σ))))), (sa, .inl (cI, 4, .inl (fun i9 => nI ((σ) i9).2.1))), (pa, .inl (cI, 4, .inl (fun i9 => nI ((σ) i9).2.2)))] sz) (rfW cL cI h cl sa pa M th uu (σ))) (va_A [(h, .inr (2, [.int th, .int (nI M), .ref cl, .ref sa, .ref pa, .int tk])), (cl, .inl (cL, 32768, .inr (.inl (pkF (σ))))), (sa, .inl (cI, 4, .inl (fun i9 => nI ((σ) i9).2.1))), (pa, .inl (cI, 4, .inl (fun i9 => nI ((σ) i9).2.2)))] sz)) 0 0 (va_A [(h, .inr (2, [.int th, .int (nI M), .ref cl, .ref sa, .ref pa, .int tk])), (cl, .inl (cL, 32768, .inr (.inl (pkF (σ))))), (sa, .inl (cI, 4, .inl (fun i9 => nI ((σ) i9).2.1))), (pa, .inl (cI, 4, .inl (fun i9 => nI ((σ) i9).2.2)))] sz) := by
  refine Met.ofW (cc := b_M_lettered) (maxL := 10) (ret := (some .int)) (by decide) rfl ?_
  intro p9 e9 s m args below meth c9 s₁ BL hml hv
  obtain ⟨rfl, hsz, hP, hK, hD0⟩ := hv
  have hx := BL.exec
  have hb := BL.bytes
  have hr := BL.returns
  have hts := atoms_spec (ws := w_M_lettered) BL.pre
  have hA : ∀ w ∈ wsA, w.before _ s = true := fun w h => hts w (List.mem_cons_of_mem _ h)
  have hown : s.vm.findClass R_M = some m.cls := findClass_of_methodNamed BL.named
  have hlocks := BL.notSynchronized
  subst hsz
  have hD := hD0.self (sz := s.heap.size)
  generalize hAe : va_A [(h, .inr (2, [.int th, .int (nI M), .ref cl, .ref sa, .ref pa, .int tk])), (cl, .inl (cL, 32768, .inr (.inl (pkF (σ))))), (sa, .inl (cI, 4, .inl (fun i9 => nI ((σ) i9).2.1))), (pa, .inl (cI, 4, .inl (fun i9 => nI ((σ) i9).2.2)))] s.heap.size = A at hD ⊢
  have hAq : ∀ q : Nat, s.heap.size ≤ q → A q := fun q h => by rw [← hAe]; exact Or.inr h
  have hS : va_S A s.heap s.heap [] := va_S.rf
  have hP : va_P D vCl [(h, .inr (2, [.int th, .int (nI M), .ref cl, .ref sa, .ref pa, .int tk])), (cl, .inl (cL, 32768, .inr (.inl (pkF (σ))))), (sa, .inl (cI, 4, .inl (fun i9 => nI ((σ) i9).2.1))), (pa, .inl (cI, 4, .inl (fun i9 => nI ((σ) i9).2.2)))] s.heap := hP
  have hl := lv_entry ([.ref h, .int (nI k), .int (nI a), .int (nI e1)]) (n := 10) (Nat.le_of_ble_eq_true rfl)
  rw [lg_entry_eq]
  generalize (lg_sl ([.ref h, .int (nI k), .int (nI a), .int (nI e1)]) ++ List.replicate (10 - (lg_sl ([.ref h, .int (nI k), .int (nI a), .int (nI e1)])).length) Slot.unset).toArray = ls at hl ⊢
  have hl : lv_has ls 10 [(0, .ref h), (1, .int (nI k)), (2, .int (nI a)), (3, .int (nI e1))] := hl
  refine lv_iload_n hx hb d_M_lettered_0 rfl (lv_at hl 2 rfl) ?_
  refine lv_iload_n hx hb d_M_lettered_1 rfl (lv_at hl 3 rfl) ?_
  refine lv_icmp_lt (tgt := 13) hx hb d_M_lettered_2 (by decide) (fun c2 => ?_) (fun c2 => ?_)
  · have gE : a < e1 := (nI_ltI (a := a) (b := e1) (by omega) (by omega)).mp c2
    have g0 := hB a
    refine lv_aload_n hx hb d_M_lettered_13 rfl (lv_at hl 0 rfl) ?_
    refine lv_iload_n hx hb d_M_lettered_14 rfl (lv_at hl 1 rfl) ?_
    refine lv_iload_n hx hb d_M_lettered_15 rfl (lv_at hl 2 rfl) ?_
    have hPc := hP.sub (ws' := [(h, .inr (2, [.int th, .int (nI M), .ref cl, .ref sa, .ref pa, .int tk])), (cl, .inl (cL, 32768, .inr (.inl (pkF (σ))))), (sa, .inl (cI, 4, .inl (fun i9 => nI ((σ) i9).2.1))), (pa, .inl (cI, 4, .inl (fun i9 => nI ((σ) i9).2.2)))]) [0, 1, 2, 3] rfl
    have hKc := hK.sub (tys' := [(cL, .long), (cI, .int)]) [0, 1] rfl
    refine vp_callSi (W.runV (As := [.int (nI k), .int (nI a)]) (rest := []) ⟨hx, hb, hml, hown, hA⟩ (c_M_at l D cL cI h cl sa pa M th tk σ k a hk (by omega) hB) (q_M_at hA k3_66 rfl rfl ⟨(Nat.le_of_ble_eq_true rfl), (Nat.le_of_ble_eq_true rfl)⟩) (ox_V (va_recv hKc hPc (ci := 2) (q0 := 0) rfl rfl) (ox_S hPc hKc)) rfl rfl hl.1 rfl (lv_room (Nat.le_of_ble_eq_true rfl)) d_M_lettered_16 ⟨(Nat.le_of_ble_eq_true rfl), (Nat.le_of_ble_eq_true rfl)⟩) (fun r16 hr16 => ?_)
    have er16 : r16 = nI ((σ k).1 a) := hr16
    subst er16
    refine lv_istore (lv' := [(4, .int (nI ((σ k).1 a))), (0, .ref h), (1, .int (nI k)), (2, .int (nI a)), (3, .int (nI e1))]) hx hb d_M_lettered_19 hl (by decide) rfl (fun ls hl => ?_)
    refine lv_iload hx hb d_M_lettered_21 (lv_at hl 0 rfl) ?_
    refine lv_sipush (v := 128) hx hb d_M_lettered_23 (by decide) ?_
    refine lv_icmp_ge (tgt := 33) hx hb d_M_lettered_26 (by decide) (fun c26 => ?_) (fun c26 => ?_)
    · have g26 : 128 ≤ ((σ k).1 a) := (nI_leI (a := 128) (b := ((σ k).1 a)) (by omega) (by omega)).mp c26
      refine lv_iload hx hb d_M_lettered_33 (lv_at hl 0 rfl) ?_
      refine lv_sipush (v := 192) hx hb d_M_lettered_35 (by decide) ?_
      refine lv_icmp_ge (tgt := 45) hx hb d_M_lettered_38 (by decide) (fun c38 => ?_) (fun c38 => ?_)
      · have g38 : 192 ≤ ((σ k).1 a) := (nI_leI (a := 192) (b := ((σ k).1 a)) (by omega) (by omega)).mp c38
        refine lv_iload hx hb d_M_lettered_45 (lv_at hl 0 rfl) ?_
        refine lv_sipush (v := 224) hx hb d_M_lettered_47 (by decide) ?_
        refine lv_icmp_ge (tgt := 57) hx hb d_M_lettered_50 (by decide) (fun c50 => ?_) (fun c50 => ?_)
        · have g50 : 224 ≤ ((σ k).1 a) := (nI_leI (a := 224) (b := ((σ k).1 a)) (by omega) (by omega)).mp c50
          refine lv_iload hx hb d_M_lettered_57 (lv_at hl 0 rfl) ?_
          refine lv_sipush (v := 240) hx hb d_M_lettered_59 (by decide) ?_
          refine lv_icmp_ge (tgt := 69) hx hb d_M_lettered_62 (by decide) (fun c62 => ?_) (fun c62 => ?_)
          · have g62 : 240 ≤ ((σ k).1 a) := (nI_leI (a := 240) (b := ((σ k).1 a)) (by omega) (by omega)).mp c62
            refine lv_iload hx hb d_M_lettered_69 (lv_at hl 0 rfl) ?_
            refine lv_sipush (v := 248) hx hb d_M_lettered_71 (by decide) ?_
            refine lv_icmp_ge (tgt := 81) hx hb d_M_lettered_74 (by decide) (fun c74 => ?_) (fun c74 => ?_)
            · have g74 : 248 ≤ ((σ k).1 a) := (nI_leI (a := 248) (b := ((σ k).1 a)) (by omega) (by omega)).mp c74
              refine lv_iconst (v := 0) hx hb d_M_lettered_81 (by decide) ?_
              refine lv_istore (lv' := [(5, .int 0), (4, .int (nI ((σ k).1 a))), (0, .ref h), (1, .int (nI k)), (2, .int (nI a)), (3, .int (nI e1))]) hx hb d_M_lettered_82 hl (by decide) rfl (fun ls hl => ?_)
              refine lv_iload hx hb d_M_lettered_84 (lv_at hl 0 rfl) ?_
              refine lv_iconst (v := 1) hx hb d_M_lettered_86 (by decide) ?_
              refine lv_icmp_ne (tgt := 95) hx hb d_M_lettered_87 (by decide) (fun _ => ?_) (fun q9 => absurd q9 (by decide))
              refine lv_iload hx hb d_M_lettered_95 (lv_at hl 0 rfl) ?_
              refine lv_iconst (v := 2) hx hb d_M_lettered_97 (by decide) ?_
              refine lv_icmp_ne (tgt := 110) hx hb d_M_lettered_98 (by decide) (fun _ => ?_) (fun q9 => absurd q9 (by decide))
              refine lv_iload hx hb d_M_lettered_110 (lv_at hl 0 rfl) ?_
              refine lv_iconst (v := 3) hx hb d_M_lettered_112 (by decide) ?_
              refine lv_icmp_ne (tgt := 125) hx hb d_M_lettered_113 (by decide) (fun _ => ?_) (fun q9 => absurd q9 (by decide))
              refine lv_iload hx hb d_M_lettered_125 (lv_at hl 1 rfl) ?_
              refine lv_sipush (v := 240) hx hb d_M_lettered_127 (by decide) ?_
              refine lv_isub hx hb d_M_lettered_130 ?_
              refine lv_topi (fun v130 ev130 => ?_)
              refine lv_istore (lv' := [(6, .int v130), (5, .int 0), (4, .int (nI ((σ k).1 a))), (0, .ref h), (1, .int (nI k)), (2, .int (nI a)), (3, .int (nI e1))]) hx hb d_M_lettered_131 hl (by decide) rfl (fun ls hl => ?_)
              refine lv_aload_n hx hb d_M_lettered_133 rfl (lv_at hl 3 rfl) ?_
              refine lv_iload hx hb d_M_lettered_134 (lv_at hl 1 rfl) ?_
              refine lv_if_ne (tgt := 144) hx hb d_M_lettered_136 (by decide) (fun q9 => absurd (by decide) q9) (fun _ => ?_)
              refine lv_bipush (v := (-2)) hx hb d_M_lettered_139 (by decide) ?_
              refine lv_goto (tgt := 145) hx hb d_M_lettered_141 (by decide) ?_
              refine va_put (D := D) (ci := 2) (v := .int (-2)) (ty := .int) (C := R_M) (T := F_M) (N := 6) hx hb hA i_M t_M t_M_ok n_M hown hK hP hD hS 0 rfl rfl 5 (by decide) (hA _ k2_217) (fun _ h9 => h9) rfl (by decide +kernel) rfl rfl (Nat.le_of_ble_eq_true rfl) d_M_lettered_145 (fun H locs hP hD hS => ?_)
              have hP : va_P D vCl [(h, .inr (2, [.int th, .int (nI M), .ref cl, .ref sa, .ref pa, .int (-2)])), (cl, .inl (cL, 32768, .inr (.inl (pkF (σ))))), (sa, .inl (cI, 4, .inl (fun i9 => nI ((σ) i9).2.1))), (pa, .inl (cI, 4, .inl (fun i9 => nI ((σ) i9).2.2)))] H := hP
              have hD : va_D A [(h, .inr (2, [.int th, .int (nI M), .ref cl, .ref sa, .ref pa, .int (-2)])), (cl, .inl (cL, 32768, .inr (.inl (pkF (σ))))), (sa, .inl (cI, 4, .inl (fun i9 => nI ((σ) i9).2.1))), (pa, .inl (cI, 4, .inl (fun i9 => nI ((σ) i9).2.2)))] := hD
              refine lv_aload_n hx hb d_M_lettered_148 rfl (lv_at hl 3 rfl) ?_
              refine va_get (D := D) (ci := 2) (v := .int (-2)) (C := R_M) (T := F_M) (N := 6) hx hb hA i_M hown hK hP 0 rfl rfl 5 (by decide) (hA _ k2_217) (fun _ h9 => h9) rfl d_M_lettered_149 ?_
              refine lv_if_le (tgt := 303) hx hb d_M_lettered_152 (by decide) (fun _ => ?_) (fun q9 => absurd (by decide) q9)
              refine lv_iconst (v := 0) hx hb d_M_lettered_303 (by decide) ?_
              have hla : la (σ k).1 a e1 = -1 := lt8_0 hB gE (by omega) (by omega)
              exact W.iret (v := 0) hx hb hr (fun t ht hW => ⟨⟨_, (-2), rfl, (Or.inl ⟨hla, rfl, rfl⟩), by rw [ht]; exact hP, va_K.moved hW.alike hK, hD⟩, hS.F ht⟩) hS.2.2 d_M_lettered_304
            · have g74 : ((σ k).1 a) < 248 := by have := mt (nI_leI (a := 248) (b := ((σ k).1 a)) (by omega) (by omega)).mpr c74; omega
              refine lv_iconst (v := 4) hx hb d_M_lettered_77 (by decide) ?_
              refine lv_goto (tgt := 82) hx hb d_M_lettered_78 (by decide) ?_
              refine lv_istore (lv' := [(5, .int 4), (4, .int (nI ((σ k).1 a))), (0, .ref h), (1, .int (nI k)), (2, .int (nI a)), (3, .int (nI e1))]) hx hb d_M_lettered_82 hl (by decide) rfl (fun ls hl => ?_)
              refine lv_iload hx hb d_M_lettered_84 (lv_at hl 0 rfl) ?_
              refine lv_iconst (v := 1) hx hb d_M_lettered_86 (by decide) ?_
              refine lv_icmp_ne (tgt := 95) hx hb d_M_lettered_87 (by decide) (fun _ => ?_) (fun q9 => absurd q9 (by decide))
              refine lv_iload hx hb d_M_lettered_95 (lv_at hl 0 rfl) ?_
              refine lv_iconst (v := 2) hx hb d_M_lettered_97 (by decide) ?_
              refine lv_icmp_ne (tgt := 110) hx hb d_M_lettered_98 (by decide) (fun _ => ?_) (fun q9 => absurd q9 (by decide))
              refine lv_iload hx hb d_M_lettered_110 (lv_at hl 0 rfl) ?_
              refine lv_iconst (v := 3) hx hb d_M_lettered_112 (by decide) ?_
              refine lv_icmp_ne (tgt := 125) hx hb d_M_lettered_113 (by decide) (fun _ => ?_) (fun q9 => absurd q9 (by decide))
              refine lv_iload hx hb d_M_lettered_125 (lv_at hl 1 rfl) ?_
              refine lv_sipush (v := 240) hx hb d_M_lettered_127 (by decide) ?_
              refine lv_isub hx hb d_M_lettered_130 ?_
              refine lv_topi (fun v130 ev130 => ?_)
              have ev130 : v130 = nI (((σ k).1 a) - 240) := by rw [ev130]; exact pk_sub (b := 240) (by omega)
              subst ev130
              refine lv_istore (lv' := [(6, .int (nI (((σ k).1 a) - 240))), (5, .int 4), (4, .int (nI ((σ k).1 a))), (0, .ref h), (1, .int (nI k)), (2, .int (nI a)), (3, .int (nI e1))]) hx hb d_M_lettered_131 hl (by decide) rfl (fun ls hl => ?_)
              refine lv_aload_n hx hb d_M_lettered_133 rfl (lv_at hl 3 rfl) ?_
              refine lv_iload hx hb d_M_lettered_134 (lv_at hl 1 rfl) ?_
              refine lv_if_ne (tgt := 144) hx hb d_M_lettered_136 (by decide) (fun _ => ?_) (fun q9 => absurd q9 (by decide))
              refine lv_iconst (v := 1) hx hb d_M_lettered_144 (by decide) ?_
              refine va_put (D := D) (ci := 2) (v := .int 1) (ty := .int) (C := R_M) (T := F_M) (N := 6) hx hb hA i_M t_M t_M_ok n_M hown hK hP hD hS 0 rfl rfl 5 (by decide) (hA _ k2_217) (fun _ h9 => h9) rfl (by decide +kernel) rfl rfl (Nat.le_of_ble_eq_true rfl) d_M_lettered_145 (fun H locs hP hD hS => ?_)
              have hP : va_P D vCl [(h, .inr (2, [.int th, .int (nI M), .ref cl, .ref sa, .ref pa, .int 1])), (cl, .inl (cL, 32768, .inr (.inl (pkF (σ))))), (sa, .inl (cI, 4, .inl (fun i9 => nI ((σ) i9).2.1))), (pa, .inl (cI, 4, .inl (fun i9 => nI ((σ) i9).2.2)))] H := hP
              have hD : va_D A [(h, .inr (2, [.int th, .int (nI M), .ref cl, .ref sa, .ref pa, .int 1])), (cl, .inl (cL, 32768, .inr (.inl (pkF (σ))))), (sa, .inl (cI, 4, .inl (fun i9 => nI ((σ) i9).2.1))), (pa, .inl (cI, 4, .inl (fun i9 => nI ((σ) i9).2.2)))] := hD
              refine lv_aload_n hx hb d_M_lettered_148 rfl (lv_at hl 3 rfl) ?_
              refine va_get (D := D) (ci := 2) (v := .int 1) (C := R_M) (T := F_M) (N := 6) hx hb hA i_M hown hK hP 0 rfl rfl 5 (by decide) (hA _ k2_217) (fun _ h9 => h9) rfl d_M_lettered_149 ?_
              refine lv_if_le (tgt := 303) hx hb d_M_lettered_152 (by decide) (fun q9 => absurd q9 (by decide)) (fun _ => ?_)
              refine lv_aload_n hx hb d_M_lettered_155 rfl (lv_at hl 3 rfl) ?_
              refine va_get (D := D) (ci := 2) (v := .int 1) (C := R_M) (T := F_M) (N := 6) hx hb hA i_M hown hK hP 0 rfl rfl 5 (by decide) (hA _ k2_217) (fun _ h9 => h9) rfl d_M_lettered_156 ?_
              refine lv_iload hx hb d_M_lettered_159 (lv_at hl 1 rfl) ?_
              refine lv_icmp_gt (tgt := 303) hx hb d_M_lettered_161 (by decide) (fun q9 => absurd q9 (by decide)) (fun _ => ?_)
              refine lv_iload hx hb d_M_lettered_164 (lv_at hl 0 rfl) ?_
              refine lv_bipush (v := 6) hx hb d_M_lettered_166 (by decide) ?_
              refine lv_iload hx hb d_M_lettered_168 (lv_at hl 1 rfl) ?_
              refine lv_aload_n hx hb d_M_lettered_170 rfl (lv_at hl 3 rfl) ?_
              refine va_get (D := D) (ci := 2) (v := .int 1) (C := R_M) (T := F_M) (N := 6) hx hb hA i_M hown hK hP 0 rfl rfl 5 (by decide) (hA _ k2_217) (fun _ h9 => h9) rfl d_M_lettered_171 ?_
              refine lv_isub hx hb d_M_lettered_174 ?_
              refine lv_topi (fun v174 ev174 => ?_)
              have ev174 : v174 = 3 := by rw [ev174]; decide
              subst ev174
              refine lv_imul hx hb d_M_lettered_175 ?_
              refine lv_topi (fun v175 ev175 => ?_)
              have ev175 : v175 = 18 := by rw [ev175]; decide
              subst ev175
              refine lv_ishl hx hb d_M_lettered_176 ?_
              refine lv_topi (fun v176 ev176 => ?_)
              have ev176 : v176 = nI ((((σ k).1 a) - 240) * 262144) := by rw [ev176]; exact (sh_n (k := 18) (by decide) (by omega)).trans rfl
              subst ev176
              refine lv_istore (lv' := [(7, .int (nI ((((σ k).1 a) - 240) * 262144))), (6, .int (nI (((σ k).1 a) - 240))), (5, .int 4), (4, .int (nI ((σ k).1 a))), (0, .ref h), (1, .int (nI k)), (2, .int (nI a)), (3, .int (nI e1))]) hx hb d_M_lettered_177 hl (by decide) rfl (fun ls hl => ?_)
              refine lv_iload hx hb d_M_lettered_179 (lv_at hl 0 rfl) ?_
              refine lv_iconst (v := 1) hx hb d_M_lettered_181 (by decide) ?_
              refine lv_bipush (v := 6) hx hb d_M_lettered_182 (by decide) ?_
              refine lv_iload hx hb d_M_lettered_184 (lv_at hl 2 rfl) ?_
              refine lv_aload_n hx hb d_M_lettered_186 rfl (lv_at hl 4 rfl) ?_
              refine va_get (D := D) (ci := 2) (v := .int 1) (C := R_M) (T := F_M) (N := 6) hx hb hA i_M hown hK hP 0 rfl rfl 5 (by decide) (hA _ k2_217) (fun _ h9 => h9) rfl d_M_lettered_187 ?_
              refine lv_isub hx hb d_M_lettered_190 ?_
              refine lv_topi (fun v190 ev190 => ?_)
              have ev190 : v190 = 3 := by rw [ev190]; decide
              subst ev190
              refine lv_imul hx hb d_M_lettered_191 ?_
              refine lv_topi (fun v191 ev191 => ?_)
              have ev191 : v191 = 18 := by rw [ev191]; decide
              subst ev191
              refine lv_ishl hx hb d_M_lettered_192 ?_
              refine lv_topi (fun v192 ev192 => ?_)
              have ev192 : v192 = 262144 := by rw [ev192]; decide
              subst ev192
              refine lv_iadd hx hb d_M_lettered_193 ?_
              refine lv_topi (fun v193 ev193 => ?_)
              have ev193 : v193 = nI ((((σ k).1 a) - 240) * 262144 + 262144) := by rw [ev193]; exact nI_add _ 262144
              subst ev193
              refine lv_iconst (v := 1) hx hb d_M_lettered_194 (by decide) ?_
              refine lv_isub hx hb d_M_lettered_195 ?_
              refine lv_topi (fun v195 ev195 => ?_)
              have ev195 : v195 = nI ((((σ k).1 a) - 240) * 262144 + 262143) := by rw [ev195]; exact (pk_sub (b := 1) (by omega)).trans (congrArg nI (by omega))
              subst ev195
              refine lv_istore (lv' := [(8, .int (nI ((((σ k).1 a) - 240) * 262144 + 262143))), (7, .int (nI ((((σ k).1 a) - 240) * 262144))), (6, .int (nI (((σ k).1 a) - 240))), (5, .int 4), (4, .int (nI ((σ k).1 a))), (0, .ref h), (1, .int (nI k)), (2, .int (nI a)), (3, .int (nI e1))]) hx hb d_M_lettered_196 hl (by decide) rfl (fun ls hl => ?_)
              refine lv_iload hx hb d_M_lettered_198 (lv_at hl 3 rfl) ?_
              refine lv_iload hx hb d_M_lettered_200 (lv_at hl 1 rfl) ?_
              refine lv_iload hx hb d_M_lettered_202 (lv_at hl 0 rfl) ?_
              refine vp_callSi (W.runS (As := [.int 4, .int (nI ((((σ k).1 a) - 240) * 262144)), .int (nI ((((σ k).1 a) - 240) * 262144 + 262143))]) (rest := []) ⟨hx, hb, hml, hown, hA⟩ (c_M_canBe l 4 ((((σ k).1 a) - 240) * 262144) ((((σ k).1 a) - 240) * 262144 + 262143) (by decide) (by omega) (by omega)) (q_M_canBe hA k3_132 rfl rfl ⟨(Nat.le_of_ble_eq_true rfl), (Nat.le_of_ble_eq_true rfl)⟩) (⟨fun a U g mk q => q, fun U hU hW => ⟨rfl, trivial⟩⟩) rfl rfl hl.1 rfl (lv_room (Nat.le_of_ble_eq_true rfl)) d_M_lettered_204 ⟨(Nat.le_of_ble_eq_true rfl), (Nat.le_of_ble_eq_true rfl)⟩) (fun r204 hr204 => ?_)
              rcases hr204 with ⟨gB1, rfl⟩ | ⟨gB1, rfl⟩
              · refine lv_if_ne (tgt := 219) hx hb d_M_lettered_207 (by decide) (fun _ => ?_) (fun q9 => absurd q9 (by decide))
                refine lv_aload_n hx hb d_M_lettered_219 rfl (lv_at hl 5 rfl) ?_
                refine va_get (D := D) (ci := 2) (v := .int 1) (C := R_M) (T := F_M) (N := 6) hx hb hA i_M hown hK hP 0 rfl rfl 5 (by decide) (hA _ k2_217) (fun _ h9 => h9) rfl d_M_lettered_220 ?_
                refine lv_iload hx hb d_M_lettered_223 (lv_at hl 3 rfl) ?_
                refine lv_icmp_ne (tgt := 231) hx hb d_M_lettered_225 (by decide) (fun _ => ?_) (fun q9 => absurd q9 (by decide))
                refine lv_iload_n hx hb d_M_lettered_231 rfl (lv_at hl 7 rfl) ?_
                refine lv_aload_n hx hb d_M_lettered_232 rfl (lv_at hl 5 rfl) ?_
                refine va_get (D := D) (ci := 2) (v := .int 1) (C := R_M) (T := F_M) (N := 6) hx hb hA i_M hown hK hP 0 rfl rfl 5 (by decide) (hA _ k2_217) (fun _ h9 => h9) rfl d_M_lettered_233 ?_
                refine lv_iadd hx hb d_M_lettered_236 ?_
                refine lv_topi (fun v236 ev236 => ?_)
                have ev236 : v236 = nI (a + 1) := by rw [ev236]; exact nI_add a 1
                subst ev236
                refine lv_iload_n hx hb d_M_lettered_237 rfl (lv_at hl 8 rfl) ?_
                refine lv_icmp_lt (tgt := 250) hx hb d_M_lettered_238 (by decide) (fun c238 => ?_) (fun c238 => ?_)
                · have gE1 : a + 1 < e1 := (nI_ltI (a := a + 1) (b := e1) (by omega) (by omega)).mp c238
                  have g81 := hB (a + 1)
                  refine lv_aload_n hx hb d_M_lettered_250 rfl (lv_at hl 5 rfl) ?_
                  refine lv_iload_n hx hb d_M_lettered_251 rfl (lv_at hl 6 rfl) ?_
                  refine lv_iload_n hx hb d_M_lettered_252 rfl (lv_at hl 7 rfl) ?_
                  refine lv_aload_n hx hb d_M_lettered_253 rfl (lv_at hl 5 rfl) ?_
                  refine va_get (D := D) (ci := 2) (v := .int 1) (C := R_M) (T := F_M) (N := 6) hx hb hA i_M hown hK hP 0 rfl rfl 5 (by decide) (hA _ k2_217) (fun _ h9 => h9) rfl d_M_lettered_254 ?_
                  refine lv_iadd hx hb d_M_lettered_257 ?_
                  refine lv_topi (fun v257 ev257 => ?_)
                  have ev257 : v257 = nI (a + 1) := by rw [ev257]; exact nI_add a 1
                  subst ev257
                  have hPc := hP.sub (ws' := [(h, .inr (2, [.int th, .int (nI M), .ref cl, .ref sa, .ref pa, .int 1])), (cl, .inl (cL, 32768, .inr (.inl (pkF (σ))))), (sa, .inl (cI, 4, .inl (fun i9 => nI ((σ) i9).2.1))), (pa, .inl (cI, 4, .inl (fun i9 => nI ((σ) i9).2.2)))]) [0, 1, 2, 3] rfl
                  have hKc := hK.sub (tys' := [(cL, .long), (cI, .int)]) [0, 1] rfl
                  refine vp_callSi (W.runV (As := [.int (nI k), .int (nI (a + 1))]) (rest := []) ⟨hx, hb, hml, hown, hA⟩ (c_M_at l D cL cI h cl sa pa M th 1 σ k (a + 1) hk (by omega) hB) (q_M_at hA k3_66 rfl rfl ⟨(Nat.le_of_ble_eq_true rfl), (Nat.le_of_ble_eq_true rfl)⟩) (ox_V (va_recv hKc hPc (ci := 2) (q0 := 0) rfl rfl) (ox_S hPc hKc)) rfl rfl hl.1 rfl (lv_room (Nat.le_of_ble_eq_true rfl)) d_M_lettered_258 ⟨(Nat.le_of_ble_eq_true rfl), (Nat.le_of_ble_eq_true rfl)⟩) (fun r258 hr258 => ?_)
                  have er258 : r258 = nI ((σ k).1 (a + 1)) := hr258
                  subst er258
                  refine lv_istore (lv' := [(9, .int (nI ((σ k).1 (a + 1)))), (8, .int (nI ((((σ k).1 a) - 240) * 262144 + 262143))), (7, .int (nI ((((σ k).1 a) - 240) * 262144))), (6, .int (nI (((σ k).1 a) - 240))), (5, .int 4), (4, .int (nI ((σ k).1 a))), (0, .ref h), (1, .int (nI k)), (2, .int (nI a)), (3, .int (nI e1))]) hx hb d_M_lettered_261 hl (by decide) rfl (fun ls hl => ?_)
                  refine lv_bipush (v := 64) hx hb d_M_lettered_263 (by decide) ?_
                  refine lv_iload hx hb d_M_lettered_265 (lv_at hl 3 rfl) ?_
                  refine lv_imul hx hb d_M_lettered_267 ?_
                  refine lv_topi (fun v267 ev267 => ?_)
                  have ev267 : v267 = nI (64 * (((σ k).1 a) - 240)) := by rw [ev267]; exact pk_mul 64 _
                  subst ev267
                  refine lv_iload hx hb d_M_lettered_268 (lv_at hl 0 rfl) ?_
                  refine lv_bipush (v := 64) hx hb d_M_lettered_270 (by decide) ?_
                  refine lv_irem hx hb d_M_lettered_272 (by decide) ?_
                  refine lv_topi (fun v272 ev272 => ?_)
                  have ev272 : v272 = nI (((σ k).1 (a + 1)) % 64) := by rw [ev272]; exact pk_rem (d := 64) (by omega) (by decide) (by decide)
                  subst ev272
                  refine lv_iadd hx hb d_M_lettered_273 ?_
                  refine lv_topi (fun v273 ev273 => ?_)
                  have ev273 : v273 = nI (64 * (((σ k).1 a) - 240) + ((σ k).1 (a + 1)) % 64) := by rw [ev273]; exact nI_add _ _
                  subst ev273
                  refine lv_istore (lv' := [(6, .int (nI (64 * (((σ k).1 a) - 240) + ((σ k).1 (a + 1)) % 64))), (9, .int (nI ((σ k).1 (a + 1)))), (8, .int (nI ((((σ k).1 a) - 240) * 262144 + 262143))), (7, .int (nI ((((σ k).1 a) - 240) * 262144))), (5, .int 4), (4, .int (nI ((σ k).1 a))), (0, .ref h), (1, .int (nI k)), (2, .int (nI a)), (3, .int (nI e1))]) hx hb d_M_lettered_274 hl (by decide) rfl (fun ls hl => ?_)
                  refine lv_aload_n hx hb d_M_lettered_276 rfl (lv_at hl 6 rfl) ?_
                  refine lv_iload hx hb d_M_lettered_277 (lv_at hl 1 rfl) ?_
                  refine lv_bipush (v := 64) hx hb d_M_lettered_279 (by decide) ?_
                  refine lv_idiv hx hb d_M_lettered_281 (by decide) ?_
                  refine lv_topi (fun v281 ev281 => ?_)
                  have ev281 : v281 = nI (((σ k).1 (a + 1)) / 64) := by rw [ev281]; exact pk_div (d := 64) (by omega) (by decide) (by decide)
                  subst ev281
                  refine lv_iconst (v := 2) hx hb d_M_lettered_282 (by decide) ?_
                  refine lv_icmp_ne (tgt := 295) hx hb d_M_lettered_283 (by decide) (fun c283 => ?_) (fun c283 => ?_)
                  · have gC1 : ¬ ((σ k).1 (a + 1)) / 64 = 2 := mt (nI_eq (b := 2) (by omega) (by omega)).mpr c283
                    refine lv_bipush (v := (-2)) hx hb d_M_lettered_295 (by decide) ?_
                    refine va_put (D := D) (ci := 2) (v := .int (-2)) (ty := .int) (C := R_M) (T := F_M) (N := 6) hx hb hA i_M t_M t_M_ok n_M hown hK hP hD hS 0 rfl rfl 5 (by decide) (hA _ k2_217) (fun _ h9 => h9) rfl (by decide +kernel) rfl rfl (Nat.le_of_ble_eq_true rfl) d_M_lettered_297 (fun H locs hP hD hS => ?_)
                    have hP : va_P D vCl [(h, .inr (2, [.int th, .int (nI M), .ref cl, .ref sa, .ref pa, .int (-2)])), (cl, .inl (cL, 32768, .inr (.inl (pkF (σ))))), (sa, .inl (cI, 4, .inl (fun i9 => nI ((σ) i9).2.1))), (pa, .inl (cI, 4, .inl (fun i9 => nI ((σ) i9).2.2)))] H := hP
                    have hD : va_D A [(h, .inr (2, [.int th, .int (nI M), .ref cl, .ref sa, .ref pa, .int (-2)])), (cl, .inl (cL, 32768, .inr (.inl (pkF (σ))))), (sa, .inl (cI, 4, .inl (fun i9 => nI ((σ) i9).2.1))), (pa, .inl (cI, 4, .inl (fun i9 => nI ((σ) i9).2.2)))] := hD
                    refine lv_goto (tgt := 148) hx hb d_M_lettered_300 (by decide) ?_
                    refine lv_aload_n hx hb d_M_lettered_148 rfl (lv_at hl 6 rfl) ?_
                    refine va_get (D := D) (ci := 2) (v := .int (-2)) (C := R_M) (T := F_M) (N := 6) hx hb hA i_M hown hK hP 0 rfl rfl 5 (by decide) (hA _ k2_217) (fun _ h9 => h9) rfl d_M_lettered_149 ?_
                    refine lv_if_le (tgt := 303) hx hb d_M_lettered_152 (by decide) (fun _ => ?_) (fun q9 => absurd (by decide) q9)
                    refine lv_iconst (v := 0) hx hb d_M_lettered_303 (by decide) ?_
                    have hla : la (σ k).1 a e1 = -1 := lt8_4c1 hB gE g62 g74 gB1 gE1 gC1
                    exact W.iret (v := 0) hx hb hr (fun t ht hW => ⟨⟨_, (-2), rfl, (Or.inl ⟨hla, rfl, rfl⟩), by rw [ht]; exact hP, va_K.moved hW.alike hK, hD⟩, hS.F ht⟩) hS.2.2 d_M_lettered_304
                  · have gC1 : ((σ k).1 (a + 1)) / 64 = 2 := (nI_eq (b := 2) (by omega) (by omega)).mp c283
                    refine lv_aload_n hx hb d_M_lettered_286 rfl (lv_at hl 6 rfl) ?_
                    refine va_get (D := D) (ci := 2) (v := .int 1) (C := R_M) (T := F_M) (N := 6) hx hb hA i_M hown hK hP 0 rfl rfl 5 (by decide) (hA _ k2_217) (fun _ h9 => h9) rfl d_M_lettered_287 ?_
                    refine lv_iconst (v := 1) hx hb d_M_lettered_290 (by decide) ?_
                    refine lv_iadd hx hb d_M_lettered_291 ?_
                    refine lv_topi (fun v291 ev291 => ?_)
                    have ev291 : v291 = 2 := by rw [ev291]; decide
                    subst ev291
                    refine lv_goto (tgt := 297) hx hb d_M_lettered_292 (by decide) ?_
                    refine va_put (D := D) (ci := 2) (v := .int 2) (ty := .int) (C := R_M) (T := F_M) (N := 6) hx hb hA i_M t_M t_M_ok n_M hown hK hP hD hS 0 rfl rfl 5 (by decide) (hA _ k2_217) (fun _ h9 => h9) rfl (by decide +kernel) rfl rfl (Nat.le_of_ble_eq_true rfl) d_M_lettered_297 (fun H locs hP hD hS => ?_)
                    have hP : va_P D vCl [(h, .inr (2, [.int th, .int (nI M), .ref cl, .ref sa, .ref pa, .int 2])), (cl, .inl (cL, 32768, .inr (.inl (pkF (σ))))), (sa, .inl (cI, 4, .inl (fun i9 => nI ((σ) i9).2.1))), (pa, .inl (cI, 4, .inl (fun i9 => nI ((σ) i9).2.2)))] H := hP
                    have hD : va_D A [(h, .inr (2, [.int th, .int (nI M), .ref cl, .ref sa, .ref pa, .int 2])), (cl, .inl (cL, 32768, .inr (.inl (pkF (σ))))), (sa, .inl (cI, 4, .inl (fun i9 => nI ((σ) i9).2.1))), (pa, .inl (cI, 4, .inl (fun i9 => nI ((σ) i9).2.2)))] := hD
                    refine lv_goto (tgt := 148) hx hb d_M_lettered_300 (by decide) ?_
                    refine lv_aload_n hx hb d_M_lettered_148 rfl (lv_at hl 6 rfl) ?_
                    refine va_get (D := D) (ci := 2) (v := .int 2) (C := R_M) (T := F_M) (N := 6) hx hb hA i_M hown hK hP 0 rfl rfl 5 (by decide) (hA _ k2_217) (fun _ h9 => h9) rfl d_M_lettered_149 ?_
                    refine lv_if_le (tgt := 303) hx hb d_M_lettered_152 (by decide) (fun q9 => absurd q9 (by decide)) (fun _ => ?_)
                    refine lv_aload_n hx hb d_M_lettered_155 rfl (lv_at hl 6 rfl) ?_
                    refine va_get (D := D) (ci := 2) (v := .int 2) (C := R_M) (T := F_M) (N := 6) hx hb hA i_M hown hK hP 0 rfl rfl 5 (by decide) (hA _ k2_217) (fun _ h9 => h9) rfl d_M_lettered_156 ?_
                    refine lv_iload hx hb d_M_lettered_159 (lv_at hl 4 rfl) ?_
                    refine lv_icmp_gt (tgt := 303) hx hb d_M_lettered_161 (by decide) (fun q9 => absurd q9 (by decide)) (fun _ => ?_)
                    refine lv_iload hx hb d_M_lettered_164 (lv_at hl 0 rfl) ?_
                    refine lv_bipush (v := 6) hx hb d_M_lettered_166 (by decide) ?_
                    refine lv_iload hx hb d_M_lettered_168 (lv_at hl 4 rfl) ?_
                    refine lv_aload_n hx hb d_M_lettered_170 rfl (lv_at hl 6 rfl) ?_
                    refine va_get (D := D) (ci := 2) (v := .int 2) (C := R_M) (T := F_M) (N := 6) hx hb hA i_M hown hK hP 0 rfl rfl 5 (by decide) (hA _ k2_217) (fun _ h9 => h9) rfl d_M_lettered_171 ?_
                    refine lv_isub hx hb d_M_lettered_174 ?_
                    refine lv_topi (fun v174 ev174 => ?_)
                    have ev174 : v174 = 2 := by rw [ev174]; decide
                    subst ev174
                    refine lv_imul hx hb d_M_lettered_175 ?_
                    refine lv_topi (fun v175 ev175 => ?_)
                    have ev175 : v175 = 12 := by rw [ev175]; decide
                    subst ev175
                    refine lv_ishl hx hb d_M_lettered_176 ?_
                    refine lv_topi (fun v176 ev176 => ?_)
                    have ev176 : v176 = nI ((64 * (((σ k).1 a) - 240) + ((σ k).1 (a + 1)) % 64) * 4096) := by rw [ev176]; exact (sh_n (k := 12) (by decide) (by omega)).trans rfl
                    subst ev176
                    refine lv_istore (lv' := [(7, .int (nI ((64 * (((σ k).1 a) - 240) + ((σ k).1 (a + 1)) % 64) * 4096))), (6, .int (nI (64 * (((σ k).1 a) - 240) + ((σ k).1 (a + 1)) % 64))), (9, .int (nI ((σ k).1 (a + 1)))), (8, .int (nI ((((σ k).1 a) - 240) * 262144 + 262143))), (5, .int 4), (4, .int (nI ((σ k).1 a))), (0, .ref h), (1, .int (nI k)), (2, .int (nI a)), (3, .int (nI e1))]) hx hb d_M_lettered_177 hl (by decide) rfl (fun ls hl => ?_)
                    refine lv_iload hx hb d_M_lettered_179 (lv_at hl 0 rfl) ?_
                    refine lv_iconst (v := 1) hx hb d_M_lettered_181 (by decide) ?_
                    refine lv_bipush (v := 6) hx hb d_M_lettered_182 (by decide) ?_
                    refine lv_iload hx hb d_M_lettered_184 (lv_at hl 4 rfl) ?_
                    refine lv_aload_n hx hb d_M_lettered_186 rfl (lv_at hl 6 rfl) ?_
                    refine va_get (D := D) (ci := 2) (v := .int 2) (C := R_M) (T := F_M) (N := 6) hx hb hA i_M hown hK hP 0 rfl rfl 5 (by decide) (hA _ k2_217) (fun _ h9 => h9) rfl d_M_lettered_187 ?_
                    refine lv_isub hx hb d_M_lettered_190 ?_
                    refine lv_topi (fun v190 ev190 => ?_)
                    have ev190 : v190 = 2 := by rw [ev190]; decide
                    subst ev190
                    refine lv_imul hx hb d_M_lettered_191 ?_
                    refine lv_topi (fun v191 ev191 => ?_)
                    have ev191 : v191 = 12 := by rw [ev191]; decide
                    subst ev191
                    refine lv_ishl hx hb d_M_lettered_192 ?_
                    refine lv_topi (fun v192 ev192 => ?_)
                    have ev192 : v192 = 4096 := by rw [ev192]; decide
                    subst ev192
                    refine lv_iadd hx hb d_M_lettered_193 ?_
                    refine lv_topi (fun v193 ev193 => ?_)
                    have ev193 : v193 = nI ((64 * (((σ k).1 a) - 240) + ((σ k).1 (a + 1)) % 64) * 4096 + 4096) := by rw [ev193]; exact nI_add _ 4096
                    subst ev193
                    refine lv_iconst (v := 1) hx hb d_M_lettered_194 (by decide) ?_
                    refine lv_isub hx hb d_M_lettered_195 ?_
                    refine lv_topi (fun v195 ev195 => ?_)
                    have ev195 : v195 = nI ((64 * (((σ k).1 a) - 240) + ((σ k).1 (a + 1)) % 64) * 4096 + 4095) := by rw [ev195]; exact (pk_sub (b := 1) (by omega)).trans (congrArg nI (by omega))
                    subst ev195
                    refine lv_istore (lv' := [(8, .int (nI ((64 * (((σ k).1 a) - 240) + ((σ k).1 (a + 1)) % 64) * 4096 + 4095))), (7, .int (nI ((64 * (((σ k).1 a) - 240) + ((σ k).1 (a + 1)) % 64) * 4096))), (6, .int (nI (64 * (((σ k).1 a) - 240) + ((σ k).1 (a + 1)) % 64))), (9, .int (nI ((σ k).1 (a + 1)))), (5, .int 4), (4, .int (nI ((σ k).1 a))), (0, .ref h), (1, .int (nI k)), (2, .int (nI a)), (3, .int (nI e1))]) hx hb d_M_lettered_196 hl (by decide) rfl (fun ls hl => ?_)
                    refine lv_iload hx hb d_M_lettered_198 (lv_at hl 4 rfl) ?_
                    refine lv_iload hx hb d_M_lettered_200 (lv_at hl 1 rfl) ?_
                    refine lv_iload hx hb d_M_lettered_202 (lv_at hl 0 rfl) ?_
                    refine vp_callSi (W.runS (As := [.int 4, .int (nI ((64 * (((σ k).1 a) - 240) + ((σ k).1 (a + 1)) % 64) * 4096)), .int (nI ((64 * (((σ k).1 a) - 240) + ((σ k).1 (a + 1)) % 64) * 4096 + 4095))]) (rest := []) ⟨hx, hb, hml, hown, hA⟩ (c_M_canBe l 4 ((64 * (((σ k).1 a) - 240) + ((σ k).1 (a + 1)) % 64) * 4096) ((64 * (((σ k).1 a) - 240) + ((σ k).1 (a + 1)) % 64) * 4096 + 4095) (by decide) (by omega) (by omega)) (q_M_canBe hA k3_132 rfl rfl ⟨(Nat.le_of_ble_eq_true rfl), (Nat.le_of_ble_eq_true rfl)⟩) (⟨fun a U g mk q => q, fun U hU hW => ⟨rfl, trivial⟩⟩) rfl rfl hl.1 rfl (lv_room (Nat.le_of_ble_eq_true rfl)) d_M_lettered_204 ⟨(Nat.le_of_ble_eq_true rfl), (Nat.le_of_ble_eq_true rfl)⟩) (fun r204 hr204 => ?_)
                    rcases hr204 with ⟨gB2, rfl⟩ | ⟨gB2, rfl⟩
                    · refine lv_if_ne (tgt := 219) hx hb d_M_lettered_207 (by decide) (fun _ => ?_) (fun q9 => absurd q9 (by decide))
                      refine lv_aload_n hx hb d_M_lettered_219 rfl (lv_at hl 6 rfl) ?_
                      refine va_get (D := D) (ci := 2) (v := .int 2) (C := R_M) (T := F_M) (N := 6) hx hb hA i_M hown hK hP 0 rfl rfl 5 (by decide) (hA _ k2_217) (fun _ h9 => h9) rfl d_M_lettered_220 ?_
                      refine lv_iload hx hb d_M_lettered_223 (lv_at hl 4 rfl) ?_
                      refine lv_icmp_ne (tgt := 231) hx hb d_M_lettered_225 (by decide) (fun _ => ?_) (fun q9 => absurd q9 (by decide))
                      refine lv_iload_n hx hb d_M_lettered_231 rfl (lv_at hl 8 rfl) ?_
                      refine lv_aload_n hx hb d_M_lettered_232 rfl (lv_at hl 6 rfl) ?_
                      refine va_get (D := D) (ci := 2) (v := .int 2) (C := R_M) (T := F_M) (N := 6) hx hb hA i_M hown hK hP 0 rfl rfl 5 (by decide) (hA _ k2_217) (fun _ h9 => h9) rfl d_M_lettered_233 ?_
                      refine lv_iadd hx hb d_M_lettered_236 ?_
                      refine lv_topi (fun v236 ev236 => ?_)
                      have ev236 : v236 = nI (a + 2) := by rw [ev236]; exact nI_add a 2
                      subst ev236
                      refine lv_iload_n hx hb d_M_lettered_237 rfl (lv_at hl 9 rfl) ?_
                      refine lv_icmp_lt (tgt := 250) hx hb d_M_lettered_238 (by decide) (fun c238 => ?_) (fun c238 => ?_)
                      · have gE2 : a + 2 < e1 := (nI_ltI (a := a + 2) (b := e1) (by omega) (by omega)).mp c238
                        have g82 := hB (a + 2)
                        refine lv_aload_n hx hb d_M_lettered_250 rfl (lv_at hl 6 rfl) ?_
                        refine lv_iload_n hx hb d_M_lettered_251 rfl (lv_at hl 7 rfl) ?_
                        refine lv_iload_n hx hb d_M_lettered_252 rfl (lv_at hl 8 rfl) ?_
                        refine lv_aload_n hx hb d_M_lettered_253 rfl (lv_at hl 6 rfl) ?_
                        refine va_get (D := D) (ci := 2) (v := .int 2) (C := R_M) (T := F_M) (N := 6) hx hb hA i_M hown hK hP 0 rfl rfl 5 (by decide) (hA _ k2_217) (fun _ h9 => h9) rfl d_M_lettered_254 ?_
                        refine lv_iadd hx hb d_M_lettered_257 ?_
                        refine lv_topi (fun v257 ev257 => ?_)
                        have ev257 : v257 = nI (a + 2) := by rw [ev257]; exact nI_add a 2
                        subst ev257
                        have hPc := hP.sub (ws' := [(h, .inr (2, [.int th, .int (nI M), .ref cl, .ref sa, .ref pa, .int 2])), (cl, .inl (cL, 32768, .inr (.inl (pkF (σ))))), (sa, .inl (cI, 4, .inl (fun i9 => nI ((σ) i9).2.1))), (pa, .inl (cI, 4, .inl (fun i9 => nI ((σ) i9).2.2)))]) [0, 1, 2, 3] rfl
                        have hKc := hK.sub (tys' := [(cL, .long), (cI, .int)]) [0, 1] rfl
                        refine vp_callSi (W.runV (As := [.int (nI k), .int (nI (a + 2))]) (rest := []) ⟨hx, hb, hml, hown, hA⟩ (c_M_at l D cL cI h cl sa pa M th 2 σ k (a + 2) hk (by omega) hB) (q_M_at hA k3_66 rfl rfl ⟨(Nat.le_of_ble_eq_true rfl), (Nat.le_of_ble_eq_true rfl)⟩) (ox_V (va_recv hKc hPc (ci := 2) (q0 := 0) rfl rfl) (ox_S hPc hKc)) rfl rfl hl.1 rfl (lv_room (Nat.le_of_ble_eq_true rfl)) d_M_lettered_258 ⟨(Nat.le_of_ble_eq_true rfl), (Nat.le_of_ble_eq_true rfl)⟩) (fun r258 hr258 => ?_)
                        have er258 : r258 = nI ((σ k).1 (a + 2)) := hr258
                        subst er258
                        refine lv_istore (lv' := [(9, .int (nI ((σ k).1 (a + 2)))), (8, .int (nI ((64 * (((σ k).1 a) - 240) + ((σ k).1 (a + 1)) % 64) * 4096 + 4095))), (7, .int (nI ((64 * (((σ k).1 a) - 240) + ((σ k).1 (a + 1)) % 64) * 4096))), (6, .int (nI (64 * (((σ k).1 a) - 240) + ((σ k).1 (a + 1)) % 64))), (5, .int 4), (4, .int (nI ((σ k).1 a))), (0, .ref h), (1, .int (nI k)), (2, .int (nI a)), (3, .int (nI e1))]) hx hb d_M_lettered_261 hl (by decide) rfl (fun ls hl => ?_)
                        refine lv_bipush (v := 64) hx hb d_M_lettered_263 (by decide) ?_
                        refine lv_iload hx hb d_M_lettered_265 (lv_at hl 3 rfl) ?_
                        refine lv_imul hx hb d_M_lettered_267 ?_
                        refine lv_topi (fun v267 ev267 => ?_)
                        have ev267 : v267 = nI (64 * (64 * (((σ k).1 a) - 240) + ((σ k).1 (a + 1)) % 64)) := by rw [ev267]; exact pk_mul 64 _
                        subst ev267
                        refine lv_iload hx hb d_M_lettered_268 (lv_at hl 0 rfl) ?_
                        refine lv_bipush (v := 64) hx hb d_M_lettered_270 (by decide) ?_
                        refine lv_irem hx hb d_M_lettered_272 (by decide) ?_
                        refine lv_topi (fun v272 ev272 => ?_)
                        have ev272 : v272 = nI (((σ k).1 (a + 2)) % 64) := by rw [ev272]; exact pk_rem (d := 64) (by omega) (by decide) (by decide)
                        subst ev272
                        refine lv_iadd hx hb d_M_lettered_273 ?_
                        refine lv_topi (fun v273 ev273 => ?_)
                        have ev273 : v273 = nI (64 * (64 * (((σ k).1 a) - 240) + ((σ k).1 (a + 1)) % 64) + ((σ k).1 (a + 2)) % 64) := by rw [ev273]; exact nI_add _ _
                        subst ev273
                        refine lv_istore (lv' := [(6, .int (nI (64 * (64 * (((σ k).1 a) - 240) + ((σ k).1 (a + 1)) % 64) + ((σ k).1 (a + 2)) % 64))), (9, .int (nI ((σ k).1 (a + 2)))), (8, .int (nI ((64 * (((σ k).1 a) - 240) + ((σ k).1 (a + 1)) % 64) * 4096 + 4095))), (7, .int (nI ((64 * (((σ k).1 a) - 240) + ((σ k).1 (a + 1)) % 64) * 4096))), (5, .int 4), (4, .int (nI ((σ k).1 a))), (0, .ref h), (1, .int (nI k)), (2, .int (nI a)), (3, .int (nI e1))]) hx hb d_M_lettered_274 hl (by decide) rfl (fun ls hl => ?_)
                        refine lv_aload_n hx hb d_M_lettered_276 rfl (lv_at hl 6 rfl) ?_
                        refine lv_iload hx hb d_M_lettered_277 (lv_at hl 1 rfl) ?_
                        refine lv_bipush (v := 64) hx hb d_M_lettered_279 (by decide) ?_
                        refine lv_idiv hx hb d_M_lettered_281 (by decide) ?_
                        refine lv_topi (fun v281 ev281 => ?_)
                        have ev281 : v281 = nI (((σ k).1 (a + 2)) / 64) := by rw [ev281]; exact pk_div (d := 64) (by omega) (by decide) (by decide)
                        subst ev281
                        refine lv_iconst (v := 2) hx hb d_M_lettered_282 (by decide) ?_
                        refine lv_icmp_ne (tgt := 295) hx hb d_M_lettered_283 (by decide) (fun c283 => ?_) (fun c283 => ?_)
                        · have gC2 : ¬ ((σ k).1 (a + 2)) / 64 = 2 := mt (nI_eq (b := 2) (by omega) (by omega)).mpr c283
                          refine lv_bipush (v := (-2)) hx hb d_M_lettered_295 (by decide) ?_
                          refine va_put (D := D) (ci := 2) (v := .int (-2)) (ty := .int) (C := R_M) (T := F_M) (N := 6) hx hb hA i_M t_M t_M_ok n_M hown hK hP hD hS 0 rfl rfl 5 (by decide) (hA _ k2_217) (fun _ h9 => h9) rfl (by decide +kernel) rfl rfl (Nat.le_of_ble_eq_true rfl) d_M_lettered_297 (fun H locs hP hD hS => ?_)
                          have hP : va_P D vCl [(h, .inr (2, [.int th, .int (nI M), .ref cl, .ref sa, .ref pa, .int (-2)])), (cl, .inl (cL, 32768, .inr (.inl (pkF (σ))))), (sa, .inl (cI, 4, .inl (fun i9 => nI ((σ) i9).2.1))), (pa, .inl (cI, 4, .inl (fun i9 => nI ((σ) i9).2.2)))] H := hP
                          have hD : va_D A [(h, .inr (2, [.int th, .int (nI M), .ref cl, .ref sa, .ref pa, .int (-2)])), (cl, .inl (cL, 32768, .inr (.inl (pkF (σ))))), (sa, .inl (cI, 4, .inl (fun i9 => nI ((σ) i9).2.1))), (pa, .inl (cI, 4, .inl (fun i9 => nI ((σ) i9).2.2)))] := hD
                          refine lv_goto (tgt := 148) hx hb d_M_lettered_300 (by decide) ?_
                          refine lv_aload_n hx hb d_M_lettered_148 rfl (lv_at hl 6 rfl) ?_
                          refine va_get (D := D) (ci := 2) (v := .int (-2)) (C := R_M) (T := F_M) (N := 6) hx hb hA i_M hown hK hP 0 rfl rfl 5 (by decide) (hA _ k2_217) (fun _ h9 => h9) rfl d_M_lettered_149 ?_
                          refine lv_if_le (tgt := 303) hx hb d_M_lettered_152 (by decide) (fun _ => ?_) (fun q9 => absurd (by decide) q9)
                          refine lv_iconst (v := 0) hx hb d_M_lettered_303 (by decide) ?_
                          have hla : la (σ k).1 a e1 = -1 := lt8_4c2 hB gE g62 g74 gB1 gE1 gC1 gB2 gE2 gC2
                          exact W.iret (v := 0) hx hb hr (fun t ht hW => ⟨⟨_, (-2), rfl, (Or.inl ⟨hla, rfl, rfl⟩), by rw [ht]; exact hP, va_K.moved hW.alike hK, hD⟩, hS.F ht⟩) hS.2.2 d_M_lettered_304
                        · have gC2 : ((σ k).1 (a + 2)) / 64 = 2 := (nI_eq (b := 2) (by omega) (by omega)).mp c283
                          refine lv_aload_n hx hb d_M_lettered_286 rfl (lv_at hl 6 rfl) ?_
                          refine va_get (D := D) (ci := 2) (v := .int 2) (C := R_M) (T := F_M) (N := 6) hx hb hA i_M hown hK hP 0 rfl rfl 5 (by decide) (hA _ k2_217) (fun _ h9 => h9) rfl d_M_lettered_287 ?_
                          refine lv_iconst (v := 1) hx hb d_M_lettered_290 (by decide) ?_
                          refine lv_iadd hx hb d_M_lettered_291 ?_
                          refine lv_topi (fun v291 ev291 => ?_)
                          have ev291 : v291 = 3 := by rw [ev291]; decide
                          subst ev291
                          refine lv_goto (tgt := 297) hx hb d_M_lettered_292 (by decide) ?_
                          refine va_put (D := D) (ci := 2) (v := .int 3) (ty := .int) (C := R_M) (T := F_M) (N := 6) hx hb hA i_M t_M t_M_ok n_M hown hK hP hD hS 0 rfl rfl 5 (by decide) (hA _ k2_217) (fun _ h9 => h9) rfl (by decide +kernel) rfl rfl (Nat.le_of_ble_eq_true rfl) d_M_lettered_297 (fun H locs hP hD hS => ?_)
                          have hP : va_P D vCl [(h, .inr (2, [.int th, .int (nI M), .ref cl, .ref sa, .ref pa, .int 3])), (cl, .inl (cL, 32768, .inr (.inl (pkF (σ))))), (sa, .inl (cI, 4, .inl (fun i9 => nI ((σ) i9).2.1))), (pa, .inl (cI, 4, .inl (fun i9 => nI ((σ) i9).2.2)))] H := hP
                          have hD : va_D A [(h, .inr (2, [.int th, .int (nI M), .ref cl, .ref sa, .ref pa, .int 3])), (cl, .inl (cL, 32768, .inr (.inl (pkF (σ))))), (sa, .inl (cI, 4, .inl (fun i9 => nI ((σ) i9).2.1))), (pa, .inl (cI, 4, .inl (fun i9 => nI ((σ) i9).2.2)))] := hD
                          refine lv_goto (tgt := 148) hx hb d_M_lettered_300 (by decide) ?_
                          refine lv_aload_n hx hb d_M_lettered_148 rfl (lv_at hl 6 rfl) ?_
                          refine va_get (D := D) (ci := 2) (v := .int 3) (C := R_M) (T := F_M) (N := 6) hx hb hA i_M hown hK hP 0 rfl rfl 5 (by decide) (hA _ k2_217) (fun _ h9 => h9) rfl d_M_lettered_149 ?_
                          refine lv_if_le (tgt := 303) hx hb d_M_lettered_152 (by decide) (fun q9 => absurd q9 (by decide)) (fun _ => ?_)
                          refine lv_aload_n hx hb d_M_lettered_155 rfl (lv_at hl 6 rfl) ?_
                          refine va_get (D := D) (ci := 2) (v := .int 3) (C := R_M) (T := F_M) (N := 6) hx hb hA i_M hown hK hP 0 rfl rfl 5 (by decide) (hA _ k2_217) (fun _ h9 => h9) rfl d_M_lettered_156 ?_
                          refine lv_iload hx hb d_M_lettered_159 (lv_at hl 4 rfl) ?_
                          refine lv_icmp_gt (tgt := 303) hx hb d_M_lettered_161 (by decide) (fun q9 => absurd q9 (by decide)) (fun _ => ?_)
                          refine lv_iload hx hb d_M_lettered_164 (lv_at hl 0 rfl) ?_
                          refine lv_bipush (v := 6) hx hb d_M_lettered_166 (by decide) ?_
                          refine lv_iload hx hb d_M_lettered_168 (lv_at hl 4 rfl) ?_
                          refine lv_aload_n hx hb d_M_lettered_170 rfl (lv_at hl 6 rfl) ?_
                          refine va_get (D := D) (ci := 2) (v := .int 3) (C := R_M) (T := F_M) (N := 6) hx hb hA i_M hown hK hP 0 rfl rfl 5 (by decide) (hA _ k2_217) (fun _ h9 => h9) rfl d_M_lettered_171 ?_
                          refine lv_isub hx hb d_M_lettered_174 ?_
                          refine lv_topi (fun v174 ev174 => ?_)
                          have ev174 : v174 = 1 := by rw [ev174]; decide
                          subst ev174
                          refine lv_imul hx hb d_M_lettered_175 ?_
                          refine lv_topi (fun v175 ev175 => ?_)
                          have ev175 : v175 = 6 := by rw [ev175]; decide
                          subst ev175
                          refine lv_ishl hx hb d_M_lettered_176 ?_
                          refine lv_topi (fun v176 ev176 => ?_)
                          have ev176 : v176 = nI ((64 * (64 * (((σ k).1 a) - 240) + ((σ k).1 (a + 1)) % 64) + ((σ k).1 (a + 2)) % 64) * 64) := by rw [ev176]; exact (sh_n (k := 6) (by decide) (by omega)).trans rfl
                          subst ev176
                          refine lv_istore (lv' := [(7, .int (nI ((64 * (64 * (((σ k).1 a) - 240) + ((σ k).1 (a + 1)) % 64) + ((σ k).1 (a + 2)) % 64) * 64))), (6, .int (nI (64 * (64 * (((σ k).1 a) - 240) + ((σ k).1 (a + 1)) % 64) + ((σ k).1 (a + 2)) % 64))), (9, .int (nI ((σ k).1 (a + 2)))), (8, .int (nI ((64 * (((σ k).1 a) - 240) + ((σ k).1 (a + 1)) % 64) * 4096 + 4095))), (5, .int 4), (4, .int (nI ((σ k).1 a))), (0, .ref h), (1, .int (nI k)), (2, .int (nI a)), (3, .int (nI e1))]) hx hb d_M_lettered_177 hl (by decide) rfl (fun ls hl => ?_)
                          refine lv_iload hx hb d_M_lettered_179 (lv_at hl 0 rfl) ?_
                          refine lv_iconst (v := 1) hx hb d_M_lettered_181 (by decide) ?_
                          refine lv_bipush (v := 6) hx hb d_M_lettered_182 (by decide) ?_
                          refine lv_iload hx hb d_M_lettered_184 (lv_at hl 4 rfl) ?_
                          refine lv_aload_n hx hb d_M_lettered_186 rfl (lv_at hl 6 rfl) ?_
                          refine va_get (D := D) (ci := 2) (v := .int 3) (C := R_M) (T := F_M) (N := 6) hx hb hA i_M hown hK hP 0 rfl rfl 5 (by decide) (hA _ k2_217) (fun _ h9 => h9) rfl d_M_lettered_187 ?_
                          refine lv_isub hx hb d_M_lettered_190 ?_
                          refine lv_topi (fun v190 ev190 => ?_)
                          have ev190 : v190 = 1 := by rw [ev190]; decide
                          subst ev190
                          refine lv_imul hx hb d_M_lettered_191 ?_
                          refine lv_topi (fun v191 ev191 => ?_)
                          have ev191 : v191 = 6 := by rw [ev191]; decide
                          subst ev191
                          refine lv_ishl hx hb d_M_lettered_192 ?_
                          refine lv_topi (fun v192 ev192 => ?_)
                          have ev192 : v192 = 64 := by rw [ev192]; decide
                          subst ev192
                          refine lv_iadd hx hb d_M_lettered_193 ?_
                          refine lv_topi (fun v193 ev193 => ?_)
                          have ev193 : v193 = nI ((64 * (64 * (((σ k).1 a) - 240) + ((σ k).1 (a + 1)) % 64) + ((σ k).1 (a + 2)) % 64) * 64 + 64) := by rw [ev193]; exact nI_add _ 64
                          subst ev193
                          refine lv_iconst (v := 1) hx hb d_M_lettered_194 (by decide) ?_
                          refine lv_isub hx hb d_M_lettered_195 ?_
                          refine lv_topi (fun v195 ev195 => ?_)
                          have ev195 : v195 = nI ((64 * (64 * (((σ k).1 a) - 240) + ((σ k).1 (a + 1)) % 64) + ((σ k).1 (a + 2)) % 64) * 64 + 63) := by rw [ev195]; exact (pk_sub (b := 1) (by omega)).trans (congrArg nI (by omega))
                          subst ev195
                          refine lv_istore (lv' := [(8, .int (nI ((64 * (64 * (((σ k).1 a) - 240) + ((σ k).1 (a + 1)) % 64) + ((σ k).1 (a + 2)) % 64) * 64 + 63))), (7, .int (nI ((64 * (64 * (((σ k).1 a) - 240) + ((σ k).1 (a + 1)) % 64) + ((σ k).1 (a + 2)) % 64) * 64))), (6, .int (nI (64 * (64 * (((σ k).1 a) - 240) + ((σ k).1 (a + 1)) % 64) + ((σ k).1 (a + 2)) % 64))), (9, .int (nI ((σ k).1 (a + 2)))), (5, .int 4), (4, .int (nI ((σ k).1 a))), (0, .ref h), (1, .int (nI k)), (2, .int (nI a)), (3, .int (nI e1))]) hx hb d_M_lettered_196 hl (by decide) rfl (fun ls hl => ?_)
                          refine lv_iload hx hb d_M_lettered_198 (lv_at hl 4 rfl) ?_
                          refine lv_iload hx hb d_M_lettered_200 (lv_at hl 1 rfl) ?_
                          refine lv_iload hx hb d_M_lettered_202 (lv_at hl 0 rfl) ?_
                          refine vp_callSi (W.runS (As := [.int 4, .int (nI ((64 * (64 * (((σ k).1 a) - 240) + ((σ k).1 (a + 1)) % 64) + ((σ k).1 (a + 2)) % 64) * 64)), .int (nI ((64 * (64 * (((σ k).1 a) - 240) + ((σ k).1 (a + 1)) % 64) + ((σ k).1 (a + 2)) % 64) * 64 + 63))]) (rest := []) ⟨hx, hb, hml, hown, hA⟩ (c_M_canBe l 4 ((64 * (64 * (((σ k).1 a) - 240) + ((σ k).1 (a + 1)) % 64) + ((σ k).1 (a + 2)) % 64) * 64) ((64 * (64 * (((σ k).1 a) - 240) + ((σ k).1 (a + 1)) % 64) + ((σ k).1 (a + 2)) % 64) * 64 + 63) (by decide) (by omega) (by omega)) (q_M_canBe hA k3_132 rfl rfl ⟨(Nat.le_of_ble_eq_true rfl), (Nat.le_of_ble_eq_true rfl)⟩) (⟨fun a U g mk q => q, fun U hU hW => ⟨rfl, trivial⟩⟩) rfl rfl hl.1 rfl (lv_room (Nat.le_of_ble_eq_true rfl)) d_M_lettered_204 ⟨(Nat.le_of_ble_eq_true rfl), (Nat.le_of_ble_eq_true rfl)⟩) (fun r204 hr204 => ?_)
                          rcases hr204 with ⟨gB3, rfl⟩ | ⟨gB3, rfl⟩
                          · refine lv_if_ne (tgt := 219) hx hb d_M_lettered_207 (by decide) (fun _ => ?_) (fun q9 => absurd q9 (by decide))
                            refine lv_aload_n hx hb d_M_lettered_219 rfl (lv_at hl 6 rfl) ?_
                            refine va_get (D := D) (ci := 2) (v := .int 3) (C := R_M) (T := F_M) (N := 6) hx hb hA i_M hown hK hP 0 rfl rfl 5 (by decide) (hA _ k2_217) (fun _ h9 => h9) rfl d_M_lettered_220 ?_
                            refine lv_iload hx hb d_M_lettered_223 (lv_at hl 4 rfl) ?_
                            refine lv_icmp_ne (tgt := 231) hx hb d_M_lettered_225 (by decide) (fun _ => ?_) (fun q9 => absurd q9 (by decide))
                            refine lv_iload_n hx hb d_M_lettered_231 rfl (lv_at hl 8 rfl) ?_
                            refine lv_aload_n hx hb d_M_lettered_232 rfl (lv_at hl 6 rfl) ?_
                            refine va_get (D := D) (ci := 2) (v := .int 3) (C := R_M) (T := F_M) (N := 6) hx hb hA i_M hown hK hP 0 rfl rfl 5 (by decide) (hA _ k2_217) (fun _ h9 => h9) rfl d_M_lettered_233 ?_
                            refine lv_iadd hx hb d_M_lettered_236 ?_
                            refine lv_topi (fun v236 ev236 => ?_)
                            have ev236 : v236 = nI (a + 3) := by rw [ev236]; exact nI_add a 3
                            subst ev236
                            refine lv_iload_n hx hb d_M_lettered_237 rfl (lv_at hl 9 rfl) ?_
                            refine lv_icmp_lt (tgt := 250) hx hb d_M_lettered_238 (by decide) (fun c238 => ?_) (fun c238 => ?_)
                            · have gE3 : a + 3 < e1 := (nI_ltI (a := a + 3) (b := e1) (by omega) (by omega)).mp c238
                              have g83 := hB (a + 3)
                              refine lv_aload_n hx hb d_M_lettered_250 rfl (lv_at hl 6 rfl) ?_
                              refine lv_iload_n hx hb d_M_lettered_251 rfl (lv_at hl 7 rfl) ?_
                              refine lv_iload_n hx hb d_M_lettered_252 rfl (lv_at hl 8 rfl) ?_
                              refine lv_aload_n hx hb d_M_lettered_253 rfl (lv_at hl 6 rfl) ?_
                              refine va_get (D := D) (ci := 2) (v := .int 3) (C := R_M) (T := F_M) (N := 6) hx hb hA i_M hown hK hP 0 rfl rfl 5 (by decide) (hA _ k2_217) (fun _ h9 => h9) rfl d_M_lettered_254 ?_
                              refine lv_iadd hx hb d_M_lettered_257 ?_
                              refine lv_topi (fun v257 ev257 => ?_)
                              have ev257 : v257 = nI (a + 3) := by rw [ev257]; exact nI_add a 3
                              subst ev257
                              have hPc := hP.sub (ws' := [(h, .inr (2, [.int th, .int (nI M), .ref cl, .ref sa, .ref pa, .int 3])), (cl, .inl (cL, 32768, .inr (.inl (pkF (σ))))), (sa, .inl (cI, 4, .inl (fun i9 => nI ((σ) i9).2.1))), (pa, .inl (cI, 4, .inl (fun i9 => nI ((σ) i9).2.2)))]) [0, 1, 2, 3] rfl
                              have hKc := hK.sub (tys' := [(cL, .long), (cI, .int)]) [0, 1] rfl
                              refine vp_callSi (W.runV (As := [.int (nI k), .int (nI (a + 3))]) (rest := []) ⟨hx, hb, hml, hown, hA⟩ (c_M_at l D cL cI h cl sa pa M th 3 σ k (a + 3) hk (by omega) hB) (q_M_at hA k3_66 rfl rfl ⟨(Nat.le_of_ble_eq_true rfl), (Nat.le_of_ble_eq_true rfl)⟩) (ox_V (va_recv hKc hPc (ci := 2) (q0 := 0) rfl rfl) (ox_S hPc hKc)) rfl rfl hl.1 rfl (lv_room (Nat.le_of_ble_eq_true rfl)) d_M_lettered_258 ⟨(Nat.le_of_ble_eq_true rfl), (Nat.le_of_ble_eq_true rfl)⟩) (fun r258 hr258 => ?_)
                              have er258 : r258 = nI ((σ k).1 (a + 3)) := hr258
                              subst er258
                              refine lv_istore (lv' := [(9, .int (nI ((σ k).1 (a + 3)))), (8, .int (nI ((64 * (64 * (((σ k).1 a) - 240) + ((σ k).1 (a + 1)) % 64) + ((σ k).1 (a + 2)) % 64) * 64 + 63))), (7, .int (nI ((64 * (64 * (((σ k).1 a) - 240) + ((σ k).1 (a + 1)) % 64) + ((σ k).1 (a + 2)) % 64) * 64))), (6, .int (nI (64 * (64 * (((σ k).1 a) - 240) + ((σ k).1 (a + 1)) % 64) + ((σ k).1 (a + 2)) % 64))), (5, .int 4), (4, .int (nI ((σ k).1 a))), (0, .ref h), (1, .int (nI k)), (2, .int (nI a)), (3, .int (nI e1))]) hx hb d_M_lettered_261 hl (by decide) rfl (fun ls hl => ?_)
                              refine lv_bipush (v := 64) hx hb d_M_lettered_263 (by decide) ?_
                              refine lv_iload hx hb d_M_lettered_265 (lv_at hl 3 rfl) ?_
                              refine lv_imul hx hb d_M_lettered_267 ?_
                              refine lv_topi (fun v267 ev267 => ?_)
                              have ev267 : v267 = nI (64 * (64 * (64 * (((σ k).1 a) - 240) + ((σ k).1 (a + 1)) % 64) + ((σ k).1 (a + 2)) % 64)) := by rw [ev267]; exact pk_mul 64 _
                              subst ev267
                              refine lv_iload hx hb d_M_lettered_268 (lv_at hl 0 rfl) ?_
                              refine lv_bipush (v := 64) hx hb d_M_lettered_270 (by decide) ?_
                              refine lv_irem hx hb d_M_lettered_272 (by decide) ?_
                              refine lv_topi (fun v272 ev272 => ?_)
                              have ev272 : v272 = nI (((σ k).1 (a + 3)) % 64) := by rw [ev272]; exact pk_rem (d := 64) (by omega) (by decide) (by decide)
                              subst ev272
                              refine lv_iadd hx hb d_M_lettered_273 ?_
                              refine lv_topi (fun v273 ev273 => ?_)
                              have ev273 : v273 = nI (64 * (64 * (64 * (((σ k).1 a) - 240) + ((σ k).1 (a + 1)) % 64) + ((σ k).1 (a + 2)) % 64) + ((σ k).1 (a + 3)) % 64) := by rw [ev273]; exact nI_add _ _
                              subst ev273
                              refine lv_istore (lv' := [(6, .int (nI (64 * (64 * (64 * (((σ k).1 a) - 240) + ((σ k).1 (a + 1)) % 64) + ((σ k).1 (a + 2)) % 64) + ((σ k).1 (a + 3)) % 64))), (9, .int (nI ((σ k).1 (a + 3)))), (8, .int (nI ((64 * (64 * (((σ k).1 a) - 240) + ((σ k).1 (a + 1)) % 64) + ((σ k).1 (a + 2)) % 64) * 64 + 63))), (7, .int (nI ((64 * (64 * (((σ k).1 a) - 240) + ((σ k).1 (a + 1)) % 64) + ((σ k).1 (a + 2)) % 64) * 64))), (5, .int 4), (4, .int (nI ((σ k).1 a))), (0, .ref h), (1, .int (nI k)), (2, .int (nI a)), (3, .int (nI e1))]) hx hb d_M_lettered_274 hl (by decide) rfl (fun ls hl => ?_)
                              refine lv_aload_n hx hb d_M_lettered_276 rfl (lv_at hl 6 rfl) ?_
                              refine lv_iload hx hb d_M_lettered_277 (lv_at hl 1 rfl) ?_
                              refine lv_bipush (v := 64) hx hb d_M_lettered_279 (by decide) ?_
                              refine lv_idiv hx hb d_M_lettered_281 (by decide) ?_
                              refine lv_topi (fun v281 ev281 => ?_)
                              have ev281 : v281 = nI (((σ k).1 (a + 3)) / 64) := by rw [ev281]; exact pk_div (d := 64) (by omega) (by decide) (by decide)
                              subst ev281
                              refine lv_iconst (v := 2) hx hb d_M_lettered_282 (by decide) ?_
                              refine lv_icmp_ne (tgt := 295) hx hb d_M_lettered_283 (by decide) (fun c283 => ?_) (fun c283 => ?_)
                              · have gC3 : ¬ ((σ k).1 (a + 3)) / 64 = 2 := mt (nI_eq (b := 2) (by omega) (by omega)).mpr c283
                                refine lv_bipush (v := (-2)) hx hb d_M_lettered_295 (by decide) ?_
                                refine va_put (D := D) (ci := 2) (v := .int (-2)) (ty := .int) (C := R_M) (T := F_M) (N := 6) hx hb hA i_M t_M t_M_ok n_M hown hK hP hD hS 0 rfl rfl 5 (by decide) (hA _ k2_217) (fun _ h9 => h9) rfl (by decide +kernel) rfl rfl (Nat.le_of_ble_eq_true rfl) d_M_lettered_297 (fun H locs hP hD hS => ?_)
                                have hP : va_P D vCl [(h, .inr (2, [.int th, .int (nI M), .ref cl, .ref sa, .ref pa, .int (-2)])), (cl, .inl (cL, 32768, .inr (.inl (pkF (σ))))), (sa, .inl (cI, 4, .inl (fun i9 => nI ((σ) i9).2.1))), (pa, .inl (cI, 4, .inl (fun i9 => nI ((σ) i9).2.2)))] H := hP
                                have hD : va_D A [(h, .inr (2, [.int th, .int (nI M), .ref cl, .ref sa, .ref pa, .int (-2)])), (cl, .inl (cL, 32768, .inr (.inl (pkF (σ))))), (sa, .inl (cI, 4, .inl (fun i9 => nI ((σ) i9).2.1))), (pa, .inl (cI, 4, .inl (fun i9 => nI ((σ) i9).2.2)))] := hD
                                refine lv_goto (tgt := 148) hx hb d_M_lettered_300 (by decide) ?_
                                refine lv_aload_n hx hb d_M_lettered_148 rfl (lv_at hl 6 rfl) ?_
                                refine va_get (D := D) (ci := 2) (v := .int (-2)) (C := R_M) (T := F_M) (N := 6) hx hb hA i_M hown hK hP 0 rfl rfl 5 (by decide) (hA _ k2_217) (fun _ h9 => h9) rfl d_M_lettered_149 ?_
                                refine lv_if_le (tgt := 303) hx hb d_M_lettered_152 (by decide) (fun _ => ?_) (fun q9 => absurd (by decide) q9)
                                refine lv_iconst (v := 0) hx hb d_M_lettered_303 (by decide) ?_
                                have hla : la (σ k).1 a e1 = -1 := lt8_4c3 hB gE g62 g74 gB1 gE1 gC1 gB2 gE2 gC2 gB3 gE3 gC3
                                exact W.iret (v := 0) hx hb hr (fun t ht hW => ⟨⟨_, (-2), rfl, (Or.inl ⟨hla, rfl, rfl⟩), by rw [ht]; exact hP, va_K.moved hW.alike hK, hD⟩, hS.F ht⟩) hS.2.2 d_M_lettered_304
                              · have gC3 : ((σ k).1 (a + 3)) / 64 = 2 := (nI_eq (b := 2) (by omega) (by omega)).mp c283
                                refine lv_aload_n hx hb d_M_lettered_286 rfl (lv_at hl 6 rfl) ?_
                                refine va_get (D := D) (ci := 2) (v := .int 3) (C := R_M) (T := F_M) (N := 6) hx hb hA i_M hown hK hP 0 rfl rfl 5 (by decide) (hA _ k2_217) (fun _ h9 => h9) rfl d_M_lettered_287 ?_
                                refine lv_iconst (v := 1) hx hb d_M_lettered_290 (by decide) ?_
                                refine lv_iadd hx hb d_M_lettered_291 ?_
                                refine lv_topi (fun v291 ev291 => ?_)
                                have ev291 : v291 = 4 := by rw [ev291]; decide
                                subst ev291
                                refine lv_goto (tgt := 297) hx hb d_M_lettered_292 (by decide) ?_
                                refine va_put (D := D) (ci := 2) (v := .int 4) (ty := .int) (C := R_M) (T := F_M) (N := 6) hx hb hA i_M t_M t_M_ok n_M hown hK hP hD hS 0 rfl rfl 5 (by decide) (hA _ k2_217) (fun _ h9 => h9) rfl (by decide +kernel) rfl rfl (Nat.le_of_ble_eq_true rfl) d_M_lettered_297 (fun H locs hP hD hS => ?_)
                                have hP : va_P D vCl [(h, .inr (2, [.int th, .int (nI M), .ref cl, .ref sa, .ref pa, .int 4])), (cl, .inl (cL, 32768, .inr (.inl (pkF (σ))))), (sa, .inl (cI, 4, .inl (fun i9 => nI ((σ) i9).2.1))), (pa, .inl (cI, 4, .inl (fun i9 => nI ((σ) i9).2.2)))] H := hP
                                have hD : va_D A [(h, .inr (2, [.int th, .int (nI M), .ref cl, .ref sa, .ref pa, .int 4])), (cl, .inl (cL, 32768, .inr (.inl (pkF (σ))))), (sa, .inl (cI, 4, .inl (fun i9 => nI ((σ) i9).2.1))), (pa, .inl (cI, 4, .inl (fun i9 => nI ((σ) i9).2.2)))] := hD
                                refine lv_goto (tgt := 148) hx hb d_M_lettered_300 (by decide) ?_
                                refine lv_aload_n hx hb d_M_lettered_148 rfl (lv_at hl 6 rfl) ?_
                                refine va_get (D := D) (ci := 2) (v := .int 4) (C := R_M) (T := F_M) (N := 6) hx hb hA i_M hown hK hP 0 rfl rfl 5 (by decide) (hA _ k2_217) (fun _ h9 => h9) rfl d_M_lettered_149 ?_
                                refine lv_if_le (tgt := 303) hx hb d_M_lettered_152 (by decide) (fun q9 => absurd q9 (by decide)) (fun _ => ?_)
                                refine lv_aload_n hx hb d_M_lettered_155 rfl (lv_at hl 6 rfl) ?_
                                refine va_get (D := D) (ci := 2) (v := .int 4) (C := R_M) (T := F_M) (N := 6) hx hb hA i_M hown hK hP 0 rfl rfl 5 (by decide) (hA _ k2_217) (fun _ h9 => h9) rfl d_M_lettered_156 ?_
                                refine lv_iload hx hb d_M_lettered_159 (lv_at hl 4 rfl) ?_
                                refine lv_icmp_gt (tgt := 303) hx hb d_M_lettered_161 (by decide) (fun q9 => absurd q9 (by decide)) (fun _ => ?_)
                                refine lv_iload hx hb d_M_lettered_164 (lv_at hl 0 rfl) ?_
                                refine lv_bipush (v := 6) hx hb d_M_lettered_166 (by decide) ?_
                                refine lv_iload hx hb d_M_lettered_168 (lv_at hl 4 rfl) ?_
                                refine lv_aload_n hx hb d_M_lettered_170 rfl (lv_at hl 6 rfl) ?_
                                refine va_get (D := D) (ci := 2) (v := .int 4) (C := R_M) (T := F_M) (N := 6) hx hb hA i_M hown hK hP 0 rfl rfl 5 (by decide) (hA _ k2_217) (fun _ h9 => h9) rfl d_M_lettered_171 ?_
                                refine lv_isub hx hb d_M_lettered_174 ?_
                                refine lv_topi (fun v174 ev174 => ?_)
                                have ev174 : v174 = 0 := by rw [ev174]; decide
                                subst ev174
                                refine lv_imul hx hb d_M_lettered_175 ?_
                                refine lv_topi (fun v175 ev175 => ?_)
                                have ev175 : v175 = 0 := by rw [ev175]; decide
                                subst ev175
                                refine lv_ishl hx hb d_M_lettered_176 ?_
                                refine lv_topi (fun v176 ev176 => ?_)
                                have ev176 : v176 = nI ((64 * (64 * (64 * (((σ k).1 a) - 240) + ((σ k).1 (a + 1)) % 64) + ((σ k).1 (a + 2)) % 64) + ((σ k).1 (a + 3)) % 64) * 1) := by rw [ev176]; exact (sh_n (k := 0) (by decide) (by omega)).trans rfl
                                subst ev176
                                refine lv_istore (lv' := [(7, .int (nI ((64 * (64 * (64 * (((σ k).1 a) - 240) + ((σ k).1 (a + 1)) % 64) + ((σ k).1 (a + 2)) % 64) + ((σ k).1 (a + 3)) % 64) * 1))), (6, .int (nI (64 * (64 * (64 * (((σ k).1 a) - 240) + ((σ k).1 (a + 1)) % 64) + ((σ k).1 (a + 2)) % 64) + ((σ k).1 (a + 3)) % 64))), (9, .int (nI ((σ k).1 (a + 3)))), (8, .int (nI ((64 * (64 * (((σ k).1 a) - 240) + ((σ k).1 (a + 1)) % 64) + ((σ k).1 (a + 2)) % 64) * 64 + 63))), (5, .int 4), (4, .int (nI ((σ k).1 a))), (0, .ref h), (1, .int (nI k)), (2, .int (nI a)), (3, .int (nI e1))]) hx hb d_M_lettered_177 hl (by decide) rfl (fun ls hl => ?_)
                                refine lv_iload hx hb d_M_lettered_179 (lv_at hl 0 rfl) ?_
                                refine lv_iconst (v := 1) hx hb d_M_lettered_181 (by decide) ?_
                                refine lv_bipush (v := 6) hx hb d_M_lettered_182 (by decide) ?_
                                refine lv_iload hx hb d_M_lettered_184 (lv_at hl 4 rfl) ?_
                                refine lv_aload_n hx hb d_M_lettered_186 rfl (lv_at hl 6 rfl) ?_
                                refine va_get (D := D) (ci := 2) (v := .int 4) (C := R_M) (T := F_M) (N := 6) hx hb hA i_M hown hK hP 0 rfl rfl 5 (by decide) (hA _ k2_217) (fun _ h9 => h9) rfl d_M_lettered_187 ?_
                                refine lv_isub hx hb d_M_lettered_190 ?_
                                refine lv_topi (fun v190 ev190 => ?_)
                                have ev190 : v190 = 0 := by rw [ev190]; decide
                                subst ev190
                                refine lv_imul hx hb d_M_lettered_191 ?_
                                refine lv_topi (fun v191 ev191 => ?_)
                                have ev191 : v191 = 0 := by rw [ev191]; decide
                                subst ev191
                                refine lv_ishl hx hb d_M_lettered_192 ?_
                                refine lv_topi (fun v192 ev192 => ?_)
                                have ev192 : v192 = 1 := by rw [ev192]; decide
                                subst ev192
                                refine lv_iadd hx hb d_M_lettered_193 ?_
                                refine lv_topi (fun v193 ev193 => ?_)
                                have ev193 : v193 = nI ((64 * (64 * (64 * (((σ k).1 a) - 240) + ((σ k).1 (a + 1)) % 64) + ((σ k).1 (a + 2)) % 64) + ((σ k).1 (a + 3)) % 64) * 1 + 1) := by rw [ev193]; exact nI_add _ 1
                                subst ev193
                                refine lv_iconst (v := 1) hx hb d_M_lettered_194 (by decide) ?_
                                refine lv_isub hx hb d_M_lettered_195 ?_
                                refine lv_topi (fun v195 ev195 => ?_)
                                have ev195 : v195 = nI ((64 * (64 * (64 * (((σ k).1 a) - 240) + ((σ k).1 (a + 1)) % 64) + ((σ k).1 (a + 2)) % 64) + ((σ k).1 (a + 3)) % 64) * 1 + 0) := by rw [ev195]; exact (pk_sub (b := 1) (by omega)).trans (congrArg nI (by omega))
                                subst ev195
                                refine lv_istore (lv' := [(8, .int (nI ((64 * (64 * (64 * (((σ k).1 a) - 240) + ((σ k).1 (a + 1)) % 64) + ((σ k).1 (a + 2)) % 64) + ((σ k).1 (a + 3)) % 64) * 1 + 0))), (7, .int (nI ((64 * (64 * (64 * (((σ k).1 a) - 240) + ((σ k).1 (a + 1)) % 64) + ((σ k).1 (a + 2)) % 64) + ((σ k).1 (a + 3)) % 64) * 1))), (6, .int (nI (64 * (64 * (64 * (((σ k).1 a) - 240) + ((σ k).1 (a + 1)) % 64) + ((σ k).1 (a + 2)) % 64) + ((σ k).1 (a + 3)) % 64))), (9, .int (nI ((σ k).1 (a + 3)))), (5, .int 4), (4, .int (nI ((σ k).1 a))), (0, .ref h), (1, .int (nI k)), (2, .int (nI a)), (3, .int (nI e1))]) hx hb d_M_lettered_196 hl (by decide) rfl (fun ls hl => ?_)
                                refine lv_iload hx hb d_M_lettered_198 (lv_at hl 4 rfl) ?_
                                refine lv_iload hx hb d_M_lettered_200 (lv_at hl 1 rfl) ?_
                                refine lv_iload hx hb d_M_lettered_202 (lv_at hl 0 rfl) ?_
                                refine vp_callSi (W.runS (As := [.int 4, .int (nI ((64 * (64 * (64 * (((σ k).1 a) - 240) + ((σ k).1 (a + 1)) % 64) + ((σ k).1 (a + 2)) % 64) + ((σ k).1 (a + 3)) % 64) * 1)), .int (nI ((64 * (64 * (64 * (((σ k).1 a) - 240) + ((σ k).1 (a + 1)) % 64) + ((σ k).1 (a + 2)) % 64) + ((σ k).1 (a + 3)) % 64) * 1 + 0))]) (rest := []) ⟨hx, hb, hml, hown, hA⟩ (c_M_canBe l 4 ((64 * (64 * (64 * (((σ k).1 a) - 240) + ((σ k).1 (a + 1)) % 64) + ((σ k).1 (a + 2)) % 64) + ((σ k).1 (a + 3)) % 64) * 1) ((64 * (64 * (64 * (((σ k).1 a) - 240) + ((σ k).1 (a + 1)) % 64) + ((σ k).1 (a + 2)) % 64) + ((σ k).1 (a + 3)) % 64) * 1 + 0) (by decide) (by omega) (by omega)) (q_M_canBe hA k3_132 rfl rfl ⟨(Nat.le_of_ble_eq_true rfl), (Nat.le_of_ble_eq_true rfl)⟩) (⟨fun a U g mk q => q, fun U hU hW => ⟨rfl, trivial⟩⟩) rfl rfl hl.1 rfl (lv_room (Nat.le_of_ble_eq_true rfl)) d_M_lettered_204 ⟨(Nat.le_of_ble_eq_true rfl), (Nat.le_of_ble_eq_true rfl)⟩) (fun r204 hr204 => ?_)
                                rcases hr204 with ⟨gB4, rfl⟩ | ⟨gB4, rfl⟩
                                · refine lv_if_ne (tgt := 219) hx hb d_M_lettered_207 (by decide) (fun _ => ?_) (fun q9 => absurd q9 (by decide))
                                  refine lv_aload_n hx hb d_M_lettered_219 rfl (lv_at hl 6 rfl) ?_
                                  refine va_get (D := D) (ci := 2) (v := .int 4) (C := R_M) (T := F_M) (N := 6) hx hb hA i_M hown hK hP 0 rfl rfl 5 (by decide) (hA _ k2_217) (fun _ h9 => h9) rfl d_M_lettered_220 ?_
                                  refine lv_iload hx hb d_M_lettered_223 (lv_at hl 4 rfl) ?_
                                  refine lv_icmp_ne (tgt := 231) hx hb d_M_lettered_225 (by decide) (fun q9 => absurd (by decide) q9) (fun _ => ?_)
                                  refine lv_iload hx hb d_M_lettered_228 (lv_at hl 2 rfl) ?_
                                  have hla : la (σ k).1 a e1 = (((64 * (64 * (64 * (((σ k).1 a) - 240) + ((σ k).1 (a + 1)) % 64) + ((σ k).1 (a + 2)) % 64) + ((σ k).1 (a + 3)) % 64) : Nat) : Int) := lt8_4g hB gE g62 g74 gB1 gE1 gC1 gB2 gE2 gC2 gB3 gE3 gC3 gB4
                                  have hlw : lwI (((64 * (64 * (64 * (((σ k).1 a) - 240) + ((σ k).1 (a + 1)) % 64) + ((σ k).1 (a + 2)) % 64) + ((σ k).1 (a + 3)) % 64) : Nat) : Int) = 4 := lt8_4w hB gE g62 g74 gB1 gE1 gC1 gB2 gE2 gC2 gB3 gE3 gC3 gB4
                                  exact W.iret (v := nI (64 * (64 * (64 * (((σ k).1 a) - 240) + ((σ k).1 (a + 1)) % 64) + ((σ k).1 (a + 2)) % 64) + ((σ k).1 (a + 3)) % 64)) hx hb hr (fun t ht hW => ⟨⟨_, 4, rfl, (Or.inr (Or.inr ⟨by rw [hla]; exact Int.natCast_nonneg _, by rw [hla, hlw]; rfl, by rw [hla]; rfl⟩)), by rw [ht]; exact hP, va_K.moved hW.alike hK, hD⟩, hS.F ht⟩) hS.2.2 d_M_lettered_230
                                · refine lv_if_ne (tgt := 219) hx hb d_M_lettered_207 (by decide) (fun q9 => absurd (by decide) q9) (fun _ => ?_)
                                  exact absurd (lt8_4t4 hB gE g62 g74 gB1 gE1 gC1 gB2 gE2 gC2 gB3 gE3 gC3) gB4
                            · have gE3 : e1 ≤ a + 3 := by have := mt (nI_ltI (a := a + 3) (b := e1) (by omega) (by omega)).mpr c238; omega
                              refine lv_aload_n hx hb d_M_lettered_241 rfl (lv_at hl 6 rfl) ?_
                              refine lv_bipush (v := (-3)) hx hb d_M_lettered_242 (by decide) ?_
                              refine va_put (D := D) (ci := 2) (v := .int (-3)) (ty := .int) (C := R_M) (T := F_M) (N := 6) hx hb hA i_M t_M t_M_ok n_M hown hK hP hD hS 0 rfl rfl 5 (by decide) (hA _ k2_217) (fun _ h9 => h9) rfl (by decide +kernel) rfl rfl (Nat.le_of_ble_eq_true rfl) d_M_lettered_244 (fun H locs hP hD hS => ?_)
                              have hP : va_P D vCl [(h, .inr (2, [.int th, .int (nI M), .ref cl, .ref sa, .ref pa, .int (-3)])), (cl, .inl (cL, 32768, .inr (.inl (pkF (σ))))), (sa, .inl (cI, 4, .inl (fun i9 => nI ((σ) i9).2.1))), (pa, .inl (cI, 4, .inl (fun i9 => nI ((σ) i9).2.2)))] H := hP
                              have hD : va_D A [(h, .inr (2, [.int th, .int (nI M), .ref cl, .ref sa, .ref pa, .int (-3)])), (cl, .inl (cL, 32768, .inr (.inl (pkF (σ))))), (sa, .inl (cI, 4, .inl (fun i9 => nI ((σ) i9).2.1))), (pa, .inl (cI, 4, .inl (fun i9 => nI ((σ) i9).2.2)))] := hD
                              refine lv_goto (tgt := 300) hx hb d_M_lettered_247 (by decide) ?_
                              refine lv_goto (tgt := 148) hx hb d_M_lettered_300 (by decide) ?_
                              refine lv_aload_n hx hb d_M_lettered_148 rfl (lv_at hl 6 rfl) ?_
                              refine va_get (D := D) (ci := 2) (v := .int (-3)) (C := R_M) (T := F_M) (N := 6) hx hb hA i_M hown hK hP 0 rfl rfl 5 (by decide) (hA _ k2_217) (fun _ h9 => h9) rfl d_M_lettered_149 ?_
                              refine lv_if_le (tgt := 303) hx hb d_M_lettered_152 (by decide) (fun _ => ?_) (fun q9 => absurd (by decide) q9)
                              refine lv_iconst (v := 0) hx hb d_M_lettered_303 (by decide) ?_
                              have hla : la (σ k).1 a e1 = -2 := lt8_4e3 hB gE g62 g74 gB1 gE1 gC1 gB2 gE2 gC2 gB3 gE3
                              exact W.iret (v := 0) hx hb hr (fun t ht hW => ⟨⟨_, (-3), rfl, (Or.inr <| Or.inl ⟨hla, rfl, rfl⟩), by rw [ht]; exact hP, va_K.moved hW.alike hK, hD⟩, hS.F ht⟩) hS.2.2 d_M_lettered_304
                          · refine lv_if_ne (tgt := 219) hx hb d_M_lettered_207 (by decide) (fun q9 => absurd (by decide) q9) (fun _ => ?_)
                            exact absurd (lt8_4t3 hB gE g62 g74 gB1 gE1 gC1 gB2 gE2 gC2) gB3
                      · have gE2 : e1 ≤ a + 2 := by have := mt (nI_ltI (a := a + 2) (b := e1) (by omega) (by omega)).mpr c238; omega
                        refine lv_aload_n hx hb d_M_lettered_241 rfl (lv_at hl 6 rfl) ?_
                        refine lv_bipush (v := (-3)) hx hb d_M_lettered_242 (by decide) ?_
                        refine va_put (D := D) (ci := 2) (v := .int (-3)) (ty := .int) (C := R_M) (T := F_M) (N := 6) hx hb hA i_M t_M t_M_ok n_M hown hK hP hD hS 0 rfl rfl 5 (by decide) (hA _ k2_217) (fun _ h9 => h9) rfl (by decide +kernel) rfl rfl (Nat.le_of_ble_eq_true rfl) d_M_lettered_244 (fun H locs hP hD hS => ?_)
                        have hP : va_P D vCl [(h, .inr (2, [.int th, .int (nI M), .ref cl, .ref sa, .ref pa, .int (-3)])), (cl, .inl (cL, 32768, .inr (.inl (pkF (σ))))), (sa, .inl (cI, 4, .inl (fun i9 => nI ((σ) i9).2.1))), (pa, .inl (cI, 4, .inl (fun i9 => nI ((σ) i9).2.2)))] H := hP
                        have hD : va_D A [(h, .inr (2, [.int th, .int (nI M), .ref cl, .ref sa, .ref pa, .int (-3)])), (cl, .inl (cL, 32768, .inr (.inl (pkF (σ))))), (sa, .inl (cI, 4, .inl (fun i9 => nI ((σ) i9).2.1))), (pa, .inl (cI, 4, .inl (fun i9 => nI ((σ) i9).2.2)))] := hD
                        refine lv_goto (tgt := 300) hx hb d_M_lettered_247 (by decide) ?_
                        refine lv_goto (tgt := 148) hx hb d_M_lettered_300 (by decide) ?_
                        refine lv_aload_n hx hb d_M_lettered_148 rfl (lv_at hl 6 rfl) ?_
                        refine va_get (D := D) (ci := 2) (v := .int (-3)) (C := R_M) (T := F_M) (N := 6) hx hb hA i_M hown hK hP 0 rfl rfl 5 (by decide) (hA _ k2_217) (fun _ h9 => h9) rfl d_M_lettered_149 ?_
                        refine lv_if_le (tgt := 303) hx hb d_M_lettered_152 (by decide) (fun _ => ?_) (fun q9 => absurd (by decide) q9)
                        refine lv_iconst (v := 0) hx hb d_M_lettered_303 (by decide) ?_
                        have hla : la (σ k).1 a e1 = -2 := lt8_4e2 hB gE g62 g74 gB1 gE1 gC1 gB2 gE2
                        exact W.iret (v := 0) hx hb hr (fun t ht hW => ⟨⟨_, (-3), rfl, (Or.inr <| Or.inl ⟨hla, rfl, rfl⟩), by rw [ht]; exact hP, va_K.moved hW.alike hK, hD⟩, hS.F ht⟩) hS.2.2 d_M_lettered_304
                    · refine lv_if_ne (tgt := 219) hx hb d_M_lettered_207 (by decide) (fun q9 => absurd (by decide) q9) (fun _ => ?_)
                      refine lv_aload_n hx hb d_M_lettered_210 rfl (lv_at hl 6 rfl) ?_
                      refine lv_bipush (v := (-2)) hx hb d_M_lettered_211 (by decide) ?_
                      refine va_put (D := D) (ci := 2) (v := .int (-2)) (ty := .int) (C := R_M) (T := F_M) (N := 6) hx hb hA i_M t_M t_M_ok n_M hown hK hP hD hS 0 rfl rfl 5 (by decide) (hA _ k2_217) (fun _ h9 => h9) rfl (by decide +kernel) rfl rfl (Nat.le_of_ble_eq_true rfl) d_M_lettered_213 (fun H locs hP hD hS => ?_)
                      have hP : va_P D vCl [(h, .inr (2, [.int th, .int (nI M), .ref cl, .ref sa, .ref pa, .int (-2)])), (cl, .inl (cL, 32768, .inr (.inl (pkF (σ))))), (sa, .inl (cI, 4, .inl (fun i9 => nI ((σ) i9).2.1))), (pa, .inl (cI, 4, .inl (fun i9 => nI ((σ) i9).2.2)))] H := hP
                      have hD : va_D A [(h, .inr (2, [.int th, .int (nI M), .ref cl, .ref sa, .ref pa, .int (-2)])), (cl, .inl (cL, 32768, .inr (.inl (pkF (σ))))), (sa, .inl (cI, 4, .inl (fun i9 => nI ((σ) i9).2.1))), (pa, .inl (cI, 4, .inl (fun i9 => nI ((σ) i9).2.2)))] := hD
                      refine lv_goto (tgt := 300) hx hb d_M_lettered_216 (by decide) ?_
                      refine lv_goto (tgt := 148) hx hb d_M_lettered_300 (by decide) ?_
                      refine lv_aload_n hx hb d_M_lettered_148 rfl (lv_at hl 6 rfl) ?_
                      refine va_get (D := D) (ci := 2) (v := .int (-2)) (C := R_M) (T := F_M) (N := 6) hx hb hA i_M hown hK hP 0 rfl rfl 5 (by decide) (hA _ k2_217) (fun _ h9 => h9) rfl d_M_lettered_149 ?_
                      refine lv_if_le (tgt := 303) hx hb d_M_lettered_152 (by decide) (fun _ => ?_) (fun q9 => absurd (by decide) q9)
                      refine lv_iconst (v := 0) hx hb d_M_lettered_303 (by decide) ?_
                      have hla : la (σ k).1 a e1 = -1 := lt8_4b2 hB gE g62 g74 gB1 gE1 gC1 gB2
                      exact W.iret (v := 0) hx hb hr (fun t ht hW => ⟨⟨_, (-2), rfl, (Or.inl ⟨hla, rfl, rfl⟩), by rw [ht]; exact hP, va_K.moved hW.alike hK, hD⟩, hS.F ht⟩) hS.2.2 d_M_lettered_304
                · have gE1 : e1 ≤ a + 1 := by have := mt (nI_ltI (a := a + 1) (b := e1) (by omega) (by omega)).mpr c238; omega
                  refine lv_aload_n hx hb d_M_lettered_241 rfl (lv_at hl 5 rfl) ?_
                  refine lv_bipush (v := (-3)) hx hb d_M_lettered_242 (by decide) ?_
                  refine va_put (D := D) (ci := 2) (v := .int (-3)) (ty := .int) (C := R_M) (T := F_M) (N := 6) hx hb hA i_M t_M t_M_ok n_M hown hK hP hD hS 0 rfl rfl 5 (by decide) (hA _ k2_217) (fun _ h9 => h9) rfl (by decide +kernel) rfl rfl (Nat.le_of_ble_eq_true rfl) d_M_lettered_244 (fun H locs hP hD hS => ?_)
                  have hP : va_P D vCl [(h, .inr (2, [.int th, .int (nI M), .ref cl, .ref sa, .ref pa, .int (-3)])), (cl, .inl (cL, 32768, .inr (.inl (pkF (σ))))), (sa, .inl (cI, 4, .inl (fun i9 => nI ((σ) i9).2.1))), (pa, .inl (cI, 4, .inl (fun i9 => nI ((σ) i9).2.2)))] H := hP
                  have hD : va_D A [(h, .inr (2, [.int th, .int (nI M), .ref cl, .ref sa, .ref pa, .int (-3)])), (cl, .inl (cL, 32768, .inr (.inl (pkF (σ))))), (sa, .inl (cI, 4, .inl (fun i9 => nI ((σ) i9).2.1))), (pa, .inl (cI, 4, .inl (fun i9 => nI ((σ) i9).2.2)))] := hD
                  refine lv_goto (tgt := 300) hx hb d_M_lettered_247 (by decide) ?_
                  refine lv_goto (tgt := 148) hx hb d_M_lettered_300 (by decide) ?_
                  refine lv_aload_n hx hb d_M_lettered_148 rfl (lv_at hl 5 rfl) ?_
                  refine va_get (D := D) (ci := 2) (v := .int (-3)) (C := R_M) (T := F_M) (N := 6) hx hb hA i_M hown hK hP 0 rfl rfl 5 (by decide) (hA _ k2_217) (fun _ h9 => h9) rfl d_M_lettered_149 ?_
                  refine lv_if_le (tgt := 303) hx hb d_M_lettered_152 (by decide) (fun _ => ?_) (fun q9 => absurd (by decide) q9)
                  refine lv_iconst (v := 0) hx hb d_M_lettered_303 (by decide) ?_
                  have hla : la (σ k).1 a e1 = -2 := lt8_4e1 hB gE g62 g74 gB1 gE1
                  exact W.iret (v := 0) hx hb hr (fun t ht hW => ⟨⟨_, (-3), rfl, (Or.inr <| Or.inl ⟨hla, rfl, rfl⟩), by rw [ht]; exact hP, va_K.moved hW.alike hK, hD⟩, hS.F ht⟩) hS.2.2 d_M_lettered_304
              · refine lv_if_ne (tgt := 219) hx hb d_M_lettered_207 (by decide) (fun q9 => absurd (by decide) q9) (fun _ => ?_)
                refine lv_aload_n hx hb d_M_lettered_210 rfl (lv_at hl 5 rfl) ?_
                refine lv_bipush (v := (-2)) hx hb d_M_lettered_211 (by decide) ?_
                refine va_put (D := D) (ci := 2) (v := .int (-2)) (ty := .int) (C := R_M) (T := F_M) (N := 6) hx hb hA i_M t_M t_M_ok n_M hown hK hP hD hS 0 rfl rfl 5 (by decide) (hA _ k2_217) (fun _ h9 => h9) rfl (by decide +kernel) rfl rfl (Nat.le_of_ble_eq_true rfl) d_M_lettered_213 (fun H locs hP hD hS => ?_)
                have hP : va_P D vCl [(h, .inr (2, [.int th, .int (nI M), .ref cl, .ref sa, .ref pa, .int (-2)])), (cl, .inl (cL, 32768, .inr (.inl (pkF (σ))))), (sa, .inl (cI, 4, .inl (fun i9 => nI ((σ) i9).2.1))), (pa, .inl (cI, 4, .inl (fun i9 => nI ((σ) i9).2.2)))] H := hP
                have hD : va_D A [(h, .inr (2, [.int th, .int (nI M), .ref cl, .ref sa, .ref pa, .int (-2)])), (cl, .inl (cL, 32768, .inr (.inl (pkF (σ))))), (sa, .inl (cI, 4, .inl (fun i9 => nI ((σ) i9).2.1))), (pa, .inl (cI, 4, .inl (fun i9 => nI ((σ) i9).2.2)))] := hD
                refine lv_goto (tgt := 300) hx hb d_M_lettered_216 (by decide) ?_
                refine lv_goto (tgt := 148) hx hb d_M_lettered_300 (by decide) ?_
                refine lv_aload_n hx hb d_M_lettered_148 rfl (lv_at hl 5 rfl) ?_
                refine va_get (D := D) (ci := 2) (v := .int (-2)) (C := R_M) (T := F_M) (N := 6) hx hb hA i_M hown hK hP 0 rfl rfl 5 (by decide) (hA _ k2_217) (fun _ h9 => h9) rfl d_M_lettered_149 ?_
                refine lv_if_le (tgt := 303) hx hb d_M_lettered_152 (by decide) (fun _ => ?_) (fun q9 => absurd (by decide) q9)
                refine lv_iconst (v := 0) hx hb d_M_lettered_303 (by decide) ?_
                have hla : la (σ k).1 a e1 = -1 := lt8_4b1 hB gE g62 g74 gB1
                exact W.iret (v := 0) hx hb hr (fun t ht hW => ⟨⟨_, (-2), rfl, (Or.inl ⟨hla, rfl, rfl⟩), by rw [ht]; exact hP, va_K.moved hW.alike hK, hD⟩, hS.F ht⟩) hS.2.2 d_M_lettered_304
          · have g62 : ((σ k).1 a) < 240 := by have := mt (nI_leI (a := 240) (b := ((σ k).1 a)) (by omega) (by omega)).mpr c62; omega
            refine lv_iconst (v := 3) hx hb d_M_lettered_65 (by decide) ?_
            refine lv_goto (tgt := 82) hx hb d_M_lettered_66 (by decide) ?_
            refine lv_istore (lv' := [(5, .int 3), (4, .int (nI ((σ k).1 a))), (0, .ref h), (1, .int (nI k)), (2, .int (nI a)), (3, .int (nI e1))]) hx hb d_M_lettered_82 hl (by decide) rfl (fun ls hl => ?_)
            refine lv_iload hx hb d_M_lettered_84 (lv_at hl 0 rfl) ?_
            refine lv_iconst (v := 1) hx hb d_M_lettered_86 (by decide) ?_
            refine lv_icmp_ne (tgt := 95) hx hb d_M_lettered_87 (by decide) (fun _ => ?_) (fun q9 => absurd q9 (by decide))
            refine lv_iload hx hb d_M_lettered_95 (lv_at hl 0 rfl) ?_
            refine lv_iconst (v := 2) hx hb d_M_lettered_97 (by decide) ?_
            refine lv_icmp_ne (tgt := 110) hx hb d_M_lettered_98 (by decide) (fun _ => ?_) (fun q9 => absurd q9 (by decide))
            refine lv_iload hx hb d_M_lettered_110 (lv_at hl 0 rfl) ?_
            refine lv_iconst (v := 3) hx hb d_M_lettered_112 (by decide) ?_
            refine lv_icmp_ne (tgt := 125) hx hb d_M_lettered_113 (by decide) (fun q9 => absurd (by decide) q9) (fun _ => ?_)
            refine lv_iload hx hb d_M_lettered_116 (lv_at hl 1 rfl) ?_
            refine lv_sipush (v := 224) hx hb d_M_lettered_118 (by decide) ?_
            refine lv_isub hx hb d_M_lettered_121 ?_
            refine lv_topi (fun v121 ev121 => ?_)
            have ev121 : v121 = nI (((σ k).1 a) - 224) := by rw [ev121]; exact pk_sub (b := 224) (by omega)
            subst ev121
            refine lv_goto (tgt := 131) hx hb d_M_lettered_122 (by decide) ?_
            refine lv_istore (lv' := [(6, .int (nI (((σ k).1 a) - 224))), (5, .int 3), (4, .int (nI ((σ k).1 a))), (0, .ref h), (1, .int (nI k)), (2, .int (nI a)), (3, .int (nI e1))]) hx hb d_M_lettered_131 hl (by decide) rfl (fun ls hl => ?_)
            refine lv_aload_n hx hb d_M_lettered_133 rfl (lv_at hl 3 rfl) ?_
            refine lv_iload hx hb d_M_lettered_134 (lv_at hl 1 rfl) ?_
            refine lv_if_ne (tgt := 144) hx hb d_M_lettered_136 (by decide) (fun _ => ?_) (fun q9 => absurd q9 (by decide))
            refine lv_iconst (v := 1) hx hb d_M_lettered_144 (by decide) ?_
            refine va_put (D := D) (ci := 2) (v := .int 1) (ty := .int) (C := R_M) (T := F_M) (N := 6) hx hb hA i_M t_M t_M_ok n_M hown hK hP hD hS 0 rfl rfl 5 (by decide) (hA _ k2_217) (fun _ h9 => h9) rfl (by decide +kernel) rfl rfl (Nat.le_of_ble_eq_true rfl) d_M_lettered_145 (fun H locs hP hD hS => ?_)
            have hP : va_P D vCl [(h, .inr (2, [.int th, .int (nI M), .ref cl, .ref sa, .ref pa, .int 1])), (cl, .inl (cL, 32768, .inr (.inl (pkF (σ))))), (sa, .inl (cI, 4, .inl (fun i9 => nI ((σ) i9).2.1))), (pa, .inl (cI, 4, .inl (fun i9 => nI ((σ) i9).2.2)))] H := hP
            have hD : va_D A [(h, .inr (2, [.int th, .int (nI M), .ref cl, .ref sa, .ref pa, .int 1])), (cl, .inl (cL, 32768, .inr (.inl (pkF (σ))))), (sa, .inl (cI, 4, .inl (fun i9 => nI ((σ) i9).2.1))), (pa, .inl (cI, 4, .inl (fun i9 => nI ((σ) i9).2.2)))] := hD
            refine lv_aload_n hx hb d_M_lettered_148 rfl (lv_at hl 3 rfl) ?_
            refine va_get (D := D) (ci := 2) (v := .int 1) (C := R_M) (T := F_M) (N := 6) hx hb hA i_M hown hK hP 0 rfl rfl 5 (by decide) (hA _ k2_217) (fun _ h9 => h9) rfl d_M_lettered_149 ?_
            refine lv_if_le (tgt := 303) hx hb d_M_lettered_152 (by decide) (fun q9 => absurd q9 (by decide)) (fun _ => ?_)
            refine lv_aload_n hx hb d_M_lettered_155 rfl (lv_at hl 3 rfl) ?_
            refine va_get (D := D) (ci := 2) (v := .int 1) (C := R_M) (T := F_M) (N := 6) hx hb hA i_M hown hK hP 0 rfl rfl 5 (by decide) (hA _ k2_217) (fun _ h9 => h9) rfl d_M_lettered_156 ?_
            refine lv_iload hx hb d_M_lettered_159 (lv_at hl 1 rfl) ?_
            refine lv_icmp_gt (tgt := 303) hx hb d_M_lettered_161 (by decide) (fun q9 => absurd q9 (by decide)) (fun _ => ?_)
            refine lv_iload hx hb d_M_lettered_164 (lv_at hl 0 rfl) ?_
            refine lv_bipush (v := 6) hx hb d_M_lettered_166 (by decide) ?_
            refine lv_iload hx hb d_M_lettered_168 (lv_at hl 1 rfl) ?_
            refine lv_aload_n hx hb d_M_lettered_170 rfl (lv_at hl 3 rfl) ?_
            refine va_get (D := D) (ci := 2) (v := .int 1) (C := R_M) (T := F_M) (N := 6) hx hb hA i_M hown hK hP 0 rfl rfl 5 (by decide) (hA _ k2_217) (fun _ h9 => h9) rfl d_M_lettered_171 ?_
            refine lv_isub hx hb d_M_lettered_174 ?_
            refine lv_topi (fun v174 ev174 => ?_)
            have ev174 : v174 = 2 := by rw [ev174]; decide
            subst ev174
            refine lv_imul hx hb d_M_lettered_175 ?_
            refine lv_topi (fun v175 ev175 => ?_)
            have ev175 : v175 = 12 := by rw [ev175]; decide
            subst ev175
            refine lv_ishl hx hb d_M_lettered_176 ?_
            refine lv_topi (fun v176 ev176 => ?_)
            have ev176 : v176 = nI ((((σ k).1 a) - 224) * 4096) := by rw [ev176]; exact (sh_n (k := 12) (by decide) (by omega)).trans rfl
            subst ev176
            refine lv_istore (lv' := [(7, .int (nI ((((σ k).1 a) - 224) * 4096))), (6, .int (nI (((σ k).1 a) - 224))), (5, .int 3), (4, .int (nI ((σ k).1 a))), (0, .ref h), (1, .int (nI k)), (2, .int (nI a)), (3, .int (nI e1))]) hx hb d_M_lettered_177 hl (by decide) rfl (fun ls hl => ?_)
            refine lv_iload hx hb d_M_lettered_179 (lv_at hl 0 rfl) ?_
            refine lv_iconst (v := 1) hx hb d_M_lettered_181 (by decide) ?_
            refine lv_bipush (v := 6) hx hb d_M_lettered_182 (by decide) ?_
            refine lv_iload hx hb d_M_lettered_184 (lv_at hl 2 rfl) ?_
            refine lv_aload_n hx hb d_M_lettered_186 rfl (lv_at hl 4 rfl) ?_
            refine va_get (D := D) (ci := 2) (v := .int 1) (C := R_M) (T := F_M) (N := 6) hx hb hA i_M hown hK hP 0 rfl rfl 5 (by decide) (hA _ k2_217) (fun _ h9 => h9) rfl d_M_lettered_187 ?_
            refine lv_isub hx hb d_M_lettered_190 ?_
            refine lv_topi (fun v190 ev190 => ?_)
            have ev190 : v190 = 2 := by rw [ev190]; decide
            subst ev190
            refine lv_imul hx hb d_M_lettered_191 ?_
            refine lv_topi (fun v191 ev191 => ?_)
            have ev191 : v191 = 12 := by rw [ev191]; decide
            subst ev191
            refine lv_ishl hx hb d_M_lettered_192 ?_
            refine lv_topi (fun v192 ev192 => ?_)
            have ev192 : v192 = 4096 := by rw [ev192]; decide
            subst ev192
            refine lv_iadd hx hb d_M_lettered_193 ?_
            refine lv_topi (fun v193 ev193 => ?_)
            have ev193 : v193 = nI ((((σ k).1 a) - 224) * 4096 + 4096) := by rw [ev193]; exact nI_add _ 4096
            subst ev193
            refine lv_iconst (v := 1) hx hb d_M_lettered_194 (by decide) ?_
            refine lv_isub hx hb d_M_lettered_195 ?_
            refine lv_topi (fun v195 ev195 => ?_)
            have ev195 : v195 = nI ((((σ k).1 a) - 224) * 4096 + 4095) := by rw [ev195]; exact (pk_sub (b := 1) (by omega)).trans (congrArg nI (by omega))
            subst ev195
            refine lv_istore (lv' := [(8, .int (nI ((((σ k).1 a) - 224) * 4096 + 4095))), (7, .int (nI ((((σ k).1 a) - 224) * 4096))), (6, .int (nI (((σ k).1 a) - 224))), (5, .int 3), (4, .int (nI ((σ k).1 a))), (0, .ref h), (1, .int (nI k)), (2, .int (nI a)), (3, .int (nI e1))]) hx hb d_M_lettered_196 hl (by decide) rfl (fun ls hl => ?_)
            refine lv_iload hx hb d_M_lettered_198 (lv_at hl 3 rfl) ?_
            refine lv_iload hx hb d_M_lettered_200 (lv_at hl 1 rfl) ?_
            refine lv_iload hx hb d_M_lettered_202 (lv_at hl 0 rfl) ?_
            refine vp_callSi (W.runS (As := [.int 3, .int (nI ((((σ k).1 a) - 224) * 4096)), .int (nI ((((σ k).1 a) - 224) * 4096 + 4095))]) (rest := []) ⟨hx, hb, hml, hown, hA⟩ (c_M_canBe l 3 ((((σ k).1 a) - 224) * 4096) ((((σ k).1 a) - 224) * 4096 + 4095) (by decide) (by omega) (by omega)) (q_M_canBe hA k3_132 rfl rfl ⟨(Nat.le_of_ble_eq_true rfl), (Nat.le_of_ble_eq_true rfl)⟩) (⟨fun a U g mk q => q, fun U hU hW => ⟨rfl, trivial⟩⟩) rfl rfl hl.1 rfl (lv_room (Nat.le_of_ble_eq_true rfl)) d_M_lettered_204 ⟨(Nat.le_of_ble_eq_true rfl), (Nat.le_of_ble_eq_true rfl)⟩) (fun r204 hr204 => ?_)
            rcases hr204 with ⟨gB1, rfl⟩ | ⟨gB1, rfl⟩
            · refine lv_if_ne (tgt := 219) hx hb d_M_lettered_207 (by decide) (fun _ => ?_) (fun q9 => absurd q9 (by decide))
              refine lv_aload_n hx hb d_M_lettered_219 rfl (lv_at hl 5 rfl) ?_
              refine va_get (D := D) (ci := 2) (v := .int 1) (C := R_M) (T := F_M) (N := 6) hx hb hA i_M hown hK hP 0 rfl rfl 5 (by decide) (hA _ k2_217) (fun _ h9 => h9) rfl d_M_lettered_220 ?_
              refine lv_iload hx hb d_M_lettered_223 (lv_at hl 3 rfl) ?_
              refine lv_icmp_ne (tgt := 231) hx hb d_M_lettered_225 (by decide) (fun _ => ?_) (fun q9 => absurd q9 (by decide))
              refine lv_iload_n hx hb d_M_lettered_231 rfl (lv_at hl 7 rfl) ?_
              refine lv_aload_n hx hb d_M_lettered_232 rfl (lv_at hl 5 rfl) ?_
              refine va_get (D := D) (ci := 2) (v := .int 1) (C := R_M) (T := F_M) (N := 6) hx hb hA i_M hown hK hP 0 rfl rfl 5 (by decide) (hA _ k2_217) (fun _ h9 => h9) rfl d_M_lettered_233 ?_
              refine lv_iadd hx hb d_M_lettered_236 ?_
              refine lv_topi (fun v236 ev236 => ?_)
              have ev236 : v236 = nI (a + 1) := by rw [ev236]; exact nI_add a 1
              subst ev236
              refine lv_iload_n hx hb d_M_lettered_237 rfl (lv_at hl 8 rfl) ?_
              refine lv_icmp_lt (tgt := 250) hx hb d_M_lettered_238 (by decide) (fun c238 => ?_) (fun c238 => ?_)
              · have gE1 : a + 1 < e1 := (nI_ltI (a := a + 1) (b := e1) (by omega) (by omega)).mp c238
                have g81 := hB (a + 1)
                refine lv_aload_n hx hb d_M_lettered_250 rfl (lv_at hl 5 rfl) ?_
                refine lv_iload_n hx hb d_M_lettered_251 rfl (lv_at hl 6 rfl) ?_
                refine lv_iload_n hx hb d_M_lettered_252 rfl (lv_at hl 7 rfl) ?_
                refine lv_aload_n hx hb d_M_lettered_253 rfl (lv_at hl 5 rfl) ?_
                refine va_get (D := D) (ci := 2) (v := .int 1) (C := R_M) (T := F_M) (N := 6) hx hb hA i_M hown hK hP 0 rfl rfl 5 (by decide) (hA _ k2_217) (fun _ h9 => h9) rfl d_M_lettered_254 ?_
                refine lv_iadd hx hb d_M_lettered_257 ?_
                refine lv_topi (fun v257 ev257 => ?_)
                have ev257 : v257 = nI (a + 1) := by rw [ev257]; exact nI_add a 1
                subst ev257
                have hPc := hP.sub (ws' := [(h, .inr (2, [.int th, .int (nI M), .ref cl, .ref sa, .ref pa, .int 1])), (cl, .inl (cL, 32768, .inr (.inl (pkF (σ))))), (sa, .inl (cI, 4, .inl (fun i9 => nI ((σ) i9).2.1))), (pa, .inl (cI, 4, .inl (fun i9 => nI ((σ) i9).2.2)))]) [0, 1, 2, 3] rfl
                have hKc := hK.sub (tys' := [(cL, .long), (cI, .int)]) [0, 1] rfl
                refine vp_callSi (W.runV (As := [.int (nI k), .int (nI (a + 1))]) (rest := []) ⟨hx, hb, hml, hown, hA⟩ (c_M_at l D cL cI h cl sa pa M th 1 σ k (a + 1) hk (by omega) hB) (q_M_at hA k3_66 rfl rfl ⟨(Nat.le_of_ble_eq_true rfl), (Nat.le_of_ble_eq_true rfl)⟩) (ox_V (va_recv hKc hPc (ci := 2) (q0 := 0) rfl rfl) (ox_S hPc hKc)) rfl rfl hl.1 rfl (lv_room (Nat.le_of_ble_eq_true rfl)) d_M_lettered_258 ⟨(Nat.le_of_ble_eq_true rfl), (Nat.le_of_ble_eq_true rfl)⟩) (fun r258 hr258 => ?_)
                have er258 : r258 = nI ((σ k).1 (a + 1)) := hr258
                subst er258
                refine lv_istore (lv' := [(9, .int (nI ((σ k).1 (a + 1)))), (8, .int (nI ((((σ k).1 a) - 224) * 4096 + 4095))), (7, .int (nI ((((σ k).1 a) - 224) * 4096))), (6, .int (nI (((σ k).1 a) - 224))), (5, .int 3), (4, .int (nI ((σ k).1 a))), (0, .ref h), (1, .int (nI k)), (2, .int (nI a)), (3, .int (nI e1))]) hx hb d_M_lettered_261 hl (by decide) rfl (fun ls hl => ?_)
                refine lv_bipush (v := 64) hx hb d_M_lettered_263 (by decide) ?_
                refine lv_iload hx hb d_M_lettered_265 (lv_at hl 3 rfl) ?_
                refine lv_imul hx hb d_M_lettered_267 ?_
                refine lv_topi (fun v267 ev267 => ?_)
                have ev267 : v267 = nI (64 * (((σ k).1 a) - 224)) := by rw [ev267]; exact pk_mul 64 _
                subst ev267
                refine lv_iload hx hb d_M_lettered_268 (lv_at hl 0 rfl) ?_
                refine lv_bipush (v := 64) hx hb d_M_lettered_270 (by decide) ?_
                refine lv_irem hx hb d_M_lettered_272 (by decide) ?_
                refine lv_topi (fun v272 ev272 => ?_)
                have ev272 : v272 = nI (((σ k).1 (a + 1)) % 64) := by rw [ev272]; exact pk_rem (d := 64) (by omega) (by decide) (by decide)
                subst ev272
                refine lv_iadd hx hb d_M_lettered_273 ?_
                refine lv_topi (fun v273 ev273 => ?_)
                have ev273 : v273 = nI (64 * (((σ k).1 a) - 224) + ((σ k).1 (a + 1)) % 64) := by rw [ev273]; exact nI_add _ _
                subst ev273
                refine lv_istore (lv' := [(6, .int (nI (64 * (((σ k).1 a) - 224) + ((σ k).1 (a + 1)) % 64))), (9, .int (nI ((σ k).1 (a + 1)))), (8, .int (nI ((((σ k).1 a) - 224) * 4096 + 4095))), (7, .int (nI ((((σ k).1 a) - 224) * 4096))), (5, .int 3), (4, .int (nI ((σ k).1 a))), (0, .ref h), (1, .int (nI k)), (2, .int (nI a)), (3, .int (nI e1))]) hx hb d_M_lettered_274 hl (by decide) rfl (fun ls hl => ?_)
                refine lv_aload_n hx hb d_M_lettered_276 rfl (lv_at hl 6 rfl) ?_
                refine lv_iload hx hb d_M_lettered_277 (lv_at hl 1 rfl) ?_
                refine lv_bipush (v := 64) hx hb d_M_lettered_279 (by decide) ?_
                refine lv_idiv hx hb d_M_lettered_281 (by decide) ?_
                refine lv_topi (fun v281 ev281 => ?_)
                have ev281 : v281 = nI (((σ k).1 (a + 1)) / 64) := by rw [ev281]; exact pk_div (d := 64) (by omega) (by decide) (by decide)
                subst ev281
                refine lv_iconst (v := 2) hx hb d_M_lettered_282 (by decide) ?_
                refine lv_icmp_ne (tgt := 295) hx hb d_M_lettered_283 (by decide) (fun c283 => ?_) (fun c283 => ?_)
                · have gC1 : ¬ ((σ k).1 (a + 1)) / 64 = 2 := mt (nI_eq (b := 2) (by omega) (by omega)).mpr c283
                  refine lv_bipush (v := (-2)) hx hb d_M_lettered_295 (by decide) ?_
                  refine va_put (D := D) (ci := 2) (v := .int (-2)) (ty := .int) (C := R_M) (T := F_M) (N := 6) hx hb hA i_M t_M t_M_ok n_M hown hK hP hD hS 0 rfl rfl 5 (by decide) (hA _ k2_217) (fun _ h9 => h9) rfl (by decide +kernel) rfl rfl (Nat.le_of_ble_eq_true rfl) d_M_lettered_297 (fun H locs hP hD hS => ?_)
                  have hP : va_P D vCl [(h, .inr (2, [.int th, .int (nI M), .ref cl, .ref sa, .ref pa, .int (-2)])), (cl, .inl (cL, 32768, .inr (.inl (pkF (σ))))), (sa, .inl (cI, 4, .inl (fun i9 => nI ((σ) i9).2.1))), (pa, .inl (cI, 4, .inl (fun i9 => nI ((σ) i9).2.2)))] H := hP
                  have hD : va_D A [(h, .inr (2, [.int th, .int (nI M), .ref cl, .ref sa, .ref pa, .int (-2)])), (cl, .inl (cL, 32768, .inr (.inl (pkF (σ))))), (sa, .inl (cI, 4, .inl (fun i9 => nI ((σ) i9).2.1))), (pa, .inl (cI, 4, .inl (fun i9 => nI ((σ) i9).2.2)))] := hD
                  refine lv_goto (tgt := 148) hx hb d_M_lettered_300 (by decide) ?_
                  refine lv_aload_n hx hb d_M_lettered_148 rfl (lv_at hl 6 rfl) ?_
                  refine va_get (D := D) (ci := 2) (v := .int (-2)) (C := R_M) (T := F_M) (N := 6) hx hb hA i_M hown hK hP 0 rfl rfl 5 (by decide) (hA _ k2_217) (fun _ h9 => h9) rfl d_M_lettered_149 ?_
                  refine lv_if_le (tgt := 303) hx hb d_M_lettered_152 (by decide) (fun _ => ?_) (fun q9 => absurd (by decide) q9)
                  refine lv_iconst (v := 0) hx hb d_M_lettered_303 (by decide) ?_
                  have hla : la (σ k).1 a e1 = -1 := lt8_3c1 hB gE g50 g62 gB1 gE1 gC1
                  exact W.iret (v := 0) hx hb hr (fun t ht hW => ⟨⟨_, (-2), rfl, (Or.inl ⟨hla, rfl, rfl⟩), by rw [ht]; exact hP, va_K.moved hW.alike hK, hD⟩, hS.F ht⟩) hS.2.2 d_M_lettered_304
                · have gC1 : ((σ k).1 (a + 1)) / 64 = 2 := (nI_eq (b := 2) (by omega) (by omega)).mp c283
                  refine lv_aload_n hx hb d_M_lettered_286 rfl (lv_at hl 6 rfl) ?_
                  refine va_get (D := D) (ci := 2) (v := .int 1) (C := R_M) (T := F_M) (N := 6) hx hb hA i_M hown hK hP 0 rfl rfl 5 (by decide) (hA _ k2_217) (fun _ h9 => h9) rfl d_M_lettered_287 ?_
                  refine lv_iconst (v := 1) hx hb d_M_lettered_290 (by decide) ?_
                  refine lv_iadd hx hb d_M_lettered_291 ?_
                  refine lv_topi (fun v291 ev291 => ?_)
                  have ev291 : v291 = 2 := by rw [ev291]; decide
                  subst ev291
                  refine lv_goto (tgt := 297) hx hb d_M_lettered_292 (by decide) ?_
                  refine va_put (D := D) (ci := 2) (v := .int 2) (ty := .int) (C := R_M) (T := F_M) (N := 6) hx hb hA i_M t_M t_M_ok n_M hown hK hP hD hS 0 rfl rfl 5 (by decide) (hA _ k2_217) (fun _ h9 => h9) rfl (by decide +kernel) rfl rfl (Nat.le_of_ble_eq_true rfl) d_M_lettered_297 (fun H locs hP hD hS => ?_)
                  have hP : va_P D vCl [(h, .inr (2, [.int th, .int (nI M), .ref cl, .ref sa, .ref pa, .int 2])), (cl, .inl (cL, 32768, .inr (.inl (pkF (σ))))), (sa, .inl (cI, 4, .inl (fun i9 => nI ((σ) i9).2.1))), (pa, .inl (cI, 4, .inl (fun i9 => nI ((σ) i9).2.2)))] H := hP
                  have hD : va_D A [(h, .inr (2, [.int th, .int (nI M), .ref cl, .ref sa, .ref pa, .int 2])), (cl, .inl (cL, 32768, .inr (.inl (pkF (σ))))), (sa, .inl (cI, 4, .inl (fun i9 => nI ((σ) i9).2.1))), (pa, .inl (cI, 4, .inl (fun i9 => nI ((σ) i9).2.2)))] := hD
                  refine lv_goto (tgt := 148) hx hb d_M_lettered_300 (by decide) ?_
                  refine lv_aload_n hx hb d_M_lettered_148 rfl (lv_at hl 6 rfl) ?_
                  refine va_get (D := D) (ci := 2) (v := .int 2) (C := R_M) (T := F_M) (N := 6) hx hb hA i_M hown hK hP 0 rfl rfl 5 (by decide) (hA _ k2_217) (fun _ h9 => h9) rfl d_M_lettered_149 ?_
                  refine lv_if_le (tgt := 303) hx hb d_M_lettered_152 (by decide) (fun q9 => absurd q9 (by decide)) (fun _ => ?_)
                  refine lv_aload_n hx hb d_M_lettered_155 rfl (lv_at hl 6 rfl) ?_
                  refine va_get (D := D) (ci := 2) (v := .int 2) (C := R_M) (T := F_M) (N := 6) hx hb hA i_M hown hK hP 0 rfl rfl 5 (by decide) (hA _ k2_217) (fun _ h9 => h9) rfl d_M_lettered_156 ?_
                  refine lv_iload hx hb d_M_lettered_159 (lv_at hl 4 rfl) ?_
                  refine lv_icmp_gt (tgt := 303) hx hb d_M_lettered_161 (by decide) (fun q9 => absurd q9 (by decide)) (fun _ => ?_)
                  refine lv_iload hx hb d_M_lettered_164 (lv_at hl 0 rfl) ?_
                  refine lv_bipush (v := 6) hx hb d_M_lettered_166 (by decide) ?_
                  refine lv_iload hx hb d_M_lettered_168 (lv_at hl 4 rfl) ?_
                  refine lv_aload_n hx hb d_M_lettered_170 rfl (lv_at hl 6 rfl) ?_
                  refine va_get (D := D) (ci := 2) (v := .int 2) (C := R_M) (T := F_M) (N := 6) hx hb hA i_M hown hK hP 0 rfl rfl 5 (by decide) (hA _ k2_217) (fun _ h9 => h9) rfl d_M_lettered_171 ?_
                  refine lv_isub hx hb d_M_lettered_174 ?_
                  refine lv_topi (fun v174 ev174 => ?_)
                  have ev174 : v174 = 1 := by rw [ev174]; decide
                  subst ev174
                  refine lv_imul hx hb d_M_lettered_175 ?_
                  refine lv_topi (fun v175 ev175 => ?_)
                  have ev175 : v175 = 6 := by rw [ev175]; decide
                  subst ev175
                  refine lv_ishl hx hb d_M_lettered_176 ?_
                  refine lv_topi (fun v176 ev176 => ?_)
                  have ev176 : v176 = nI ((64 * (((σ k).1 a) - 224) + ((σ k).1 (a + 1)) % 64) * 64) := by rw [ev176]; exact (sh_n (k := 6) (by decide) (by omega)).trans rfl
                  subst ev176
                  refine lv_istore (lv' := [(7, .int (nI ((64 * (((σ k).1 a) - 224) + ((σ k).1 (a + 1)) % 64) * 64))), (6, .int (nI (64 * (((σ k).1 a) - 224) + ((σ k).1 (a + 1)) % 64))), (9, .int (nI ((σ k).1 (a + 1)))), (8, .int (nI ((((σ k).1 a) - 224) * 4096 + 4095))), (5, .int 3), (4, .int (nI ((σ k).1 a))), (0, .ref h), (1, .int (nI k)), (2, .int (nI a)), (3, .int (nI e1))]) hx hb d_M_lettered_177 hl (by decide) rfl (fun ls hl => ?_)
                  refine lv_iload hx hb d_M_lettered_179 (lv_at hl 0 rfl) ?_
                  refine lv_iconst (v := 1) hx hb d_M_lettered_181 (by decide) ?_
                  refine lv_bipush (v := 6) hx hb d_M_lettered_182 (by decide) ?_
                  refine lv_iload hx hb d_M_lettered_184 (lv_at hl 4 rfl) ?_
                  refine lv_aload_n hx hb d_M_lettered_186 rfl (lv_at hl 6 rfl) ?_
                  refine va_get (D := D) (ci := 2) (v := .int 2) (C := R_M) (T := F_M) (N := 6) hx hb hA i_M hown hK hP 0 rfl rfl 5 (by decide) (hA _ k2_217) (fun _ h9 => h9) rfl d_M_lettered_187 ?_
                  refine lv_isub hx hb d_M_lettered_190 ?_
                  refine lv_topi (fun v190 ev190 => ?_)
                  have ev190 : v190 = 1 := by rw [ev190]; decide
                  subst ev190
                  refine lv_imul hx hb d_M_lettered_191 ?_
                  refine lv_topi (fun v191 ev191 => ?_)
                  have ev191 : v191 = 6 := by rw [ev191]; decide
                  subst ev191
                  refine lv_ishl hx hb d_M_lettered_192 ?_
                  refine lv_topi (fun v192 ev192 => ?_)
                  have ev192 : v192 = 64 := by rw [ev192]; decide
                  subst ev192
                  refine lv_iadd hx hb d_M_lettered_193 ?_
                  refine lv_topi (fun v193 ev193 => ?_)
                  have ev193 : v193 = nI ((64 * (((σ k).1 a) - 224) + ((σ k).1 (a + 1)) % 64) * 64 + 64) := by rw [ev193]; exact nI_add _ 64
                  subst ev193
                  refine lv_iconst (v := 1) hx hb d_M_lettered_194 (by decide) ?_
                  refine lv_isub hx hb d_M_lettered_195 ?_
                  refine lv_topi (fun v195 ev195 => ?_)
                  have ev195 : v195 = nI ((64 * (((σ k).1 a) - 224) + ((σ k).1 (a + 1)) % 64) * 64 + 63) := by rw [ev195]; exact (pk_sub (b := 1) (by omega)).trans (congrArg nI (by omega))
                  subst ev195
                  refine lv_istore (lv' := [(8, .int (nI ((64 * (((σ k).1 a) - 224) + ((σ k).1 (a + 1)) % 64) * 64 + 63))), (7, .int (nI ((64 * (((σ k).1 a) - 224) + ((σ k).1 (a + 1)) % 64) * 64))), (6, .int (nI (64 * (((σ k).1 a) - 224) + ((σ k).1 (a + 1)) % 64))), (9, .int (nI ((σ k).1 (a + 1)))), (5, .int 3), (4, .int (nI ((σ k).1 a))), (0, .ref h), (1, .int (nI k)), (2, .int (nI a)), (3, .int (nI e1))]) hx hb d_M_lettered_196 hl (by decide) rfl (fun ls hl => ?_)
                  refine lv_iload hx hb d_M_lettered_198 (lv_at hl 4 rfl) ?_
                  refine lv_iload hx hb d_M_lettered_200 (lv_at hl 1 rfl) ?_
                  refine lv_iload hx hb d_M_lettered_202 (lv_at hl 0 rfl) ?_
                  refine vp_callSi (W.runS (As := [.int 3, .int (nI ((64 * (((σ k).1 a) - 224) + ((σ k).1 (a + 1)) % 64) * 64)), .int (nI ((64 * (((σ k).1 a) - 224) + ((σ k).1 (a + 1)) % 64) * 64 + 63))]) (rest := []) ⟨hx, hb, hml, hown, hA⟩ (c_M_canBe l 3 ((64 * (((σ k).1 a) - 224) + ((σ k).1 (a + 1)) % 64) * 64) ((64 * (((σ k).1 a) - 224) + ((σ k).1 (a + 1)) % 64) * 64 + 63) (by decide) (by omega) (by omega)) (q_M_canBe hA k3_132 rfl rfl ⟨(Nat.le_of_ble_eq_true rfl), (Nat.le_of_ble_eq_true rfl)⟩) (⟨fun a U g mk q => q, fun U hU hW => ⟨rfl, trivial⟩⟩) rfl rfl hl.1 rfl (lv_room (Nat.le_of_ble_eq_true rfl)) d_M_lettered_204 ⟨(Nat.le_of_ble_eq_true rfl), (Nat.le_of_ble_eq_true rfl)⟩) (fun r204 hr204 => ?_)
                  rcases hr204 with ⟨gB2, rfl⟩ | ⟨gB2, rfl⟩
                  · refine lv_if_ne (tgt := 219) hx hb d_M_lettered_207 (by decide) (fun _ => ?_) (fun q9 => absurd q9 (by decide))
                    refine lv_aload_n hx hb d_M_lettered_219 rfl (lv_at hl 6 rfl) ?_
                    refine va_get (D := D) (ci := 2) (v := .int 2) (C := R_M) (T := F_M) (N := 6) hx hb hA i_M hown hK hP 0 rfl rfl 5 (by decide) (hA _ k2_217) (fun _ h9 => h9) rfl d_M_lettered_220 ?_
                    refine lv_iload hx hb d_M_lettered_223 (lv_at hl 4 rfl) ?_
                    refine lv_icmp_ne (tgt := 231) hx hb d_M_lettered_225 (by decide) (fun _ => ?_) (fun q9 => absurd q9 (by decide))
                    refine lv_iload_n hx hb d_M_lettered_231 rfl (lv_at hl 8 rfl) ?_
                    refine lv_aload_n hx hb d_M_lettered_232 rfl (lv_at hl 6 rfl) ?_
                    refine va_get (D := D) (ci := 2) (v := .int 2) (C := R_M) (T := F_M) (N := 6) hx hb hA i_M hown hK hP 0 rfl rfl 5 (by decide) (hA _ k2_217) (fun _ h9 => h9) rfl d_M_lettered_233 ?_
                    refine lv_iadd hx hb d_M_lettered_236 ?_
                    refine lv_topi (fun v236 ev236 => ?_)
                    have ev236 : v236 = nI (a + 2) := by rw [ev236]; exact nI_add a 2
                    subst ev236
                    refine lv_iload_n hx hb d_M_lettered_237 rfl (lv_at hl 9 rfl) ?_
                    refine lv_icmp_lt (tgt := 250) hx hb d_M_lettered_238 (by decide) (fun c238 => ?_) (fun c238 => ?_)
                    · have gE2 : a + 2 < e1 := (nI_ltI (a := a + 2) (b := e1) (by omega) (by omega)).mp c238
                      have g82 := hB (a + 2)
                      refine lv_aload_n hx hb d_M_lettered_250 rfl (lv_at hl 6 rfl) ?_
                      refine lv_iload_n hx hb d_M_lettered_251 rfl (lv_at hl 7 rfl) ?_
                      refine lv_iload_n hx hb d_M_lettered_252 rfl (lv_at hl 8 rfl) ?_
                      refine lv_aload_n hx hb d_M_lettered_253 rfl (lv_at hl 6 rfl) ?_
                      refine va_get (D := D) (ci := 2) (v := .int 2) (C := R_M) (T := F_M) (N := 6) hx hb hA i_M hown hK hP 0 rfl rfl 5 (by decide) (hA _ k2_217) (fun _ h9 => h9) rfl d_M_lettered_254 ?_
                      refine lv_iadd hx hb d_M_lettered_257 ?_
                      refine lv_topi (fun v257 ev257 => ?_)
                      have ev257 : v257 = nI (a + 2) := by rw [ev257]; exact nI_add a 2
                      subst ev257
                      have hPc := hP.sub (ws' := [(h, .inr (2, [.int th, .int (nI M), .ref cl, .ref sa, .ref pa, .int 2])), (cl, .inl (cL, 32768, .inr (.inl (pkF (σ))))), (sa, .inl (cI, 4, .inl (fun i9 => nI ((σ) i9).2.1))), (pa, .inl (cI, 4, .inl (fun i9 => nI ((σ) i9).2.2)))]) [0, 1, 2, 3] rfl
                      have hKc := hK.sub (tys' := [(cL, .long), (cI, .int)]) [0, 1] rfl
                      refine vp_callSi (W.runV (As := [.int (nI k), .int (nI (a + 2))]) (rest := []) ⟨hx, hb, hml, hown, hA⟩ (c_M_at l D cL cI h cl sa pa M th 2 σ k (a + 2) hk (by omega) hB) (q_M_at hA k3_66 rfl rfl ⟨(Nat.le_of_ble_eq_true rfl), (Nat.le_of_ble_eq_true rfl)⟩) (ox_V (va_recv hKc hPc (ci := 2) (q0 := 0) rfl rfl) (ox_S hPc hKc)) rfl rfl hl.1 rfl (lv_room (Nat.le_of_ble_eq_true rfl)) d_M_lettered_258 ⟨(Nat.le_of_ble_eq_true rfl), (Nat.le_of_ble_eq_true rfl)⟩) (fun r258 hr258 => ?_)
                      have er258 : r258 = nI ((σ k).1 (a + 2)) := hr258
                      subst er258
                      refine lv_istore (lv' := [(9, .int (nI ((σ k).1 (a + 2)))), (8, .int (nI ((64 * (((σ k).1 a) - 224) + ((σ k).1 (a + 1)) % 64) * 64 + 63))), (7, .int (nI ((64 * (((σ k).1 a) - 224) + ((σ k).1 (a + 1)) % 64) * 64))), (6, .int (nI (64 * (((σ k).1 a) - 224) + ((σ k).1 (a + 1)) % 64))), (5, .int 3), (4, .int (nI ((σ k).1 a))), (0, .ref h), (1, .int (nI k)), (2, .int (nI a)), (3, .int (nI e1))]) hx hb d_M_lettered_261 hl (by decide) rfl (fun ls hl => ?_)
                      refine lv_bipush (v := 64) hx hb d_M_lettered_263 (by decide) ?_
                      refine lv_iload hx hb d_M_lettered_265 (lv_at hl 3 rfl) ?_
                      refine lv_imul hx hb d_M_lettered_267 ?_
                      refine lv_topi (fun v267 ev267 => ?_)
                      have ev267 : v267 = nI (64 * (64 * (((σ k).1 a) - 224) + ((σ k).1 (a + 1)) % 64)) := by rw [ev267]; exact pk_mul 64 _
                      subst ev267
                      refine lv_iload hx hb d_M_lettered_268 (lv_at hl 0 rfl) ?_
                      refine lv_bipush (v := 64) hx hb d_M_lettered_270 (by decide) ?_
                      refine lv_irem hx hb d_M_lettered_272 (by decide) ?_
                      refine lv_topi (fun v272 ev272 => ?_)
                      have ev272 : v272 = nI (((σ k).1 (a + 2)) % 64) := by rw [ev272]; exact pk_rem (d := 64) (by omega) (by decide) (by decide)
                      subst ev272
                      refine lv_iadd hx hb d_M_lettered_273 ?_
                      refine lv_topi (fun v273 ev273 => ?_)
                      have ev273 : v273 = nI (64 * (64 * (((σ k).1 a) - 224) + ((σ k).1 (a + 1)) % 64) + ((σ k).1 (a + 2)) % 64) := by rw [ev273]; exact nI_add _ _
                      subst ev273
                      refine lv_istore (lv' := [(6, .int (nI (64 * (64 * (((σ k).1 a) - 224) + ((σ k).1 (a + 1)) % 64) + ((σ k).1 (a + 2)) % 64))), (9, .int (nI ((σ k).1 (a + 2)))), (8, .int (nI ((64 * (((σ k).1 a) - 224) + ((σ k).1 (a + 1)) % 64) * 64 + 63))), (7, .int (nI ((64 * (((σ k).1 a) - 224) + ((σ k).1 (a + 1)) % 64) * 64))), (5, .int 3), (4, .int (nI ((σ k).1 a))), (0, .ref h), (1, .int (nI k)), (2, .int (nI a)), (3, .int (nI e1))]) hx hb d_M_lettered_274 hl (by decide) rfl (fun ls hl => ?_)
                      refine lv_aload_n hx hb d_M_lettered_276 rfl (lv_at hl 6 rfl) ?_
                      refine lv_iload hx hb d_M_lettered_277 (lv_at hl 1 rfl) ?_
                      refine lv_bipush (v := 64) hx hb d_M_lettered_279 (by decide) ?_
                      refine lv_idiv hx hb d_M_lettered_281 (by decide) ?_
                      refine lv_topi (fun v281 ev281 => ?_)
                      have ev281 : v281 = nI (((σ k).1 (a + 2)) / 64) := by rw [ev281]; exact pk_div (d := 64) (by omega) (by decide) (by decide)
                      subst ev281
                      refine lv_iconst (v := 2) hx hb d_M_lettered_282 (by decide) ?_
                      refine lv_icmp_ne (tgt := 295) hx hb d_M_lettered_283 (by decide) (fun c283 => ?_) (fun c283 => ?_)
                      · have gC2 : ¬ ((σ k).1 (a + 2)) / 64 = 2 := mt (nI_eq (b := 2) (by omega) (by omega)).mpr c283
                        refine lv_bipush (v := (-2)) hx hb d_M_lettered_295 (by decide) ?_
                        refine va_put (D := D) (ci := 2) (v := .int (-2)) (ty := .int) (C := R_M) (T := F_M) (N := 6) hx hb hA i_M t_M t_M_ok n_M hown hK hP hD hS 0 rfl rfl 5 (by decide) (hA _ k2_217) (fun _ h9 => h9) rfl (by decide +kernel) rfl rfl (Nat.le_of_ble_eq_true rfl) d_M_lettered_297 (fun H locs hP hD hS => ?_)
                        have hP : va_P D vCl [(h, .inr (2, [.int th, .int (nI M), .ref cl, .ref sa, .ref pa, .int (-2)])), (cl, .inl (cL, 32768, .inr (.inl (pkF (σ))))), (sa, .inl (cI, 4, .inl (fun i9 => nI ((σ) i9).2.1))), (pa, .inl (cI, 4, .inl (fun i9 => nI ((σ) i9).2.2)))] H := hP
                        have hD : va_D A [(h, .inr (2, [.int th, .int (nI M), .ref cl, .ref sa, .ref pa, .int (-2)])), (cl, .inl (cL, 32768, .inr (.inl (pkF (σ))))), (sa, .inl (cI, 4, .inl (fun i9 => nI ((σ) i9).2.1))), (pa, .inl (cI, 4, .inl (fun i9 => nI ((σ) i9).2.2)))] := hD
                        refine lv_goto (tgt := 148) hx hb d_M_lettered_300 (by decide) ?_
                        refine lv_aload_n hx hb d_M_lettered_148 rfl (lv_at hl 6 rfl) ?_
                        refine va_get (D := D) (ci := 2) (v := .int (-2)) (C := R_M) (T := F_M) (N := 6) hx hb hA i_M hown hK hP 0 rfl rfl 5 (by decide) (hA _ k2_217) (fun _ h9 => h9) rfl d_M_lettered_149 ?_
                        refine lv_if_le (tgt := 303) hx hb d_M_lettered_152 (by decide) (fun _ => ?_) (fun q9 => absurd (by decide) q9)
                        refine lv_iconst (v := 0) hx hb d_M_lettered_303 (by decide) ?_
                        have hla : la (σ k).1 a e1 = -1 := lt8_3c2 hB gE g50 g62 gB1 gE1 gC1 gB2 gE2 gC2
                        exact W.iret (v := 0) hx hb hr (fun t ht hW => ⟨⟨_, (-2), rfl, (Or.inl ⟨hla, rfl, rfl⟩), by rw [ht]; exact hP, va_K.moved hW.alike hK, hD⟩, hS.F ht⟩) hS.2.2 d_M_lettered_304
                      · have gC2 : ((σ k).1 (a + 2)) / 64 = 2 := (nI_eq (b := 2) (by omega) (by omega)).mp c283
                        refine lv_aload_n hx hb d_M_lettered_286 rfl (lv_at hl 6 rfl) ?_
                        refine va_get (D := D) (ci := 2) (v := .int 2) (C := R_M) (T := F_M) (N := 6) hx hb hA i_M hown hK hP 0 rfl rfl 5 (by decide) (hA _ k2_217) (fun _ h9 => h9) rfl d_M_lettered_287 ?_
                        refine lv_iconst (v := 1) hx hb d_M_lettered_290 (by decide) ?_
                        refine lv_iadd hx hb d_M_lettered_291 ?_
                        refine lv_topi (fun v291 ev291 => ?_)
                        have ev291 : v291 = 3 := by rw [ev291]; decide
                        subst ev291
                        refine lv_goto (tgt := 297) hx hb d_M_lettered_292 (by decide) ?_
                        refine va_put (D := D) (ci := 2) (v := .int 3) (ty := .int) (C := R_M) (T := F_M) (N := 6) hx hb hA i_M t_M t_M_ok n_M hown hK hP hD hS 0 rfl rfl 5 (by decide) (hA _ k2_217) (fun _ h9 => h9) rfl (by decide +kernel) rfl rfl (Nat.le_of_ble_eq_true rfl) d_M_lettered_297 (fun H locs hP hD hS => ?_)
                        have hP : va_P D vCl [(h, .inr (2, [.int th, .int (nI M), .ref cl, .ref sa, .ref pa, .int 3])), (cl, .inl (cL, 32768, .inr (.inl (pkF (σ))))), (sa, .inl (cI, 4, .inl (fun i9 => nI ((σ) i9).2.1))), (pa, .inl (cI, 4, .inl (fun i9 => nI ((σ) i9).2.2)))] H := hP
                        have hD : va_D A [(h, .inr (2, [.int th, .int (nI M), .ref cl, .ref sa, .ref pa, .int 3])), (cl, .inl (cL, 32768, .inr (.inl (pkF (σ))))), (sa, .inl (cI, 4, .inl (fun i9 => nI ((σ) i9).2.1))), (pa, .inl (cI, 4, .inl (fun i9 => nI ((σ) i9).2.2)))] := hD
                        refine lv_goto (tgt := 148) hx hb d_M_lettered_300 (by decide) ?_
                        refine lv_aload_n hx hb d_M_lettered_148 rfl (lv_at hl 6 rfl) ?_
                        refine va_get (D := D) (ci := 2) (v := .int 3) (C := R_M) (T := F_M) (N := 6) hx hb hA i_M hown hK hP 0 rfl rfl 5 (by decide) (hA _ k2_217) (fun _ h9 => h9) rfl d_M_lettered_149 ?_
                        refine lv_if_le (tgt := 303) hx hb d_M_lettered_152 (by decide) (fun q9 => absurd q9 (by decide)) (fun _ => ?_)
                        refine lv_aload_n hx hb d_M_lettered_155 rfl (lv_at hl 6 rfl) ?_
                        refine va_get (D := D) (ci := 2) (v := .int 3) (C := R_M) (T := F_M) (N := 6) hx hb hA i_M hown hK hP 0 rfl rfl 5 (by decide) (hA _ k2_217) (fun _ h9 => h9) rfl d_M_lettered_156 ?_
                        refine lv_iload hx hb d_M_lettered_159 (lv_at hl 4 rfl) ?_
                        refine lv_icmp_gt (tgt := 303) hx hb d_M_lettered_161 (by decide) (fun q9 => absurd q9 (by decide)) (fun _ => ?_)
                        refine lv_iload hx hb d_M_lettered_164 (lv_at hl 0 rfl) ?_
                        refine lv_bipush (v := 6) hx hb d_M_lettered_166 (by decide) ?_
                        refine lv_iload hx hb d_M_lettered_168 (lv_at hl 4 rfl) ?_
                        refine lv_aload_n hx hb d_M_lettered_170 rfl (lv_at hl 6 rfl) ?_
                        refine va_get (D := D) (ci := 2) (v := .int 3) (C := R_M) (T := F_M) (N := 6) hx hb hA i_M hown hK hP 0 rfl rfl 5 (by decide) (hA _ k2_217) (fun _ h9 => h9) rfl d_M_lettered_171 ?_
                        refine lv_isub hx hb d_M_lettered_174 ?_
                        refine lv_topi (fun v174 ev174 => ?_)
                        have ev174 : v174 = 0 := by rw [ev174]; decide
                        subst ev174
                        refine lv_imul hx hb d_M_lettered_175 ?_
                        refine lv_topi (fun v175 ev175 => ?_)
                        have ev175 : v175 = 0 := by rw [ev175]; decide
                        subst ev175
                        refine lv_ishl hx hb d_M_lettered_176 ?_
                        refine lv_topi (fun v176 ev176 => ?_)
                        have ev176 : v176 = nI ((64 * (64 * (((σ k).1 a) - 224) + ((σ k).1 (a + 1)) % 64) + ((σ k).1 (a + 2)) % 64) * 1) := by rw [ev176]; exact (sh_n (k := 0) (by decide) (by omega)).trans rfl
                        subst ev176
                        refine lv_istore (lv' := [(7, .int (nI ((64 * (64 * (((σ k).1 a) - 224) + ((σ k).1 (a + 1)) % 64) + ((σ k).1 (a + 2)) % 64) * 1))), (6, .int (nI (64 * (64 * (((σ k).1 a) - 224) + ((σ k).1 (a + 1)) % 64) + ((σ k).1 (a + 2)) % 64))), (9, .int (nI ((σ k).1 (a + 2)))), (8, .int (nI ((64 * (((σ k).1 a) - 224) + ((σ k).1 (a + 1)) % 64) * 64 + 63))), (5, .int 3), (4, .int (nI ((σ k).1 a))), (0, .ref h), (1, .int (nI k)), (2, .int (nI a)), (3, .int (nI e1))]) hx hb d_M_lettered_177 hl (by decide) rfl (fun ls hl => ?_)
                        refine lv_iload hx hb d_M_lettered_179 (lv_at hl 0 rfl) ?_
                        refine lv_iconst (v := 1) hx hb d_M_lettered_181 (by decide) ?_
                        refine lv_bipush (v := 6) hx hb d_M_lettered_182 (by decide) ?_
                        refine lv_iload hx hb d_M_lettered_184 (lv_at hl 4 rfl) ?_
                        refine lv_aload_n hx hb d_M_lettered_186 rfl (lv_at hl 6 rfl) ?_
                        refine va_get (D := D) (ci := 2) (v := .int 3) (C := R_M) (T := F_M) (N := 6) hx hb hA i_M hown hK hP 0 rfl rfl 5 (by decide) (hA _ k2_217) (fun _ h9 => h9) rfl d_M_lettered_187 ?_
                        refine lv_isub hx hb d_M_lettered_190 ?_
                        refine lv_topi (fun v190 ev190 => ?_)
                        have ev190 : v190 = 0 := by rw [ev190]; decide
                        subst ev190
                        refine lv_imul hx hb d_M_lettered_191 ?_
                        refine lv_topi (fun v191 ev191 => ?_)
                        have ev191 : v191 = 0 := by rw [ev191]; decide
                        subst ev191
                        refine lv_ishl hx hb d_M_lettered_192 ?_
                        refine lv_topi (fun v192 ev192 => ?_)
                        have ev192 : v192 = 1 := by rw [ev192]; decide
                        subst ev192
                        refine lv_iadd hx hb d_M_lettered_193 ?_
                        refine lv_topi (fun v193 ev193 => ?_)
                        have ev193 : v193 = nI ((64 * (64 * (((σ k).1 a) - 224) + ((σ k).1 (a + 1)) % 64) + ((σ k).1 (a + 2)) % 64) * 1 + 1) := by rw [ev193]; exact nI_add _ 1
                        subst ev193
                        refine lv_iconst (v := 1) hx hb d_M_lettered_194 (by decide) ?_
                        refine lv_isub hx hb d_M_lettered_195 ?_
                        refine lv_topi (fun v195 ev195 => ?_)
                        have ev195 : v195 = nI ((64 * (64 * (((σ k).1 a) - 224) + ((σ k).1 (a + 1)) % 64) + ((σ k).1 (a + 2)) % 64) * 1 + 0) := by rw [ev195]; exact (pk_sub (b := 1) (by omega)).trans (congrArg nI (by omega))
                        subst ev195
                        refine lv_istore (lv' := [(8, .int (nI ((64 * (64 * (((σ k).1 a) - 224) + ((σ k).1 (a + 1)) % 64) + ((σ k).1 (a + 2)) % 64) * 1 + 0))), (7, .int (nI ((64 * (64 * (((σ k).1 a) - 224) + ((σ k).1 (a + 1)) % 64) + ((σ k).1 (a + 2)) % 64) * 1))), (6, .int (nI (64 * (64 * (((σ k).1 a) - 224) + ((σ k).1 (a + 1)) % 64) + ((σ k).1 (a + 2)) % 64))), (9, .int (nI ((σ k).1 (a + 2)))), (5, .int 3), (4, .int (nI ((σ k).1 a))), (0, .ref h), (1, .int (nI k)), (2, .int (nI a)), (3, .int (nI e1))]) hx hb d_M_lettered_196 hl (by decide) rfl (fun ls hl => ?_)
                        refine lv_iload hx hb d_M_lettered_198 (lv_at hl 4 rfl) ?_
                        refine lv_iload hx hb d_M_lettered_200 (lv_at hl 1 rfl) ?_
                        refine lv_iload hx hb d_M_lettered_202 (lv_at hl 0 rfl) ?_
                        refine vp_callSi (W.runS (As := [.int 3, .int (nI ((64 * (64 * (((σ k).1 a) - 224) + ((σ k).1 (a + 1)) % 64) + ((σ k).1 (a + 2)) % 64) * 1)), .int (nI ((64 * (64 * (((σ k).1 a) - 224) + ((σ k).1 (a + 1)) % 64) + ((σ k).1 (a + 2)) % 64) * 1 + 0))]) (rest := []) ⟨hx, hb, hml, hown, hA⟩ (c_M_canBe l 3 ((64 * (64 * (((σ k).1 a) - 224) + ((σ k).1 (a + 1)) % 64) + ((σ k).1 (a + 2)) % 64) * 1) ((64 * (64 * (((σ k).1 a) - 224) + ((σ k).1 (a + 1)) % 64) + ((σ k).1 (a + 2)) % 64) * 1 + 0) (by decide) (by omega) (by omega)) (q_M_canBe hA k3_132 rfl rfl ⟨(Nat.le_of_ble_eq_true rfl), (Nat.le_of_ble_eq_true rfl)⟩) (⟨fun a U g mk q => q, fun U hU hW => ⟨rfl, trivial⟩⟩) rfl rfl hl.1 rfl (lv_room (Nat.le_of_ble_eq_true rfl)) d_M_lettered_204 ⟨(Nat.le_of_ble_eq_true rfl), (Nat.le_of_ble_eq_true rfl)⟩) (fun r204 hr204 => ?_)
                        rcases hr204 with ⟨gB3, rfl⟩ | ⟨gB3, rfl⟩
                        · refine lv_if_ne (tgt := 219) hx hb d_M_lettered_207 (by decide) (fun _ => ?_) (fun q9 => absurd q9 (by decide))
                          refine lv_aload_n hx hb d_M_lettered_219 rfl (lv_at hl 6 rfl) ?_
                          refine va_get (D := D) (ci := 2) (v := .int 3) (C := R_M) (T := F_M) (N := 6) hx hb hA i_M hown hK hP 0 rfl rfl 5 (by decide) (hA _ k2_217) (fun _ h9 => h9) rfl d_M_lettered_220 ?_
                          refine lv_iload hx hb d_M_lettered_223 (lv_at hl 4 rfl) ?_
                          refine lv_icmp_ne (tgt := 231) hx hb d_M_lettered_225 (by decide) (fun q9 => absurd (by decide) q9) (fun _ => ?_)
                          refine lv_iload hx hb d_M_lettered_228 (lv_at hl 2 rfl) ?_
                          have hla : la (σ k).1 a e1 = (((64 * (64 * (((σ k).1 a) - 224) + ((σ k).1 (a + 1)) % 64) + ((σ k).1 (a + 2)) % 64) : Nat) : Int) := lt8_3g hB gE g50 g62 gB1 gE1 gC1 gB2 gE2 gC2 gB3
                          have hlw : lwI (((64 * (64 * (((σ k).1 a) - 224) + ((σ k).1 (a + 1)) % 64) + ((σ k).1 (a + 2)) % 64) : Nat) : Int) = 3 := lt8_3w hB gE g50 g62 gB1 gE1 gC1 gB2 gE2 gC2 gB3
                          exact W.iret (v := nI (64 * (64 * (((σ k).1 a) - 224) + ((σ k).1 (a + 1)) % 64) + ((σ k).1 (a + 2)) % 64)) hx hb hr (fun t ht hW => ⟨⟨_, 3, rfl, (Or.inr (Or.inr ⟨by rw [hla]; exact Int.natCast_nonneg _, by rw [hla, hlw]; rfl, by rw [hla]; rfl⟩)), by rw [ht]; exact hP, va_K.moved hW.alike hK, hD⟩, hS.F ht⟩) hS.2.2 d_M_lettered_230
                        · refine lv_if_ne (tgt := 219) hx hb d_M_lettered_207 (by decide) (fun q9 => absurd (by decide) q9) (fun _ => ?_)
                          exact absurd (lt8_3t3 hB gE g50 g62 gB1 gE1 gC1 gB2 gE2 gC2) gB3
                    · have gE2 : e1 ≤ a + 2 := by have := mt (nI_ltI (a := a + 2) (b := e1) (by omega) (by omega)).mpr c238; omega
                      refine lv_aload_n hx hb d_M_lettered_241 rfl (lv_at hl 6 rfl) ?_
                      refine lv_bipush (v := (-3)) hx hb d_M_lettered_242 (by decide) ?_
                      refine va_put (D := D) (ci := 2) (v := .int (-3)) (ty := .int) (C := R_M) (T := F_M) (N := 6) hx hb hA i_M t_M t_M_ok n_M hown hK hP hD hS 0 rfl rfl 5 (by decide) (hA _ k2_217) (fun _ h9 => h9) rfl (by decide +kernel) rfl rfl (Nat.le_of_ble_eq_true rfl) d_M_lettered_244 (fun H locs hP hD hS => ?_)
                      have hP : va_P D vCl [(h, .inr (2, [.int th, .int (nI M), .ref cl, .ref sa, .ref pa, .int (-3)])), (cl, .inl (cL, 32768, .inr (.inl (pkF (σ))))), (sa, .inl (cI, 4, .inl (fun i9 => nI ((σ) i9).2.1))), (pa, .inl (cI, 4, .inl (fun i9 => nI ((σ) i9).2.2)))] H := hP
                      have hD : va_D A [(h, .inr (2, [.int th, .int (nI M), .ref cl, .ref sa, .ref pa, .int (-3)])), (cl, .inl (cL, 32768, .inr (.inl (pkF (σ))))), (sa, .inl (cI, 4, .inl (fun i9 => nI ((σ) i9).2.1))), (pa, .inl (cI, 4, .inl (fun i9 => nI ((σ) i9).2.2)))] := hD
                      refine lv_goto (tgt := 300) hx hb d_M_lettered_247 (by decide) ?_
                      refine lv_goto (tgt := 148) hx hb d_M_lettered_300 (by decide) ?_
                      refine lv_aload_n hx hb d_M_lettered_148 rfl (lv_at hl 6 rfl) ?_
                      refine va_get (D := D) (ci := 2) (v := .int (-3)) (C := R_M) (T := F_M) (N := 6) hx hb hA i_M hown hK hP 0 rfl rfl 5 (by decide) (hA _ k2_217) (fun _ h9 => h9) rfl d_M_lettered_149 ?_
                      refine lv_if_le (tgt := 303) hx hb d_M_lettered_152 (by decide) (fun _ => ?_) (fun q9 => absurd (by decide) q9)
                      refine lv_iconst (v := 0) hx hb d_M_lettered_303 (by decide) ?_
                      have hla : la (σ k).1 a e1 = -2 := lt8_3e2 hB gE g50 g62 gB1 gE1 gC1 gB2 gE2
                      exact W.iret (v := 0) hx hb hr (fun t ht hW => ⟨⟨_, (-3), rfl, (Or.inr <| Or.inl ⟨hla, rfl, rfl⟩), by rw [ht]; exact hP, va_K.moved hW.alike hK, hD⟩, hS.F ht⟩) hS.2.2 d_M_lettered_304
                  · refine lv_if_ne (tgt := 219) hx hb d_M_lettered_207 (by decide) (fun q9 => absurd (by decide) q9) (fun _ => ?_)
                    refine lv_aload_n hx hb d_M_lettered_210 rfl (lv_at hl 6 rfl) ?_
                    refine lv_bipush (v := (-2)) hx hb d_M_lettered_211 (by decide) ?_
                    refine va_put (D := D) (ci := 2) (v := .int (-2)) (ty := .int) (C := R_M) (T := F_M) (N := 6) hx hb hA i_M t_M t_M_ok n_M hown hK hP hD hS 0 rfl rfl 5 (by decide) (hA _ k2_217) (fun _ h9 => h9) rfl (by decide +kernel) rfl rfl (Nat.le_of_ble_eq_true rfl) d_M_lettered_213 (fun H locs hP hD hS => ?_)
                    have hP : va_P D vCl [(h, .inr (2, [.int th, .int (nI M), .ref cl, .ref sa, .ref pa, .int (-2)])), (cl, .inl (cL, 32768, .inr (.inl (pkF (σ))))), (sa, .inl (cI, 4, .inl (fun i9 => nI ((σ) i9).2.1))), (pa, .inl (cI, 4, .inl (fun i9 => nI ((σ) i9).2.2)))] H := hP
                    have hD : va_D A [(h, .inr (2, [.int th, .int (nI M), .ref cl, .ref sa, .ref pa, .int (-2)])), (cl, .inl (cL, 32768, .inr (.inl (pkF (σ))))), (sa, .inl (cI, 4, .inl (fun i9 => nI ((σ) i9).2.1))), (pa, .inl (cI, 4, .inl (fun i9 => nI ((σ) i9).2.2)))] := hD
                    refine lv_goto (tgt := 300) hx hb d_M_lettered_216 (by decide) ?_
                    refine lv_goto (tgt := 148) hx hb d_M_lettered_300 (by decide) ?_
                    refine lv_aload_n hx hb d_M_lettered_148 rfl (lv_at hl 6 rfl) ?_
                    refine va_get (D := D) (ci := 2) (v := .int (-2)) (C := R_M) (T := F_M) (N := 6) hx hb hA i_M hown hK hP 0 rfl rfl 5 (by decide) (hA _ k2_217) (fun _ h9 => h9) rfl d_M_lettered_149 ?_
                    refine lv_if_le (tgt := 303) hx hb d_M_lettered_152 (by decide) (fun _ => ?_) (fun q9 => absurd (by decide) q9)
                    refine lv_iconst (v := 0) hx hb d_M_lettered_303 (by decide) ?_
                    have hla : la (σ k).1 a e1 = -1 := lt8_3b2 hB gE g50 g62 gB1 gE1 gC1 gB2
                    exact W.iret (v := 0) hx hb hr (fun t ht hW => ⟨⟨_, (-2), rfl, (Or.inl ⟨hla, rfl, rfl⟩), by rw [ht]; exact hP, va_K.moved hW.alike hK, hD⟩, hS.F ht⟩) hS.2.2 d_M_lettered_304
              · have gE1 : e1 ≤ a + 1 := by have := mt (nI_ltI (a := a + 1) (b := e1) (by omega) (by omega)).mpr c238; omega
                refine lv_aload_n hx hb d_M_lettered_241 rfl (lv_at hl 5 rfl) ?_
                refine lv_bipush (v := (-3)) hx hb d_M_lettered_242 (by decide) ?_
                refine va_put (D := D) (ci := 2) (v := .int (-3)) (ty := .int) (C := R_M) (T := F_M) (N := 6) hx hb hA i_M t_M t_M_ok n_M hown hK hP hD hS 0 rfl rfl 5 (by decide) (hA _ k2_217) (fun _ h9 => h9) rfl (by decide +kernel) rfl rfl (Nat.le_of_ble_eq_true rfl) d_M_lettered_244 (fun H locs hP hD hS => ?_)
                have hP : va_P D vCl [(h, .inr (2, [.int th, .int (nI M), .ref cl, .ref sa, .ref pa, .int (-3)])), (cl, .inl (cL, 32768, .inr (.inl (pkF (σ))))), (sa, .inl (cI, 4, .inl (fun i9 => nI ((σ) i9).2.1))), (pa, .inl (cI, 4, .inl (fun i9 => nI ((σ) i9).2.2)))] H := hP
                have hD : va_D A [(h, .inr (2, [.int th, .int (nI M), .ref cl, .ref sa, .ref pa, .int (-3)])), (cl, .inl (cL, 32768, .inr (.inl (pkF (σ))))), (sa, .inl (cI, 4, .inl (fun i9 => nI ((σ) i9).2.1))), (pa, .inl (cI, 4, .inl (fun i9 => nI ((σ) i9).2.2)))] := hD
                refine lv_goto (tgt := 300) hx hb d_M_lettered_247 (by decide) ?_
                refine lv_goto (tgt := 148) hx hb d_M_lettered_300 (by decide) ?_
                refine lv_aload_n hx hb d_M_lettered_148 rfl (lv_at hl 5 rfl) ?_
                refine va_get (D := D) (ci := 2) (v := .int (-3)) (C := R_M) (T := F_M) (N := 6) hx hb hA i_M hown hK hP 0 rfl rfl 5 (by decide) (hA _ k2_217) (fun _ h9 => h9) rfl d_M_lettered_149 ?_
                refine lv_if_le (tgt := 303) hx hb d_M_lettered_152 (by decide) (fun _ => ?_) (fun q9 => absurd (by decide) q9)
                refine lv_iconst (v := 0) hx hb d_M_lettered_303 (by decide) ?_
                have hla : la (σ k).1 a e1 = -2 := lt8_3e1 hB gE g50 g62 gB1 gE1
                exact W.iret (v := 0) hx hb hr (fun t ht hW => ⟨⟨_, (-3), rfl, (Or.inr <| Or.inl ⟨hla, rfl, rfl⟩), by rw [ht]; exact hP, va_K.moved hW.alike hK, hD⟩, hS.F ht⟩) hS.2.2 d_M_lettered_304
            · refine lv_if_ne (tgt := 219) hx hb d_M_lettered_207 (by decide) (fun q9 => absurd (by decide) q9) (fun _ => ?_)
              exact absurd (lt8_3t1 hB gE g50 g62) gB1
        · have g50 : ((σ k).1 a) < 224 := by have := mt (nI_leI (a := 224) (b := ((σ k).1 a)) (by omega) (by omega)).mpr c50; omega
          refine lv_iconst (v := 2) hx hb d_M_lettered_53 (by decide) ?_
          refine lv_goto (tgt := 82) hx hb d_M_lettered_54 (by decide) ?_
          refine lv_istore (lv' := [(5, .int 2), (4, .int (nI ((σ k).1 a))), (0, .ref h), (1, .int (nI k)), (2, .int (nI a)), (3, .int (nI e1))]) hx hb d_M_lettered_82 hl (by decide) rfl (fun ls hl => ?_)
          refine lv_iload hx hb d_M_lettered_84 (lv_at hl 0 rfl) ?_
          refine lv_iconst (v := 1) hx hb d_M_lettered_86 (by decide) ?_
          refine lv_icmp_ne (tgt := 95) hx hb d_M_lettered_87 (by decide) (fun _ => ?_) (fun q9 => absurd q9 (by decide))
          refine lv_iload hx hb d_M_lettered_95 (lv_at hl 0 rfl) ?_
          refine lv_iconst (v := 2) hx hb d_M_lettered_97 (by decide) ?_
          refine lv_icmp_ne (tgt := 110) hx hb d_M_lettered_98 (by decide) (fun q9 => absurd (by decide) q9) (fun _ => ?_)
          refine lv_iload hx hb d_M_lettered_101 (lv_at hl 1 rfl) ?_
          refine lv_sipush (v := 192) hx hb d_M_lettered_103 (by decide) ?_
          refine lv_isub hx hb d_M_lettered_106 ?_
          refine lv_topi (fun v106 ev106 => ?_)
          have ev106 : v106 = nI (((σ k).1 a) - 192) := by rw [ev106]; exact pk_sub (b := 192) (by omega)
          subst ev106
          refine lv_goto (tgt := 131) hx hb d_M_lettered_107 (by decide) ?_
          refine lv_istore (lv' := [(6, .int (nI (((σ k).1 a) - 192))), (5, .int 2), (4, .int (nI ((σ k).1 a))), (0, .ref h), (1, .int (nI k)), (2, .int (nI a)), (3, .int (nI e1))]) hx hb d_M_lettered_131 hl (by decide) rfl (fun ls hl => ?_)
          refine lv_aload_n hx hb d_M_lettered_133 rfl (lv_at hl 3 rfl) ?_
          refine lv_iload hx hb d_M_lettered_134 (lv_at hl 1 rfl) ?_
          refine lv_if_ne (tgt := 144) hx hb d_M_lettered_136 (by decide) (fun _ => ?_) (fun q9 => absurd q9 (by decide))
          refine lv_iconst (v := 1) hx hb d_M_lettered_144 (by decide) ?_
          refine va_put (D := D) (ci := 2) (v := .int 1) (ty := .int) (C := R_M) (T := F_M) (N := 6) hx hb hA i_M t_M t_M_ok n_M hown hK hP hD hS 0 rfl rfl 5 (by decide) (hA _ k2_217) (fun _ h9 => h9) rfl (by decide +kernel) rfl rfl (Nat.le_of_ble_eq_true rfl) d_M_lettered_145 (fun H locs hP hD hS => ?_)
          have hP : va_P D vCl [(h, .inr (2, [.int th, .int (nI M), .ref cl, .ref sa, .ref pa, .int 1])), (cl, .inl (cL, 32768, .inr (.inl (pkF (σ))))), (sa, .inl (cI, 4, .inl (fun i9 => nI ((σ) i9).2.1))), (pa, .inl (cI, 4, .inl (fun i9 => nI ((σ) i9).2.2)))] H := hP
          have hD : va_D A [(h, .inr (2, [.int th, .int (nI M), .ref cl, .ref sa, .ref pa, .int 1])), (cl, .inl (cL, 32768, .inr (.inl (pkF (σ))))), (sa, .inl (cI, 4, .inl (fun i9 => nI ((σ) i9).2.1))), (pa, .inl (cI, 4, .inl (fun i9 => nI ((σ) i9).2.2)))] := hD
          refine lv_aload_n hx hb d_M_lettered_148 rfl (lv_at hl 3 rfl) ?_
          refine va_get (D := D) (ci := 2) (v := .int 1) (C := R_M) (T := F_M) (N := 6) hx hb hA i_M hown hK hP 0 rfl rfl 5 (by decide) (hA _ k2_217) (fun _ h9 => h9) rfl d_M_lettered_149 ?_
          refine lv_if_le (tgt := 303) hx hb d_M_lettered_152 (by decide) (fun q9 => absurd q9 (by decide)) (fun _ => ?_)
          refine lv_aload_n hx hb d_M_lettered_155 rfl (lv_at hl 3 rfl) ?_
          refine va_get (D := D) (ci := 2) (v := .int 1) (C := R_M) (T := F_M) (N := 6) hx hb hA i_M hown hK hP 0 rfl rfl 5 (by decide) (hA _ k2_217) (fun _ h9 => h9) rfl d_M_lettered_156 ?_
          refine lv_iload hx hb d_M_lettered_159 (lv_at hl 1 rfl) ?_
          refine lv_icmp_gt (tgt := 303) hx hb d_M_lettered_161 (by decide) (fun q9 => absurd q9 (by decide)) (fun _ => ?_)
          refine lv_iload hx hb d_M_lettered_164 (lv_at hl 0 rfl) ?_
          refine lv_bipush (v := 6) hx hb d_M_lettered_166 (by decide) ?_
          refine lv_iload hx hb d_M_lettered_168 (lv_at hl 1 rfl) ?_
          refine lv_aload_n hx hb d_M_lettered_170 rfl (lv_at hl 3 rfl) ?_
          refine va_get (D := D) (ci := 2) (v := .int 1) (C := R_M) (T := F_M) (N := 6) hx hb hA i_M hown hK hP 0 rfl rfl 5 (by decide) (hA _ k2_217) (fun _ h9 => h9) rfl d_M_lettered_171 ?_
          refine lv_isub hx hb d_M_lettered_174 ?_
          refine lv_topi (fun v174 ev174 => ?_)
          have ev174 : v174 = 1 := by rw [ev174]; decide
          subst ev174
          refine lv_imul hx hb d_M_lettered_175 ?_
          refine lv_topi (fun v175 ev175 => ?_)
          have ev175 : v175 = 6 := by rw [ev175]; decide
          subst ev175
          refine lv_ishl hx hb d_M_lettered_176 ?_
          refine lv_topi (fun v176 ev176 => ?_)
          have ev176 : v176 = nI ((((σ k).1 a) - 192) * 64) := by rw [ev176]; exact (sh_n (k := 6) (by decide) (by omega)).trans rfl
          subst ev176
          refine lv_istore (lv' := [(7, .int (nI ((((σ k).1 a) - 192) * 64))), (6, .int (nI (((σ k).1 a) - 192))), (5, .int 2), (4, .int (nI ((σ k).1 a))), (0, .ref h), (1, .int (nI k)), (2, .int (nI a)), (3, .int (nI e1))]) hx hb d_M_lettered_177 hl (by decide) rfl (fun ls hl => ?_)
          refine lv_iload hx hb d_M_lettered_179 (lv_at hl 0 rfl) ?_
          refine lv_iconst (v := 1) hx hb d_M_lettered_181 (by decide) ?_
          refine lv_bipush (v := 6) hx hb d_M_lettered_182 (by decide) ?_
          refine lv_iload hx hb d_M_lettered_184 (lv_at hl 2 rfl) ?_
          refine lv_aload_n hx hb d_M_lettered_186 rfl (lv_at hl 4 rfl) ?_
          refine va_get (D := D) (ci := 2) (v := .int 1) (C := R_M) (T := F_M) (N := 6) hx hb hA i_M hown hK hP 0 rfl rfl 5 (by decide) (hA _ k2_217) (fun _ h9 => h9) rfl d_M_lettered_187 ?_
          refine lv_isub hx hb d_M_lettered_190 ?_
          refine lv_topi (fun v190 ev190 => ?_)
          have ev190 : v190 = 1 := by rw [ev190]; decide
          subst ev190
          refine lv_imul hx hb d_M_lettered_191 ?_
          refine lv_topi (fun v191 ev191 => ?_)
          have ev191 : v191 = 6 := by rw [ev191]; decide
          subst ev191
          refine lv_ishl hx hb d_M_lettered_192 ?_
          refine lv_topi (fun v192 ev192 => ?_)
          have ev192 : v192 = 64 := by rw [ev192]; decide
          subst ev192
          refine lv_iadd hx hb d_M_lettered_193 ?_
          refine lv_topi (fun v193 ev193 => ?_)
          have ev193 : v193 = nI ((((σ k).1 a) - 192) * 64 + 64) := by rw [ev193]; exact nI_add _ 64
          subst ev193
          refine lv_iconst (v := 1) hx hb d_M_lettered_194 (by decide) ?_
          refine lv_isub hx hb d_M_lettered_195 ?_
          refine lv_topi (fun v195 ev195 => ?_)
          have ev195 : v195 = nI ((((σ k).1 a) - 192) * 64 + 63) := by rw [ev195]; exact (pk_sub (b := 1) (by omega)).trans (congrArg nI (by omega))
          subst ev195
          refine lv_istore (lv' := [(8, .int (nI ((((σ k).1 a) - 192) * 64 + 63))), (7, .int (nI ((((σ k).1 a) - 192) * 64))), (6, .int (nI (((σ k).1 a) - 192))), (5, .int 2), (4, .int (nI ((σ k).1 a))), (0, .ref h), (1, .int (nI k)), (2, .int (nI a)), (3, .int (nI e1))]) hx hb d_M_lettered_196 hl (by decide) rfl (fun ls hl => ?_)
          refine lv_iload hx hb d_M_lettered_198 (lv_at hl 3 rfl) ?_
          refine lv_iload hx hb d_M_lettered_200 (lv_at hl 1 rfl) ?_
          refine lv_iload hx hb d_M_lettered_202 (lv_at hl 0 rfl) ?_
          refine vp_callSi (W.runS (As := [.int 2, .int (nI ((((σ k).1 a) - 192) * 64)), .int (nI ((((σ k).1 a) - 192) * 64 + 63))]) (rest := []) ⟨hx, hb, hml, hown, hA⟩ (c_M_canBe l 2 ((((σ k).1 a) - 192) * 64) ((((σ k).1 a) - 192) * 64 + 63) (by decide) (by omega) (by omega)) (q_M_canBe hA k3_132 rfl rfl ⟨(Nat.le_of_ble_eq_true rfl), (Nat.le_of_ble_eq_true rfl)⟩) (⟨fun a U g mk q => q, fun U hU hW => ⟨rfl, trivial⟩⟩) rfl rfl hl.1 rfl (lv_room (Nat.le_of_ble_eq_true rfl)) d_M_lettered_204 ⟨(Nat.le_of_ble_eq_true rfl), (Nat.le_of_ble_eq_true rfl)⟩) (fun r204 hr204 => ?_)
          rcases hr204 with ⟨gB1, rfl⟩ | ⟨gB1, rfl⟩
          · refine lv_if_ne (tgt := 219) hx hb d_M_lettered_207 (by decide) (fun _ => ?_) (fun q9 => absurd q9 (by decide))
            refine lv_aload_n hx hb d_M_lettered_219 rfl (lv_at hl 5 rfl) ?_
            refine va_get (D := D) (ci := 2) (v := .int 1) (C := R_M) (T := F_M) (N := 6) hx hb hA i_M hown hK hP 0 rfl rfl 5 (by decide) (hA _ k2_217) (fun _ h9 => h9) rfl d_M_lettered_220 ?_
            refine lv_iload hx hb d_M_lettered_223 (lv_at hl 3 rfl) ?_
            refine lv_icmp_ne (tgt := 231) hx hb d_M_lettered_225 (by decide) (fun _ => ?_) (fun q9 => absurd q9 (by decide))
            refine lv_iload_n hx hb d_M_lettered_231 rfl (lv_at hl 7 rfl) ?_
            refine lv_aload_n hx hb d_M_lettered_232 rfl (lv_at hl 5 rfl) ?_
            refine va_get (D := D) (ci := 2) (v := .int 1) (C := R_M) (T := F_M) (N := 6) hx hb hA i_M hown hK hP 0 rfl rfl 5 (by decide) (hA _ k2_217) (fun _ h9 => h9) rfl d_M_lettered_233 ?_
            refine lv_iadd hx hb d_M_lettered_236 ?_
            refine lv_topi (fun v236 ev236 => ?_)
            have ev236 : v236 = nI (a + 1) := by rw [ev236]; exact nI_add a 1
            subst ev236
            refine lv_iload_n hx hb d_M_lettered_237 rfl (lv_at hl 8 rfl) ?_
            refine lv_icmp_lt (tgt := 250) hx hb d_M_lettered_238 (by decide) (fun c238 => ?_) (fun c238 => ?_)
            · have gE1 : a + 1 < e1 := (nI_ltI (a := a + 1) (b := e1) (by omega) (by omega)).mp c238
              have g81 := hB (a + 1)
              refine lv_aload_n hx hb d_M_lettered_250 rfl (lv_at hl 5 rfl) ?_
              refine lv_iload_n hx hb d_M_lettered_251 rfl (lv_at hl 6 rfl) ?_
              refine lv_iload_n hx hb d_M_lettered_252 rfl (lv_at hl 7 rfl) ?_
              refine lv_aload_n hx hb d_M_lettered_253 rfl (lv_at hl 5 rfl) ?_
              refine va_get (D := D) (ci := 2) (v := .int 1) (C := R_M) (T := F_M) (N := 6) hx hb hA i_M hown hK hP 0 rfl rfl 5 (by decide) (hA _ k2_217) (fun _ h9 => h9) rfl d_M_lettered_254 ?_
              refine lv_iadd hx hb d_M_lettered_257 ?_
              refine lv_topi (fun v257 ev257 => ?_)
              have ev257 : v257 = nI (a + 1) := by rw [ev257]; exact nI_add a 1
              subst ev257
              have hPc := hP.sub (ws' := [(h, .inr (2, [.int th, .int (nI M), .ref cl, .ref sa, .ref pa, .int 1])), (cl, .inl (cL, 32768, .inr (.inl (pkF (σ))))), (sa, .inl (cI, 4, .inl (fun i9 => nI ((σ) i9).2.1))), (pa, .inl (cI, 4, .inl (fun i9 => nI ((σ) i9).2.2)))]) [0, 1, 2, 3] rfl
              have hKc := hK.sub (tys' := [(cL, .long), (cI, .int)]) [0, 1] rfl
              refine vp_callSi (W.runV (As := [.int (nI k), .int (nI (a + 1))]) (rest := []) ⟨hx, hb, hml, hown, hA⟩ (c_M_at l D cL cI h cl sa pa M th 1 σ k (a + 1) hk (by omega) hB) (q_M_at hA k3_66 rfl rfl ⟨(Nat.le_of_ble_eq_true rfl), (Nat.le_of_ble_eq_true rfl)⟩) (ox_V (va_recv hKc hPc (ci := 2) (q0 := 0) rfl rfl) (ox_S hPc hKc)) rfl rfl hl.1 rfl (lv_room (Nat.le_of_ble_eq_true rfl)) d_M_lettered_258 ⟨(Nat.le_of_ble_eq_true rfl), (Nat.le_of_ble_eq_true rfl)⟩) (fun r258 hr258 => ?_)
              have er258 : r258 = nI ((σ k).1 (a + 1)) := hr258
              subst er258
              refine lv_istore (lv' := [(9, .int (nI ((σ k).1 (a + 1)))), (8, .int (nI ((((σ k).1 a) - 192) * 64 + 63))), (7, .int (nI ((((σ k).1 a) - 192) * 64))), (6, .int (nI (((σ k).1 a) - 192))), (5, .int 2), (4, .int (nI ((σ k).1 a))), (0, .ref h), (1, .int (nI k)), (2, .int (nI a)), (3, .int (nI e1))]) hx hb d_M_lettered_261 hl (by decide) rfl (fun ls hl => ?_)
              refine lv_bipush (v := 64) hx hb d_M_lettered_263 (by decide) ?_
              refine lv_iload hx hb d_M_lettered_265 (lv_at hl 3 rfl) ?_
              refine lv_imul hx hb d_M_lettered_267 ?_
              refine lv_topi (fun v267 ev267 => ?_)
              have ev267 : v267 = nI (64 * (((σ k).1 a) - 192)) := by rw [ev267]; exact pk_mul 64 _
              subst ev267
              refine lv_iload hx hb d_M_lettered_268 (lv_at hl 0 rfl) ?_
              refine lv_bipush (v := 64) hx hb d_M_lettered_270 (by decide) ?_
              refine lv_irem hx hb d_M_lettered_272 (by decide) ?_
              refine lv_topi (fun v272 ev272 => ?_)
              have ev272 : v272 = nI (((σ k).1 (a + 1)) % 64) := by rw [ev272]; exact pk_rem (d := 64) (by omega) (by decide) (by decide)
              subst ev272
              refine lv_iadd hx hb d_M_lettered_273 ?_
              refine lv_topi (fun v273 ev273 => ?_)
              have ev273 : v273 = nI (64 * (((σ k).1 a) - 192) + ((σ k).1 (a + 1)) % 64) := by rw [ev273]; exact nI_add _ _
              subst ev273
              refine lv_istore (lv' := [(6, .int (nI (64 * (((σ k).1 a) - 192) + ((σ k).1 (a + 1)) % 64))), (9, .int (nI ((σ k).1 (a + 1)))), (8, .int (nI ((((σ k).1 a) - 192) * 64 + 63))), (7, .int (nI ((((σ k).1 a) - 192) * 64))), (5, .int 2), (4, .int (nI ((σ k).1 a))), (0, .ref h), (1, .int (nI k)), (2, .int (nI a)), (3, .int (nI e1))]) hx hb d_M_lettered_274 hl (by decide) rfl (fun ls hl => ?_)
              refine lv_aload_n hx hb d_M_lettered_276 rfl (lv_at hl 6 rfl) ?_
              refine lv_iload hx hb d_M_lettered_277 (lv_at hl 1 rfl) ?_
              refine lv_bipush (v := 64) hx hb d_M_lettered_279 (by decide) ?_
              refine lv_idiv hx hb d_M_lettered_281 (by decide) ?_
              refine lv_topi (fun v281 ev281 => ?_)
              have ev281 : v281 = nI (((σ k).1 (a + 1)) / 64) := by rw [ev281]; exact pk_div (d := 64) (by omega) (by decide) (by decide)
              subst ev281
              refine lv_iconst (v := 2) hx hb d_M_lettered_282 (by decide) ?_
              refine lv_icmp_ne (tgt := 295) hx hb d_M_lettered_283 (by decide) (fun c283 => ?_) (fun c283 => ?_)
              · have gC1 : ¬ ((σ k).1 (a + 1)) / 64 = 2 := mt (nI_eq (b := 2) (by omega) (by omega)).mpr c283
                refine lv_bipush (v := (-2)) hx hb d_M_lettered_295 (by decide) ?_
                refine va_put (D := D) (ci := 2) (v := .int (-2)) (ty := .int) (C := R_M) (T := F_M) (N := 6) hx hb hA i_M t_M t_M_ok n_M hown hK hP hD hS 0 rfl rfl 5 (by decide) (hA _ k2_217) (fun _ h9 => h9) rfl (by decide +kernel) rfl rfl (Nat.le_of_ble_eq_true rfl) d_M_lettered_297 (fun H locs hP hD hS => ?_)
                have hP : va_P D vCl [(h, .inr (2, [.int th, .int (nI M), .ref cl, .ref sa, .ref pa, .int (-2)])), (cl, .inl (cL, 32768, .inr (.inl (pkF (σ))))), (sa, .inl (cI, 4, .inl (fun i9 => nI ((σ) i9).2.1))), (pa, .inl (cI, 4, .inl (fun i9 => nI ((σ) i9).2.2)))] H := hP
                have hD : va_D A [(h, .inr (2, [.int th, .int (nI M), .ref cl, .ref sa, .ref pa, .int (-2)])), (cl, .inl (cL, 32768, .inr (.inl (pkF (σ))))), (sa, .inl (cI, 4, .inl (fun i9 => nI ((σ) i9).2.1))), (pa, .inl (cI, 4, .inl (fun i9 => nI ((σ) i9).2.2)))] := hD
                refine lv_goto (tgt := 148) hx hb d_M_lettered_300 (by decide) ?_
                refine lv_aload_n hx hb d_M_lettered_148 rfl (lv_at hl 6 rfl) ?_
                refine va_get (D := D) (ci := 2) (v := .int (-2)) (C := R_M) (T := F_M) (N := 6) hx hb hA i_M hown hK hP 0 rfl rfl 5 (by decide) (hA _ k2_217) (fun _ h9 => h9) rfl d_M_lettered_149 ?_
                refine lv_if_le (tgt := 303) hx hb d_M_lettered_152 (by decide) (fun _ => ?_) (fun q9 => absurd (by decide) q9)
                refine lv_iconst (v := 0) hx hb d_M_lettered_303 (by decide) ?_
                have hla : la (σ k).1 a e1 = -1 := lt8_2c1 hB gE g38 g50 gB1 gE1 gC1
                exact W.iret (v := 0) hx hb hr (fun t ht hW => ⟨⟨_, (-2), rfl, (Or.inl ⟨hla, rfl, rfl⟩), by rw [ht]; exact hP, va_K.moved hW.alike hK, hD⟩, hS.F ht⟩) hS.2.2 d_M_lettered_304
              · have gC1 : ((σ k).1 (a + 1)) / 64 = 2 := (nI_eq (b := 2) (by omega) (by omega)).mp c283
                refine lv_aload_n hx hb d_M_lettered_286 rfl (lv_at hl 6 rfl) ?_
                refine va_get (D := D) (ci := 2) (v := .int 1) (C := R_M) (T := F_M) (N := 6) hx hb hA i_M hown hK hP 0 rfl rfl 5 (by decide) (hA _ k2_217) (fun _ h9 => h9) rfl d_M_lettered_287 ?_
                refine lv_iconst (v := 1) hx hb d_M_lettered_290 (by decide) ?_
                refine lv_iadd hx hb d_M_lettered_291 ?_
                refine lv_topi (fun v291 ev291 => ?_)
                have ev291 : v291 = 2 := by rw [ev291]; decide
                subst ev291
                refine lv_goto (tgt := 297) hx hb d_M_lettered_292 (by decide) ?_
                refine va_put (D := D) (ci := 2) (v := .int 2) (ty := .int) (C := R_M) (T := F_M) (N := 6) hx hb hA i_M t_M t_M_ok n_M hown hK hP hD hS 0 rfl rfl 5 (by decide) (hA _ k2_217) (fun _ h9 => h9) rfl (by decide +kernel) rfl rfl (Nat.le_of_ble_eq_true rfl) d_M_lettered_297 (fun H locs hP hD hS => ?_)
                have hP : va_P D vCl [(h, .inr (2, [.int th, .int (nI M), .ref cl, .ref sa, .ref pa, .int 2])), (cl, .inl (cL, 32768, .inr (.inl (pkF (σ))))), (sa, .inl (cI, 4, .inl (fun i9 => nI ((σ) i9).2.1))), (pa, .inl (cI, 4, .inl (fun i9 => nI ((σ) i9).2.2)))] H := hP
                have hD : va_D A [(h, .inr (2, [.int th, .int (nI M), .ref cl, .ref sa, .ref pa, .int 2])), (cl, .inl (cL, 32768, .inr (.inl (pkF (σ))))), (sa, .inl (cI, 4, .inl (fun i9 => nI ((σ) i9).2.1))), (pa, .inl (cI, 4, .inl (fun i9 => nI ((σ) i9).2.2)))] := hD
                refine lv_goto (tgt := 148) hx hb d_M_lettered_300 (by decide) ?_
                refine lv_aload_n hx hb d_M_lettered_148 rfl (lv_at hl 6 rfl) ?_
                refine va_get (D := D) (ci := 2) (v := .int 2) (C := R_M) (T := F_M) (N := 6) hx hb hA i_M hown hK hP 0 rfl rfl 5 (by decide) (hA _ k2_217) (fun _ h9 => h9) rfl d_M_lettered_149 ?_
                refine lv_if_le (tgt := 303) hx hb d_M_lettered_152 (by decide) (fun q9 => absurd q9 (by decide)) (fun _ => ?_)
                refine lv_aload_n hx hb d_M_lettered_155 rfl (lv_at hl 6 rfl) ?_
                refine va_get (D := D) (ci := 2) (v := .int 2) (C := R_M) (T := F_M) (N := 6) hx hb hA i_M hown hK hP 0 rfl rfl 5 (by decide) (hA _ k2_217) (fun _ h9 => h9) rfl d_M_lettered_156 ?_
                refine lv_iload hx hb d_M_lettered_159 (lv_at hl 4 rfl) ?_
                refine lv_icmp_gt (tgt := 303) hx hb d_M_lettered_161 (by decide) (fun q9 => absurd q9 (by decide)) (fun _ => ?_)
                refine lv_iload hx hb d_M_lettered_164 (lv_at hl 0 rfl) ?_
                refine lv_bipush (v := 6) hx hb d_M_lettered_166 (by decide) ?_
                refine lv_iload hx hb d_M_lettered_168 (lv_at hl 4 rfl) ?_
                refine lv_aload_n hx hb d_M_lettered_170 rfl (lv_at hl 6 rfl) ?_
                refine va_get (D := D) (ci := 2) (v := .int 2) (C := R_M) (T := F_M) (N := 6) hx hb hA i_M hown hK hP 0 rfl rfl 5 (by decide) (hA _ k2_217) (fun _ h9 => h9) rfl d_M_lettered_171 ?_
                refine lv_isub hx hb d_M_lettered_174 ?_
                refine lv_topi (fun v174 ev174 => ?_)
                have ev174 : v174 = 0 := by rw [ev174]; decide
                subst ev174
                refine lv_imul hx hb d_M_lettered_175 ?_
                refine lv_topi (fun v175 ev175 => ?_)
                have ev175 : v175 = 0 := by rw [ev175]; decide
                subst ev175
                refine lv_ishl hx hb d_M_lettered_176 ?_
                refine lv_topi (fun v176 ev176 => ?_)
                have ev176 : v176 = nI ((64 * (((σ k).1 a) - 192) + ((σ k).1 (a + 1)) % 64) * 1) := by rw [ev176]; exact (sh_n (k := 0) (by decide) (by omega)).trans rfl
                subst ev176
                refine lv_istore (lv' := [(7, .int (nI ((64 * (((σ k).1 a) - 192) + ((σ k).1 (a + 1)) % 64) * 1))), (6, .int (nI (64 * (((σ k).1 a) - 192) + ((σ k).1 (a + 1)) % 64))), (9, .int (nI ((σ k).1 (a + 1)))), (8, .int (nI ((((σ k).1 a) - 192) * 64 + 63))), (5, .int 2), (4, .int (nI ((σ k).1 a))), (0, .ref h), (1, .int (nI k)), (2, .int (nI a)), (3, .int (nI e1))]) hx hb d_M_lettered_177 hl (by decide) rfl (fun ls hl => ?_)
                refine lv_iload hx hb d_M_lettered_179 (lv_at hl 0 rfl) ?_
                refine lv_iconst (v := 1) hx hb d_M_lettered_181 (by decide) ?_
                refine lv_bipush (v := 6) hx hb d_M_lettered_182 (by decide) ?_
                refine lv_iload hx hb d_M_lettered_184 (lv_at hl 4 rfl) ?_
                refine lv_aload_n hx hb d_M_lettered_186 rfl (lv_at hl 6 rfl) ?_
                refine va_get (D := D) (ci := 2) (v := .int 2) (C := R_M) (T := F_M) (N := 6) hx hb hA i_M hown hK hP 0 rfl rfl 5 (by decide) (hA _ k2_217) (fun _ h9 => h9) rfl d_M_lettered_187 ?_
                refine lv_isub hx hb d_M_lettered_190 ?_
                refine lv_topi (fun v190 ev190 => ?_)
                have ev190 : v190 = 0 := by rw [ev190]; decide
                subst ev190
                refine lv_imul hx hb d_M_lettered_191 ?_
                refine lv_topi (fun v191 ev191 => ?_)
                have ev191 : v191 = 0 := by rw [ev191]; decide
                subst ev191
                refine lv_ishl hx hb d_M_lettered_192 ?_
                refine lv_topi (fun v192 ev192 => ?_)
                have ev192 : v192 = 1 := by rw [ev192]; decide
                subst ev192
                refine lv_iadd hx hb d_M_lettered_193 ?_
                refine lv_topi (fun v193 ev193 => ?_)
                have ev193 : v193 = nI ((64 * (((σ k).1 a) - 192) + ((σ k).1 (a + 1)) % 64) * 1 + 1) := by rw [ev193]; exact nI_add _ 1
                subst ev193
                refine lv_iconst (v := 1) hx hb d_M_lettered_194 (by decide) ?_
                refine lv_isub hx hb d_M_lettered_195 ?_
                refine lv_topi (fun v195 ev195 => ?_)
                have ev195 : v195 = nI ((64 * (((σ k).1 a) - 192) + ((σ k).1 (a + 1)) % 64) * 1 + 0) := by rw [ev195]; exact (pk_sub (b := 1) (by omega)).trans (congrArg nI (by omega))
                subst ev195
                refine lv_istore (lv' := [(8, .int (nI ((64 * (((σ k).1 a) - 192) + ((σ k).1 (a + 1)) % 64) * 1 + 0))), (7, .int (nI ((64 * (((σ k).1 a) - 192) + ((σ k).1 (a + 1)) % 64) * 1))), (6, .int (nI (64 * (((σ k).1 a) - 192) + ((σ k).1 (a + 1)) % 64))), (9, .int (nI ((σ k).1 (a + 1)))), (5, .int 2), (4, .int (nI ((σ k).1 a))), (0, .ref h), (1, .int (nI k)), (2, .int (nI a)), (3, .int (nI e1))]) hx hb d_M_lettered_196 hl (by decide) rfl (fun ls hl => ?_)
                refine lv_iload hx hb d_M_lettered_198 (lv_at hl 4 rfl) ?_
                refine lv_iload hx hb d_M_lettered_200 (lv_at hl 1 rfl) ?_
                refine lv_iload hx hb d_M_lettered_202 (lv_at hl 0 rfl) ?_
                refine vp_callSi (W.runS (As := [.int 2, .int (nI ((64 * (((σ k).1 a) - 192) + ((σ k).1 (a + 1)) % 64) * 1)), .int (nI ((64 * (((σ k).1 a) - 192) + ((σ k).1 (a + 1)) % 64) * 1 + 0))]) (rest := []) ⟨hx, hb, hml, hown, hA⟩ (c_M_canBe l 2 ((64 * (((σ k).1 a) - 192) + ((σ k).1 (a + 1)) % 64) * 1) ((64 * (((σ k).1 a) - 192) + ((σ k).1 (a + 1)) % 64) * 1 + 0) (by decide) (by omega) (by omega)) (q_M_canBe hA k3_132 rfl rfl ⟨(Nat.le_of_ble_eq_true rfl), (Nat.le_of_ble_eq_true rfl)⟩) (⟨fun a U g mk q => q, fun U hU hW => ⟨rfl, trivial⟩⟩) rfl rfl hl.1 rfl (lv_room (Nat.le_of_ble_eq_true rfl)) d_M_lettered_204 ⟨(Nat.le_of_ble_eq_true rfl), (Nat.le_of_ble_eq_true rfl)⟩) (fun r204 hr204 => ?_)
                rcases hr204 with ⟨gB2, rfl⟩ | ⟨gB2, rfl⟩
                · refine lv_if_ne (tgt := 219) hx hb d_M_lettered_207 (by decide) (fun _ => ?_) (fun q9 => absurd q9 (by decide))
                  refine lv_aload_n hx hb d_M_lettered_219 rfl (lv_at hl 6 rfl) ?_
                  refine va_get (D := D) (ci := 2) (v := .int 2) (C := R_M) (T := F_M) (N := 6) hx hb hA i_M hown hK hP 0 rfl rfl 5 (by decide) (hA _ k2_217) (fun _ h9 => h9) rfl d_M_lettered_220 ?_
                  refine lv_iload hx hb d_M_lettered_223 (lv_at hl 4 rfl) ?_
                  refine lv_icmp_ne (tgt := 231) hx hb d_M_lettered_225 (by decide) (fun q9 => absurd (by decide) q9) (fun _ => ?_)
                  refine lv_iload hx hb d_M_lettered_228 (lv_at hl 2 rfl) ?_
                  have hla : la (σ k).1 a e1 = (((64 * (((σ k).1 a) - 192) + ((σ k).1 (a + 1)) % 64) : Nat) : Int) := lt8_2g hB gE g38 g50 gB1 gE1 gC1 gB2
                  have hlw : lwI (((64 * (((σ k).1 a) - 192) + ((σ k).1 (a + 1)) % 64) : Nat) : Int) = 2 := lt8_2w hB gE g38 g50 gB1 gE1 gC1 gB2
                  exact W.iret (v := nI (64 * (((σ k).1 a) - 192) + ((σ k).1 (a + 1)) % 64)) hx hb hr (fun t ht hW => ⟨⟨_, 2, rfl, (Or.inr (Or.inr ⟨by rw [hla]; exact Int.natCast_nonneg _, by rw [hla, hlw]; rfl, by rw [hla]; rfl⟩)), by rw [ht]; exact hP, va_K.moved hW.alike hK, hD⟩, hS.F ht⟩) hS.2.2 d_M_lettered_230
                · refine lv_if_ne (tgt := 219) hx hb d_M_lettered_207 (by decide) (fun q9 => absurd (by decide) q9) (fun _ => ?_)
                  exact absurd (lt8_2t2 hB gE g38 g50 gB1 gE1 gC1) gB2
            · have gE1 : e1 ≤ a + 1 := by have := mt (nI_ltI (a := a + 1) (b := e1) (by omega) (by omega)).mpr c238; omega
              refine lv_aload_n hx hb d_M_lettered_241 rfl (lv_at hl 5 rfl) ?_
              refine lv_bipush (v := (-3)) hx hb d_M_lettered_242 (by decide) ?_
              refine va_put (D := D) (ci := 2) (v := .int (-3)) (ty := .int) (C := R_M) (T := F_M) (N := 6) hx hb hA i_M t_M t_M_ok n_M hown hK hP hD hS 0 rfl rfl 5 (by decide) (hA _ k2_217) (fun _ h9 => h9) rfl (by decide +kernel) rfl rfl (Nat.le_of_ble_eq_true rfl) d_M_lettered_244 (fun H locs hP hD hS => ?_)
              have hP : va_P D vCl [(h, .inr (2, [.int th, .int (nI M), .ref cl, .ref sa, .ref pa, .int (-3)])), (cl, .inl (cL, 32768, .inr (.inl (pkF (σ))))), (sa, .inl (cI, 4, .inl (fun i9 => nI ((σ) i9).2.1))), (pa, .inl (cI, 4, .inl (fun i9 => nI ((σ) i9).2.2)))] H := hP
              have hD : va_D A [(h, .inr (2, [.int th, .int (nI M), .ref cl, .ref sa, .ref pa, .int (-3)])), (cl, .inl (cL, 32768, .inr (.inl (pkF (σ))))), (sa, .inl (cI, 4, .inl (fun i9 => nI ((σ) i9).2.1))), (pa, .inl (cI, 4, .inl (fun i9 => nI ((σ) i9).2.2)))] := hD
              refine lv_goto (tgt := 300) hx hb d_M_lettered_247 (by decide) ?_
              refine lv_goto (tgt := 148) hx hb d_M_lettered_300 (by decide) ?_
              refine lv_aload_n hx hb d_M_lettered_148 rfl (lv_at hl 5 rfl) ?_
              refine va_get (D := D) (ci := 2) (v := .int (-3)) (C := R_M) (T := F_M) (N := 6) hx hb hA i_M hown hK hP 0 rfl rfl 5 (by decide) (hA _ k2_217) (fun _ h9 => h9) rfl d_M_lettered_149 ?_
              refine lv_if_le (tgt := 303) hx hb d_M_lettered_152 (by decide) (fun _ => ?_) (fun q9 => absurd (by decide) q9)
              refine lv_iconst (v := 0) hx hb d_M_lettered_303 (by decide) ?_
              have hla : la (σ k).1 a e1 = -2 := lt8_2e1 hB gE g38 g50 gB1 gE1
              exact W.iret (v := 0) hx hb hr (fun t ht hW => ⟨⟨_, (-3), rfl, (Or.inr <| Or.inl ⟨hla, rfl, rfl⟩), by rw [ht]; exact hP, va_K.moved hW.alike hK, hD⟩, hS.F ht⟩) hS.2.2 d_M_lettered_304
          · refine lv_if_ne (tgt := 219) hx hb d_M_lettered_207 (by decide) (fun q9 => absurd (by decide) q9) (fun _ => ?_)
            refine lv_aload_n hx hb d_M_lettered_210 rfl (lv_at hl 5 rfl) ?_
            refine lv_bipush (v := (-2)) hx hb d_M_lettered_211 (by decide) ?_
            refine va_put (D := D) (ci := 2) (v := .int (-2)) (ty := .int) (C := R_M) (T := F_M) (N := 6) hx hb hA i_M t_M t_M_ok n_M hown hK hP hD hS 0 rfl rfl 5 (by decide) (hA _ k2_217) (fun _ h9 => h9) rfl (by decide +kernel) rfl rfl (Nat.le_of_ble_eq_true rfl) d_M_lettered_213 (fun H locs hP hD hS => ?_)
            have hP : va_P D vCl [(h, .inr (2, [.int th, .int (nI M), .ref cl, .ref sa, .ref pa, .int (-2)])), (cl, .inl (cL, 32768, .inr (.inl (pkF (σ))))), (sa, .inl (cI, 4, .inl (fun i9 => nI ((σ) i9).2.1))), (pa, .inl (cI, 4, .inl (fun i9 => nI ((σ) i9).2.2)))] H := hP
            have hD : va_D A [(h, .inr (2, [.int th, .int (nI M), .ref cl, .ref sa, .ref pa, .int (-2)])), (cl, .inl (cL, 32768, .inr (.inl (pkF (σ))))), (sa, .inl (cI, 4, .inl (fun i9 => nI ((σ) i9).2.1))), (pa, .inl (cI, 4, .inl (fun i9 => nI ((σ) i9).2.2)))] := hD
            refine lv_goto (tgt := 300) hx hb d_M_lettered_216 (by decide) ?_
            refine lv_goto (tgt := 148) hx hb d_M_lettered_300 (by decide) ?_
            refine lv_aload_n hx hb d_M_lettered_148 rfl (lv_at hl 5 rfl) ?_
            refine va_get (D := D) (ci := 2) (v := .int (-2)) (C := R_M) (T := F_M) (N := 6) hx hb hA i_M hown hK hP 0 rfl rfl 5 (by decide) (hA _ k2_217) (fun _ h9 => h9) rfl d_M_lettered_149 ?_
            refine lv_if_le (tgt := 303) hx hb d_M_lettered_152 (by decide) (fun _ => ?_) (fun q9 => absurd (by decide) q9)
            refine lv_iconst (v := 0) hx hb d_M_lettered_303 (by decide) ?_
            have hla : la (σ k).1 a e1 = -1 := lt8_2b1 hB gE g38 g50 gB1
            exact W.iret (v := 0) hx hb hr (fun t ht hW => ⟨⟨_, (-2), rfl, (Or.inl ⟨hla, rfl, rfl⟩), by rw [ht]; exact hP, va_K.moved hW.alike hK, hD⟩, hS.F ht⟩) hS.2.2 d_M_lettered_304
      · have g38 : ((σ k).1 a) < 192 := by have := mt (nI_leI (a := 192) (b := ((σ k).1 a)) (by omega) (by omega)).mpr c38; omega
        refine lv_iconst (v := 0) hx hb d_M_lettered_41 (by decide) ?_
        refine lv_goto (tgt := 82) hx hb d_M_lettered_42 (by decide) ?_
        refine lv_istore (lv' := [(5, .int 0), (4, .int (nI ((σ k).1 a))), (0, .ref h), (1, .int (nI k)), (2, .int (nI a)), (3, .int (nI e1))]) hx hb d_M_lettered_82 hl (by decide) rfl (fun ls hl => ?_)
        refine lv_iload hx hb d_M_lettered_84 (lv_at hl 0 rfl) ?_
        refine lv_iconst (v := 1) hx hb d_M_lettered_86 (by decide) ?_
        refine lv_icmp_ne (tgt := 95) hx hb d_M_lettered_87 (by decide) (fun _ => ?_) (fun q9 => absurd q9 (by decide))
        refine lv_iload hx hb d_M_lettered_95 (lv_at hl 0 rfl) ?_
        refine lv_iconst (v := 2) hx hb d_M_lettered_97 (by decide) ?_
        refine lv_icmp_ne (tgt := 110) hx hb d_M_lettered_98 (by decide) (fun _ => ?_) (fun q9 => absurd q9 (by decide))
        refine lv_iload hx hb d_M_lettered_110 (lv_at hl 0 rfl) ?_
        refine lv_iconst (v := 3) hx hb d_M_lettered_112 (by decide) ?_
        refine lv_icmp_ne (tgt := 125) hx hb d_M_lettered_113 (by decide) (fun _ => ?_) (fun q9 => absurd q9 (by decide))
        refine lv_iload hx hb d_M_lettered_125 (lv_at hl 1 rfl) ?_
        refine lv_sipush (v := 240) hx hb d_M_lettered_127 (by decide) ?_
        refine lv_isub hx hb d_M_lettered_130 ?_
        refine lv_topi (fun v130 ev130 => ?_)
        refine lv_istore (lv' := [(6, .int v130), (5, .int 0), (4, .int (nI ((σ k).1 a))), (0, .ref h), (1, .int (nI k)), (2, .int (nI a)), (3, .int (nI e1))]) hx hb d_M_lettered_131 hl (by decide) rfl (fun ls hl => ?_)
        refine lv_aload_n hx hb d_M_lettered_133 rfl (lv_at hl 3 rfl) ?_
        refine lv_iload hx hb d_M_lettered_134 (lv_at hl 1 rfl) ?_
        refine lv_if_ne (tgt := 144) hx hb d_M_lettered_136 (by decide) (fun q9 => absurd (by decide) q9) (fun _ => ?_)
        refine lv_bipush (v := (-2)) hx hb d_M_lettered_139 (by decide) ?_
        refine lv_goto (tgt := 145) hx hb d_M_lettered_141 (by decide) ?_
        refine va_put (D := D) (ci := 2) (v := .int (-2)) (ty := .int) (C := R_M) (T := F_M) (N := 6) hx hb hA i_M t_M t_M_ok n_M hown hK hP hD hS 0 rfl rfl 5 (by decide) (hA _ k2_217) (fun _ h9 => h9) rfl (by decide +kernel) rfl rfl (Nat.le_of_ble_eq_true rfl) d_M_lettered_145 (fun H locs hP hD hS => ?_)
        have hP : va_P D vCl [(h, .inr (2, [.int th, .int (nI M), .ref cl, .ref sa, .ref pa, .int (-2)])), (cl, .inl (cL, 32768, .inr (.inl (pkF (σ))))), (sa, .inl (cI, 4, .inl (fun i9 => nI ((σ) i9).2.1))), (pa, .inl (cI, 4, .inl (fun i9 => nI ((σ) i9).2.2)))] H := hP
        have hD : va_D A [(h, .inr (2, [.int th, .int (nI M), .ref cl, .ref sa, .ref pa, .int (-2)])), (cl, .inl (cL, 32768, .inr (.inl (pkF (σ))))), (sa, .inl (cI, 4, .inl (fun i9 => nI ((σ) i9).2.1))), (pa, .inl (cI, 4, .inl (fun i9 => nI ((σ) i9).2.2)))] := hD
        refine lv_aload_n hx hb d_M_lettered_148 rfl (lv_at hl 3 rfl) ?_
        refine va_get (D := D) (ci := 2) (v := .int (-2)) (C := R_M) (T := F_M) (N := 6) hx hb hA i_M hown hK hP 0 rfl rfl 5 (by decide) (hA _ k2_217) (fun _ h9 => h9) rfl d_M_lettered_149 ?_
        refine lv_if_le (tgt := 303) hx hb d_M_lettered_152 (by decide) (fun _ => ?_) (fun q9 => absurd (by decide) q9)
        refine lv_iconst (v := 0) hx hb d_M_lettered_303 (by decide) ?_
        have hla : la (σ k).1 a e1 = -1 := lt8_0 hB gE (by omega) (by omega)
        exact W.iret (v := 0) hx hb hr (fun t ht hW => ⟨⟨_, (-2), rfl, (Or.inl ⟨hla, rfl, rfl⟩), by rw [ht]; exact hP, va_K.moved hW.alike hK, hD⟩, hS.F ht⟩) hS.2.2 d_M_lettered_304
    · have g26 : ((σ k).1 a) < 128 := by have := mt (nI_leI (a := 128) (b := ((σ k).1 a)) (by omega) (by omega)).mpr c26; omega
      refine lv_iconst (v := 1) hx hb d_M_lettered_29 (by decide) ?_
      refine lv_goto (tgt := 82) hx hb d_M_lettered_30 (by decide) ?_
      refine lv_istore (lv' := [(5, .int 1), (4, .int (nI ((σ k).1 a))), (0, .ref h), (1, .int (nI k)), (2, .int (nI a)), (3, .int (nI e1))]) hx hb d_M_lettered_82 hl (by decide) rfl (fun ls hl => ?_)
      refine lv_iload hx hb d_M_lettered_84 (lv_at hl 0 rfl) ?_
      refine lv_iconst (v := 1) hx hb d_M_lettered_86 (by decide) ?_
      refine lv_icmp_ne (tgt := 95) hx hb d_M_lettered_87 (by decide) (fun q9 => absurd (by decide) q9) (fun _ => ?_)
      refine lv_iload hx hb d_M_lettered_90 (lv_at hl 1 rfl) ?_
      refine lv_goto (tgt := 131) hx hb d_M_lettered_92 (by decide) ?_
      refine lv_istore (lv' := [(6, .int (nI ((σ k).1 a))), (5, .int 1), (4, .int (nI ((σ k).1 a))), (0, .ref h), (1, .int (nI k)), (2, .int (nI a)), (3, .int (nI e1))]) hx hb d_M_lettered_131 hl (by decide) rfl (fun ls hl => ?_)
      refine lv_aload_n hx hb d_M_lettered_133 rfl (lv_at hl 3 rfl) ?_
      refine lv_iload hx hb d_M_lettered_134 (lv_at hl 1 rfl) ?_
      refine lv_if_ne (tgt := 144) hx hb d_M_lettered_136 (by decide) (fun _ => ?_) (fun q9 => absurd q9 (by decide))
      refine lv_iconst (v := 1) hx hb d_M_lettered_144 (by decide) ?_
      refine va_put (D := D) (ci := 2) (v := .int 1) (ty := .int) (C := R_M) (T := F_M) (N := 6) hx hb hA i_M t_M t_M_ok n_M hown hK hP hD hS 0 rfl rfl 5 (by decide) (hA _ k2_217) (fun _ h9 => h9) rfl (by decide +kernel) rfl rfl (Nat.le_of_ble_eq_true rfl) d_M_lettered_145 (fun H locs hP hD hS => ?_)
      have hP : va_P D vCl [(h, .inr (2, [.int th, .int (nI M), .ref cl, .ref sa, .ref pa, .int 1])), (cl, .inl (cL, 32768, .inr (.inl (pkF (σ))))), (sa, .inl (cI, 4, .inl (fun i9 => nI ((σ) i9).2.1))), (pa, .inl (cI, 4, .inl (fun i9 => nI ((σ) i9).2.2)))] H := hP
      have hD : va_D A [(h, .inr (2, [.int th, .int (nI M), .ref cl, .ref sa, .ref pa, .int 1])), (cl, .inl (cL, 32768, .inr (.inl (pkF (σ))))), (sa, .inl (cI, 4, .inl (fun i9 => nI ((σ) i9).2.1))), (pa, .inl (cI, 4, .inl (fun i9 => nI ((σ) i9).2.2)))] := hD
      refine lv_aload_n hx hb d_M_lettered_148 rfl (lv_at hl 3 rfl) ?_
      refine va_get (D := D) (ci := 2) (v := .int 1) (C := R_M) (T := F_M) (N := 6) hx hb hA i_M hown hK hP 0 rfl rfl 5 (by decide) (hA _ k2_217) (fun _ h9 => h9) rfl d_M_lettered_149 ?_
      refine lv_if_le (tgt := 303) hx hb d_M_lettered_152 (by decide) (fun q9 => absurd q9 (by decide)) (fun _ => ?_)
      refine lv_aload_n hx hb d_M_lettered_155 rfl (lv_at hl 3 rfl) ?_
      refine va_get (D := D) (ci := 2) (v := .int 1) (C := R_M) (T := F_M) (N := 6) hx hb hA i_M hown hK hP 0 rfl rfl 5 (by decide) (hA _ k2_217) (fun _ h9 => h9) rfl d_M_lettered_156 ?_
      refine lv_iload hx hb d_M_lettered_159 (lv_at hl 1 rfl) ?_
      refine lv_icmp_gt (tgt := 303) hx hb d_M_lettered_161 (by decide) (fun q9 => absurd q9 (by decide)) (fun _ => ?_)
      refine lv_iload hx hb d_M_lettered_164 (lv_at hl 0 rfl) ?_
      refine lv_bipush (v := 6) hx hb d_M_lettered_166 (by decide) ?_
      refine lv_iload hx hb d_M_lettered_168 (lv_at hl 1 rfl) ?_
      refine lv_aload_n hx hb d_M_lettered_170 rfl (lv_at hl 3 rfl) ?_
      refine va_get (D := D) (ci := 2) (v := .int 1) (C := R_M) (T := F_M) (N := 6) hx hb hA i_M hown hK hP 0 rfl rfl 5 (by decide) (hA _ k2_217) (fun _ h9 => h9) rfl d_M_lettered_171 ?_
      refine lv_isub hx hb d_M_lettered_174 ?_
      refine lv_topi (fun v174 ev174 => ?_)
      have ev174 : v174 = 0 := by rw [ev174]; decide
      subst ev174
      refine lv_imul hx hb d_M_lettered_175 ?_
      refine lv_topi (fun v175 ev175 => ?_)
      have ev175 : v175 = 0 := by rw [ev175]; decide
      subst ev175
      refine lv_ishl hx hb d_M_lettered_176 ?_
      refine lv_topi (fun v176 ev176 => ?_)
      have ev176 : v176 = nI (((σ k).1 a) * 1) := by rw [ev176]; exact (sh_n (k := 0) (by decide) (by omega)).trans rfl
      subst ev176
      refine lv_istore (lv' := [(7, .int (nI (((σ k).1 a) * 1))), (6, .int (nI ((σ k).1 a))), (5, .int 1), (4, .int (nI ((σ k).1 a))), (0, .ref h), (1, .int (nI k)), (2, .int (nI a)), (3, .int (nI e1))]) hx hb d_M_lettered_177 hl (by decide) rfl (fun ls hl => ?_)
      refine lv_iload hx hb d_M_lettered_179 (lv_at hl 0 rfl) ?_
      refine lv_iconst (v := 1) hx hb d_M_lettered_181 (by decide) ?_
      refine lv_bipush (v := 6) hx hb d_M_lettered_182 (by decide) ?_
      refine lv_iload hx hb d_M_lettered_184 (lv_at hl 2 rfl) ?_
      refine lv_aload_n hx hb d_M_lettered_186 rfl (lv_at hl 4 rfl) ?_
      refine va_get (D := D) (ci := 2) (v := .int 1) (C := R_M) (T := F_M) (N := 6) hx hb hA i_M hown hK hP 0 rfl rfl 5 (by decide) (hA _ k2_217) (fun _ h9 => h9) rfl d_M_lettered_187 ?_
      refine lv_isub hx hb d_M_lettered_190 ?_
      refine lv_topi (fun v190 ev190 => ?_)
      have ev190 : v190 = 0 := by rw [ev190]; decide
      subst ev190
      refine lv_imul hx hb d_M_lettered_191 ?_
      refine lv_topi (fun v191 ev191 => ?_)
      have ev191 : v191 = 0 := by rw [ev191]; decide
      subst ev191
      refine lv_ishl hx hb d_M_lettered_192 ?_
      refine lv_topi (fun v192 ev192 => ?_)
      have ev192 : v192 = 1 := by rw [ev192]; decide
      subst ev192
      refine lv_iadd hx hb d_M_lettered_193 ?_
      refine lv_topi (fun v193 ev193 => ?_)
      have ev193 : v193 = nI (((σ k).1 a) * 1 + 1) := by rw [ev193]; exact nI_add _ 1
      subst ev193
      refine lv_iconst (v := 1) hx hb d_M_lettered_194 (by decide) ?_
      refine lv_isub hx hb d_M_lettered_195 ?_
      refine lv_topi (fun v195 ev195 => ?_)
      have ev195 : v195 = nI (((σ k).1 a) * 1 + 0) := by rw [ev195]; exact (pk_sub (b := 1) (by omega)).trans (congrArg nI (by omega))
      subst ev195
      refine lv_istore (lv' := [(8, .int (nI (((σ k).1 a) * 1 + 0))), (7, .int (nI (((σ k).1 a) * 1))), (6, .int (nI ((σ k).1 a))), (5, .int 1), (4, .int (nI ((σ k).1 a))), (0, .ref h), (1, .int (nI k)), (2, .int (nI a)), (3, .int (nI e1))]) hx hb d_M_lettered_196 hl (by decide) rfl (fun ls hl => ?_)
      refine lv_iload hx hb d_M_lettered_198 (lv_at hl 3 rfl) ?_
      refine lv_iload hx hb d_M_lettered_200 (lv_at hl 1 rfl) ?_
      refine lv_iload hx hb d_M_lettered_202 (lv_at hl 0 rfl) ?_
      refine vp_callSi (W.runS (As := [.int 1, .int (nI (((σ k).1 a) * 1)), .int (nI (((σ k).1 a) * 1 + 0))]) (rest := []) ⟨hx, hb, hml, hown, hA⟩ (c_M_canBe l 1 (((σ k).1 a) * 1) (((σ k).1 a) * 1 + 0) (by decide) (by omega) (by omega)) (q_M_canBe hA k3_132 rfl rfl ⟨(Nat.le_of_ble_eq_true rfl), (Nat.le_of_ble_eq_true rfl)⟩) (⟨fun a U g mk q => q, fun U hU hW => ⟨rfl, trivial⟩⟩) rfl rfl hl.1 rfl (lv_room (Nat.le_of_ble_eq_true rfl)) d_M_lettered_204 ⟨(Nat.le_of_ble_eq_true rfl), (Nat.le_of_ble_eq_true rfl)⟩) (fun r204 hr204 => ?_)
      rcases hr204 with ⟨gB1, rfl⟩ | ⟨gB1, rfl⟩
      · refine lv_if_ne (tgt := 219) hx hb d_M_lettered_207 (by decide) (fun _ => ?_) (fun q9 => absurd q9 (by decide))
        refine lv_aload_n hx hb d_M_lettered_219 rfl (lv_at hl 5 rfl) ?_
        refine va_get (D := D) (ci := 2) (v := .int 1) (C := R_M) (T := F_M) (N := 6) hx hb hA i_M hown hK hP 0 rfl rfl 5 (by decide) (hA _ k2_217) (fun _ h9 => h9) rfl d_M_lettered_220 ?_
        refine lv_iload hx hb d_M_lettered_223 (lv_at hl 3 rfl) ?_
        refine lv_icmp_ne (tgt := 231) hx hb d_M_lettered_225 (by decide) (fun q9 => absurd (by decide) q9) (fun _ => ?_)
        refine lv_iload hx hb d_M_lettered_228 (lv_at hl 2 rfl) ?_
        have hla : la (σ k).1 a e1 = ((((σ k).1 a) : Nat) : Int) := la_1 gE g26
        have hlw : lwI ((((σ k).1 a) : Nat) : Int) = 1 := (lwI_1 _).mpr g26
        exact W.iret (v := nI ((σ k).1 a)) hx hb hr (fun t ht hW => ⟨⟨_, 1, rfl, (Or.inr (Or.inr ⟨by rw [hla]; exact Int.natCast_nonneg _, by rw [hla, hlw]; rfl, by rw [hla]; rfl⟩)), by rw [ht]; exact hP, va_K.moved hW.alike hK, hD⟩, hS.F ht⟩) hS.2.2 d_M_lettered_230
      · refine lv_if_ne (tgt := 219) hx hb d_M_lettered_207 (by decide) (fun q9 => absurd (by decide) q9) (fun _ => ?_)
        exact absurd (Or.inl rfl) gB1
  · have gE : e1 ≤ a := by have := mt (nI_ltI (a := a) (b := e1) (by omega) (by omega)).mpr c2; omega
    refine lv_aload_n hx hb d_M_lettered_5 rfl (lv_at hl 0 rfl) ?_
    refine lv_bipush (v := (-3)) hx hb d_M_lettered_6 (by decide) ?_
    refine va_put (D := D) (ci := 2) (v := .int (-3)) (ty := .int) (C := R_M) (T := F_M) (N := 6) hx hb hA i_M t_M t_M_ok n_M hown hK hP hD hS 0 rfl rfl 5 (by decide) (hA _ k2_217) (fun _ h9 => h9) rfl (by decide +kernel) rfl rfl (Nat.le_of_ble_eq_true rfl) d_M_lettered_8 (fun H locs hP hD hS => ?_)
    have hP : va_P D vCl [(h, .inr (2, [.int th, .int (nI M), .ref cl, .ref sa, .ref pa, .int (-3)])), (cl, .inl (cL, 32768, .inr (.inl (pkF (σ))))), (sa, .inl (cI, 4, .inl (fun i9 => nI ((σ) i9).2.1))), (pa, .inl (cI, 4, .inl (fun i9 => nI ((σ) i9).2.2)))] H := hP
    have hD : va_D A [(h, .inr (2, [.int th, .int (nI M), .ref cl, .ref sa, .ref pa, .int (-3)])), (cl, .inl (cL, 32768, .inr (.inl (pkF (σ))))), (sa, .inl (cI, 4, .inl (fun i9 => nI ((σ) i9).2.1))), (pa, .inl (cI, 4, .inl (fun i9 => nI ((σ) i9).2.2)))] := hD
    refine lv_iconst (v := 0) hx hb d_M_lettered_11 (by decide) ?_
    have hla : la (σ k).1 a e1 = -2 := la_e0 gE
    exact W.iret (v := 0) hx hb hr (fun t ht hW => ⟨⟨_, (-3), rfl, (Or.inr <| Or.inl ⟨hla, rfl, rfl⟩), by rw [ht]; exact hP, va_K.moved hW.alike hK, hD⟩, hS.F ht⟩) hS.2.2 d_M_lettered_12
