/-! THE REFERENCE: COPY, BLOCK, FRAME -/
set_option maxHeartbeats 600000 in
set_option maxRecDepth 100000 in
/-- copy -/
theorem c_M_copy (l : Launch) (D : va_G) (cL cI : ClassId) (h cl sa pa M : Nat) (th tk : Int32) (σ : dkS) (sz : Nat) (x f a m2 : Int32) (hσ : dkok M σ) : Met l y_M_copy w_M_copy ({ frames := 2, cells := 0, slots := 0, locals := 47 }) (va_Pc [.ref h, .int x, .int f, .int a, .int m2] (oxw sz D [(cL, .long), (cI, .int)] [(h, .inr (2, [.int th, .int (nI M), .ref cl, .ref sa, .ref pa, .int tk])), (cl, .inl (cL, 32768, .inr (.inl (pkF (σ))))), (sa, .inl (cI, 4, .inl (fun i9 => nI ((σ) i9).2.1))), (pa, .inl (cI, 4, .inl (fun i9 => nI ((σ) i9).2.2)))])) (va_Qi (fun (r : Int32) (uu : Nat × dkS × Int32) => spCopy M σ x f a m2 = (uu.1, r, uu.2.1)) (fun uu => ow D [(cL, .long), (cI, .int)] (va_A [(h, .inr (2, [.int th, .int (nI M), .ref cl, .ref sa, .ref pa, .int tk])), (cl, .inl (cL, 32768, .inr (.inl (pkF (σ))))), (sa, .inl (cI, 4, .inl (fun i9 => nI ((σ) i9).2.1))), (pa, .inl (cI, 4, .inl (fun i9 => nI ((σ) i9).2.2)))] sz) (rfW cL cI h cl sa pa M (nI uu.1) uu.2.2 uu.2.1)) (va_A [(h, .inr (2, [.int th, .int (nI M), .ref cl, .ref sa, .ref pa, .int tk])), (cl, .inl (cL, 32768, .inr (.inl (pkF (σ))))), (sa, .inl (cI, 4, .inl (fun i9 => nI ((σ) i9).2.1))), (pa, .inl (cI, 4, .inl (fun i9 => nI ((σ) i9).2.2)))] sz)) 0 0 (va_A [(h, .inr (2, [.int th, .int (nI M), .ref cl, .ref sa, .ref pa, .int tk])), (cl, .inl (cL, 32768, .inr (.inl (pkF (σ))))), (sa, .inl (cI, 4, .inl (fun i9 => nI ((σ) i9).2.1))), (pa, .inl (cI, 4, .inl (fun i9 => nI ((σ) i9).2.2)))] sz) := by
  refine Met.ofW (cc := b_M_copy) (maxL := 6) (ret := (some .int)) (by decide) rfl ?_
  intro p9 e9 s m args below meth c9 s₁ BL hml hv
  obtain ⟨rfl, hsz, hP, hK, hD0⟩ := hv
  have hx := BL.exec
  have hb := BL.bytes
  have hr := BL.returns
  have hts := atoms_spec (ws := w_M_copy) BL.pre
  have hA : ∀ w ∈ wsA, w.before _ s = true := fun w h => hts w (List.mem_cons_of_mem _ h)
  have hown : s.vm.findClass R_M = some m.cls := findClass_of_methodNamed BL.named
  have hlocks := BL.notSynchronized
  subst hsz
  have hD := hD0.self (sz := s.heap.size)
  generalize hAe : va_A [(h, .inr (2, [.int th, .int (nI M), .ref cl, .ref sa, .ref pa, .int tk])), (cl, .inl (cL, 32768, .inr (.inl (pkF (σ))))), (sa, .inl (cI, 4, .inl (fun i9 => nI ((σ) i9).2.1))), (pa, .inl (cI, 4, .inl (fun i9 => nI ((σ) i9).2.2)))] s.heap.size = A at hD ⊢
  have hAq : ∀ q : Nat, s.heap.size ≤ q → A q := fun q h => by rw [← hAe]; exact Or.inr h
  have hS : va_S A s.heap s.heap [] := va_S.rf
  have hP : va_P D vCl [(h, .inr (2, [.int th, .int (nI M), .ref cl, .ref sa, .ref pa, .int tk])), (cl, .inl (cL, 32768, .inr (.inl (pkF (σ))))), (sa, .inl (cI, 4, .inl (fun i9 => nI ((σ) i9).2.1))), (pa, .inl (cI, 4, .inl (fun i9 => nI ((σ) i9).2.2)))] s.heap := hP
  have hl := lv_entry ([.ref h, .int x, .int f, .int a, .int m2]) (n := 6) (Nat.le_of_ble_eq_true rfl)
  rw [lg_entry_eq]
  generalize (lg_sl ([.ref h, .int x, .int f, .int a, .int m2]) ++ List.replicate (6 - (lg_sl ([.ref h, .int x, .int f, .int a, .int m2])).length) Slot.unset).toArray = ls at hl ⊢
  have hl : lv_has ls 6 [(0, .ref h), (1, .int x), (2, .int f), (3, .int a), (4, .int m2)] := hl
  refine lv_aload_n hx hb d_M_copy_0 rfl (lv_at hl 0 rfl) ?_
  refine lv_iconst (v := 0) hx hb d_M_copy_1 (by decide) ?_
  refine va_put (D := D) (ci := 2) (v := .int 0) (ty := .int) (C := R_M) (T := F_M) (N := 6) hx hb hA i_M t_M t_M_ok n_M hown hK hP hD hS 0 rfl rfl 0 (by decide) (hA _ k2_212) (fun _ h9 => h9) rfl (by decide +kernel) rfl rfl (Nat.le_of_ble_eq_true rfl) d_M_copy_2 (fun H locs hP hD hS => ?_)
  have hP : va_P D vCl [(h, .inr (2, [.int 0, .int (nI M), .ref cl, .ref sa, .ref pa, .int tk])), (cl, .inl (cL, 32768, .inr (.inl (pkF (σ))))), (sa, .inl (cI, 4, .inl (fun i9 => nI ((σ) i9).2.1))), (pa, .inl (cI, 4, .inl (fun i9 => nI ((σ) i9).2.2)))] H := hP
  have hD : va_D A [(h, .inr (2, [.int 0, .int (nI M), .ref cl, .ref sa, .ref pa, .int tk])), (cl, .inl (cL, 32768, .inr (.inl (pkF (σ))))), (sa, .inl (cI, 4, .inl (fun i9 => nI ((σ) i9).2.1))), (pa, .inl (cI, 4, .inl (fun i9 => nI ((σ) i9).2.2)))] := hD
  refine lv_iload_n hx hb d_M_copy_5 rfl (lv_at hl 1 rfl) ?_
  refine vp_callSi (W.runS (As := [.int x]) (rest := []) ⟨hx, hb, hml, hown, hA⟩ (c_M_isRow l x) (q_M_isRow hA k3_1 rfl rfl ⟨(Nat.le_of_ble_eq_true rfl), (Nat.le_of_ble_eq_true rfl)⟩) (⟨fun a U g mk q => q, fun U hU hW => ⟨rfl, trivial⟩⟩) rfl rfl hl.1 rfl (lv_room (Nat.le_of_ble_eq_true rfl)) d_M_copy_6 ⟨(Nat.le_of_ble_eq_true rfl), (Nat.le_of_ble_eq_true rfl)⟩) (fun r6 hr6 => ?_)
  rcases hr6 with ⟨hR, rfl⟩ | ⟨hR, rfl⟩
  · refine lv_if_eq (tgt := 19) hx hb d_M_copy_9 (by decide) (fun q9 => absurd q9 (by decide)) (fun _ => ?_)
    refine lv_iload_n hx hb d_M_copy_12 rfl (lv_at hl 2 rfl) ?_
    refine vp_callSi (W.runS (As := [.int f]) (rest := []) ⟨hx, hb, hml, hown, hA⟩ (c_M_isRow l f) (q_M_isRow hA k3_1 rfl rfl ⟨(Nat.le_of_ble_eq_true rfl), (Nat.le_of_ble_eq_true rfl)⟩) (⟨fun a U g mk q => q, fun U hU hW => ⟨rfl, trivial⟩⟩) rfl rfl hl.1 rfl (lv_room (Nat.le_of_ble_eq_true rfl)) d_M_copy_13 ⟨(Nat.le_of_ble_eq_true rfl), (Nat.le_of_ble_eq_true rfl)⟩) (fun r13 hr13 => ?_)
    rcases hr13 with ⟨hR2, rfl⟩ | ⟨hR2, rfl⟩
    · refine lv_if_ne (tgt := 25) hx hb d_M_copy_16 (by decide) (fun _ => ?_) (fun q9 => absurd q9 (by decide))
      obtain ⟨k, hk0, rfl⟩ := nI_of (show ¬ x < 0 by rw [Int32.lt_iff_toInt_lt, li_0]; exact Int.not_lt.mpr hR.1)
      have hk : k < 4 := by have h9 := hR.2; rw [nI_toInt hk0] at h9; omega
      have hrk : rj (nI k) = k := rj_n hk
      obtain ⟨⟨B, n, p⟩, hρ⟩ : ∃ ρ, σ k = ρ := ⟨_, rfl⟩
      have hk9 := hσ.2 k hk
      have hBσ : ∀ j, (σ k).1 j < 256 := hk9.2.2
      have hnσ : (σ k).2.1 ≤ 65536 := Nat.le_trans hk9.2.1 hσ.1
      rw [hρ] at hk9
      obtain ⟨hp, hn, hB⟩ := hk9
      have hp : p ≤ n := hp
      have hn : n ≤ M := hn
      have hB : ∀ j, B j < 256 := hB
      have hM := hσ.1
      obtain ⟨f1, hf10, rfl⟩ := nI_of (show ¬ f < 0 by rw [Int32.lt_iff_toInt_lt, li_0]; exact Int.not_lt.mpr hR2.1)
      have hf1 : f1 < 4 := by have h9 := hR2.2; rw [nI_toInt hf10] at h9; omega
      have hrf1 : rj (nI f1) = f1 := rj_n hf1
      obtain ⟨⟨C, n2, p2⟩, hρ2⟩ : ∃ ρ, σ f1 = ρ := ⟨_, rfl⟩
      have hk9 := hσ.2 f1 hf1
      have hBσ2 : ∀ j, (σ f1).1 j < 256 := hk9.2.2
      have hnσ2 : (σ f1).2.1 ≤ 65536 := Nat.le_trans hk9.2.1 hσ.1
      rw [hρ2] at hk9
      obtain ⟨hp2, hn2, hB2⟩ := hk9
      have hp2 : p2 ≤ n2 := hp2
      have hn2 : n2 ≤ M := hn2
      have hB2 : ∀ j, C j < 256 := hB2
      refine lv_aload_n hx hb d_M_copy_25 rfl (lv_at hl 0 rfl) ?_
      refine lv_iload_n hx hb d_M_copy_26 rfl (lv_at hl 2 rfl) ?_
      refine lv_iload_n hx hb d_M_copy_27 rfl (lv_at hl 3 rfl) ?_
      refine lv_iload hx hb d_M_copy_28 (lv_at hl 4 rfl) ?_
      have hPc := hP.sub (ws' := [(h, .inr (2, [.int 0, .int (nI M), .ref cl, .ref sa, .ref pa, .int tk])), (cl, .inl (cL, 32768, .inr (.inl (pkF (σ))))), (sa, .inl (cI, 4, .inl (fun i9 => nI ((σ) i9).2.1))), (pa, .inl (cI, 4, .inl (fun i9 => nI ((σ) i9).2.2)))]) [0, 1, 2, 3] rfl
      have hKc := hK.sub (tys' := [(cL, .long), (cI, .int)]) [0, 1] rfl
      refine vp_callSi (W.runV (As := [.int (nI f1), .int a, .int m2]) (rest := []) ⟨hx, hb, hml, hown, hA⟩ (c_M_has l D cL cI h cl sa pa M 0 tk σ f1 hf1 hnσ2 a m2) (q_M_has hA k3_62 rfl rfl ⟨(Nat.le_of_ble_eq_true rfl), (Nat.le_of_ble_eq_true rfl)⟩) (ox_V (va_recv hKc hPc (ci := 2) (q0 := 0) rfl rfl) (ox_S hPc hKc)) rfl rfl hl.1 rfl (lv_room (Nat.le_of_ble_eq_true rfl)) d_M_copy_30 ⟨(Nat.le_of_ble_eq_true rfl), (Nat.le_of_ble_eq_true rfl)⟩) (fun r30 hr30 => ?_)
      rcases hr30 with ⟨hH, rfl⟩ | ⟨hH, rfl⟩
      · refine lv_if_ne (tgt := 42) hx hb d_M_copy_33 (by decide) (fun _ => ?_) (fun q9 => absurd q9 (by decide))
        rw [hρ2] at hH
        have hin : inr n2 a m2 := hH
        obtain ⟨a1, ha10, rfl⟩ := nI_of (show ¬ a < 0 by rw [Int32.lt_iff_toInt_lt, li_0]; omega)
        have ha1i : (nI a1).toInt = (a1 : Int) := nI_toInt ha10
        have ha1n : (nI a1).toInt.toNat = a1 := by rw [ha1i]; rfl
        obtain ⟨k1, hk10, rfl⟩ := nI_of (show ¬ m2 < 0 by rw [Int32.lt_iff_toInt_lt, li_0]; omega)
        have hk1i : (nI k1).toInt = (k1 : Int) := nI_toInt hk10
        have hk1n : (nI k1).toInt.toNat = k1 := by rw [hk1i]; rfl
        refine lv_aload_n hx hb d_M_copy_42 rfl (lv_at hl 0 rfl) ?_
        refine lv_iload_n hx hb d_M_copy_43 rfl (lv_at hl 1 rfl) ?_
        refine lv_iload hx hb d_M_copy_44 (lv_at hl 4 rfl) ?_
        have hPc := hP.sub (ws' := [(h, .inr (2, [.int 0, .int (nI M), .ref cl, .ref sa, .ref pa, .int tk])), (cl, .inl (cL, 32768, .inr (.inl (pkF (σ))))), (sa, .inl (cI, 4, .inl (fun i9 => nI ((σ) i9).2.1))), (pa, .inl (cI, 4, .inl (fun i9 => nI ((σ) i9).2.2)))]) [0, 1, 2, 3] rfl
        have hKc := hK.sub (tys' := [(cL, .long), (cI, .int)]) [0, 1] rfl
        refine vp_callSi (W.runV (As := [.int (nI k), .int (nI k1)]) (rest := []) ⟨hx, hb, hml, hown, hA⟩ (c_M_fits l D cL cI h cl sa pa M 0 tk σ k k1 hk hnσ (by omega) hM) (q_M_fits hA k3_8 rfl rfl ⟨(Nat.le_of_ble_eq_true rfl), (Nat.le_of_ble_eq_true rfl)⟩) (ox_V (va_recv hKc hPc (ci := 2) (q0 := 0) rfl rfl) (ox_S hPc hKc)) rfl rfl hl.1 rfl (lv_room (Nat.le_of_ble_eq_true rfl)) d_M_copy_46 ⟨(Nat.le_of_ble_eq_true rfl), (Nat.le_of_ble_eq_true rfl)⟩) (fun r46 hr46 => ?_)
        rcases hr46 with ⟨hF, rfl⟩ | ⟨hF, rfl⟩
        · refine lv_if_ne (tgt := 58) hx hb d_M_copy_49 (by decide) (fun _ => ?_) (fun q9 => absurd q9 (by decide))
          rw [hρ] at hF
          have hF2 : n + k1 ≤ M := hF
          rw [up_id hρ] at hP hD
          have hP : va_P D vCl [(h, .inr (2, [.int 0, .int (nI M), .ref cl, .ref sa, .ref pa, .int tk])), (cl, .inl (cL, 32768, .inr (.inl (pkF (va_up σ k (B, n, p)))))), (sa, .inl (cI, 4, .inl (fun i9 => nI ((va_up σ k (B, n, p)) i9).2.1))), (pa, .inl (cI, 4, .inl (fun i9 => nI ((va_up σ k (B, n, p)) i9).2.2)))] H := hP
          have hD : va_D A [(h, .inr (2, [.int 0, .int (nI M), .ref cl, .ref sa, .ref pa, .int tk])), (cl, .inl (cL, 32768, .inr (.inl (pkF (va_up σ k (B, n, p)))))), (sa, .inl (cI, 4, .inl (fun i9 => nI ((va_up σ k (B, n, p)) i9).2.1))), (pa, .inl (cI, 4, .inl (fun i9 => nI ((va_up σ k (B, n, p)) i9).2.2)))] := hD
          rw [show va_up (σ) k (B, n, p) = va_up (σ) k (wr B n 0 (fun i9 => C (a1 + i9)), n + 0, p) from by rw [wr_0, Nat.add_zero]] at hP hD
          have hP : va_P D vCl [(h, .inr (2, [.int 0, .int (nI M), .ref cl, .ref sa, .ref pa, .int tk])), (cl, .inl (cL, 32768, .inr (.inl (pkF (va_up (σ) k (wr B n 0 (fun i9 => C (a1 + i9)), n + 0, p)))))), (sa, .inl (cI, 4, .inl (fun i9 => nI ((va_up (σ) k (wr B n 0 (fun i9 => C (a1 + i9)), n + 0, p)) i9).2.1))), (pa, .inl (cI, 4, .inl (fun i9 => nI ((va_up (σ) k (wr B n 0 (fun i9 => C (a1 + i9)), n + 0, p)) i9).2.2)))] H := hP
          have hD : va_D A [(h, .inr (2, [.int 0, .int (nI M), .ref cl, .ref sa, .ref pa, .int tk])), (cl, .inl (cL, 32768, .inr (.inl (pkF (va_up (σ) k (wr B n 0 (fun i9 => C (a1 + i9)), n + 0, p)))))), (sa, .inl (cI, 4, .inl (fun i9 => nI ((va_up (σ) k (wr B n 0 (fun i9 => C (a1 + i9)), n + 0, p)) i9).2.1))), (pa, .inl (cI, 4, .inl (fun i9 => nI ((va_up (σ) k (wr B n 0 (fun i9 => C (a1 + i9)), n + 0, p)) i9).2.2)))] := hD
          refine lv_iconst (v := 0) hx hb d_M_copy_58 (by decide) ?_
          refine lv_topi (fun v58 ev58 => ?_)
          have ev58 : v58 = nI 0 := by rw [ev58]; rfl
          subst ev58
          refine lv_istore (lv' := [(5, .int (nI 0)), (0, .ref h), (1, .int (nI k)), (2, .int (nI f1)), (3, .int (nI a1)), (4, .int (nI k1))]) hx hb d_M_copy_59 hl (by decide) rfl (fun ls hl => ?_)
          have loop : ∀ (q i2 : Nat), i2 + q = k1 + 1 → i2 ≤ k1 → ∀ (H : Heap) (locs : List Loc), va_P D vCl [(h, .inr (2, [.int 0, .int (nI M), .ref cl, .ref sa, .ref pa, .int tk])), (cl, .inl (cL, 32768, .inr (.inl (pkF (va_up σ k (wr B n i2 (fun i9 => C (a1 + i9)), n + i2, p)))))), (sa, .inl (cI, 4, .inl (fun i9 => nI ((va_up σ k (wr B n i2 (fun i9 => C (a1 + i9)), n + i2, p)) i9).2.1))), (pa, .inl (cI, 4, .inl (fun i9 => nI ((va_up σ k (wr B n i2 (fun i9 => C (a1 + i9)), n + i2, p)) i9).2.2)))] H → va_D A [(h, .inr (2, [.int 0, .int (nI M), .ref cl, .ref sa, .ref pa, .int tk])), (cl, .inl (cL, 32768, .inr (.inl (pkF (va_up σ k (wr B n i2 (fun i9 => C (a1 + i9)), n + i2, p)))))), (sa, .inl (cI, 4, .inl (fun i9 => nI ((va_up σ k (wr B n i2 (fun i9 => C (a1 + i9)), n + i2, p)) i9).2.1))), (pa, .inl (cI, 4, .inl (fun i9 => nI ((va_up σ k (wr B n i2 (fun i9 => C (a1 + i9)), n + i2, p)) i9).2.2)))] → va_S A s.heap H locs → ∀ (ls : Array Slot), lv_has ls 6 [(5, .int (nI i2)), (0, .ref h), (1, .int (nI k)), (2, .int (nI f1)), (3, .int (nI a1)), (4, .int (nI k1))] → W p9 l e9 (headSpec w_M_copy ({ frames := 2, cells := 0, slots := 0, locals := 47 })).room s m [.ref h, .int (nI k), .int (nI f1), .int (nI a1), .int (nI k1)].toArray below meth c9 H locs 0 0 (MQ below (va_Qi (fun (r : Int32) (uu : Nat × dkS × Int32) => spCopy M σ (nI k) (nI f1) (nI a1) (nI k1) = (uu.1, r, uu.2.1)) (fun uu => ow D [(cL, .long), (cI, .int)] A (rfW cL cI h cl sa pa M (nI uu.1) uu.2.2 uu.2.1)) A) [.ref h, .int (nI k), .int (nI f1), .int (nI a1), .int (nI k1)].toArray s 0 0 A) (F0 m 61 ls []) := by
            intro q
            induction q with
            | zero =>
              intro i2 hq hi2 H locs hP hD hS ls hl
              exact absurd hq (by omega)
            | succ q ih_loop =>
              intro i2 hq hi2 H locs hP hD hS ls hl
              refine lv_iload hx hb d_M_copy_61 (lv_at hl 0 rfl) ?_
              refine lv_iload hx hb d_M_copy_63 (lv_at hl 5 rfl) ?_
              refine lv_icmp_ge (tgt := 88) hx hb d_M_copy_65 (by decide) (fun c65 => ?_) (fun c65 => ?_)
              · obtain rfl : i2 = k1 := by have := (nI_leI (a := k1) (b := i2) (by omega) (by omega)).mp c65; omega
                refine lv_aload_n hx hb d_M_copy_88 rfl (lv_at hl 1 rfl) ?_
                refine va_get (D := D) (ci := 2) (v := .ref sa) (C := R_M) (T := F_M) (N := 6) hx hb hA i_M hown hK hP 0 rfl rfl 3 (by decide) (hA _ k2_215) (fun _ h9 => h9) rfl d_M_copy_89 ?_
                refine lv_iload_n hx hb d_M_copy_92 rfl (lv_at hl 2 rfl) ?_
                refine va_iald hx hb hK hP 2 1 rfl rfl (vp_in_nI hk (by decide)) d_M_copy_93 ?_
                refine lv_topi (fun v93 ev93 => ?_)
                have ev93 : v93 = nI (n + i2) := by rw [ev93]; show nI ((va_up σ k (wr B n i2 (fun i9 => C (a1 + i9)), n + i2, p)) (nI k).toNatClampNeg).2.1 = _; rw [nI_clamp (by omega), up_s]
                subst ev93
                exact W.iret (v := nI (n + i2)) hx hb hr (fun t ht hW => ⟨⟨_, (0, va_up σ k (wr B n i2 (fun i9 => C (a1 + i9)), n + i2, p), tk), rfl, (by unfold spCopy; simp only [hrk, hrf1, hρ, hρ2]; rw [if_neg (fun h8 => h8 ⟨hR, hR2⟩), if_neg (fun h8 => h8 hin), hk1n, ha1n, if_neg (Nat.not_lt.mpr hF2)]), by rw [ht]; exact hP, va_K.moved hW.alike hK, hD⟩, hS.F ht⟩) hS.2.2 d_M_copy_94
              · have hi3 : i2 < k1 := by have := mt (nI_leI (a := k1) (b := i2) (by omega) (by omega)).mpr c65; omega
                refine lv_aload_n hx hb d_M_copy_68 rfl (lv_at hl 1 rfl) ?_
                refine lv_iload_n hx hb d_M_copy_69 rfl (lv_at hl 2 rfl) ?_
                refine lv_aload_n hx hb d_M_copy_70 rfl (lv_at hl 1 rfl) ?_
                refine lv_iload_n hx hb d_M_copy_71 rfl (lv_at hl 3 rfl) ?_
                refine lv_iload_n hx hb d_M_copy_72 rfl (lv_at hl 4 rfl) ?_
                refine lv_iload hx hb d_M_copy_73 (lv_at hl 0 rfl) ?_
                refine lv_iadd hx hb d_M_copy_75 ?_
                refine lv_topi (fun v75 ev75 => ?_)
                have ev75 : v75 = nI (a1 + i2) := by rw [ev75]; exact nI_add _ _
                subst ev75
                have hPc := hP.sub (ws' := [(h, .inr (2, [.int 0, .int (nI M), .ref cl, .ref sa, .ref pa, .int tk])), (cl, .inl (cL, 32768, .inr (.inl (pkF (va_up σ k (wr B n i2 (fun i9 => C (a1 + i9)), n + i2, p)))))), (sa, .inl (cI, 4, .inl (fun i9 => nI ((va_up σ k (wr B n i2 (fun i9 => C (a1 + i9)), n + i2, p)) i9).2.1))), (pa, .inl (cI, 4, .inl (fun i9 => nI ((va_up σ k (wr B n i2 (fun i9 => C (a1 + i9)), n + i2, p)) i9).2.2)))]) [0, 1, 2, 3] rfl
                have hKc := hK.sub (tys' := [(cL, .long), (cI, .int)]) [0, 1] rfl
                refine vp_callSi (W.runV (As := [.int (nI f1), .int (nI (a1 + i2))]) (rest := [.int (nI k), .ref h]) ⟨hx, hb, hml, hown, hA⟩ (c_M_at l D cL cI h cl sa pa M 0 tk (va_up σ k (wr B n i2 (fun i9 => C (a1 + i9)), n + i2, p)) f1 (a1 + i2) hf1 (by omega) (bok_w hσ hf1 (wr_lt hB (fun i9 _ => hB2 _)) _ _)) (q_M_at hA k3_66 rfl rfl ⟨(Nat.le_of_ble_eq_true rfl), (Nat.le_of_ble_eq_true rfl)⟩) (ox_V (va_recv hKc hPc (ci := 2) (q0 := 0) rfl rfl) (ox_S hPc hKc)) rfl rfl hl.1 rfl (lv_room (Nat.le_of_ble_eq_true rfl)) d_M_copy_76 ⟨(Nat.le_of_ble_eq_true rfl), (Nat.le_of_ble_eq_true rfl)⟩) (fun r76 hr76 => ?_)
                have er76 : r76 = nI (C (a1 + i2)) := by rw [hr76, rd_g hρ (fun j9 h9 => wr_out h9) _ _ (by rw [hρ2]; show a1 + i2 < n2; omega), hρ2]
                subst er76
                have hPc := hP
                have hFc := va_free (wc := [(h, .inr (2, [.int 0, .int (nI M), .ref cl, .ref sa, .ref pa, .int tk])), (cl, .inl (cL, 32768, .inr (.inl (pkF (va_up σ k (wr B n i2 (fun i9 => C (a1 + i9)), n + i2, p)))))), (sa, .inl (cI, 4, .inl (fun i9 => nI ((va_up σ k (wr B n i2 (fun i9 => C (a1 + i9)), n + i2, p)) i9).2.1))), (pa, .inl (cI, 4, .inl (fun i9 => nI ((va_up σ k (wr B n i2 (fun i9 => C (a1 + i9)), n + i2, p)) i9).2.2)))]) hD hS hAq [0, 1, 2, 3] rfl
                have hKc := hK.sub (tys' := [(cL, .long), (cI, .int)]) [0, 1] rfl
                refine va_callv (va_runV (As := [.int (nI k), .int (nI (C (a1 + i2)))]) (rest := []) ⟨hx, hb, hml, hown, hA⟩ (c_M_add l D cL cI h cl sa pa M 0 tk (σ) H.size k hk (wr B n i2 (fun i9 => C (a1 + i9))) (n + i2) p (wr_lt hB (fun i9 _ => hB2 _)) ((fun i9 => C (a1 + i9)) i2) (by omega) (hB2 _)) (q_M_add hA k3_13 rfl rfl ⟨(Nat.le_of_ble_eq_true rfl), (Nat.le_of_ble_eq_true rfl)⟩) (ox_V (va_recv hKc hPc (ci := 2) (q0 := 0) rfl rfl) (oxw_S hPc hKc hD)) rfl rfl hl.1 rfl (lv_room (Nat.le_of_ble_eq_true rfl)) d_M_copy_79 ⟨(Nat.le_of_ble_eq_true rfl), (Nat.le_of_ble_eq_true rfl)⟩) hS (fun q _ h => hFc q h) hFc (fun u9 t9 H1 locs ht9 hvm9 hw9 hB9 hz1 hk1 hS => ?_)
                obtain ⟨hP, hK1, hD1⟩ := hB9
                rw [ht9] at hP
                obtain ⟨hP, hD⟩ := va_join (wr := []) (w1 := rfW cL cI h cl sa pa M 0 tk (va_up (σ) k (va_up (wr B n i2 (fun i9 => C (a1 + i9))) (n + i2) ((fun i9 => C (a1 + i9)) i2), n + i2 + 1, p))) hPc hD [0, 1, 2, 3] [] rfl rfl (by decide) (by decide) hk1 hFc hP hD1
                generalize H1 = H at hP hS ⊢
                have hP : va_P D vCl [(h, .inr (2, [.int 0, .int (nI M), .ref cl, .ref sa, .ref pa, .int tk])), (cl, .inl (cL, 32768, .inr (.inl (pkF (va_up (σ) k (va_up (wr B n i2 (fun i9 => C (a1 + i9))) (n + i2) ((fun i9 => C (a1 + i9)) i2), n + i2 + 1, p)))))), (sa, .inl (cI, 4, .inl (fun i9 => nI ((va_up (σ) k (va_up (wr B n i2 (fun i9 => C (a1 + i9))) (n + i2) ((fun i9 => C (a1 + i9)) i2), n + i2 + 1, p)) i9).2.1))), (pa, .inl (cI, 4, .inl (fun i9 => nI ((va_up (σ) k (va_up (wr B n i2 (fun i9 => C (a1 + i9))) (n + i2) ((fun i9 => C (a1 + i9)) i2), n + i2 + 1, p)) i9).2.2)))] H := hP
                have hD : va_D A [(h, .inr (2, [.int 0, .int (nI M), .ref cl, .ref sa, .ref pa, .int tk])), (cl, .inl (cL, 32768, .inr (.inl (pkF (va_up (σ) k (va_up (wr B n i2 (fun i9 => C (a1 + i9))) (n + i2) ((fun i9 => C (a1 + i9)) i2), n + i2 + 1, p)))))), (sa, .inl (cI, 4, .inl (fun i9 => nI ((va_up (σ) k (va_up (wr B n i2 (fun i9 => C (a1 + i9))) (n + i2) ((fun i9 => C (a1 + i9)) i2), n + i2 + 1, p)) i9).2.1))), (pa, .inl (cI, 4, .inl (fun i9 => nI ((va_up (σ) k (va_up (wr B n i2 (fun i9 => C (a1 + i9))) (n + i2) ((fun i9 => C (a1 + i9)) i2), n + i2 + 1, p)) i9).2.2)))] := hD
                rw [wr_s, Nat.add_assoc n i2 1] at hP hD
                have hP : va_P D vCl [(h, .inr (2, [.int 0, .int (nI M), .ref cl, .ref sa, .ref pa, .int tk])), (cl, .inl (cL, 32768, .inr (.inl (pkF (va_up (σ) k (wr B n (i2 + 1) (fun i9 => C (a1 + i9)), n + (i2 + 1), p)))))), (sa, .inl (cI, 4, .inl (fun i9 => nI ((va_up (σ) k (wr B n (i2 + 1) (fun i9 => C (a1 + i9)), n + (i2 + 1), p)) i9).2.1))), (pa, .inl (cI, 4, .inl (fun i9 => nI ((va_up (σ) k (wr B n (i2 + 1) (fun i9 => C (a1 + i9)), n + (i2 + 1), p)) i9).2.2)))] H := hP
                have hD : va_D A [(h, .inr (2, [.int 0, .int (nI M), .ref cl, .ref sa, .ref pa, .int tk])), (cl, .inl (cL, 32768, .inr (.inl (pkF (va_up (σ) k (wr B n (i2 + 1) (fun i9 => C (a1 + i9)), n + (i2 + 1), p)))))), (sa, .inl (cI, 4, .inl (fun i9 => nI ((va_up (σ) k (wr B n (i2 + 1) (fun i9 => C (a1 + i9)), n + (i2 + 1), p)) i9).2.1))), (pa, .inl (cI, 4, .inl (fun i9 => nI ((va_up (σ) k (wr B n (i2 + 1) (fun i9 => C (a1 + i9)), n + (i2 + 1), p)) i9).2.2)))] := hD
                obtain ⟨v82, ev82⟩ : ∃ y : Int32, y = nI i2 + 1 := ⟨_, rfl⟩
                refine lv_iinc (v := v82) (lv' := [(5, .int v82), (0, .ref h), (1, .int (nI k)), (2, .int (nI f1)), (3, .int (nI a1)), (4, .int (nI k1))]) hx hb d_M_copy_82 hl (k := 0) rfl (by rw [ev82]; rfl) (by decide) rfl (fun ls hl => ?_)
                have ev82 : v82 = nI (i2 + 1) := by rw [ev82]; exact nI_1 i2
                subst ev82
                refine lv_goto (tgt := 61) hx hb d_M_copy_85 (by decide) ?_
                exact ih_loop (i2 + 1) (by omega) (by omega) _ _ (hP.sub [0, 1, 2, 3] rfl) (hD.sub [0, 1, 2, 3] (by decide) rfl) hS ls (lv_sub hl [0, 1, 2, 3, 4, 5] rfl)
          exact loop (k1 + 1) 0 (by omega) (by omega) _ _ (hP.sub [0, 1, 2, 3] rfl) (hD.sub [0, 1, 2, 3] (by decide) rfl) hS ls (lv_sub hl [0, 1, 2, 3, 4, 5] rfl)
        · refine lv_if_ne (tgt := 58) hx hb d_M_copy_49 (by decide) (fun q9 => absurd (by decide) q9) (fun _ => ?_)
          rw [hρ] at hF
          have hF2 : M < n + k1 := Nat.not_le.mp hF
          refine lv_aload_n hx hb d_M_copy_52 rfl (lv_at hl 0 rfl) ?_
          refine lv_iconst (v := 3) hx hb d_M_copy_53 (by decide) ?_
          have hPc := hP
          have hFc := va_free (wc := [(h, .inr (2, [.int 0, .int (nI M), .ref cl, .ref sa, .ref pa, .int tk])), (cl, .inl (cL, 32768, .inr (.inl (pkF (σ))))), (sa, .inl (cI, 4, .inl (fun i9 => nI ((σ) i9).2.1))), (pa, .inl (cI, 4, .inl (fun i9 => nI ((σ) i9).2.2)))]) hD hS hAq [0, 1, 2, 3] rfl
          have hKc := hK.sub (tys' := [(cL, .long), (cI, .int)]) [0, 1] rfl
          refine va_calli (va_runV (As := [.int 3]) (rest := []) ⟨hx, hb, hml, hown, hA⟩ (c_M_fail l D cL cI h cl sa pa M 0 tk (σ) H.size 3) (q_M_fail hA k3_4 rfl rfl ⟨(Nat.le_of_ble_eq_true rfl), (Nat.le_of_ble_eq_true rfl)⟩) (ox_V (va_recv hKc hPc (ci := 2) (q0 := 0) rfl rfl) (oxw_S hPc hKc hD)) rfl rfl hl.1 rfl (lv_room (Nat.le_of_ble_eq_true rfl)) d_M_copy_54 ⟨(Nat.le_of_ble_eq_true rfl), (Nat.le_of_ble_eq_true rfl)⟩) hS (fun q _ h => hFc q h) hFc (fun r54 u9 t9 H1 locs ht9 hvm9 hw9 hB9 hz1 hk1 hS => ?_)
          obtain ⟨hP, hK1, hD1⟩ := hB9
          rw [ht9] at hP
          obtain ⟨hP, hD⟩ := va_join (wr := []) (w1 := rfW cL cI h cl sa pa M 3 tk (σ)) hPc hD [0, 1, 2, 3] [] rfl rfl (by decide) (by decide) hk1 hFc hP hD1
          generalize H1 = H at hP hS ⊢
          have hP : va_P D vCl [(h, .inr (2, [.int 3, .int (nI M), .ref cl, .ref sa, .ref pa, .int tk])), (cl, .inl (cL, 32768, .inr (.inl (pkF (σ))))), (sa, .inl (cI, 4, .inl (fun i9 => nI ((σ) i9).2.1))), (pa, .inl (cI, 4, .inl (fun i9 => nI ((σ) i9).2.2)))] H := hP
          have hD : va_D A [(h, .inr (2, [.int 3, .int (nI M), .ref cl, .ref sa, .ref pa, .int tk])), (cl, .inl (cL, 32768, .inr (.inl (pkF (σ))))), (sa, .inl (cI, 4, .inl (fun i9 => nI ((σ) i9).2.1))), (pa, .inl (cI, 4, .inl (fun i9 => nI ((σ) i9).2.2)))] := hD
          subst hw9
          exact W.iret (v := 0) hx hb hr (fun t ht hW => ⟨⟨_, (3, σ, tk), rfl, (by unfold spCopy; simp only [hrk, hrf1, hρ, hρ2]; rw [if_neg (fun h8 => h8 ⟨hR, hR2⟩), if_neg (fun h8 => h8 hin), hk1n, if_pos hF2]), by rw [ht]; exact hP, va_K.moved hW.alike hK, hD⟩, hS.F ht⟩) hS.2.2 d_M_copy_57
      · refine lv_if_ne (tgt := 42) hx hb d_M_copy_33 (by decide) (fun q9 => absurd (by decide) q9) (fun _ => ?_)
        rw [hρ2] at hH
        refine lv_aload_n hx hb d_M_copy_36 rfl (lv_at hl 0 rfl) ?_
        refine lv_iconst (v := 2) hx hb d_M_copy_37 (by decide) ?_
        have hPc := hP
        have hFc := va_free (wc := [(h, .inr (2, [.int 0, .int (nI M), .ref cl, .ref sa, .ref pa, .int tk])), (cl, .inl (cL, 32768, .inr (.inl (pkF (σ))))), (sa, .inl (cI, 4, .inl (fun i9 => nI ((σ) i9).2.1))), (pa, .inl (cI, 4, .inl (fun i9 => nI ((σ) i9).2.2)))]) hD hS hAq [0, 1, 2, 3] rfl
        have hKc := hK.sub (tys' := [(cL, .long), (cI, .int)]) [0, 1] rfl
        refine va_calli (va_runV (As := [.int 2]) (rest := []) ⟨hx, hb, hml, hown, hA⟩ (c_M_fail l D cL cI h cl sa pa M 0 tk (σ) H.size 2) (q_M_fail hA k3_4 rfl rfl ⟨(Nat.le_of_ble_eq_true rfl), (Nat.le_of_ble_eq_true rfl)⟩) (ox_V (va_recv hKc hPc (ci := 2) (q0 := 0) rfl rfl) (oxw_S hPc hKc hD)) rfl rfl hl.1 rfl (lv_room (Nat.le_of_ble_eq_true rfl)) d_M_copy_38 ⟨(Nat.le_of_ble_eq_true rfl), (Nat.le_of_ble_eq_true rfl)⟩) hS (fun q _ h => hFc q h) hFc (fun r38 u9 t9 H1 locs ht9 hvm9 hw9 hB9 hz1 hk1 hS => ?_)
        obtain ⟨hP, hK1, hD1⟩ := hB9
        rw [ht9] at hP
        obtain ⟨hP, hD⟩ := va_join (wr := []) (w1 := rfW cL cI h cl sa pa M 2 tk (σ)) hPc hD [0, 1, 2, 3] [] rfl rfl (by decide) (by decide) hk1 hFc hP hD1
        generalize H1 = H at hP hS ⊢
        have hP : va_P D vCl [(h, .inr (2, [.int 2, .int (nI M), .ref cl, .ref sa, .ref pa, .int tk])), (cl, .inl (cL, 32768, .inr (.inl (pkF (σ))))), (sa, .inl (cI, 4, .inl (fun i9 => nI ((σ) i9).2.1))), (pa, .inl (cI, 4, .inl (fun i9 => nI ((σ) i9).2.2)))] H := hP
        have hD : va_D A [(h, .inr (2, [.int 2, .int (nI M), .ref cl, .ref sa, .ref pa, .int tk])), (cl, .inl (cL, 32768, .inr (.inl (pkF (σ))))), (sa, .inl (cI, 4, .inl (fun i9 => nI ((σ) i9).2.1))), (pa, .inl (cI, 4, .inl (fun i9 => nI ((σ) i9).2.2)))] := hD
        subst hw9
        exact W.iret (v := 0) hx hb hr (fun t ht hW => ⟨⟨_, (2, σ, tk), rfl, (by unfold spCopy; simp only [hrk, hrf1, hρ, hρ2]; rw [if_neg (fun h8 => h8 ⟨hR, hR2⟩), if_pos hH]), by rw [ht]; exact hP, va_K.moved hW.alike hK, hD⟩, hS.F ht⟩) hS.2.2 d_M_copy_41
    · refine lv_if_ne (tgt := 25) hx hb d_M_copy_16 (by decide) (fun q9 => absurd (by decide) q9) (fun _ => ?_)
      refine lv_aload_n hx hb d_M_copy_19 rfl (lv_at hl 0 rfl) ?_
      refine lv_iconst (v := 1) hx hb d_M_copy_20 (by decide) ?_
      have hPc := hP
      have hFc := va_free (wc := [(h, .inr (2, [.int 0, .int (nI M), .ref cl, .ref sa, .ref pa, .int tk])), (cl, .inl (cL, 32768, .inr (.inl (pkF (σ))))), (sa, .inl (cI, 4, .inl (fun i9 => nI ((σ) i9).2.1))), (pa, .inl (cI, 4, .inl (fun i9 => nI ((σ) i9).2.2)))]) hD hS hAq [0, 1, 2, 3] rfl
      have hKc := hK.sub (tys' := [(cL, .long), (cI, .int)]) [0, 1] rfl
      refine va_calli (va_runV (As := [.int 1]) (rest := []) ⟨hx, hb, hml, hown, hA⟩ (c_M_fail l D cL cI h cl sa pa M 0 tk (σ) H.size 1) (q_M_fail hA k3_4 rfl rfl ⟨(Nat.le_of_ble_eq_true rfl), (Nat.le_of_ble_eq_true rfl)⟩) (ox_V (va_recv hKc hPc (ci := 2) (q0 := 0) rfl rfl) (oxw_S hPc hKc hD)) rfl rfl hl.1 rfl (lv_room (Nat.le_of_ble_eq_true rfl)) d_M_copy_21 ⟨(Nat.le_of_ble_eq_true rfl), (Nat.le_of_ble_eq_true rfl)⟩) hS (fun q _ h => hFc q h) hFc (fun r21 u9 t9 H1 locs ht9 hvm9 hw9 hB9 hz1 hk1 hS => ?_)
      obtain ⟨hP, hK1, hD1⟩ := hB9
      rw [ht9] at hP
      obtain ⟨hP, hD⟩ := va_join (wr := []) (w1 := rfW cL cI h cl sa pa M 1 tk (σ)) hPc hD [0, 1, 2, 3] [] rfl rfl (by decide) (by decide) hk1 hFc hP hD1
      generalize H1 = H at hP hS ⊢
      have hP : va_P D vCl [(h, .inr (2, [.int 1, .int (nI M), .ref cl, .ref sa, .ref pa, .int tk])), (cl, .inl (cL, 32768, .inr (.inl (pkF (σ))))), (sa, .inl (cI, 4, .inl (fun i9 => nI ((σ) i9).2.1))), (pa, .inl (cI, 4, .inl (fun i9 => nI ((σ) i9).2.2)))] H := hP
      have hD : va_D A [(h, .inr (2, [.int 1, .int (nI M), .ref cl, .ref sa, .ref pa, .int tk])), (cl, .inl (cL, 32768, .inr (.inl (pkF (σ))))), (sa, .inl (cI, 4, .inl (fun i9 => nI ((σ) i9).2.1))), (pa, .inl (cI, 4, .inl (fun i9 => nI ((σ) i9).2.2)))] := hD
      subst hw9
      exact W.iret (v := 0) hx hb hr (fun t ht hW => ⟨⟨_, (1, σ, tk), rfl, (by unfold spCopy; rw [if_pos (fun h9 => by first | exact hR h9.1 | exact hR2 h9.2)]), by rw [ht]; exact hP, va_K.moved hW.alike hK, hD⟩, hS.F ht⟩) hS.2.2 d_M_copy_24
  · refine lv_if_eq (tgt := 19) hx hb d_M_copy_9 (by decide) (fun _ => ?_) (fun q9 => absurd (by decide) q9)
    refine lv_aload_n hx hb d_M_copy_19 rfl (lv_at hl 0 rfl) ?_
    refine lv_iconst (v := 1) hx hb d_M_copy_20 (by decide) ?_
    have hPc := hP
    have hFc := va_free (wc := [(h, .inr (2, [.int 0, .int (nI M), .ref cl, .ref sa, .ref pa, .int tk])), (cl, .inl (cL, 32768, .inr (.inl (pkF (σ))))), (sa, .inl (cI, 4, .inl (fun i9 => nI ((σ) i9).2.1))), (pa, .inl (cI, 4, .inl (fun i9 => nI ((σ) i9).2.2)))]) hD hS hAq [0, 1, 2, 3] rfl
    have hKc := hK.sub (tys' := [(cL, .long), (cI, .int)]) [0, 1] rfl
    refine va_calli (va_runV (As := [.int 1]) (rest := []) ⟨hx, hb, hml, hown, hA⟩ (c_M_fail l D cL cI h cl sa pa M 0 tk (σ) H.size 1) (q_M_fail hA k3_4 rfl rfl ⟨(Nat.le_of_ble_eq_true rfl), (Nat.le_of_ble_eq_true rfl)⟩) (ox_V (va_recv hKc hPc (ci := 2) (q0 := 0) rfl rfl) (oxw_S hPc hKc hD)) rfl rfl hl.1 rfl (lv_room (Nat.le_of_ble_eq_true rfl)) d_M_copy_21 ⟨(Nat.le_of_ble_eq_true rfl), (Nat.le_of_ble_eq_true rfl)⟩) hS (fun q _ h => hFc q h) hFc (fun r21 u9 t9 H1 locs ht9 hvm9 hw9 hB9 hz1 hk1 hS => ?_)
    obtain ⟨hP, hK1, hD1⟩ := hB9
    rw [ht9] at hP
    obtain ⟨hP, hD⟩ := va_join (wr := []) (w1 := rfW cL cI h cl sa pa M 1 tk (σ)) hPc hD [0, 1, 2, 3] [] rfl rfl (by decide) (by decide) hk1 hFc hP hD1
    generalize H1 = H at hP hS ⊢
    have hP : va_P D vCl [(h, .inr (2, [.int 1, .int (nI M), .ref cl, .ref sa, .ref pa, .int tk])), (cl, .inl (cL, 32768, .inr (.inl (pkF (σ))))), (sa, .inl (cI, 4, .inl (fun i9 => nI ((σ) i9).2.1))), (pa, .inl (cI, 4, .inl (fun i9 => nI ((σ) i9).2.2)))] H := hP
    have hD : va_D A [(h, .inr (2, [.int 1, .int (nI M), .ref cl, .ref sa, .ref pa, .int tk])), (cl, .inl (cL, 32768, .inr (.inl (pkF (σ))))), (sa, .inl (cI, 4, .inl (fun i9 => nI ((σ) i9).2.1))), (pa, .inl (cI, 4, .inl (fun i9 => nI ((σ) i9).2.2)))] := hD
    subst hw9
    exact W.iret (v := 0) hx hb hr (fun t ht hW => ⟨⟨_, (1, σ, tk), rfl, (by unfold spCopy; rw [if_pos (fun h9 => by first | exact hR h9.1 | exact hR2 h9.2)]), by rw [ht]; exact hP, va_K.moved hW.alike hK, hD⟩, hS.F ht⟩) hS.2.2 d_M_copy_24
set_option maxHeartbeats 600000 in
set_option maxRecDepth 100000 in
/-- wrap, 0 -/
theorem c_M_wrap0 (l : Launch) (D : va_G) (cL cI : ClassId) (h cl sa pa M : Nat) (th tk : Int32) (σ : dkS) (sz : Nat) (x f : Int32) (hσ : dkok M σ) : Met l y_M_wrap w_M_wrap ({ frames := 3, cells := 0, slots := 0, locals := 73 }) (va_Pc [.ref h, .int x, .int f, .int 0] (oxw sz D [(cL, .long), (cI, .int)] [(h, .inr (2, [.int 0, .int (nI M), .ref cl, .ref sa, .ref pa, .int tk])), (cl, .inl (cL, 32768, .inr (.inl (pkF (σ))))), (sa, .inl (cI, 4, .inl (fun i9 => nI ((σ) i9).2.1))), (pa, .inl (cI, 4, .inl (fun i9 => nI ((σ) i9).2.2)))])) (va_Qi (fun (r : Int32) (uu : Nat × dkS × Int32) => spBlock M σ x f = (uu.1, r, uu.2.1)) (fun uu => ow D [(cL, .long), (cI, .int)] (va_A [(h, .inr (2, [.int 0, .int (nI M), .ref cl, .ref sa, .ref pa, .int tk])), (cl, .inl (cL, 32768, .inr (.inl (pkF (σ))))), (sa, .inl (cI, 4, .inl (fun i9 => nI ((σ) i9).2.1))), (pa, .inl (cI, 4, .inl (fun i9 => nI ((σ) i9).2.2)))] sz) (rfW cL cI h cl sa pa M (nI uu.1) uu.2.2 uu.2.1)) (va_A [(h, .inr (2, [.int 0, .int (nI M), .ref cl, .ref sa, .ref pa, .int tk])), (cl, .inl (cL, 32768, .inr (.inl (pkF (σ))))), (sa, .inl (cI, 4, .inl (fun i9 => nI ((σ) i9).2.1))), (pa, .inl (cI, 4, .inl (fun i9 => nI ((σ) i9).2.2)))] sz)) 0 0 (va_A [(h, .inr (2, [.int 0, .int (nI M), .ref cl, .ref sa, .ref pa, .int tk])), (cl, .inl (cL, 32768, .inr (.inl (pkF (σ))))), (sa, .inl (cI, 4, .inl (fun i9 => nI ((σ) i9).2.1))), (pa, .inl (cI, 4, .inl (fun i9 => nI ((σ) i9).2.2)))] sz) := by
  refine Met.ofW (cc := b_M_wrap) (maxL := 8) (ret := (some .int)) (by decide) rfl ?_
  intro p9 e9 s m args below meth c9 s₁ BL hml hv
  obtain ⟨rfl, hsz, hP, hK, hD0⟩ := hv
  have hx := BL.exec
  have hb := BL.bytes
  have hr := BL.returns
  have hts := atoms_spec (ws := w_M_wrap) BL.pre
  have hA : ∀ w ∈ wsA, w.before _ s = true := fun w h => hts w (List.mem_cons_of_mem _ h)
  have hown : s.vm.findClass R_M = some m.cls := findClass_of_methodNamed BL.named
  have hlocks := BL.notSynchronized
  subst hsz
  have hD := hD0.self (sz := s.heap.size)
  generalize hAe : va_A [(h, .inr (2, [.int 0, .int (nI M), .ref cl, .ref sa, .ref pa, .int tk])), (cl, .inl (cL, 32768, .inr (.inl (pkF (σ))))), (sa, .inl (cI, 4, .inl (fun i9 => nI ((σ) i9).2.1))), (pa, .inl (cI, 4, .inl (fun i9 => nI ((σ) i9).2.2)))] s.heap.size = A at hD ⊢
  have hAq : ∀ q : Nat, s.heap.size ≤ q → A q := fun q h => by rw [← hAe]; exact Or.inr h
  have hS : va_S A s.heap s.heap [] := va_S.rf
  have hP : va_P D vCl [(h, .inr (2, [.int 0, .int (nI M), .ref cl, .ref sa, .ref pa, .int tk])), (cl, .inl (cL, 32768, .inr (.inl (pkF (σ))))), (sa, .inl (cI, 4, .inl (fun i9 => nI ((σ) i9).2.1))), (pa, .inl (cI, 4, .inl (fun i9 => nI ((σ) i9).2.2)))] s.heap := hP
  have hl := lv_entry ([.ref h, .int x, .int f, .int 0]) (n := 8) (Nat.le_of_ble_eq_true rfl)
  rw [lg_entry_eq]
  generalize (lg_sl ([.ref h, .int x, .int f, .int 0]) ++ List.replicate (8 - (lg_sl ([.ref h, .int x, .int f, .int 0])).length) Slot.unset).toArray = ls at hl ⊢
  have hl : lv_has ls 8 [(0, .ref h), (1, .int x), (2, .int f), (3, .int 0)] := hl
  refine lv_iload_n hx hb d_M_wrap_0 rfl (lv_at hl 1 rfl) ?_
  refine vp_callSi (W.runS (As := [.int x]) (rest := []) ⟨hx, hb, hml, hown, hA⟩ (c_M_isRow l x) (q_M_isRow hA k3_1 rfl rfl ⟨(Nat.le_of_ble_eq_true rfl), (Nat.le_of_ble_eq_true rfl)⟩) (⟨fun a U g mk q => q, fun U hU hW => ⟨rfl, trivial⟩⟩) rfl rfl hl.1 rfl (lv_room (Nat.le_of_ble_eq_true rfl)) d_M_wrap_1 ⟨(Nat.le_of_ble_eq_true rfl), (Nat.le_of_ble_eq_true rfl)⟩) (fun r1 hr1 => ?_)
  rcases hr1 with ⟨hR, rfl⟩ | ⟨hR, rfl⟩
  · refine lv_if_eq (tgt := 14) hx hb d_M_wrap_4 (by decide) (fun q9 => absurd q9 (by decide)) (fun _ => ?_)
    refine lv_iload_n hx hb d_M_wrap_7 rfl (lv_at hl 2 rfl) ?_
    refine vp_callSi (W.runS (As := [.int f]) (rest := []) ⟨hx, hb, hml, hown, hA⟩ (c_M_isRow l f) (q_M_isRow hA k3_1 rfl rfl ⟨(Nat.le_of_ble_eq_true rfl), (Nat.le_of_ble_eq_true rfl)⟩) (⟨fun a U g mk q => q, fun U hU hW => ⟨rfl, trivial⟩⟩) rfl rfl hl.1 rfl (lv_room (Nat.le_of_ble_eq_true rfl)) d_M_wrap_8 ⟨(Nat.le_of_ble_eq_true rfl), (Nat.le_of_ble_eq_true rfl)⟩) (fun r8 hr8 => ?_)
    rcases hr8 with ⟨hR2, rfl⟩ | ⟨hR2, rfl⟩
    · refine lv_if_ne (tgt := 20) hx hb d_M_wrap_11 (by decide) (fun _ => ?_) (fun q9 => absurd q9 (by decide))
      obtain ⟨k, hk0, rfl⟩ := nI_of (show ¬ x < 0 by rw [Int32.lt_iff_toInt_lt, li_0]; exact Int.not_lt.mpr hR.1)
      have hk : k < 4 := by have h9 := hR.2; rw [nI_toInt hk0] at h9; omega
      have hrk : rj (nI k) = k := rj_n hk
      obtain ⟨⟨B, n, p⟩, hρ⟩ : ∃ ρ, σ k = ρ := ⟨_, rfl⟩
      have hk9 := hσ.2 k hk
      have hBσ : ∀ j, (σ k).1 j < 256 := hk9.2.2
      have hnσ : (σ k).2.1 ≤ 65536 := Nat.le_trans hk9.2.1 hσ.1
      rw [hρ] at hk9
      obtain ⟨hp, hn, hB⟩ := hk9
      have hp : p ≤ n := hp
      have hn : n ≤ M := hn
      have hB : ∀ j, B j < 256 := hB
      have hM := hσ.1
      obtain ⟨f1, hf10, rfl⟩ := nI_of (show ¬ f < 0 by rw [Int32.lt_iff_toInt_lt, li_0]; exact Int.not_lt.mpr hR2.1)
      have hf1 : f1 < 4 := by have h9 := hR2.2; rw [nI_toInt hf10] at h9; omega
      have hrf1 : rj (nI f1) = f1 := rj_n hf1
      obtain ⟨⟨C, n2, p2⟩, hρ2⟩ : ∃ ρ, σ f1 = ρ := ⟨_, rfl⟩
      have hk9 := hσ.2 f1 hf1
      have hBσ2 : ∀ j, (σ f1).1 j < 256 := hk9.2.2
      have hnσ2 : (σ f1).2.1 ≤ 65536 := Nat.le_trans hk9.2.1 hσ.1
      rw [hρ2] at hk9
      obtain ⟨hp2, hn2, hB2⟩ := hk9
      have hp2 : p2 ≤ n2 := hp2
      have hn2 : n2 ≤ M := hn2
      have hB2 : ∀ j, C j < 256 := hB2
      refine lv_aload_n hx hb d_M_wrap_20 rfl (lv_at hl 0 rfl) ?_
      refine va_get (D := D) (ci := 2) (v := .ref sa) (C := R_M) (T := F_M) (N := 6) hx hb hA i_M hown hK hP 0 rfl rfl 3 (by decide) (hA _ k2_215) (fun _ h9 => h9) rfl d_M_wrap_21 ?_
      refine lv_iload_n hx hb d_M_wrap_24 rfl (lv_at hl 2 rfl) ?_
      refine va_iald hx hb hK hP 2 1 rfl rfl (vp_in_nI hf1 (by decide)) d_M_wrap_25 ?_
      refine lv_topi (fun v25 ev25 => ?_)
      have ev25 : v25 = nI n2 := by rw [ev25]; show nI ((σ) (nI f1).toNatClampNeg).2.1 = _; rw [nI_clamp (by omega), hρ2]
      subst ev25
      refine lv_istore (lv' := [(4, .int (nI n2)), (0, .ref h), (1, .int (nI k)), (2, .int (nI f1)), (3, .int 0)]) hx hb d_M_wrap_26 hl (by decide) rfl (fun ls hl => ?_)
      refine lv_iload hx hb d_M_wrap_28 (lv_at hl 0 rfl) ?_
      refine lv_i2l hx hb d_M_wrap_30 rfl ?_
      refine lv_topl (fun v30 ev30 => ?_)
      have ev30 : v30 = lN n2 := by rw [ev30]; exact nI_l (by omega)
      subst ev30
      refine vp_callSi (W.runS (As := [.long (lN n2)]) (rest := []) ⟨hx, hb, hml, hown, hA⟩ (c_M_groups l n2 (by omega)) (q_M_groups hA k3_30 rfl rfl ⟨(Nat.le_of_ble_eq_true rfl), (Nat.le_of_ble_eq_true rfl)⟩) (⟨fun a U g mk q => q, fun U hU hW => ⟨rfl, trivial⟩⟩) rfl rfl hl.1 rfl (lv_room (Nat.le_of_ble_eq_true rfl)) d_M_wrap_31 ⟨(Nat.le_of_ble_eq_true rfl), (Nat.le_of_ble_eq_true rfl)⟩) (fun r31 hr31 => ?_)
      have er31 : r31 = nI (sw n2) := hr31
      subst er31
      have hsw := sw_in n2
      refine lv_istore (lv' := [(5, .int (nI (sw n2))), (4, .int (nI n2)), (0, .ref h), (1, .int (nI k)), (2, .int (nI f1)), (3, .int 0)]) hx hb d_M_wrap_34 hl (by decide) rfl (fun ls hl => ?_)
      refine lv_aload_n hx hb d_M_wrap_36 rfl (lv_at hl 2 rfl) ?_
      refine lv_iload_n hx hb d_M_wrap_37 rfl (lv_at hl 3 rfl) ?_
      refine lv_iload hx hb d_M_wrap_38 (lv_at hl 0 rfl) ?_
      refine lv_iload_n hx hb d_M_wrap_40 rfl (lv_at hl 5 rfl) ?_
      refine lv_iadd hx hb d_M_wrap_41 ?_
      refine lv_topi (fun v41 ev41 => ?_)
      have ev41 : v41 = nI (sw n2) := by rw [ev41]; exact nI_add _ 0
      subst ev41
      refine lv_iload hx hb d_M_wrap_42 (lv_at hl 1 rfl) ?_
      refine lv_iadd hx hb d_M_wrap_44 ?_
      refine lv_topi (fun v44 ev44 => ?_)
      have ev44 : v44 = nI (sw n2 + n2) := by rw [ev44]; exact nI_add _ _
      subst ev44
      have hPc := hP.sub (ws' := [(h, .inr (2, [.int 0, .int (nI M), .ref cl, .ref sa, .ref pa, .int tk])), (cl, .inl (cL, 32768, .inr (.inl (pkF (σ))))), (sa, .inl (cI, 4, .inl (fun i9 => nI ((σ) i9).2.1))), (pa, .inl (cI, 4, .inl (fun i9 => nI ((σ) i9).2.2)))]) [0, 1, 2, 3] rfl
      have hKc := hK.sub (tys' := [(cL, .long), (cI, .int)]) [0, 1] rfl
      refine vp_callSi (W.runV (As := [.int (nI k), .int (nI (sw n2 + n2))]) (rest := []) ⟨hx, hb, hml, hown, hA⟩ (c_M_fits l D cL cI h cl sa pa M 0 tk σ k (sw n2 + n2) hk hnσ (by omega) hM) (q_M_fits hA k3_8 rfl rfl ⟨(Nat.le_of_ble_eq_true rfl), (Nat.le_of_ble_eq_true rfl)⟩) (ox_V (va_recv hKc hPc (ci := 2) (q0 := 0) rfl rfl) (ox_S hPc hKc)) rfl rfl hl.1 rfl (lv_room (Nat.le_of_ble_eq_true rfl)) d_M_wrap_45 ⟨(Nat.le_of_ble_eq_true rfl), (Nat.le_of_ble_eq_true rfl)⟩) (fun r45 hr45 => ?_)
      rcases hr45 with ⟨hF, rfl⟩ | ⟨hF, rfl⟩
      · refine lv_if_ne (tgt := 57) hx hb d_M_wrap_48 (by decide) (fun _ => ?_) (fun q9 => absurd q9 (by decide))
        rw [hρ] at hF
        have hF2 : n + (sw n2 + n2) ≤ M := hF
        refine lv_aload_n hx hb d_M_wrap_57 rfl (lv_at hl 2 rfl) ?_
        refine lv_iload_n hx hb d_M_wrap_58 rfl (lv_at hl 4 rfl) ?_
        refine lv_iconst (v := 0) hx hb d_M_wrap_59 (by decide) ?_
        refine lv_topi (fun v59 ev59 => ?_)
        have ev59 : v59 = nI 0 := by rw [ev59]; rfl
        subst ev59
        refine lv_iload hx hb d_M_wrap_60 (lv_at hl 1 rfl) ?_
        have hPc := hP.sub (ws' := [(h, .inr (2, [.int 0, .int (nI M), .ref cl, .ref sa, .ref pa, .int tk])), (cl, .inl (cL, 32768, .inr (.inl (pkF (σ))))), (sa, .inl (cI, 4, .inl (fun i9 => nI ((σ) i9).2.1))), (pa, .inl (cI, 4, .inl (fun i9 => nI ((σ) i9).2.2)))]) [0, 1, 2, 3] rfl
        have hKc := hK.sub (tys' := [(cL, .long), (cI, .int)]) [0, 1] rfl
        refine vp_callSi (W.runV (As := [.int (nI f1), .int (nI 0), .int (nI n2)]) (rest := []) ⟨hx, hb, hml, hown, hA⟩ (c_M_sumOf l D cL cI h cl sa pa M 0 tk σ f1 hf1 hBσ2 0 n2 (by omega)) (q_M_sumOf hA k3_78 rfl rfl ⟨(Nat.le_of_ble_eq_true rfl), (Nat.le_of_ble_eq_true rfl)⟩) (ox_V (va_recv hKc hPc (ci := 2) (q0 := 0) rfl rfl) (ox_S hPc hKc)) rfl rfl hl.1 rfl (lv_room (Nat.le_of_ble_eq_true rfl)) d_M_wrap_62 ⟨(Nat.le_of_ble_eq_true rfl), (Nat.le_of_ble_eq_true rfl)⟩) (fun r62 hr62 => ?_)
        have er62 : r62 = smb C 0 n2 := by rw [hr62, hρ2]
        subst er62
        refine lv_istore (lv' := [(6, .int (smb C 0 n2)), (5, .int (nI (sw n2))), (4, .int (nI n2)), (0, .ref h), (1, .int (nI k)), (2, .int (nI f1)), (3, .int 0)]) hx hb d_M_wrap_65 hl (by decide) rfl (fun ls hl => ?_)
        rw [up_id hρ] at hP hD
        have hP : va_P D vCl [(h, .inr (2, [.int 0, .int (nI M), .ref cl, .ref sa, .ref pa, .int tk])), (cl, .inl (cL, 32768, .inr (.inl (pkF (va_up σ k (B, n, p)))))), (sa, .inl (cI, 4, .inl (fun i9 => nI ((va_up σ k (B, n, p)) i9).2.1))), (pa, .inl (cI, 4, .inl (fun i9 => nI ((va_up σ k (B, n, p)) i9).2.2)))] s.heap := hP
        have hD : va_D A [(h, .inr (2, [.int 0, .int (nI M), .ref cl, .ref sa, .ref pa, .int tk])), (cl, .inl (cL, 32768, .inr (.inl (pkF (va_up σ k (B, n, p)))))), (sa, .inl (cI, 4, .inl (fun i9 => nI ((va_up σ k (B, n, p)) i9).2.1))), (pa, .inl (cI, 4, .inl (fun i9 => nI ((va_up σ k (B, n, p)) i9).2.2)))] := hD
        refine lv_aload_n hx hb d_M_wrap_67 rfl (lv_at hl 3 rfl) ?_
        refine lv_iload_n hx hb d_M_wrap_68 rfl (lv_at hl 4 rfl) ?_
        refine lv_iload hx hb d_M_wrap_69 (lv_at hl 2 rfl) ?_
        refine lv_i2l hx hb d_M_wrap_71 rfl ?_
        refine lv_topl (fun v71 ev71 => ?_)
        have ev71 : v71 = lN n2 := by rw [ev71]; exact nI_l (by omega)
        subst ev71
        have hPc := hP
        have hFc := va_free (wc := [(h, .inr (2, [.int 0, .int (nI M), .ref cl, .ref sa, .ref pa, .int tk])), (cl, .inl (cL, 32768, .inr (.inl (pkF (va_up σ k (B, n, p)))))), (sa, .inl (cI, 4, .inl (fun i9 => nI ((va_up σ k (B, n, p)) i9).2.1))), (pa, .inl (cI, 4, .inl (fun i9 => nI ((va_up σ k (B, n, p)) i9).2.2)))]) hD hS hAq [0, 1, 2, 3] rfl
        have hKc := hK.sub (tys' := [(cL, .long), (cI, .int)]) [0, 1] rfl
        refine va_callv (va_runV (As := [.int (nI k), .long (lN n2)]) (rest := []) ⟨hx, hb, hml, hown, hA⟩ (c_M_addGroups l D cL cI h cl sa pa M 0 tk σ s.heap.size k hk B n p hB n2 (by omega) (by omega)) (q_M_addGroups hA k3_33 rfl rfl ⟨(Nat.le_of_ble_eq_true rfl), (Nat.le_of_ble_eq_true rfl)⟩) (ox_V (va_recv hKc hPc (ci := 2) (q0 := 0) rfl rfl) (oxw_S hPc hKc hD)) rfl rfl hl.1 rfl (lv_room (Nat.le_of_ble_eq_true rfl)) d_M_wrap_72 ⟨(Nat.le_of_ble_eq_true rfl), (Nat.le_of_ble_eq_true rfl)⟩) hS (fun q _ h => hFc q h) hFc (fun u9 t9 H1 locs ht9 hvm9 hw9 hB9 hz1 hk1 hS => ?_)
        obtain ⟨hP, hK1, hD1⟩ := hB9
        rw [ht9] at hP
        obtain ⟨hP, hD⟩ := va_join (wr := []) (w1 := rfW cL cI h cl sa pa M 0 tk (va_up σ k (wr B n (sw n2) (sv n2), n + sw n2, p))) hPc hD [0, 1, 2, 3] [] rfl rfl (by decide) (by decide) hk1 hFc hP hD1
        generalize H1 = H at hP hS ⊢
        have hP : va_P D vCl [(h, .inr (2, [.int 0, .int (nI M), .ref cl, .ref sa, .ref pa, .int tk])), (cl, .inl (cL, 32768, .inr (.inl (pkF (va_up σ k (wr B n (sw n2) (sv n2), n + sw n2, p)))))), (sa, .inl (cI, 4, .inl (fun i9 => nI ((va_up σ k (wr B n (sw n2) (sv n2), n + sw n2, p)) i9).2.1))), (pa, .inl (cI, 4, .inl (fun i9 => nI ((va_up σ k (wr B n (sw n2) (sv n2), n + sw n2, p)) i9).2.2)))] H := hP
        have hD : va_D A [(h, .inr (2, [.int 0, .int (nI M), .ref cl, .ref sa, .ref pa, .int tk])), (cl, .inl (cL, 32768, .inr (.inl (pkF (va_up σ k (wr B n (sw n2) (sv n2), n + sw n2, p)))))), (sa, .inl (cI, 4, .inl (fun i9 => nI ((va_up σ k (wr B n (sw n2) (sv n2), n + sw n2, p)) i9).2.1))), (pa, .inl (cI, 4, .inl (fun i9 => nI ((va_up σ k (wr B n (sw n2) (sv n2), n + sw n2, p)) i9).2.2)))] := hD
        refine lv_iconst (v := 0) hx hb d_M_wrap_75 (by decide) ?_
        refine lv_istore (lv' := [(7, .int 0), (6, .int (smb C 0 n2)), (5, .int (nI (sw n2))), (4, .int (nI n2)), (0, .ref h), (1, .int (nI k)), (2, .int (nI f1)), (3, .int 0)]) hx hb d_M_wrap_76 hl (by decide) rfl (fun ls hl => ?_)
        refine lv_iload hx hb d_M_wrap_78 (lv_at hl 0 rfl) ?_
        refine lv_iload_n hx hb d_M_wrap_80 rfl (lv_at hl 7 rfl) ?_
        refine lv_icmp_ge (tgt := 107) hx hb d_M_wrap_81 (by decide) (fun _ => ?_) (fun q9 => absurd (by decide) q9)
        rw [show va_up (σ) k (wr B n (sw n2) (sv n2), n + sw n2, p) = va_up (σ) k (wr (wr B n (sw n2) (sv n2)) (n + sw n2) 0 C, n + sw n2 + 0, p) from by rw [wr_0, Nat.add_zero]] at hP hD
        have hP : va_P D vCl [(h, .inr (2, [.int 0, .int (nI M), .ref cl, .ref sa, .ref pa, .int tk])), (cl, .inl (cL, 32768, .inr (.inl (pkF (va_up (σ) k (wr (wr B n (sw n2) (sv n2)) (n + sw n2) 0 C, n + sw n2 + 0, p)))))), (sa, .inl (cI, 4, .inl (fun i9 => nI ((va_up (σ) k (wr (wr B n (sw n2) (sv n2)) (n + sw n2) 0 C, n + sw n2 + 0, p)) i9).2.1))), (pa, .inl (cI, 4, .inl (fun i9 => nI ((va_up (σ) k (wr (wr B n (sw n2) (sv n2)) (n + sw n2) 0 C, n + sw n2 + 0, p)) i9).2.2)))] H := hP
        have hD : va_D A [(h, .inr (2, [.int 0, .int (nI M), .ref cl, .ref sa, .ref pa, .int tk])), (cl, .inl (cL, 32768, .inr (.inl (pkF (va_up (σ) k (wr (wr B n (sw n2) (sv n2)) (n + sw n2) 0 C, n + sw n2 + 0, p)))))), (sa, .inl (cI, 4, .inl (fun i9 => nI ((va_up (σ) k (wr (wr B n (sw n2) (sv n2)) (n + sw n2) 0 C, n + sw n2 + 0, p)) i9).2.1))), (pa, .inl (cI, 4, .inl (fun i9 => nI ((va_up (σ) k (wr (wr B n (sw n2) (sv n2)) (n + sw n2) 0 C, n + sw n2 + 0, p)) i9).2.2)))] := hD
        refine lv_iconst (v := 0) hx hb d_M_wrap_107 (by decide) ?_
        refine lv_topi (fun v107 ev107 => ?_)
        have ev107 : v107 = nI 0 := by rw [ev107]; rfl
        subst ev107
        refine lv_istore (lv' := [(7, .int (nI 0)), (6, .int (smb C 0 n2)), (5, .int (nI (sw n2))), (4, .int (nI n2)), (0, .ref h), (1, .int (nI k)), (2, .int (nI f1)), (3, .int 0)]) hx hb d_M_wrap_108 hl (by decide) rfl (fun ls hl => ?_)
        have loop : ∀ (q i2 : Nat), i2 + q = n2 + 1 → i2 ≤ n2 → ∀ (H : Heap) (locs : List Loc), va_P D vCl [(h, .inr (2, [.int 0, .int (nI M), .ref cl, .ref sa, .ref pa, .int tk])), (cl, .inl (cL, 32768, .inr (.inl (pkF (va_up σ k (wr (wr B n (sw n2) (sv n2)) (n + sw n2) i2 C, n + sw n2 + i2, p)))))), (sa, .inl (cI, 4, .inl (fun i9 => nI ((va_up σ k (wr (wr B n (sw n2) (sv n2)) (n + sw n2) i2 C, n + sw n2 + i2, p)) i9).2.1))), (pa, .inl (cI, 4, .inl (fun i9 => nI ((va_up σ k (wr (wr B n (sw n2) (sv n2)) (n + sw n2) i2 C, n + sw n2 + i2, p)) i9).2.2)))] H → va_D A [(h, .inr (2, [.int 0, .int (nI M), .ref cl, .ref sa, .ref pa, .int tk])), (cl, .inl (cL, 32768, .inr (.inl (pkF (va_up σ k (wr (wr B n (sw n2) (sv n2)) (n + sw n2) i2 C, n + sw n2 + i2, p)))))), (sa, .inl (cI, 4, .inl (fun i9 => nI ((va_up σ k (wr (wr B n (sw n2) (sv n2)) (n + sw n2) i2 C, n + sw n2 + i2, p)) i9).2.1))), (pa, .inl (cI, 4, .inl (fun i9 => nI ((va_up σ k (wr (wr B n (sw n2) (sv n2)) (n + sw n2) i2 C, n + sw n2 + i2, p)) i9).2.2)))] → va_S A s.heap H locs → ∀ (ls : Array Slot), lv_has ls 8 [(7, .int (nI i2)), (0, .ref h), (1, .int (nI k)), (2, .int (nI f1)), (3, .int 0), (4, .int (nI n2)), (5, .int (nI (sw n2)))] → W p9 l e9 (headSpec w_M_wrap ({ frames := 3, cells := 0, slots := 0, locals := 73 })).room s m [.ref h, .int (nI k), .int (nI f1), .int 0].toArray below meth c9 H locs 0 0 (MQ below (va_Qi (fun (r : Int32) (uu : Nat × dkS × Int32) => spBlock M σ (nI k) (nI f1) = (uu.1, r, uu.2.1)) (fun uu => ow D [(cL, .long), (cI, .int)] A (rfW cL cI h cl sa pa M (nI uu.1) uu.2.2 uu.2.1)) A) [.ref h, .int (nI k), .int (nI f1), .int 0].toArray s 0 0 A) (F0 m 110 ls []) := by
          intro q
          induction q with
          | zero =>
            intro i2 hq hi2 H locs hP hD hS ls hl
            exact absurd hq (by omega)
          | succ q ih_loop =>
            intro i2 hq hi2 H locs hP hD hS ls hl
            refine lv_iload hx hb d_M_wrap_110 (lv_at hl 0 rfl) ?_
            refine lv_iload hx hb d_M_wrap_112 (lv_at hl 5 rfl) ?_
            refine lv_icmp_ge (tgt := 135) hx hb d_M_wrap_114 (by decide) (fun c114 => ?_) (fun c114 => ?_)
            · have hi4 : i2 = n2 := by have := (nI_leI (a := n2) (b := i2) (by omega) (by omega)).mp c114; omega
              rw [hi4] at hP hD
              have hP : va_P D vCl [(h, .inr (2, [.int 0, .int (nI M), .ref cl, .ref sa, .ref pa, .int tk])), (cl, .inl (cL, 32768, .inr (.inl (pkF (va_up σ k (wr (wr B n (sw n2) (sv n2)) (n + sw n2) n2 C, n + sw n2 + n2, p)))))), (sa, .inl (cI, 4, .inl (fun i9 => nI ((va_up σ k (wr (wr B n (sw n2) (sv n2)) (n + sw n2) n2 C, n + sw n2 + n2, p)) i9).2.1))), (pa, .inl (cI, 4, .inl (fun i9 => nI ((va_up σ k (wr (wr B n (sw n2) (sv n2)) (n + sw n2) n2 C, n + sw n2 + n2, p)) i9).2.2)))] H := hP
              have hD : va_D A [(h, .inr (2, [.int 0, .int (nI M), .ref cl, .ref sa, .ref pa, .int tk])), (cl, .inl (cL, 32768, .inr (.inl (pkF (va_up σ k (wr (wr B n (sw n2) (sv n2)) (n + sw n2) n2 C, n + sw n2 + n2, p)))))), (sa, .inl (cI, 4, .inl (fun i9 => nI ((va_up σ k (wr (wr B n (sw n2) (sv n2)) (n + sw n2) n2 C, n + sw n2 + n2, p)) i9).2.1))), (pa, .inl (cI, 4, .inl (fun i9 => nI ((va_up σ k (wr (wr B n (sw n2) (sv n2)) (n + sw n2) n2 C, n + sw n2 + n2, p)) i9).2.2)))] := hD
              refine lv_iload hx hb d_M_wrap_135 (lv_at hl 6 rfl) ?_
              refine lv_iload_n hx hb d_M_wrap_137 rfl (lv_at hl 4 rfl) ?_
              refine lv_iadd hx hb d_M_wrap_138 ?_
              refine lv_topi (fun v138 ev138 => ?_)
              have ev138 : v138 = nI (sw n2) := by rw [ev138]; exact nI_add _ 0
              subst ev138
              refine lv_iload hx hb d_M_wrap_139 (lv_at hl 5 rfl) ?_
              refine lv_iadd hx hb d_M_wrap_141 ?_
              refine lv_topi (fun v141 ev141 => ?_)
              have ev141 : v141 = nI (sw n2 + n2) := by rw [ev141]; exact nI_add _ _
              subst ev141
              exact W.iret (v := nI (sw n2 + n2)) hx hb hr (fun t ht hW => ⟨⟨_, (0, va_up σ k (wr (wr B n (sw n2) (sv n2)) (n + sw n2) n2 C, n + sw n2 + n2, p), tk), rfl, (by unfold spBlock; simp only [hrk, hrf1, hρ, hρ2]; rw [if_neg (fun h8 => h8 ⟨hR, hR2⟩), if_neg (Nat.not_lt.mpr hF2)]), by rw [ht]; exact hP, va_K.moved hW.alike hK, hD⟩, hS.F ht⟩) hS.2.2 d_M_wrap_142
            · have hi3 : i2 < n2 := by have := mt (nI_leI (a := n2) (b := i2) (by omega) (by omega)).mpr c114; omega
              refine lv_aload_n hx hb d_M_wrap_117 rfl (lv_at hl 1 rfl) ?_
              refine lv_iload_n hx hb d_M_wrap_118 rfl (lv_at hl 2 rfl) ?_
              refine lv_aload_n hx hb d_M_wrap_119 rfl (lv_at hl 1 rfl) ?_
              refine lv_iload_n hx hb d_M_wrap_120 rfl (lv_at hl 3 rfl) ?_
              refine lv_iload hx hb d_M_wrap_121 (lv_at hl 0 rfl) ?_
              have hPc := hP.sub (ws' := [(h, .inr (2, [.int 0, .int (nI M), .ref cl, .ref sa, .ref pa, .int tk])), (cl, .inl (cL, 32768, .inr (.inl (pkF (va_up σ k (wr (wr B n (sw n2) (sv n2)) (n + sw n2) i2 C, n + sw n2 + i2, p)))))), (sa, .inl (cI, 4, .inl (fun i9 => nI ((va_up σ k (wr (wr B n (sw n2) (sv n2)) (n + sw n2) i2 C, n + sw n2 + i2, p)) i9).2.1))), (pa, .inl (cI, 4, .inl (fun i9 => nI ((va_up σ k (wr (wr B n (sw n2) (sv n2)) (n + sw n2) i2 C, n + sw n2 + i2, p)) i9).2.2)))]) [0, 1, 2, 3] rfl
              have hKc := hK.sub (tys' := [(cL, .long), (cI, .int)]) [0, 1] rfl
              refine vp_callSi (W.runV (As := [.int (nI f1), .int (nI i2)]) (rest := [.int (nI k), .ref h]) ⟨hx, hb, hml, hown, hA⟩ (c_M_at l D cL cI h cl sa pa M 0 tk (va_up σ k (wr (wr B n (sw n2) (sv n2)) (n + sw n2) i2 C, n + sw n2 + i2, p)) f1 i2 hf1 (by omega) (bok_w hσ hf1 (wr_lt (wr_lt hB (fun i9 _ => sv_lt n2 i9)) (fun i9 _ => hB2 _)) _ _)) (q_M_at hA k3_66 rfl rfl ⟨(Nat.le_of_ble_eq_true rfl), (Nat.le_of_ble_eq_true rfl)⟩) (ox_V (va_recv hKc hPc (ci := 2) (q0 := 0) rfl rfl) (ox_S hPc hKc)) rfl rfl hl.1 rfl (lv_room (Nat.le_of_ble_eq_true rfl)) d_M_wrap_123 ⟨(Nat.le_of_ble_eq_true rfl), (Nat.le_of_ble_eq_true rfl)⟩) (fun r123 hr123 => ?_)
              have er123 : r123 = nI (C i2) := by rw [hr123, rd_g hρ (fun j9 h9 => by rw [wr_out (by omega), wr_out h9]) _ _ (by rw [hρ2]; show i2 < n2; omega), hρ2]
              subst er123
              have hPc := hP
              have hFc := va_free (wc := [(h, .inr (2, [.int 0, .int (nI M), .ref cl, .ref sa, .ref pa, .int tk])), (cl, .inl (cL, 32768, .inr (.inl (pkF (va_up σ k (wr (wr B n (sw n2) (sv n2)) (n + sw n2) i2 C, n + sw n2 + i2, p)))))), (sa, .inl (cI, 4, .inl (fun i9 => nI ((va_up σ k (wr (wr B n (sw n2) (sv n2)) (n + sw n2) i2 C, n + sw n2 + i2, p)) i9).2.1))), (pa, .inl (cI, 4, .inl (fun i9 => nI ((va_up σ k (wr (wr B n (sw n2) (sv n2)) (n + sw n2) i2 C, n + sw n2 + i2, p)) i9).2.2)))]) hD hS hAq [0, 1, 2, 3] rfl
              have hKc := hK.sub (tys' := [(cL, .long), (cI, .int)]) [0, 1] rfl
              refine va_callv (va_runV (As := [.int (nI k), .int (nI (C i2))]) (rest := []) ⟨hx, hb, hml, hown, hA⟩ (c_M_add l D cL cI h cl sa pa M 0 tk (σ) H.size k hk (wr (wr B n (sw n2) (sv n2)) (n + sw n2) i2 C) (n + sw n2 + i2) p (wr_lt (wr_lt hB (fun i9 _ => sv_lt n2 i9)) (fun i9 _ => hB2 _)) (C i2) (by omega) (hB2 _)) (q_M_add hA k3_13 rfl rfl ⟨(Nat.le_of_ble_eq_true rfl), (Nat.le_of_ble_eq_true rfl)⟩) (ox_V (va_recv hKc hPc (ci := 2) (q0 := 0) rfl rfl) (oxw_S hPc hKc hD)) rfl rfl hl.1 rfl (lv_room (Nat.le_of_ble_eq_true rfl)) d_M_wrap_126 ⟨(Nat.le_of_ble_eq_true rfl), (Nat.le_of_ble_eq_true rfl)⟩) hS (fun q _ h => hFc q h) hFc (fun u9 t9 H1 locs ht9 hvm9 hw9 hB9 hz1 hk1 hS => ?_)
              obtain ⟨hP, hK1, hD1⟩ := hB9
              rw [ht9] at hP
              obtain ⟨hP, hD⟩ := va_join (wr := []) (w1 := rfW cL cI h cl sa pa M 0 tk (va_up (σ) k (va_up (wr (wr B n (sw n2) (sv n2)) (n + sw n2) i2 C) (n + sw n2 + i2) (C i2), n + sw n2 + i2 + 1, p))) hPc hD [0, 1, 2, 3] [] rfl rfl (by decide) (by decide) hk1 hFc hP hD1
              generalize H1 = H at hP hS ⊢
              have hP : va_P D vCl [(h, .inr (2, [.int 0, .int (nI M), .ref cl, .ref sa, .ref pa, .int tk])), (cl, .inl (cL, 32768, .inr (.inl (pkF (va_up (σ) k (va_up (wr (wr B n (sw n2) (sv n2)) (n + sw n2) i2 C) (n + sw n2 + i2) (C i2), n + sw n2 + i2 + 1, p)))))), (sa, .inl (cI, 4, .inl (fun i9 => nI ((va_up (σ) k (va_up (wr (wr B n (sw n2) (sv n2)) (n + sw n2) i2 C) (n + sw n2 + i2) (C i2), n + sw n2 + i2 + 1, p)) i9).2.1))), (pa, .inl (cI, 4, .inl (fun i9 => nI ((va_up (σ) k (va_up (wr (wr B n (sw n2) (sv n2)) (n + sw n2) i2 C) (n + sw n2 + i2) (C i2), n + sw n2 + i2 + 1, p)) i9).2.2)))] H := hP
              have hD : va_D A [(h, .inr (2, [.int 0, .int (nI M), .ref cl, .ref sa, .ref pa, .int tk])), (cl, .inl (cL, 32768, .inr (.inl (pkF (va_up (σ) k (va_up (wr (wr B n (sw n2) (sv n2)) (n + sw n2) i2 C) (n + sw n2 + i2) (C i2), n + sw n2 + i2 + 1, p)))))), (sa, .inl (cI, 4, .inl (fun i9 => nI ((va_up (σ) k (va_up (wr (wr B n (sw n2) (sv n2)) (n + sw n2) i2 C) (n + sw n2 + i2) (C i2), n + sw n2 + i2 + 1, p)) i9).2.1))), (pa, .inl (cI, 4, .inl (fun i9 => nI ((va_up (σ) k (va_up (wr (wr B n (sw n2) (sv n2)) (n + sw n2) i2 C) (n + sw n2 + i2) (C i2), n + sw n2 + i2 + 1, p)) i9).2.2)))] := hD
              rw [wr_s, Nat.add_assoc (n + sw n2) i2 1] at hP hD
              have hP : va_P D vCl [(h, .inr (2, [.int 0, .int (nI M), .ref cl, .ref sa, .ref pa, .int tk])), (cl, .inl (cL, 32768, .inr (.inl (pkF (va_up (σ) k (wr (wr B n (sw n2) (sv n2)) (n + sw n2) (i2 + 1) C, n + sw n2 + (i2 + 1), p)))))), (sa, .inl (cI, 4, .inl (fun i9 => nI ((va_up (σ) k (wr (wr B n (sw n2) (sv n2)) (n + sw n2) (i2 + 1) C, n + sw n2 + (i2 + 1), p)) i9).2.1))), (pa, .inl (cI, 4, .inl (fun i9 => nI ((va_up (σ) k (wr (wr B n (sw n2) (sv n2)) (n + sw n2) (i2 + 1) C, n + sw n2 + (i2 + 1), p)) i9).2.2)))] H := hP
              have hD : va_D A [(h, .inr (2, [.int 0, .int (nI M), .ref cl, .ref sa, .ref pa, .int tk])), (cl, .inl (cL, 32768, .inr (.inl (pkF (va_up (σ) k (wr (wr B n (sw n2) (sv n2)) (n + sw n2) (i2 + 1) C, n + sw n2 + (i2 + 1), p)))))), (sa, .inl (cI, 4, .inl (fun i9 => nI ((va_up (σ) k (wr (wr B n (sw n2) (sv n2)) (n + sw n2) (i2 + 1) C, n + sw n2 + (i2 + 1), p)) i9).2.1))), (pa, .inl (cI, 4, .inl (fun i9 => nI ((va_up (σ) k (wr (wr B n (sw n2) (sv n2)) (n + sw n2) (i2 + 1) C, n + sw n2 + (i2 + 1), p)) i9).2.2)))] := hD
              obtain ⟨v129, ev129⟩ : ∃ y : Int32, y = nI i2 + 1 := ⟨_, rfl⟩
              refine lv_iinc (v := v129) (lv' := [(7, .int v129), (0, .ref h), (1, .int (nI k)), (2, .int (nI f1)), (3, .int 0), (4, .int (nI n2)), (5, .int (nI (sw n2)))]) hx hb d_M_wrap_129 hl (k := 0) rfl (by rw [ev129]; rfl) (by decide) rfl (fun ls hl => ?_)
              have ev129 : v129 = nI (i2 + 1) := by rw [ev129]; exact nI_1 i2
              subst ev129
              refine lv_goto (tgt := 110) hx hb d_M_wrap_132 (by decide) ?_
              exact ih_loop (i2 + 1) (by omega) (by omega) _ _ (hP.sub [0, 1, 2, 3] rfl) (hD.sub [0, 1, 2, 3] (by decide) rfl) hS ls (lv_sub hl [0, 1, 2, 3, 4, 5, 6] rfl)
        exact loop (n2 + 1) 0 (by omega) (by omega) _ _ (hP.sub [0, 1, 2, 3] rfl) (hD.sub [0, 1, 2, 3] (by decide) rfl) hS ls (lv_sub hl [0, 4, 5, 6, 7, 3, 2] rfl)
      · refine lv_if_ne (tgt := 57) hx hb d_M_wrap_48 (by decide) (fun q9 => absurd (by decide) q9) (fun _ => ?_)
        rw [hρ] at hF
        have hF2 : M < n + (sw n2 + n2) := Nat.not_le.mp hF
        refine lv_aload_n hx hb d_M_wrap_51 rfl (lv_at hl 2 rfl) ?_
        refine lv_iconst (v := 2) hx hb d_M_wrap_52 (by decide) ?_
        have hPc := hP
        have hFc := va_free (wc := [(h, .inr (2, [.int 0, .int (nI M), .ref cl, .ref sa, .ref pa, .int tk])), (cl, .inl (cL, 32768, .inr (.inl (pkF (σ))))), (sa, .inl (cI, 4, .inl (fun i9 => nI ((σ) i9).2.1))), (pa, .inl (cI, 4, .inl (fun i9 => nI ((σ) i9).2.2)))]) hD hS hAq [0, 1, 2, 3] rfl
        have hKc := hK.sub (tys' := [(cL, .long), (cI, .int)]) [0, 1] rfl
        refine va_calli (va_runV (As := [.int 2]) (rest := []) ⟨hx, hb, hml, hown, hA⟩ (c_M_fail l D cL cI h cl sa pa M 0 tk (σ) s.heap.size 2) (q_M_fail hA k3_4 rfl rfl ⟨(Nat.le_of_ble_eq_true rfl), (Nat.le_of_ble_eq_true rfl)⟩) (ox_V (va_recv hKc hPc (ci := 2) (q0 := 0) rfl rfl) (oxw_S hPc hKc hD)) rfl rfl hl.1 rfl (lv_room (Nat.le_of_ble_eq_true rfl)) d_M_wrap_53 ⟨(Nat.le_of_ble_eq_true rfl), (Nat.le_of_ble_eq_true rfl)⟩) hS (fun q _ h => hFc q h) hFc (fun r53 u9 t9 H1 locs ht9 hvm9 hw9 hB9 hz1 hk1 hS => ?_)
        obtain ⟨hP, hK1, hD1⟩ := hB9
        rw [ht9] at hP
        obtain ⟨hP, hD⟩ := va_join (wr := []) (w1 := rfW cL cI h cl sa pa M 2 tk (σ)) hPc hD [0, 1, 2, 3] [] rfl rfl (by decide) (by decide) hk1 hFc hP hD1
        generalize H1 = H at hP hS ⊢
        have hP : va_P D vCl [(h, .inr (2, [.int 2, .int (nI M), .ref cl, .ref sa, .ref pa, .int tk])), (cl, .inl (cL, 32768, .inr (.inl (pkF (σ))))), (sa, .inl (cI, 4, .inl (fun i9 => nI ((σ) i9).2.1))), (pa, .inl (cI, 4, .inl (fun i9 => nI ((σ) i9).2.2)))] H := hP
        have hD : va_D A [(h, .inr (2, [.int 2, .int (nI M), .ref cl, .ref sa, .ref pa, .int tk])), (cl, .inl (cL, 32768, .inr (.inl (pkF (σ))))), (sa, .inl (cI, 4, .inl (fun i9 => nI ((σ) i9).2.1))), (pa, .inl (cI, 4, .inl (fun i9 => nI ((σ) i9).2.2)))] := hD
        subst hw9
        exact W.iret (v := 0) hx hb hr (fun t ht hW => ⟨⟨_, (2, σ, tk), rfl, (by unfold spBlock; simp only [hrk, hrf1, hρ, hρ2]; rw [if_neg (fun h8 => h8 ⟨hR, hR2⟩), if_pos hF2]), by rw [ht]; exact hP, va_K.moved hW.alike hK, hD⟩, hS.F ht⟩) hS.2.2 d_M_wrap_56
    · refine lv_if_ne (tgt := 20) hx hb d_M_wrap_11 (by decide) (fun q9 => absurd (by decide) q9) (fun _ => ?_)
      refine lv_aload_n hx hb d_M_wrap_14 rfl (lv_at hl 0 rfl) ?_
      refine lv_iconst (v := 1) hx hb d_M_wrap_15 (by decide) ?_
      have hPc := hP
      have hFc := va_free (wc := [(h, .inr (2, [.int 0, .int (nI M), .ref cl, .ref sa, .ref pa, .int tk])), (cl, .inl (cL, 32768, .inr (.inl (pkF (σ))))), (sa, .inl (cI, 4, .inl (fun i9 => nI ((σ) i9).2.1))), (pa, .inl (cI, 4, .inl (fun i9 => nI ((σ) i9).2.2)))]) hD hS hAq [0, 1, 2, 3] rfl
      have hKc := hK.sub (tys' := [(cL, .long), (cI, .int)]) [0, 1] rfl
      refine va_calli (va_runV (As := [.int 1]) (rest := []) ⟨hx, hb, hml, hown, hA⟩ (c_M_fail l D cL cI h cl sa pa M 0 tk (σ) s.heap.size 1) (q_M_fail hA k3_4 rfl rfl ⟨(Nat.le_of_ble_eq_true rfl), (Nat.le_of_ble_eq_true rfl)⟩) (ox_V (va_recv hKc hPc (ci := 2) (q0 := 0) rfl rfl) (oxw_S hPc hKc hD)) rfl rfl hl.1 rfl (lv_room (Nat.le_of_ble_eq_true rfl)) d_M_wrap_16 ⟨(Nat.le_of_ble_eq_true rfl), (Nat.le_of_ble_eq_true rfl)⟩) hS (fun q _ h => hFc q h) hFc (fun r16 u9 t9 H1 locs ht9 hvm9 hw9 hB9 hz1 hk1 hS => ?_)
      obtain ⟨hP, hK1, hD1⟩ := hB9
      rw [ht9] at hP
      obtain ⟨hP, hD⟩ := va_join (wr := []) (w1 := rfW cL cI h cl sa pa M 1 tk (σ)) hPc hD [0, 1, 2, 3] [] rfl rfl (by decide) (by decide) hk1 hFc hP hD1
      generalize H1 = H at hP hS ⊢
      have hP : va_P D vCl [(h, .inr (2, [.int 1, .int (nI M), .ref cl, .ref sa, .ref pa, .int tk])), (cl, .inl (cL, 32768, .inr (.inl (pkF (σ))))), (sa, .inl (cI, 4, .inl (fun i9 => nI ((σ) i9).2.1))), (pa, .inl (cI, 4, .inl (fun i9 => nI ((σ) i9).2.2)))] H := hP
      have hD : va_D A [(h, .inr (2, [.int 1, .int (nI M), .ref cl, .ref sa, .ref pa, .int tk])), (cl, .inl (cL, 32768, .inr (.inl (pkF (σ))))), (sa, .inl (cI, 4, .inl (fun i9 => nI ((σ) i9).2.1))), (pa, .inl (cI, 4, .inl (fun i9 => nI ((σ) i9).2.2)))] := hD
      subst hw9
      exact W.iret (v := 0) hx hb hr (fun t ht hW => ⟨⟨_, (1, σ, tk), rfl, (by unfold spBlock; rw [if_pos (fun h9 => by first | exact hR h9.1 | exact hR2 h9.2)]), by rw [ht]; exact hP, va_K.moved hW.alike hK, hD⟩, hS.F ht⟩) hS.2.2 d_M_wrap_19
  · refine lv_if_eq (tgt := 14) hx hb d_M_wrap_4 (by decide) (fun _ => ?_) (fun q9 => absurd (by decide) q9)
    refine lv_aload_n hx hb d_M_wrap_14 rfl (lv_at hl 0 rfl) ?_
    refine lv_iconst (v := 1) hx hb d_M_wrap_15 (by decide) ?_
    have hPc := hP
    have hFc := va_free (wc := [(h, .inr (2, [.int 0, .int (nI M), .ref cl, .ref sa, .ref pa, .int tk])), (cl, .inl (cL, 32768, .inr (.inl (pkF (σ))))), (sa, .inl (cI, 4, .inl (fun i9 => nI ((σ) i9).2.1))), (pa, .inl (cI, 4, .inl (fun i9 => nI ((σ) i9).2.2)))]) hD hS hAq [0, 1, 2, 3] rfl
    have hKc := hK.sub (tys' := [(cL, .long), (cI, .int)]) [0, 1] rfl
    refine va_calli (va_runV (As := [.int 1]) (rest := []) ⟨hx, hb, hml, hown, hA⟩ (c_M_fail l D cL cI h cl sa pa M 0 tk (σ) s.heap.size 1) (q_M_fail hA k3_4 rfl rfl ⟨(Nat.le_of_ble_eq_true rfl), (Nat.le_of_ble_eq_true rfl)⟩) (ox_V (va_recv hKc hPc (ci := 2) (q0 := 0) rfl rfl) (oxw_S hPc hKc hD)) rfl rfl hl.1 rfl (lv_room (Nat.le_of_ble_eq_true rfl)) d_M_wrap_16 ⟨(Nat.le_of_ble_eq_true rfl), (Nat.le_of_ble_eq_true rfl)⟩) hS (fun q _ h => hFc q h) hFc (fun r16 u9 t9 H1 locs ht9 hvm9 hw9 hB9 hz1 hk1 hS => ?_)
    obtain ⟨hP, hK1, hD1⟩ := hB9
    rw [ht9] at hP
    obtain ⟨hP, hD⟩ := va_join (wr := []) (w1 := rfW cL cI h cl sa pa M 1 tk (σ)) hPc hD [0, 1, 2, 3] [] rfl rfl (by decide) (by decide) hk1 hFc hP hD1
    generalize H1 = H at hP hS ⊢
    have hP : va_P D vCl [(h, .inr (2, [.int 1, .int (nI M), .ref cl, .ref sa, .ref pa, .int tk])), (cl, .inl (cL, 32768, .inr (.inl (pkF (σ))))), (sa, .inl (cI, 4, .inl (fun i9 => nI ((σ) i9).2.1))), (pa, .inl (cI, 4, .inl (fun i9 => nI ((σ) i9).2.2)))] H := hP
    have hD : va_D A [(h, .inr (2, [.int 1, .int (nI M), .ref cl, .ref sa, .ref pa, .int tk])), (cl, .inl (cL, 32768, .inr (.inl (pkF (σ))))), (sa, .inl (cI, 4, .inl (fun i9 => nI ((σ) i9).2.1))), (pa, .inl (cI, 4, .inl (fun i9 => nI ((σ) i9).2.2)))] := hD
    subst hw9
    exact W.iret (v := 0) hx hb hr (fun t ht hW => ⟨⟨_, (1, σ, tk), rfl, (by unfold spBlock; rw [if_pos (fun h9 => by first | exact hR h9.1 | exact hR2 h9.2)]), by rw [ht]; exact hP, va_K.moved hW.alike hK, hD⟩, hS.F ht⟩) hS.2.2 d_M_wrap_19
set_option maxHeartbeats 600000 in
set_option maxRecDepth 100000 in
/-- wrap, 4 -/
theorem c_M_wrap4 (l : Launch) (D : va_G) (cL cI : ClassId) (h cl sa pa M : Nat) (th tk : Int32) (σ : dkS) (sz : Nat) (x f : Int32) (hσ : dkok M σ) : Met l y_M_wrap w_M_wrap ({ frames := 3, cells := 0, slots := 0, locals := 73 }) (va_Pc [.ref h, .int x, .int f, .int 4] (oxw sz D [(cL, .long), (cI, .int)] [(h, .inr (2, [.int 0, .int (nI M), .ref cl, .ref sa, .ref pa, .int tk])), (cl, .inl (cL, 32768, .inr (.inl (pkF (σ))))), (sa, .inl (cI, 4, .inl (fun i9 => nI ((σ) i9).2.1))), (pa, .inl (cI, 4, .inl (fun i9 => nI ((σ) i9).2.2)))])) (va_Qi (fun (r : Int32) (uu : Nat × dkS × Int32) => spFrame M σ x f = (uu.1, r, uu.2.1)) (fun uu => ow D [(cL, .long), (cI, .int)] (va_A [(h, .inr (2, [.int 0, .int (nI M), .ref cl, .ref sa, .ref pa, .int tk])), (cl, .inl (cL, 32768, .inr (.inl (pkF (σ))))), (sa, .inl (cI, 4, .inl (fun i9 => nI ((σ) i9).2.1))), (pa, .inl (cI, 4, .inl (fun i9 => nI ((σ) i9).2.2)))] sz) (rfW cL cI h cl sa pa M (nI uu.1) uu.2.2 uu.2.1)) (va_A [(h, .inr (2, [.int 0, .int (nI M), .ref cl, .ref sa, .ref pa, .int tk])), (cl, .inl (cL, 32768, .inr (.inl (pkF (σ))))), (sa, .inl (cI, 4, .inl (fun i9 => nI ((σ) i9).2.1))), (pa, .inl (cI, 4, .inl (fun i9 => nI ((σ) i9).2.2)))] sz)) 0 0 (va_A [(h, .inr (2, [.int 0, .int (nI M), .ref cl, .ref sa, .ref pa, .int tk])), (cl, .inl (cL, 32768, .inr (.inl (pkF (σ))))), (sa, .inl (cI, 4, .inl (fun i9 => nI ((σ) i9).2.1))), (pa, .inl (cI, 4, .inl (fun i9 => nI ((σ) i9).2.2)))] sz) := by
  refine Met.ofW (cc := b_M_wrap) (maxL := 8) (ret := (some .int)) (by decide) rfl ?_
  intro p9 e9 s m args below meth c9 s₁ BL hml hv
  obtain ⟨rfl, hsz, hP, hK, hD0⟩ := hv
  have hx := BL.exec
  have hb := BL.bytes
  have hr := BL.returns
  have hts := atoms_spec (ws := w_M_wrap) BL.pre
  have hA : ∀ w ∈ wsA, w.before _ s = true := fun w h => hts w (List.mem_cons_of_mem _ h)
  have hown : s.vm.findClass R_M = some m.cls := findClass_of_methodNamed BL.named
  have hlocks := BL.notSynchronized
  subst hsz
  have hD := hD0.self (sz := s.heap.size)
  generalize hAe : va_A [(h, .inr (2, [.int 0, .int (nI M), .ref cl, .ref sa, .ref pa, .int tk])), (cl, .inl (cL, 32768, .inr (.inl (pkF (σ))))), (sa, .inl (cI, 4, .inl (fun i9 => nI ((σ) i9).2.1))), (pa, .inl (cI, 4, .inl (fun i9 => nI ((σ) i9).2.2)))] s.heap.size = A at hD ⊢
  have hAq : ∀ q : Nat, s.heap.size ≤ q → A q := fun q h => by rw [← hAe]; exact Or.inr h
  have hS : va_S A s.heap s.heap [] := va_S.rf
  have hP : va_P D vCl [(h, .inr (2, [.int 0, .int (nI M), .ref cl, .ref sa, .ref pa, .int tk])), (cl, .inl (cL, 32768, .inr (.inl (pkF (σ))))), (sa, .inl (cI, 4, .inl (fun i9 => nI ((σ) i9).2.1))), (pa, .inl (cI, 4, .inl (fun i9 => nI ((σ) i9).2.2)))] s.heap := hP
  have hl := lv_entry ([.ref h, .int x, .int f, .int 4]) (n := 8) (Nat.le_of_ble_eq_true rfl)
  rw [lg_entry_eq]
  generalize (lg_sl ([.ref h, .int x, .int f, .int 4]) ++ List.replicate (8 - (lg_sl ([.ref h, .int x, .int f, .int 4])).length) Slot.unset).toArray = ls at hl ⊢
  have hl : lv_has ls 8 [(0, .ref h), (1, .int x), (2, .int f), (3, .int 4)] := hl
  refine lv_iload_n hx hb d_M_wrap_0 rfl (lv_at hl 1 rfl) ?_
  refine vp_callSi (W.runS (As := [.int x]) (rest := []) ⟨hx, hb, hml, hown, hA⟩ (c_M_isRow l x) (q_M_isRow hA k3_1 rfl rfl ⟨(Nat.le_of_ble_eq_true rfl), (Nat.le_of_ble_eq_true rfl)⟩) (⟨fun a U g mk q => q, fun U hU hW => ⟨rfl, trivial⟩⟩) rfl rfl hl.1 rfl (lv_room (Nat.le_of_ble_eq_true rfl)) d_M_wrap_1 ⟨(Nat.le_of_ble_eq_true rfl), (Nat.le_of_ble_eq_true rfl)⟩) (fun r1 hr1 => ?_)
  rcases hr1 with ⟨hR, rfl⟩ | ⟨hR, rfl⟩
  · refine lv_if_eq (tgt := 14) hx hb d_M_wrap_4 (by decide) (fun q9 => absurd q9 (by decide)) (fun _ => ?_)
    refine lv_iload_n hx hb d_M_wrap_7 rfl (lv_at hl 2 rfl) ?_
    refine vp_callSi (W.runS (As := [.int f]) (rest := []) ⟨hx, hb, hml, hown, hA⟩ (c_M_isRow l f) (q_M_isRow hA k3_1 rfl rfl ⟨(Nat.le_of_ble_eq_true rfl), (Nat.le_of_ble_eq_true rfl)⟩) (⟨fun a U g mk q => q, fun U hU hW => ⟨rfl, trivial⟩⟩) rfl rfl hl.1 rfl (lv_room (Nat.le_of_ble_eq_true rfl)) d_M_wrap_8 ⟨(Nat.le_of_ble_eq_true rfl), (Nat.le_of_ble_eq_true rfl)⟩) (fun r8 hr8 => ?_)
    rcases hr8 with ⟨hR2, rfl⟩ | ⟨hR2, rfl⟩
    · refine lv_if_ne (tgt := 20) hx hb d_M_wrap_11 (by decide) (fun _ => ?_) (fun q9 => absurd q9 (by decide))
      obtain ⟨k, hk0, rfl⟩ := nI_of (show ¬ x < 0 by rw [Int32.lt_iff_toInt_lt, li_0]; exact Int.not_lt.mpr hR.1)
      have hk : k < 4 := by have h9 := hR.2; rw [nI_toInt hk0] at h9; omega
      have hrk : rj (nI k) = k := rj_n hk
      obtain ⟨⟨B, n, p⟩, hρ⟩ : ∃ ρ, σ k = ρ := ⟨_, rfl⟩
      have hk9 := hσ.2 k hk
      have hBσ : ∀ j, (σ k).1 j < 256 := hk9.2.2
      have hnσ : (σ k).2.1 ≤ 65536 := Nat.le_trans hk9.2.1 hσ.1
      rw [hρ] at hk9
      obtain ⟨hp, hn, hB⟩ := hk9
      have hp : p ≤ n := hp
      have hn : n ≤ M := hn
      have hB : ∀ j, B j < 256 := hB
      have hM := hσ.1
      obtain ⟨f1, hf10, rfl⟩ := nI_of (show ¬ f < 0 by rw [Int32.lt_iff_toInt_lt, li_0]; exact Int.not_lt.mpr hR2.1)
      have hf1 : f1 < 4 := by have h9 := hR2.2; rw [nI_toInt hf10] at h9; omega
      have hrf1 : rj (nI f1) = f1 := rj_n hf1
      obtain ⟨⟨C, n2, p2⟩, hρ2⟩ : ∃ ρ, σ f1 = ρ := ⟨_, rfl⟩
      have hk9 := hσ.2 f1 hf1
      have hBσ2 : ∀ j, (σ f1).1 j < 256 := hk9.2.2
      have hnσ2 : (σ f1).2.1 ≤ 65536 := Nat.le_trans hk9.2.1 hσ.1
      rw [hρ2] at hk9
      obtain ⟨hp2, hn2, hB2⟩ := hk9
      have hp2 : p2 ≤ n2 := hp2
      have hn2 : n2 ≤ M := hn2
      have hB2 : ∀ j, C j < 256 := hB2
      refine lv_aload_n hx hb d_M_wrap_20 rfl (lv_at hl 0 rfl) ?_
      refine va_get (D := D) (ci := 2) (v := .ref sa) (C := R_M) (T := F_M) (N := 6) hx hb hA i_M hown hK hP 0 rfl rfl 3 (by decide) (hA _ k2_215) (fun _ h9 => h9) rfl d_M_wrap_21 ?_
      refine lv_iload_n hx hb d_M_wrap_24 rfl (lv_at hl 2 rfl) ?_
      refine va_iald hx hb hK hP 2 1 rfl rfl (vp_in_nI hf1 (by decide)) d_M_wrap_25 ?_
      refine lv_topi (fun v25 ev25 => ?_)
      have ev25 : v25 = nI n2 := by rw [ev25]; show nI ((σ) (nI f1).toNatClampNeg).2.1 = _; rw [nI_clamp (by omega), hρ2]
      subst ev25
      refine lv_istore (lv' := [(4, .int (nI n2)), (0, .ref h), (1, .int (nI k)), (2, .int (nI f1)), (3, .int 4)]) hx hb d_M_wrap_26 hl (by decide) rfl (fun ls hl => ?_)
      refine lv_iload hx hb d_M_wrap_28 (lv_at hl 0 rfl) ?_
      refine lv_i2l hx hb d_M_wrap_30 rfl ?_
      refine lv_topl (fun v30 ev30 => ?_)
      have ev30 : v30 = lN n2 := by rw [ev30]; exact nI_l (by omega)
      subst ev30
      refine vp_callSi (W.runS (As := [.long (lN n2)]) (rest := []) ⟨hx, hb, hml, hown, hA⟩ (c_M_groups l n2 (by omega)) (q_M_groups hA k3_30 rfl rfl ⟨(Nat.le_of_ble_eq_true rfl), (Nat.le_of_ble_eq_true rfl)⟩) (⟨fun a U g mk q => q, fun U hU hW => ⟨rfl, trivial⟩⟩) rfl rfl hl.1 rfl (lv_room (Nat.le_of_ble_eq_true rfl)) d_M_wrap_31 ⟨(Nat.le_of_ble_eq_true rfl), (Nat.le_of_ble_eq_true rfl)⟩) (fun r31 hr31 => ?_)
      have er31 : r31 = nI (sw n2) := hr31
      subst er31
      have hsw := sw_in n2
      refine lv_istore (lv' := [(5, .int (nI (sw n2))), (4, .int (nI n2)), (0, .ref h), (1, .int (nI k)), (2, .int (nI f1)), (3, .int 4)]) hx hb d_M_wrap_34 hl (by decide) rfl (fun ls hl => ?_)
      refine lv_aload_n hx hb d_M_wrap_36 rfl (lv_at hl 2 rfl) ?_
      refine lv_iload_n hx hb d_M_wrap_37 rfl (lv_at hl 3 rfl) ?_
      refine lv_iload hx hb d_M_wrap_38 (lv_at hl 0 rfl) ?_
      refine lv_iload_n hx hb d_M_wrap_40 rfl (lv_at hl 5 rfl) ?_
      refine lv_iadd hx hb d_M_wrap_41 ?_
      refine lv_topi (fun v41 ev41 => ?_)
      have ev41 : v41 = nI (sw n2 + 4) := by rw [ev41]; exact nI_add _ 4
      subst ev41
      refine lv_iload hx hb d_M_wrap_42 (lv_at hl 1 rfl) ?_
      refine lv_iadd hx hb d_M_wrap_44 ?_
      refine lv_topi (fun v44 ev44 => ?_)
      have ev44 : v44 = nI (sw n2 + 4 + n2) := by rw [ev44]; exact nI_add _ _
      subst ev44
      have hPc := hP.sub (ws' := [(h, .inr (2, [.int 0, .int (nI M), .ref cl, .ref sa, .ref pa, .int tk])), (cl, .inl (cL, 32768, .inr (.inl (pkF (σ))))), (sa, .inl (cI, 4, .inl (fun i9 => nI ((σ) i9).2.1))), (pa, .inl (cI, 4, .inl (fun i9 => nI ((σ) i9).2.2)))]) [0, 1, 2, 3] rfl
      have hKc := hK.sub (tys' := [(cL, .long), (cI, .int)]) [0, 1] rfl
      refine vp_callSi (W.runV (As := [.int (nI k), .int (nI (sw n2 + 4 + n2))]) (rest := []) ⟨hx, hb, hml, hown, hA⟩ (c_M_fits l D cL cI h cl sa pa M 0 tk σ k (sw n2 + 4 + n2) hk hnσ (by omega) hM) (q_M_fits hA k3_8 rfl rfl ⟨(Nat.le_of_ble_eq_true rfl), (Nat.le_of_ble_eq_true rfl)⟩) (ox_V (va_recv hKc hPc (ci := 2) (q0 := 0) rfl rfl) (ox_S hPc hKc)) rfl rfl hl.1 rfl (lv_room (Nat.le_of_ble_eq_true rfl)) d_M_wrap_45 ⟨(Nat.le_of_ble_eq_true rfl), (Nat.le_of_ble_eq_true rfl)⟩) (fun r45 hr45 => ?_)
      rcases hr45 with ⟨hF, rfl⟩ | ⟨hF, rfl⟩
      · refine lv_if_ne (tgt := 57) hx hb d_M_wrap_48 (by decide) (fun _ => ?_) (fun q9 => absurd q9 (by decide))
        rw [hρ] at hF
        have hF2 : n + (sw n2 + 4 + n2) ≤ M := hF
        refine lv_aload_n hx hb d_M_wrap_57 rfl (lv_at hl 2 rfl) ?_
        refine lv_iload_n hx hb d_M_wrap_58 rfl (lv_at hl 4 rfl) ?_
        refine lv_iconst (v := 0) hx hb d_M_wrap_59 (by decide) ?_
        refine lv_topi (fun v59 ev59 => ?_)
        have ev59 : v59 = nI 0 := by rw [ev59]; rfl
        subst ev59
        refine lv_iload hx hb d_M_wrap_60 (lv_at hl 1 rfl) ?_
        have hPc := hP.sub (ws' := [(h, .inr (2, [.int 0, .int (nI M), .ref cl, .ref sa, .ref pa, .int tk])), (cl, .inl (cL, 32768, .inr (.inl (pkF (σ))))), (sa, .inl (cI, 4, .inl (fun i9 => nI ((σ) i9).2.1))), (pa, .inl (cI, 4, .inl (fun i9 => nI ((σ) i9).2.2)))]) [0, 1, 2, 3] rfl
        have hKc := hK.sub (tys' := [(cL, .long), (cI, .int)]) [0, 1] rfl
        refine vp_callSi (W.runV (As := [.int (nI f1), .int (nI 0), .int (nI n2)]) (rest := []) ⟨hx, hb, hml, hown, hA⟩ (c_M_sumOf l D cL cI h cl sa pa M 0 tk σ f1 hf1 hBσ2 0 n2 (by omega)) (q_M_sumOf hA k3_78 rfl rfl ⟨(Nat.le_of_ble_eq_true rfl), (Nat.le_of_ble_eq_true rfl)⟩) (ox_V (va_recv hKc hPc (ci := 2) (q0 := 0) rfl rfl) (ox_S hPc hKc)) rfl rfl hl.1 rfl (lv_room (Nat.le_of_ble_eq_true rfl)) d_M_wrap_62 ⟨(Nat.le_of_ble_eq_true rfl), (Nat.le_of_ble_eq_true rfl)⟩) (fun r62 hr62 => ?_)
        have er62 : r62 = smb C 0 n2 := by rw [hr62, hρ2]
        subst er62
        refine lv_istore (lv' := [(6, .int (smb C 0 n2)), (5, .int (nI (sw n2))), (4, .int (nI n2)), (0, .ref h), (1, .int (nI k)), (2, .int (nI f1)), (3, .int 4)]) hx hb d_M_wrap_65 hl (by decide) rfl (fun ls hl => ?_)
        rw [up_id hρ] at hP hD
        have hP : va_P D vCl [(h, .inr (2, [.int 0, .int (nI M), .ref cl, .ref sa, .ref pa, .int tk])), (cl, .inl (cL, 32768, .inr (.inl (pkF (va_up σ k (B, n, p)))))), (sa, .inl (cI, 4, .inl (fun i9 => nI ((va_up σ k (B, n, p)) i9).2.1))), (pa, .inl (cI, 4, .inl (fun i9 => nI ((va_up σ k (B, n, p)) i9).2.2)))] s.heap := hP
        have hD : va_D A [(h, .inr (2, [.int 0, .int (nI M), .ref cl, .ref sa, .ref pa, .int tk])), (cl, .inl (cL, 32768, .inr (.inl (pkF (va_up σ k (B, n, p)))))), (sa, .inl (cI, 4, .inl (fun i9 => nI ((va_up σ k (B, n, p)) i9).2.1))), (pa, .inl (cI, 4, .inl (fun i9 => nI ((va_up σ k (B, n, p)) i9).2.2)))] := hD
        refine lv_aload_n hx hb d_M_wrap_67 rfl (lv_at hl 3 rfl) ?_
        refine lv_iload_n hx hb d_M_wrap_68 rfl (lv_at hl 4 rfl) ?_
        refine lv_iload hx hb d_M_wrap_69 (lv_at hl 2 rfl) ?_
        refine lv_i2l hx hb d_M_wrap_71 rfl ?_
        refine lv_topl (fun v71 ev71 => ?_)
        have ev71 : v71 = lN n2 := by rw [ev71]; exact nI_l (by omega)
        subst ev71
        have hPc := hP
        have hFc := va_free (wc := [(h, .inr (2, [.int 0, .int (nI M), .ref cl, .ref sa, .ref pa, .int tk])), (cl, .inl (cL, 32768, .inr (.inl (pkF (va_up σ k (B, n, p)))))), (sa, .inl (cI, 4, .inl (fun i9 => nI ((va_up σ k (B, n, p)) i9).2.1))), (pa, .inl (cI, 4, .inl (fun i9 => nI ((va_up σ k (B, n, p)) i9).2.2)))]) hD hS hAq [0, 1, 2, 3] rfl
        have hKc := hK.sub (tys' := [(cL, .long), (cI, .int)]) [0, 1] rfl
        refine va_callv (va_runV (As := [.int (nI k), .long (lN n2)]) (rest := []) ⟨hx, hb, hml, hown, hA⟩ (c_M_addGroups l D cL cI h cl sa pa M 0 tk σ s.heap.size k hk B n p hB n2 (by omega) (by omega)) (q_M_addGroups hA k3_33 rfl rfl ⟨(Nat.le_of_ble_eq_true rfl), (Nat.le_of_ble_eq_true rfl)⟩) (ox_V (va_recv hKc hPc (ci := 2) (q0 := 0) rfl rfl) (oxw_S hPc hKc hD)) rfl rfl hl.1 rfl (lv_room (Nat.le_of_ble_eq_true rfl)) d_M_wrap_72 ⟨(Nat.le_of_ble_eq_true rfl), (Nat.le_of_ble_eq_true rfl)⟩) hS (fun q _ h => hFc q h) hFc (fun u9 t9 H1 locs ht9 hvm9 hw9 hB9 hz1 hk1 hS => ?_)
        obtain ⟨hP, hK1, hD1⟩ := hB9
        rw [ht9] at hP
        obtain ⟨hP, hD⟩ := va_join (wr := []) (w1 := rfW cL cI h cl sa pa M 0 tk (va_up σ k (wr B n (sw n2) (sv n2), n + sw n2, p))) hPc hD [0, 1, 2, 3] [] rfl rfl (by decide) (by decide) hk1 hFc hP hD1
        generalize H1 = H at hP hS ⊢
        have hP : va_P D vCl [(h, .inr (2, [.int 0, .int (nI M), .ref cl, .ref sa, .ref pa, .int tk])), (cl, .inl (cL, 32768, .inr (.inl (pkF (va_up σ k (wr B n (sw n2) (sv n2), n + sw n2, p)))))), (sa, .inl (cI, 4, .inl (fun i9 => nI ((va_up σ k (wr B n (sw n2) (sv n2), n + sw n2, p)) i9).2.1))), (pa, .inl (cI, 4, .inl (fun i9 => nI ((va_up σ k (wr B n (sw n2) (sv n2), n + sw n2, p)) i9).2.2)))] H := hP
        have hD : va_D A [(h, .inr (2, [.int 0, .int (nI M), .ref cl, .ref sa, .ref pa, .int tk])), (cl, .inl (cL, 32768, .inr (.inl (pkF (va_up σ k (wr B n (sw n2) (sv n2), n + sw n2, p)))))), (sa, .inl (cI, 4, .inl (fun i9 => nI ((va_up σ k (wr B n (sw n2) (sv n2), n + sw n2, p)) i9).2.1))), (pa, .inl (cI, 4, .inl (fun i9 => nI ((va_up σ k (wr B n (sw n2) (sv n2), n + sw n2, p)) i9).2.2)))] := hD
        rw [show va_up (σ) k (wr B n (sw n2) (sv n2), n + sw n2, p) = va_up (σ) k (wr (wr B n (sw n2) (sv n2)) (n + sw n2) 0 (fb (uNl (smb C 0 n2).toInt64)), n + sw n2 + 0, p) from by rw [wr_0, Nat.add_zero]] at hP hD
        have hP : va_P D vCl [(h, .inr (2, [.int 0, .int (nI M), .ref cl, .ref sa, .ref pa, .int tk])), (cl, .inl (cL, 32768, .inr (.inl (pkF (va_up (σ) k (wr (wr B n (sw n2) (sv n2)) (n + sw n2) 0 (fb (uNl (smb C 0 n2).toInt64)), n + sw n2 + 0, p)))))), (sa, .inl (cI, 4, .inl (fun i9 => nI ((va_up (σ) k (wr (wr B n (sw n2) (sv n2)) (n + sw n2) 0 (fb (uNl (smb C 0 n2).toInt64)), n + sw n2 + 0, p)) i9).2.1))), (pa, .inl (cI, 4, .inl (fun i9 => nI ((va_up (σ) k (wr (wr B n (sw n2) (sv n2)) (n + sw n2) 0 (fb (uNl (smb C 0 n2).toInt64)), n + sw n2 + 0, p)) i9).2.2)))] H := hP
        have hD : va_D A [(h, .inr (2, [.int 0, .int (nI M), .ref cl, .ref sa, .ref pa, .int tk])), (cl, .inl (cL, 32768, .inr (.inl (pkF (va_up (σ) k (wr (wr B n (sw n2) (sv n2)) (n + sw n2) 0 (fb (uNl (smb C 0 n2).toInt64)), n + sw n2 + 0, p)))))), (sa, .inl (cI, 4, .inl (fun i9 => nI ((va_up (σ) k (wr (wr B n (sw n2) (sv n2)) (n + sw n2) 0 (fb (uNl (smb C 0 n2).toInt64)), n + sw n2 + 0, p)) i9).2.1))), (pa, .inl (cI, 4, .inl (fun i9 => nI ((va_up (σ) k (wr (wr B n (sw n2) (sv n2)) (n + sw n2) 0 (fb (uNl (smb C 0 n2).toInt64)), n + sw n2 + 0, p)) i9).2.2)))] := hD
        refine lv_iconst (v := 0) hx hb d_M_wrap_75 (by decide) ?_
        refine lv_istore (lv' := [(7, .int 0), (6, .int (smb C 0 n2)), (5, .int (nI (sw n2))), (4, .int (nI n2)), (0, .ref h), (1, .int (nI k)), (2, .int (nI f1)), (3, .int 4)]) hx hb d_M_wrap_76 hl (by decide) rfl (fun ls hl => ?_)
        refine lv_iload hx hb d_M_wrap_78 (lv_at hl 0 rfl) ?_
        refine lv_iload_n hx hb d_M_wrap_80 rfl (lv_at hl 7 rfl) ?_
        refine lv_icmp_ge (tgt := 107) hx hb d_M_wrap_81 (by decide) (fun q9 => absurd q9 (by decide)) (fun _ => ?_)
        refine lv_aload_n hx hb d_M_wrap_84 rfl (lv_at hl 4 rfl) ?_
        refine lv_iload_n hx hb d_M_wrap_85 rfl (lv_at hl 5 rfl) ?_
        refine lv_iload hx hb d_M_wrap_86 (lv_at hl 1 rfl) ?_
        refine lv_bipush (v := 8) hx hb d_M_wrap_88 (by decide) ?_
        refine lv_iload hx hb d_M_wrap_90 (lv_at hl 0 rfl) ?_
        refine lv_imul hx hb d_M_wrap_92 ?_
        refine lv_topi (fun v92 ev92 => ?_)
        have ev92 : v92 = 0 := by rw [ev92]; decide
        subst ev92
        refine lv_ishr hx hb d_M_wrap_93 ?_
        refine lv_topi (fun v93 ev93 => ?_)
        refine lv_sipush (v := 255) hx hb d_M_wrap_94 (by decide) ?_
        refine lv_iand hx hb d_M_wrap_97 ?_
        refine lv_topi (fun v97 ev97 => ?_)
        have ev97 : v97 = nI (fb (uNl (smb C 0 n2).toInt64) 0) := by rw [ev97, ev93]; exact sb32 _ (b := 0) (by decide)
        subst ev97
        have hPc := hP
        have hFc := va_free (wc := [(h, .inr (2, [.int 0, .int (nI M), .ref cl, .ref sa, .ref pa, .int tk])), (cl, .inl (cL, 32768, .inr (.inl (pkF (va_up (σ) k (wr (wr B n (sw n2) (sv n2)) (n + sw n2) 0 (fb (uNl (smb C 0 n2).toInt64)), n + sw n2 + 0, p)))))), (sa, .inl (cI, 4, .inl (fun i9 => nI ((va_up (σ) k (wr (wr B n (sw n2) (sv n2)) (n + sw n2) 0 (fb (uNl (smb C 0 n2).toInt64)), n + sw n2 + 0, p)) i9).2.1))), (pa, .inl (cI, 4, .inl (fun i9 => nI ((va_up (σ) k (wr (wr B n (sw n2) (sv n2)) (n + sw n2) 0 (fb (uNl (smb C 0 n2).toInt64)), n + sw n2 + 0, p)) i9).2.2)))]) hD hS hAq [0, 1, 2, 3] rfl
        have hKc := hK.sub (tys' := [(cL, .long), (cI, .int)]) [0, 1] rfl
        refine va_callv (va_runV (As := [.int (nI k), .int (nI (fb (uNl (smb C 0 n2).toInt64) 0))]) (rest := []) ⟨hx, hb, hml, hown, hA⟩ (c_M_add l D cL cI h cl sa pa M 0 tk (σ) H.size k hk (wr (wr B n (sw n2) (sv n2)) (n + sw n2) 0 (fb (uNl (smb C 0 n2).toInt64))) (n + sw n2 + 0) p (wr_lt (wr_lt hB (fun i9 _ => sv_lt n2 i9)) (fun i9 _ => fb_lt _ i9)) (fb (uNl (smb C 0 n2).toInt64) 0) (by omega) (fb_lt _ 0)) (q_M_add hA k3_13 rfl rfl ⟨(Nat.le_of_ble_eq_true rfl), (Nat.le_of_ble_eq_true rfl)⟩) (ox_V (va_recv hKc hPc (ci := 2) (q0 := 0) rfl rfl) (oxw_S hPc hKc hD)) rfl rfl hl.1 rfl (lv_room (Nat.le_of_ble_eq_true rfl)) d_M_wrap_98 ⟨(Nat.le_of_ble_eq_true rfl), (Nat.le_of_ble_eq_true rfl)⟩) hS (fun q _ h => hFc q h) hFc (fun u9 t9 H1 locs ht9 hvm9 hw9 hB9 hz1 hk1 hS => ?_)
        obtain ⟨hP, hK1, hD1⟩ := hB9
        rw [ht9] at hP
        obtain ⟨hP, hD⟩ := va_join (wr := []) (w1 := rfW cL cI h cl sa pa M 0 tk (va_up (σ) k (va_up (wr (wr B n (sw n2) (sv n2)) (n + sw n2) 0 (fb (uNl (smb C 0 n2).toInt64))) (n + sw n2 + 0) (fb (uNl (smb C 0 n2).toInt64) 0), n + sw n2 + 0 + 1, p))) hPc hD [0, 1, 2, 3] [] rfl rfl (by decide) (by decide) hk1 hFc hP hD1
        generalize H1 = H at hP hS ⊢
        have hP : va_P D vCl [(h, .inr (2, [.int 0, .int (nI M), .ref cl, .ref sa, .ref pa, .int tk])), (cl, .inl (cL, 32768, .inr (.inl (pkF (va_up (σ) k (va_up (wr (wr B n (sw n2) (sv n2)) (n + sw n2) 0 (fb (uNl (smb C 0 n2).toInt64))) (n + sw n2 + 0) (fb (uNl (smb C 0 n2).toInt64) 0), n + sw n2 + 0 + 1, p)))))), (sa, .inl (cI, 4, .inl (fun i9 => nI ((va_up (σ) k (va_up (wr (wr B n (sw n2) (sv n2)) (n + sw n2) 0 (fb (uNl (smb C 0 n2).toInt64))) (n + sw n2 + 0) (fb (uNl (smb C 0 n2).toInt64) 0), n + sw n2 + 0 + 1, p)) i9).2.1))), (pa, .inl (cI, 4, .inl (fun i9 => nI ((va_up (σ) k (va_up (wr (wr B n (sw n2) (sv n2)) (n + sw n2) 0 (fb (uNl (smb C 0 n2).toInt64))) (n + sw n2 + 0) (fb (uNl (smb C 0 n2).toInt64) 0), n + sw n2 + 0 + 1, p)) i9).2.2)))] H := hP
        have hD : va_D A [(h, .inr (2, [.int 0, .int (nI M), .ref cl, .ref sa, .ref pa, .int tk])), (cl, .inl (cL, 32768, .inr (.inl (pkF (va_up (σ) k (va_up (wr (wr B n (sw n2) (sv n2)) (n + sw n2) 0 (fb (uNl (smb C 0 n2).toInt64))) (n + sw n2 + 0) (fb (uNl (smb C 0 n2).toInt64) 0), n + sw n2 + 0 + 1, p)))))), (sa, .inl (cI, 4, .inl (fun i9 => nI ((va_up (σ) k (va_up (wr (wr B n (sw n2) (sv n2)) (n + sw n2) 0 (fb (uNl (smb C 0 n2).toInt64))) (n + sw n2 + 0) (fb (uNl (smb C 0 n2).toInt64) 0), n + sw n2 + 0 + 1, p)) i9).2.1))), (pa, .inl (cI, 4, .inl (fun i9 => nI ((va_up (σ) k (va_up (wr (wr B n (sw n2) (sv n2)) (n + sw n2) 0 (fb (uNl (smb C 0 n2).toInt64))) (n + sw n2 + 0) (fb (uNl (smb C 0 n2).toInt64) 0), n + sw n2 + 0 + 1, p)) i9).2.2)))] := hD
        rw [wr_s, Nat.add_assoc (n + sw n2) 0 1] at hP hD
        have hP : va_P D vCl [(h, .inr (2, [.int 0, .int (nI M), .ref cl, .ref sa, .ref pa, .int tk])), (cl, .inl (cL, 32768, .inr (.inl (pkF (va_up (σ) k (wr (wr B n (sw n2) (sv n2)) (n + sw n2) (0 + 1) (fb (uNl (smb C 0 n2).toInt64)), n + sw n2 + (0 + 1), p)))))), (sa, .inl (cI, 4, .inl (fun i9 => nI ((va_up (σ) k (wr (wr B n (sw n2) (sv n2)) (n + sw n2) (0 + 1) (fb (uNl (smb C 0 n2).toInt64)), n + sw n2 + (0 + 1), p)) i9).2.1))), (pa, .inl (cI, 4, .inl (fun i9 => nI ((va_up (σ) k (wr (wr B n (sw n2) (sv n2)) (n + sw n2) (0 + 1) (fb (uNl (smb C 0 n2).toInt64)), n + sw n2 + (0 + 1), p)) i9).2.2)))] H := hP
        have hD : va_D A [(h, .inr (2, [.int 0, .int (nI M), .ref cl, .ref sa, .ref pa, .int tk])), (cl, .inl (cL, 32768, .inr (.inl (pkF (va_up (σ) k (wr (wr B n (sw n2) (sv n2)) (n + sw n2) (0 + 1) (fb (uNl (smb C 0 n2).toInt64)), n + sw n2 + (0 + 1), p)))))), (sa, .inl (cI, 4, .inl (fun i9 => nI ((va_up (σ) k (wr (wr B n (sw n2) (sv n2)) (n + sw n2) (0 + 1) (fb (uNl (smb C 0 n2).toInt64)), n + sw n2 + (0 + 1), p)) i9).2.1))), (pa, .inl (cI, 4, .inl (fun i9 => nI ((va_up (σ) k (wr (wr B n (sw n2) (sv n2)) (n + sw n2) (0 + 1) (fb (uNl (smb C 0 n2).toInt64)), n + sw n2 + (0 + 1), p)) i9).2.2)))] := hD
        obtain ⟨v101, ev101⟩ : ∃ y : Int32, y = 0 + 1 := ⟨_, rfl⟩
        refine lv_iinc (v := v101) (lv' := [(7, .int v101), (6, .int (smb C 0 n2)), (5, .int (nI (sw n2))), (4, .int (nI n2)), (0, .ref h), (1, .int (nI k)), (2, .int (nI f1)), (3, .int 4)]) hx hb d_M_wrap_101 hl (k := 0) rfl (by rw [ev101]; rfl) (by decide) rfl (fun ls hl => ?_)
        have ev101 : v101 = 1 := by rw [ev101]; decide
        subst ev101
        have hP : va_P D vCl [(h, .inr (2, [.int 0, .int (nI M), .ref cl, .ref sa, .ref pa, .int tk])), (cl, .inl (cL, 32768, .inr (.inl (pkF (va_up σ k (wr (wr B n (sw n2) (sv n2)) (n + sw n2) 1 (fb (uNl (smb C 0 n2).toInt64)), n + sw n2 + 1, p)))))), (sa, .inl (cI, 4, .inl (fun i9 => nI ((va_up σ k (wr (wr B n (sw n2) (sv n2)) (n + sw n2) 1 (fb (uNl (smb C 0 n2).toInt64)), n + sw n2 + 1, p)) i9).2.1))), (pa, .inl (cI, 4, .inl (fun i9 => nI ((va_up σ k (wr (wr B n (sw n2) (sv n2)) (n + sw n2) 1 (fb (uNl (smb C 0 n2).toInt64)), n + sw n2 + 1, p)) i9).2.2)))] H := hP
        have hD : va_D A [(h, .inr (2, [.int 0, .int (nI M), .ref cl, .ref sa, .ref pa, .int tk])), (cl, .inl (cL, 32768, .inr (.inl (pkF (va_up σ k (wr (wr B n (sw n2) (sv n2)) (n + sw n2) 1 (fb (uNl (smb C 0 n2).toInt64)), n + sw n2 + 1, p)))))), (sa, .inl (cI, 4, .inl (fun i9 => nI ((va_up σ k (wr (wr B n (sw n2) (sv n2)) (n + sw n2) 1 (fb (uNl (smb C 0 n2).toInt64)), n + sw n2 + 1, p)) i9).2.1))), (pa, .inl (cI, 4, .inl (fun i9 => nI ((va_up σ k (wr (wr B n (sw n2) (sv n2)) (n + sw n2) 1 (fb (uNl (smb C 0 n2).toInt64)), n + sw n2 + 1, p)) i9).2.2)))] := hD
        refine lv_goto (tgt := 78) hx hb d_M_wrap_104 (by decide) ?_
        refine lv_iload hx hb d_M_wrap_78 (lv_at hl 0 rfl) ?_
        refine lv_iload_n hx hb d_M_wrap_80 rfl (lv_at hl 7 rfl) ?_
        refine lv_icmp_ge (tgt := 107) hx hb d_M_wrap_81 (by decide) (fun q9 => absurd q9 (by decide)) (fun _ => ?_)
        refine lv_aload_n hx hb d_M_wrap_84 rfl (lv_at hl 4 rfl) ?_
        refine lv_iload_n hx hb d_M_wrap_85 rfl (lv_at hl 5 rfl) ?_
        refine lv_iload hx hb d_M_wrap_86 (lv_at hl 1 rfl) ?_
        refine lv_bipush (v := 8) hx hb d_M_wrap_88 (by decide) ?_
        refine lv_iload hx hb d_M_wrap_90 (lv_at hl 0 rfl) ?_
        refine lv_imul hx hb d_M_wrap_92 ?_
        refine lv_topi (fun v92 ev92 => ?_)
        have ev92 : v92 = 8 := by rw [ev92]; decide
        subst ev92
        refine lv_ishr hx hb d_M_wrap_93 ?_
        refine lv_topi (fun v93 ev93 => ?_)
        refine lv_sipush (v := 255) hx hb d_M_wrap_94 (by decide) ?_
        refine lv_iand hx hb d_M_wrap_97 ?_
        refine lv_topi (fun v97 ev97 => ?_)
        have ev97 : v97 = nI (fb (uNl (smb C 0 n2).toInt64) 1) := by rw [ev97, ev93]; exact sb32 _ (b := 1) (by decide)
        subst ev97
        have hPc := hP
        have hFc := va_free (wc := [(h, .inr (2, [.int 0, .int (nI M), .ref cl, .ref sa, .ref pa, .int tk])), (cl, .inl (cL, 32768, .inr (.inl (pkF (va_up σ k (wr (wr B n (sw n2) (sv n2)) (n + sw n2) 1 (fb (uNl (smb C 0 n2).toInt64)), n + sw n2 + 1, p)))))), (sa, .inl (cI, 4, .inl (fun i9 => nI ((va_up σ k (wr (wr B n (sw n2) (sv n2)) (n + sw n2) 1 (fb (uNl (smb C 0 n2).toInt64)), n + sw n2 + 1, p)) i9).2.1))), (pa, .inl (cI, 4, .inl (fun i9 => nI ((va_up σ k (wr (wr B n (sw n2) (sv n2)) (n + sw n2) 1 (fb (uNl (smb C 0 n2).toInt64)), n + sw n2 + 1, p)) i9).2.2)))]) hD hS hAq [0, 1, 2, 3] rfl
        have hKc := hK.sub (tys' := [(cL, .long), (cI, .int)]) [0, 1] rfl
        refine va_callv (va_runV (As := [.int (nI k), .int (nI (fb (uNl (smb C 0 n2).toInt64) 1))]) (rest := []) ⟨hx, hb, hml, hown, hA⟩ (c_M_add l D cL cI h cl sa pa M 0 tk (σ) H.size k hk (wr (wr B n (sw n2) (sv n2)) (n + sw n2) 1 (fb (uNl (smb C 0 n2).toInt64))) (n + sw n2 + 1) p (wr_lt (wr_lt hB (fun i9 _ => sv_lt n2 i9)) (fun i9 _ => fb_lt _ i9)) (fb (uNl (smb C 0 n2).toInt64) 1) (by omega) (fb_lt _ 1)) (q_M_add hA k3_13 rfl rfl ⟨(Nat.le_of_ble_eq_true rfl), (Nat.le_of_ble_eq_true rfl)⟩) (ox_V (va_recv hKc hPc (ci := 2) (q0 := 0) rfl rfl) (oxw_S hPc hKc hD)) rfl rfl hl.1 rfl (lv_room (Nat.le_of_ble_eq_true rfl)) d_M_wrap_98 ⟨(Nat.le_of_ble_eq_true rfl), (Nat.le_of_ble_eq_true rfl)⟩) hS (fun q _ h => hFc q h) hFc (fun u9 t9 H1 locs ht9 hvm9 hw9 hB9 hz1 hk1 hS => ?_)
        obtain ⟨hP, hK1, hD1⟩ := hB9
        rw [ht9] at hP
        obtain ⟨hP, hD⟩ := va_join (wr := []) (w1 := rfW cL cI h cl sa pa M 0 tk (va_up (σ) k (va_up (wr (wr B n (sw n2) (sv n2)) (n + sw n2) 1 (fb (uNl (smb C 0 n2).toInt64))) (n + sw n2 + 1) (fb (uNl (smb C 0 n2).toInt64) 1), n + sw n2 + 1 + 1, p))) hPc hD [0, 1, 2, 3] [] rfl rfl (by decide) (by decide) hk1 hFc hP hD1
        generalize H1 = H at hP hS ⊢
        have hP : va_P D vCl [(h, .inr (2, [.int 0, .int (nI M), .ref cl, .ref sa, .ref pa, .int tk])), (cl, .inl (cL, 32768, .inr (.inl (pkF (va_up (σ) k (va_up (wr (wr B n (sw n2) (sv n2)) (n + sw n2) 1 (fb (uNl (smb C 0 n2).toInt64))) (n + sw n2 + 1) (fb (uNl (smb C 0 n2).toInt64) 1), n + sw n2 + 1 + 1, p)))))), (sa, .inl (cI, 4, .inl (fun i9 => nI ((va_up (σ) k (va_up (wr (wr B n (sw n2) (sv n2)) (n + sw n2) 1 (fb (uNl (smb C 0 n2).toInt64))) (n + sw n2 + 1) (fb (uNl (smb C 0 n2).toInt64) 1), n + sw n2 + 1 + 1, p)) i9).2.1))), (pa, .inl (cI, 4, .inl (fun i9 => nI ((va_up (σ) k (va_up (wr (wr B n (sw n2) (sv n2)) (n + sw n2) 1 (fb (uNl (smb C 0 n2).toInt64))) (n + sw n2 + 1) (fb (uNl (smb C 0 n2).toInt64) 1), n + sw n2 + 1 + 1, p)) i9).2.2)))] H := hP
        have hD : va_D A [(h, .inr (2, [.int 0, .int (nI M), .ref cl, .ref sa, .ref pa, .int tk])), (cl, .inl (cL, 32768, .inr (.inl (pkF (va_up (σ) k (va_up (wr (wr B n (sw n2) (sv n2)) (n + sw n2) 1 (fb (uNl (smb C 0 n2).toInt64))) (n + sw n2 + 1) (fb (uNl (smb C 0 n2).toInt64) 1), n + sw n2 + 1 + 1, p)))))), (sa, .inl (cI, 4, .inl (fun i9 => nI ((va_up (σ) k (va_up (wr (wr B n (sw n2) (sv n2)) (n + sw n2) 1 (fb (uNl (smb C 0 n2).toInt64))) (n + sw n2 + 1) (fb (uNl (smb C 0 n2).toInt64) 1), n + sw n2 + 1 + 1, p)) i9).2.1))), (pa, .inl (cI, 4, .inl (fun i9 => nI ((va_up (σ) k (va_up (wr (wr B n (sw n2) (sv n2)) (n + sw n2) 1 (fb (uNl (smb C 0 n2).toInt64))) (n + sw n2 + 1) (fb (uNl (smb C 0 n2).toInt64) 1), n + sw n2 + 1 + 1, p)) i9).2.2)))] := hD
        rw [wr_s, Nat.add_assoc (n + sw n2) 1 1] at hP hD
        have hP : va_P D vCl [(h, .inr (2, [.int 0, .int (nI M), .ref cl, .ref sa, .ref pa, .int tk])), (cl, .inl (cL, 32768, .inr (.inl (pkF (va_up (σ) k (wr (wr B n (sw n2) (sv n2)) (n + sw n2) (1 + 1) (fb (uNl (smb C 0 n2).toInt64)), n + sw n2 + (1 + 1), p)))))), (sa, .inl (cI, 4, .inl (fun i9 => nI ((va_up (σ) k (wr (wr B n (sw n2) (sv n2)) (n + sw n2) (1 + 1) (fb (uNl (smb C 0 n2).toInt64)), n + sw n2 + (1 + 1), p)) i9).2.1))), (pa, .inl (cI, 4, .inl (fun i9 => nI ((va_up (σ) k (wr (wr B n (sw n2) (sv n2)) (n + sw n2) (1 + 1) (fb (uNl (smb C 0 n2).toInt64)), n + sw n2 + (1 + 1), p)) i9).2.2)))] H := hP
        have hD : va_D A [(h, .inr (2, [.int 0, .int (nI M), .ref cl, .ref sa, .ref pa, .int tk])), (cl, .inl (cL, 32768, .inr (.inl (pkF (va_up (σ) k (wr (wr B n (sw n2) (sv n2)) (n + sw n2) (1 + 1) (fb (uNl (smb C 0 n2).toInt64)), n + sw n2 + (1 + 1), p)))))), (sa, .inl (cI, 4, .inl (fun i9 => nI ((va_up (σ) k (wr (wr B n (sw n2) (sv n2)) (n + sw n2) (1 + 1) (fb (uNl (smb C 0 n2).toInt64)), n + sw n2 + (1 + 1), p)) i9).2.1))), (pa, .inl (cI, 4, .inl (fun i9 => nI ((va_up (σ) k (wr (wr B n (sw n2) (sv n2)) (n + sw n2) (1 + 1) (fb (uNl (smb C 0 n2).toInt64)), n + sw n2 + (1 + 1), p)) i9).2.2)))] := hD
        obtain ⟨v101, ev101⟩ : ∃ y : Int32, y = 1 + 1 := ⟨_, rfl⟩
        refine lv_iinc (v := v101) (lv' := [(7, .int v101), (6, .int (smb C 0 n2)), (5, .int (nI (sw n2))), (4, .int (nI n2)), (0, .ref h), (1, .int (nI k)), (2, .int (nI f1)), (3, .int 4)]) hx hb d_M_wrap_101 hl (k := 0) rfl (by rw [ev101]; rfl) (by decide) rfl (fun ls hl => ?_)
        have ev101 : v101 = 2 := by rw [ev101]; decide
        subst ev101
        have hP : va_P D vCl [(h, .inr (2, [.int 0, .int (nI M), .ref cl, .ref sa, .ref pa, .int tk])), (cl, .inl (cL, 32768, .inr (.inl (pkF (va_up σ k (wr (wr B n (sw n2) (sv n2)) (n + sw n2) 2 (fb (uNl (smb C 0 n2).toInt64)), n + sw n2 + 2, p)))))), (sa, .inl (cI, 4, .inl (fun i9 => nI ((va_up σ k (wr (wr B n (sw n2) (sv n2)) (n + sw n2) 2 (fb (uNl (smb C 0 n2).toInt64)), n + sw n2 + 2, p)) i9).2.1))), (pa, .inl (cI, 4, .inl (fun i9 => nI ((va_up σ k (wr (wr B n (sw n2) (sv n2)) (n + sw n2) 2 (fb (uNl (smb C 0 n2).toInt64)), n + sw n2 + 2, p)) i9).2.2)))] H := hP
        have hD : va_D A [(h, .inr (2, [.int 0, .int (nI M), .ref cl, .ref sa, .ref pa, .int tk])), (cl, .inl (cL, 32768, .inr (.inl (pkF (va_up σ k (wr (wr B n (sw n2) (sv n2)) (n + sw n2) 2 (fb (uNl (smb C 0 n2).toInt64)), n + sw n2 + 2, p)))))), (sa, .inl (cI, 4, .inl (fun i9 => nI ((va_up σ k (wr (wr B n (sw n2) (sv n2)) (n + sw n2) 2 (fb (uNl (smb C 0 n2).toInt64)), n + sw n2 + 2, p)) i9).2.1))), (pa, .inl (cI, 4, .inl (fun i9 => nI ((va_up σ k (wr (wr B n (sw n2) (sv n2)) (n + sw n2) 2 (fb (uNl (smb C 0 n2).toInt64)), n + sw n2 + 2, p)) i9).2.2)))] := hD
        refine lv_goto (tgt := 78) hx hb d_M_wrap_104 (by decide) ?_
        refine lv_iload hx hb d_M_wrap_78 (lv_at hl 0 rfl) ?_
        refine lv_iload_n hx hb d_M_wrap_80 rfl (lv_at hl 7 rfl) ?_
        refine lv_icmp_ge (tgt := 107) hx hb d_M_wrap_81 (by decide) (fun q9 => absurd q9 (by decide)) (fun _ => ?_)
        refine lv_aload_n hx hb d_M_wrap_84 rfl (lv_at hl 4 rfl) ?_
        refine lv_iload_n hx hb d_M_wrap_85 rfl (lv_at hl 5 rfl) ?_
        refine lv_iload hx hb d_M_wrap_86 (lv_at hl 1 rfl) ?_
        refine lv_bipush (v := 8) hx hb d_M_wrap_88 (by decide) ?_
        refine lv_iload hx hb d_M_wrap_90 (lv_at hl 0 rfl) ?_
        refine lv_imul hx hb d_M_wrap_92 ?_
        refine lv_topi (fun v92 ev92 => ?_)
        have ev92 : v92 = 16 := by rw [ev92]; decide
        subst ev92
        refine lv_ishr hx hb d_M_wrap_93 ?_
        refine lv_topi (fun v93 ev93 => ?_)
        refine lv_sipush (v := 255) hx hb d_M_wrap_94 (by decide) ?_
        refine lv_iand hx hb d_M_wrap_97 ?_
        refine lv_topi (fun v97 ev97 => ?_)
        have ev97 : v97 = nI (fb (uNl (smb C 0 n2).toInt64) 2) := by rw [ev97, ev93]; exact sb32 _ (b := 2) (by decide)
        subst ev97
        have hPc := hP
        have hFc := va_free (wc := [(h, .inr (2, [.int 0, .int (nI M), .ref cl, .ref sa, .ref pa, .int tk])), (cl, .inl (cL, 32768, .inr (.inl (pkF (va_up σ k (wr (wr B n (sw n2) (sv n2)) (n + sw n2) 2 (fb (uNl (smb C 0 n2).toInt64)), n + sw n2 + 2, p)))))), (sa, .inl (cI, 4, .inl (fun i9 => nI ((va_up σ k (wr (wr B n (sw n2) (sv n2)) (n + sw n2) 2 (fb (uNl (smb C 0 n2).toInt64)), n + sw n2 + 2, p)) i9).2.1))), (pa, .inl (cI, 4, .inl (fun i9 => nI ((va_up σ k (wr (wr B n (sw n2) (sv n2)) (n + sw n2) 2 (fb (uNl (smb C 0 n2).toInt64)), n + sw n2 + 2, p)) i9).2.2)))]) hD hS hAq [0, 1, 2, 3] rfl
        have hKc := hK.sub (tys' := [(cL, .long), (cI, .int)]) [0, 1] rfl
        refine va_callv (va_runV (As := [.int (nI k), .int (nI (fb (uNl (smb C 0 n2).toInt64) 2))]) (rest := []) ⟨hx, hb, hml, hown, hA⟩ (c_M_add l D cL cI h cl sa pa M 0 tk (σ) H.size k hk (wr (wr B n (sw n2) (sv n2)) (n + sw n2) 2 (fb (uNl (smb C 0 n2).toInt64))) (n + sw n2 + 2) p (wr_lt (wr_lt hB (fun i9 _ => sv_lt n2 i9)) (fun i9 _ => fb_lt _ i9)) (fb (uNl (smb C 0 n2).toInt64) 2) (by omega) (fb_lt _ 2)) (q_M_add hA k3_13 rfl rfl ⟨(Nat.le_of_ble_eq_true rfl), (Nat.le_of_ble_eq_true rfl)⟩) (ox_V (va_recv hKc hPc (ci := 2) (q0 := 0) rfl rfl) (oxw_S hPc hKc hD)) rfl rfl hl.1 rfl (lv_room (Nat.le_of_ble_eq_true rfl)) d_M_wrap_98 ⟨(Nat.le_of_ble_eq_true rfl), (Nat.le_of_ble_eq_true rfl)⟩) hS (fun q _ h => hFc q h) hFc (fun u9 t9 H1 locs ht9 hvm9 hw9 hB9 hz1 hk1 hS => ?_)
        obtain ⟨hP, hK1, hD1⟩ := hB9
        rw [ht9] at hP
        obtain ⟨hP, hD⟩ := va_join (wr := []) (w1 := rfW cL cI h cl sa pa M 0 tk (va_up (σ) k (va_up (wr (wr B n (sw n2) (sv n2)) (n + sw n2) 2 (fb (uNl (smb C 0 n2).toInt64))) (n + sw n2 + 2) (fb (uNl (smb C 0 n2).toInt64) 2), n + sw n2 + 2 + 1, p))) hPc hD [0, 1, 2, 3] [] rfl rfl (by decide) (by decide) hk1 hFc hP hD1
        generalize H1 = H at hP hS ⊢
        have hP : va_P D vCl [(h, .inr (2, [.int 0, .int (nI M), .ref cl, .ref sa, .ref pa, .int tk])), (cl, .inl (cL, 32768, .inr (.inl (pkF (va_up (σ) k (va_up (wr (wr B n (sw n2) (sv n2)) (n + sw n2) 2 (fb (uNl (smb C 0 n2).toInt64))) (n + sw n2 + 2) (fb (uNl (smb C 0 n2).toInt64) 2), n + sw n2 + 2 + 1, p)))))), (sa, .inl (cI, 4, .inl (fun i9 => nI ((va_up (σ) k (va_up (wr (wr B n (sw n2) (sv n2)) (n + sw n2) 2 (fb (uNl (smb C 0 n2).toInt64))) (n + sw n2 + 2) (fb (uNl (smb C 0 n2).toInt64) 2), n + sw n2 + 2 + 1, p)) i9).2.1))), (pa, .inl (cI, 4, .inl (fun i9 => nI ((va_up (σ) k (va_up (wr (wr B n (sw n2) (sv n2)) (n + sw n2) 2 (fb (uNl (smb C 0 n2).toInt64))) (n + sw n2 + 2) (fb (uNl (smb C 0 n2).toInt64) 2), n + sw n2 + 2 + 1, p)) i9).2.2)))] H := hP
        have hD : va_D A [(h, .inr (2, [.int 0, .int (nI M), .ref cl, .ref sa, .ref pa, .int tk])), (cl, .inl (cL, 32768, .inr (.inl (pkF (va_up (σ) k (va_up (wr (wr B n (sw n2) (sv n2)) (n + sw n2) 2 (fb (uNl (smb C 0 n2).toInt64))) (n + sw n2 + 2) (fb (uNl (smb C 0 n2).toInt64) 2), n + sw n2 + 2 + 1, p)))))), (sa, .inl (cI, 4, .inl (fun i9 => nI ((va_up (σ) k (va_up (wr (wr B n (sw n2) (sv n2)) (n + sw n2) 2 (fb (uNl (smb C 0 n2).toInt64))) (n + sw n2 + 2) (fb (uNl (smb C 0 n2).toInt64) 2), n + sw n2 + 2 + 1, p)) i9).2.1))), (pa, .inl (cI, 4, .inl (fun i9 => nI ((va_up (σ) k (va_up (wr (wr B n (sw n2) (sv n2)) (n + sw n2) 2 (fb (uNl (smb C 0 n2).toInt64))) (n + sw n2 + 2) (fb (uNl (smb C 0 n2).toInt64) 2), n + sw n2 + 2 + 1, p)) i9).2.2)))] := hD
        rw [wr_s, Nat.add_assoc (n + sw n2) 2 1] at hP hD
        have hP : va_P D vCl [(h, .inr (2, [.int 0, .int (nI M), .ref cl, .ref sa, .ref pa, .int tk])), (cl, .inl (cL, 32768, .inr (.inl (pkF (va_up (σ) k (wr (wr B n (sw n2) (sv n2)) (n + sw n2) (2 + 1) (fb (uNl (smb C 0 n2).toInt64)), n + sw n2 + (2 + 1), p)))))), (sa, .inl (cI, 4, .inl (fun i9 => nI ((va_up (σ) k (wr (wr B n (sw n2) (sv n2)) (n + sw n2) (2 + 1) (fb (uNl (smb C 0 n2).toInt64)), n + sw n2 + (2 + 1), p)) i9).2.1))), (pa, .inl (cI, 4, .inl (fun i9 => nI ((va_up (σ) k (wr (wr B n (sw n2) (sv n2)) (n + sw n2) (2 + 1) (fb (uNl (smb C 0 n2).toInt64)), n + sw n2 + (2 + 1), p)) i9).2.2)))] H := hP
        have hD : va_D A [(h, .inr (2, [.int 0, .int (nI M), .ref cl, .ref sa, .ref pa, .int tk])), (cl, .inl (cL, 32768, .inr (.inl (pkF (va_up (σ) k (wr (wr B n (sw n2) (sv n2)) (n + sw n2) (2 + 1) (fb (uNl (smb C 0 n2).toInt64)), n + sw n2 + (2 + 1), p)))))), (sa, .inl (cI, 4, .inl (fun i9 => nI ((va_up (σ) k (wr (wr B n (sw n2) (sv n2)) (n + sw n2) (2 + 1) (fb (uNl (smb C 0 n2).toInt64)), n + sw n2 + (2 + 1), p)) i9).2.1))), (pa, .inl (cI, 4, .inl (fun i9 => nI ((va_up (σ) k (wr (wr B n (sw n2) (sv n2)) (n + sw n2) (2 + 1) (fb (uNl (smb C 0 n2).toInt64)), n + sw n2 + (2 + 1), p)) i9).2.2)))] := hD
        obtain ⟨v101, ev101⟩ : ∃ y : Int32, y = 2 + 1 := ⟨_, rfl⟩
        refine lv_iinc (v := v101) (lv' := [(7, .int v101), (6, .int (smb C 0 n2)), (5, .int (nI (sw n2))), (4, .int (nI n2)), (0, .ref h), (1, .int (nI k)), (2, .int (nI f1)), (3, .int 4)]) hx hb d_M_wrap_101 hl (k := 0) rfl (by rw [ev101]; rfl) (by decide) rfl (fun ls hl => ?_)
        have ev101 : v101 = 3 := by rw [ev101]; decide
        subst ev101
        have hP : va_P D vCl [(h, .inr (2, [.int 0, .int (nI M), .ref cl, .ref sa, .ref pa, .int tk])), (cl, .inl (cL, 32768, .inr (.inl (pkF (va_up σ k (wr (wr B n (sw n2) (sv n2)) (n + sw n2) 3 (fb (uNl (smb C 0 n2).toInt64)), n + sw n2 + 3, p)))))), (sa, .inl (cI, 4, .inl (fun i9 => nI ((va_up σ k (wr (wr B n (sw n2) (sv n2)) (n + sw n2) 3 (fb (uNl (smb C 0 n2).toInt64)), n + sw n2 + 3, p)) i9).2.1))), (pa, .inl (cI, 4, .inl (fun i9 => nI ((va_up σ k (wr (wr B n (sw n2) (sv n2)) (n + sw n2) 3 (fb (uNl (smb C 0 n2).toInt64)), n + sw n2 + 3, p)) i9).2.2)))] H := hP
        have hD : va_D A [(h, .inr (2, [.int 0, .int (nI M), .ref cl, .ref sa, .ref pa, .int tk])), (cl, .inl (cL, 32768, .inr (.inl (pkF (va_up σ k (wr (wr B n (sw n2) (sv n2)) (n + sw n2) 3 (fb (uNl (smb C 0 n2).toInt64)), n + sw n2 + 3, p)))))), (sa, .inl (cI, 4, .inl (fun i9 => nI ((va_up σ k (wr (wr B n (sw n2) (sv n2)) (n + sw n2) 3 (fb (uNl (smb C 0 n2).toInt64)), n + sw n2 + 3, p)) i9).2.1))), (pa, .inl (cI, 4, .inl (fun i9 => nI ((va_up σ k (wr (wr B n (sw n2) (sv n2)) (n + sw n2) 3 (fb (uNl (smb C 0 n2).toInt64)), n + sw n2 + 3, p)) i9).2.2)))] := hD
        refine lv_goto (tgt := 78) hx hb d_M_wrap_104 (by decide) ?_
        refine lv_iload hx hb d_M_wrap_78 (lv_at hl 0 rfl) ?_
        refine lv_iload_n hx hb d_M_wrap_80 rfl (lv_at hl 7 rfl) ?_
        refine lv_icmp_ge (tgt := 107) hx hb d_M_wrap_81 (by decide) (fun q9 => absurd q9 (by decide)) (fun _ => ?_)
        refine lv_aload_n hx hb d_M_wrap_84 rfl (lv_at hl 4 rfl) ?_
        refine lv_iload_n hx hb d_M_wrap_85 rfl (lv_at hl 5 rfl) ?_
        refine lv_iload hx hb d_M_wrap_86 (lv_at hl 1 rfl) ?_
        refine lv_bipush (v := 8) hx hb d_M_wrap_88 (by decide) ?_
        refine lv_iload hx hb d_M_wrap_90 (lv_at hl 0 rfl) ?_
        refine lv_imul hx hb d_M_wrap_92 ?_
        refine lv_topi (fun v92 ev92 => ?_)
        have ev92 : v92 = 24 := by rw [ev92]; decide
        subst ev92
        refine lv_ishr hx hb d_M_wrap_93 ?_
        refine lv_topi (fun v93 ev93 => ?_)
        refine lv_sipush (v := 255) hx hb d_M_wrap_94 (by decide) ?_
        refine lv_iand hx hb d_M_wrap_97 ?_
        refine lv_topi (fun v97 ev97 => ?_)
        have ev97 : v97 = nI (fb (uNl (smb C 0 n2).toInt64) 3) := by rw [ev97, ev93]; exact sb32 _ (b := 3) (by decide)
        subst ev97
        have hPc := hP
        have hFc := va_free (wc := [(h, .inr (2, [.int 0, .int (nI M), .ref cl, .ref sa, .ref pa, .int tk])), (cl, .inl (cL, 32768, .inr (.inl (pkF (va_up σ k (wr (wr B n (sw n2) (sv n2)) (n + sw n2) 3 (fb (uNl (smb C 0 n2).toInt64)), n + sw n2 + 3, p)))))), (sa, .inl (cI, 4, .inl (fun i9 => nI ((va_up σ k (wr (wr B n (sw n2) (sv n2)) (n + sw n2) 3 (fb (uNl (smb C 0 n2).toInt64)), n + sw n2 + 3, p)) i9).2.1))), (pa, .inl (cI, 4, .inl (fun i9 => nI ((va_up σ k (wr (wr B n (sw n2) (sv n2)) (n + sw n2) 3 (fb (uNl (smb C 0 n2).toInt64)), n + sw n2 + 3, p)) i9).2.2)))]) hD hS hAq [0, 1, 2, 3] rfl
        have hKc := hK.sub (tys' := [(cL, .long), (cI, .int)]) [0, 1] rfl
        refine va_callv (va_runV (As := [.int (nI k), .int (nI (fb (uNl (smb C 0 n2).toInt64) 3))]) (rest := []) ⟨hx, hb, hml, hown, hA⟩ (c_M_add l D cL cI h cl sa pa M 0 tk (σ) H.size k hk (wr (wr B n (sw n2) (sv n2)) (n + sw n2) 3 (fb (uNl (smb C 0 n2).toInt64))) (n + sw n2 + 3) p (wr_lt (wr_lt hB (fun i9 _ => sv_lt n2 i9)) (fun i9 _ => fb_lt _ i9)) (fb (uNl (smb C 0 n2).toInt64) 3) (by omega) (fb_lt _ 3)) (q_M_add hA k3_13 rfl rfl ⟨(Nat.le_of_ble_eq_true rfl), (Nat.le_of_ble_eq_true rfl)⟩) (ox_V (va_recv hKc hPc (ci := 2) (q0 := 0) rfl rfl) (oxw_S hPc hKc hD)) rfl rfl hl.1 rfl (lv_room (Nat.le_of_ble_eq_true rfl)) d_M_wrap_98 ⟨(Nat.le_of_ble_eq_true rfl), (Nat.le_of_ble_eq_true rfl)⟩) hS (fun q _ h => hFc q h) hFc (fun u9 t9 H1 locs ht9 hvm9 hw9 hB9 hz1 hk1 hS => ?_)
        obtain ⟨hP, hK1, hD1⟩ := hB9
        rw [ht9] at hP
        obtain ⟨hP, hD⟩ := va_join (wr := []) (w1 := rfW cL cI h cl sa pa M 0 tk (va_up (σ) k (va_up (wr (wr B n (sw n2) (sv n2)) (n + sw n2) 3 (fb (uNl (smb C 0 n2).toInt64))) (n + sw n2 + 3) (fb (uNl (smb C 0 n2).toInt64) 3), n + sw n2 + 3 + 1, p))) hPc hD [0, 1, 2, 3] [] rfl rfl (by decide) (by decide) hk1 hFc hP hD1
        generalize H1 = H at hP hS ⊢
        have hP : va_P D vCl [(h, .inr (2, [.int 0, .int (nI M), .ref cl, .ref sa, .ref pa, .int tk])), (cl, .inl (cL, 32768, .inr (.inl (pkF (va_up (σ) k (va_up (wr (wr B n (sw n2) (sv n2)) (n + sw n2) 3 (fb (uNl (smb C 0 n2).toInt64))) (n + sw n2 + 3) (fb (uNl (smb C 0 n2).toInt64) 3), n + sw n2 + 3 + 1, p)))))), (sa, .inl (cI, 4, .inl (fun i9 => nI ((va_up (σ) k (va_up (wr (wr B n (sw n2) (sv n2)) (n + sw n2) 3 (fb (uNl (smb C 0 n2).toInt64))) (n + sw n2 + 3) (fb (uNl (smb C 0 n2).toInt64) 3), n + sw n2 + 3 + 1, p)) i9).2.1))), (pa, .inl (cI, 4, .inl (fun i9 => nI ((va_up (σ) k (va_up (wr (wr B n (sw n2) (sv n2)) (n + sw n2) 3 (fb (uNl (smb C 0 n2).toInt64))) (n + sw n2 + 3) (fb (uNl (smb C 0 n2).toInt64) 3), n + sw n2 + 3 + 1, p)) i9).2.2)))] H := hP
        have hD : va_D A [(h, .inr (2, [.int 0, .int (nI M), .ref cl, .ref sa, .ref pa, .int tk])), (cl, .inl (cL, 32768, .inr (.inl (pkF (va_up (σ) k (va_up (wr (wr B n (sw n2) (sv n2)) (n + sw n2) 3 (fb (uNl (smb C 0 n2).toInt64))) (n + sw n2 + 3) (fb (uNl (smb C 0 n2).toInt64) 3), n + sw n2 + 3 + 1, p)))))), (sa, .inl (cI, 4, .inl (fun i9 => nI ((va_up (σ) k (va_up (wr (wr B n (sw n2) (sv n2)) (n + sw n2) 3 (fb (uNl (smb C 0 n2).toInt64))) (n + sw n2 + 3) (fb (uNl (smb C 0 n2).toInt64) 3), n + sw n2 + 3 + 1, p)) i9).2.1))), (pa, .inl (cI, 4, .inl (fun i9 => nI ((va_up (σ) k (va_up (wr (wr B n (sw n2) (sv n2)) (n + sw n2) 3 (fb (uNl (smb C 0 n2).toInt64))) (n + sw n2 + 3) (fb (uNl (smb C 0 n2).toInt64) 3), n + sw n2 + 3 + 1, p)) i9).2.2)))] := hD
        rw [wr_s, Nat.add_assoc (n + sw n2) 3 1] at hP hD
        have hP : va_P D vCl [(h, .inr (2, [.int 0, .int (nI M), .ref cl, .ref sa, .ref pa, .int tk])), (cl, .inl (cL, 32768, .inr (.inl (pkF (va_up (σ) k (wr (wr B n (sw n2) (sv n2)) (n + sw n2) (3 + 1) (fb (uNl (smb C 0 n2).toInt64)), n + sw n2 + (3 + 1), p)))))), (sa, .inl (cI, 4, .inl (fun i9 => nI ((va_up (σ) k (wr (wr B n (sw n2) (sv n2)) (n + sw n2) (3 + 1) (fb (uNl (smb C 0 n2).toInt64)), n + sw n2 + (3 + 1), p)) i9).2.1))), (pa, .inl (cI, 4, .inl (fun i9 => nI ((va_up (σ) k (wr (wr B n (sw n2) (sv n2)) (n + sw n2) (3 + 1) (fb (uNl (smb C 0 n2).toInt64)), n + sw n2 + (3 + 1), p)) i9).2.2)))] H := hP
        have hD : va_D A [(h, .inr (2, [.int 0, .int (nI M), .ref cl, .ref sa, .ref pa, .int tk])), (cl, .inl (cL, 32768, .inr (.inl (pkF (va_up (σ) k (wr (wr B n (sw n2) (sv n2)) (n + sw n2) (3 + 1) (fb (uNl (smb C 0 n2).toInt64)), n + sw n2 + (3 + 1), p)))))), (sa, .inl (cI, 4, .inl (fun i9 => nI ((va_up (σ) k (wr (wr B n (sw n2) (sv n2)) (n + sw n2) (3 + 1) (fb (uNl (smb C 0 n2).toInt64)), n + sw n2 + (3 + 1), p)) i9).2.1))), (pa, .inl (cI, 4, .inl (fun i9 => nI ((va_up (σ) k (wr (wr B n (sw n2) (sv n2)) (n + sw n2) (3 + 1) (fb (uNl (smb C 0 n2).toInt64)), n + sw n2 + (3 + 1), p)) i9).2.2)))] := hD
        obtain ⟨v101, ev101⟩ : ∃ y : Int32, y = 3 + 1 := ⟨_, rfl⟩
        refine lv_iinc (v := v101) (lv' := [(7, .int v101), (6, .int (smb C 0 n2)), (5, .int (nI (sw n2))), (4, .int (nI n2)), (0, .ref h), (1, .int (nI k)), (2, .int (nI f1)), (3, .int 4)]) hx hb d_M_wrap_101 hl (k := 0) rfl (by rw [ev101]; rfl) (by decide) rfl (fun ls hl => ?_)
        have ev101 : v101 = 4 := by rw [ev101]; decide
        subst ev101
        have hP : va_P D vCl [(h, .inr (2, [.int 0, .int (nI M), .ref cl, .ref sa, .ref pa, .int tk])), (cl, .inl (cL, 32768, .inr (.inl (pkF (va_up σ k (wr (wr B n (sw n2) (sv n2)) (n + sw n2) 4 (fb (uNl (smb C 0 n2).toInt64)), n + sw n2 + 4, p)))))), (sa, .inl (cI, 4, .inl (fun i9 => nI ((va_up σ k (wr (wr B n (sw n2) (sv n2)) (n + sw n2) 4 (fb (uNl (smb C 0 n2).toInt64)), n + sw n2 + 4, p)) i9).2.1))), (pa, .inl (cI, 4, .inl (fun i9 => nI ((va_up σ k (wr (wr B n (sw n2) (sv n2)) (n + sw n2) 4 (fb (uNl (smb C 0 n2).toInt64)), n + sw n2 + 4, p)) i9).2.2)))] H := hP
        have hD : va_D A [(h, .inr (2, [.int 0, .int (nI M), .ref cl, .ref sa, .ref pa, .int tk])), (cl, .inl (cL, 32768, .inr (.inl (pkF (va_up σ k (wr (wr B n (sw n2) (sv n2)) (n + sw n2) 4 (fb (uNl (smb C 0 n2).toInt64)), n + sw n2 + 4, p)))))), (sa, .inl (cI, 4, .inl (fun i9 => nI ((va_up σ k (wr (wr B n (sw n2) (sv n2)) (n + sw n2) 4 (fb (uNl (smb C 0 n2).toInt64)), n + sw n2 + 4, p)) i9).2.1))), (pa, .inl (cI, 4, .inl (fun i9 => nI ((va_up σ k (wr (wr B n (sw n2) (sv n2)) (n + sw n2) 4 (fb (uNl (smb C 0 n2).toInt64)), n + sw n2 + 4, p)) i9).2.2)))] := hD
        refine lv_goto (tgt := 78) hx hb d_M_wrap_104 (by decide) ?_
        refine lv_iload hx hb d_M_wrap_78 (lv_at hl 0 rfl) ?_
        refine lv_iload_n hx hb d_M_wrap_80 rfl (lv_at hl 7 rfl) ?_
        refine lv_icmp_ge (tgt := 107) hx hb d_M_wrap_81 (by decide) (fun _ => ?_) (fun q9 => absurd (by decide) q9)
        have hP : va_P D vCl [(h, .inr (2, [.int 0, .int (nI M), .ref cl, .ref sa, .ref pa, .int tk])), (cl, .inl (cL, 32768, .inr (.inl (pkF (va_up σ k (wr2 B n (sw n2) (sv n2) 4 (fb (uNl (smb C 0 n2).toInt64)), n + sw n2 + 4, p)))))), (sa, .inl (cI, 4, .inl (fun i9 => nI ((va_up σ k (wr2 B n (sw n2) (sv n2) 4 (fb (uNl (smb C 0 n2).toInt64)), n + sw n2 + 4, p)) i9).2.1))), (pa, .inl (cI, 4, .inl (fun i9 => nI ((va_up σ k (wr2 B n (sw n2) (sv n2) 4 (fb (uNl (smb C 0 n2).toInt64)), n + sw n2 + 4, p)) i9).2.2)))] H := hP
        have hD : va_D A [(h, .inr (2, [.int 0, .int (nI M), .ref cl, .ref sa, .ref pa, .int tk])), (cl, .inl (cL, 32768, .inr (.inl (pkF (va_up σ k (wr2 B n (sw n2) (sv n2) 4 (fb (uNl (smb C 0 n2).toInt64)), n + sw n2 + 4, p)))))), (sa, .inl (cI, 4, .inl (fun i9 => nI ((va_up σ k (wr2 B n (sw n2) (sv n2) 4 (fb (uNl (smb C 0 n2).toInt64)), n + sw n2 + 4, p)) i9).2.1))), (pa, .inl (cI, 4, .inl (fun i9 => nI ((va_up σ k (wr2 B n (sw n2) (sv n2) 4 (fb (uNl (smb C 0 n2).toInt64)), n + sw n2 + 4, p)) i9).2.2)))] := hD
        rw [show va_up (σ) k (wr2 B n (sw n2) (sv n2) 4 (fb (uNl (smb C 0 n2).toInt64)), n + sw n2 + 4, p) = va_up (σ) k (wr (wr2 B n (sw n2) (sv n2) 4 (fb (uNl (smb C 0 n2).toInt64))) (n + sw n2 + 4) 0 C, n + sw n2 + 4 + 0, p) from by rw [wr_0, Nat.add_zero]] at hP hD
        have hP : va_P D vCl [(h, .inr (2, [.int 0, .int (nI M), .ref cl, .ref sa, .ref pa, .int tk])), (cl, .inl (cL, 32768, .inr (.inl (pkF (va_up (σ) k (wr (wr2 B n (sw n2) (sv n2) 4 (fb (uNl (smb C 0 n2).toInt64))) (n + sw n2 + 4) 0 C, n + sw n2 + 4 + 0, p)))))), (sa, .inl (cI, 4, .inl (fun i9 => nI ((va_up (σ) k (wr (wr2 B n (sw n2) (sv n2) 4 (fb (uNl (smb C 0 n2).toInt64))) (n + sw n2 + 4) 0 C, n + sw n2 + 4 + 0, p)) i9).2.1))), (pa, .inl (cI, 4, .inl (fun i9 => nI ((va_up (σ) k (wr (wr2 B n (sw n2) (sv n2) 4 (fb (uNl (smb C 0 n2).toInt64))) (n + sw n2 + 4) 0 C, n + sw n2 + 4 + 0, p)) i9).2.2)))] H := hP
        have hD : va_D A [(h, .inr (2, [.int 0, .int (nI M), .ref cl, .ref sa, .ref pa, .int tk])), (cl, .inl (cL, 32768, .inr (.inl (pkF (va_up (σ) k (wr (wr2 B n (sw n2) (sv n2) 4 (fb (uNl (smb C 0 n2).toInt64))) (n + sw n2 + 4) 0 C, n + sw n2 + 4 + 0, p)))))), (sa, .inl (cI, 4, .inl (fun i9 => nI ((va_up (σ) k (wr (wr2 B n (sw n2) (sv n2) 4 (fb (uNl (smb C 0 n2).toInt64))) (n + sw n2 + 4) 0 C, n + sw n2 + 4 + 0, p)) i9).2.1))), (pa, .inl (cI, 4, .inl (fun i9 => nI ((va_up (σ) k (wr (wr2 B n (sw n2) (sv n2) 4 (fb (uNl (smb C 0 n2).toInt64))) (n + sw n2 + 4) 0 C, n + sw n2 + 4 + 0, p)) i9).2.2)))] := hD
        refine lv_iconst (v := 0) hx hb d_M_wrap_107 (by decide) ?_
        refine lv_topi (fun v107 ev107 => ?_)
        have ev107 : v107 = nI 0 := by rw [ev107]; rfl
        subst ev107
        refine lv_istore (lv' := [(7, .int (nI 0)), (6, .int (smb C 0 n2)), (5, .int (nI (sw n2))), (4, .int (nI n2)), (0, .ref h), (1, .int (nI k)), (2, .int (nI f1)), (3, .int 4)]) hx hb d_M_wrap_108 hl (by decide) rfl (fun ls hl => ?_)
        have loop : ∀ (q i2 : Nat), i2 + q = n2 + 1 → i2 ≤ n2 → ∀ (H : Heap) (locs : List Loc), va_P D vCl [(h, .inr (2, [.int 0, .int (nI M), .ref cl, .ref sa, .ref pa, .int tk])), (cl, .inl (cL, 32768, .inr (.inl (pkF (va_up σ k (wr (wr2 B n (sw n2) (sv n2) 4 (fb (uNl (smb C 0 n2).toInt64))) (n + sw n2 + 4) i2 C, n + sw n2 + 4 + i2, p)))))), (sa, .inl (cI, 4, .inl (fun i9 => nI ((va_up σ k (wr (wr2 B n (sw n2) (sv n2) 4 (fb (uNl (smb C 0 n2).toInt64))) (n + sw n2 + 4) i2 C, n + sw n2 + 4 + i2, p)) i9).2.1))), (pa, .inl (cI, 4, .inl (fun i9 => nI ((va_up σ k (wr (wr2 B n (sw n2) (sv n2) 4 (fb (uNl (smb C 0 n2).toInt64))) (n + sw n2 + 4) i2 C, n + sw n2 + 4 + i2, p)) i9).2.2)))] H → va_D A [(h, .inr (2, [.int 0, .int (nI M), .ref cl, .ref sa, .ref pa, .int tk])), (cl, .inl (cL, 32768, .inr (.inl (pkF (va_up σ k (wr (wr2 B n (sw n2) (sv n2) 4 (fb (uNl (smb C 0 n2).toInt64))) (n + sw n2 + 4) i2 C, n + sw n2 + 4 + i2, p)))))), (sa, .inl (cI, 4, .inl (fun i9 => nI ((va_up σ k (wr (wr2 B n (sw n2) (sv n2) 4 (fb (uNl (smb C 0 n2).toInt64))) (n + sw n2 + 4) i2 C, n + sw n2 + 4 + i2, p)) i9).2.1))), (pa, .inl (cI, 4, .inl (fun i9 => nI ((va_up σ k (wr (wr2 B n (sw n2) (sv n2) 4 (fb (uNl (smb C 0 n2).toInt64))) (n + sw n2 + 4) i2 C, n + sw n2 + 4 + i2, p)) i9).2.2)))] → va_S A s.heap H locs → ∀ (ls : Array Slot), lv_has ls 8 [(7, .int (nI i2)), (0, .ref h), (1, .int (nI k)), (2, .int (nI f1)), (3, .int 4), (4, .int (nI n2)), (5, .int (nI (sw n2)))] → W p9 l e9 (headSpec w_M_wrap ({ frames := 3, cells := 0, slots := 0, locals := 73 })).room s m [.ref h, .int (nI k), .int (nI f1), .int 4].toArray below meth c9 H locs 0 0 (MQ below (va_Qi (fun (r : Int32) (uu : Nat × dkS × Int32) => spFrame M σ (nI k) (nI f1) = (uu.1, r, uu.2.1)) (fun uu => ow D [(cL, .long), (cI, .int)] A (rfW cL cI h cl sa pa M (nI uu.1) uu.2.2 uu.2.1)) A) [.ref h, .int (nI k), .int (nI f1), .int 4].toArray s 0 0 A) (F0 m 110 ls []) := by
          intro q
          induction q with
          | zero =>
            intro i2 hq hi2 H locs hP hD hS ls hl
            exact absurd hq (by omega)
          | succ q ih_loop =>
            intro i2 hq hi2 H locs hP hD hS ls hl
            refine lv_iload hx hb d_M_wrap_110 (lv_at hl 0 rfl) ?_
            refine lv_iload hx hb d_M_wrap_112 (lv_at hl 5 rfl) ?_
            refine lv_icmp_ge (tgt := 135) hx hb d_M_wrap_114 (by decide) (fun c114 => ?_) (fun c114 => ?_)
            · have hi4 : i2 = n2 := by have := (nI_leI (a := n2) (b := i2) (by omega) (by omega)).mp c114; omega
              rw [hi4] at hP hD
              have hP : va_P D vCl [(h, .inr (2, [.int 0, .int (nI M), .ref cl, .ref sa, .ref pa, .int tk])), (cl, .inl (cL, 32768, .inr (.inl (pkF (va_up σ k (wr (wr2 B n (sw n2) (sv n2) 4 (fb (uNl (smb C 0 n2).toInt64))) (n + sw n2 + 4) n2 C, n + sw n2 + 4 + n2, p)))))), (sa, .inl (cI, 4, .inl (fun i9 => nI ((va_up σ k (wr (wr2 B n (sw n2) (sv n2) 4 (fb (uNl (smb C 0 n2).toInt64))) (n + sw n2 + 4) n2 C, n + sw n2 + 4 + n2, p)) i9).2.1))), (pa, .inl (cI, 4, .inl (fun i9 => nI ((va_up σ k (wr (wr2 B n (sw n2) (sv n2) 4 (fb (uNl (smb C 0 n2).toInt64))) (n + sw n2 + 4) n2 C, n + sw n2 + 4 + n2, p)) i9).2.2)))] H := hP
              have hD : va_D A [(h, .inr (2, [.int 0, .int (nI M), .ref cl, .ref sa, .ref pa, .int tk])), (cl, .inl (cL, 32768, .inr (.inl (pkF (va_up σ k (wr (wr2 B n (sw n2) (sv n2) 4 (fb (uNl (smb C 0 n2).toInt64))) (n + sw n2 + 4) n2 C, n + sw n2 + 4 + n2, p)))))), (sa, .inl (cI, 4, .inl (fun i9 => nI ((va_up σ k (wr (wr2 B n (sw n2) (sv n2) 4 (fb (uNl (smb C 0 n2).toInt64))) (n + sw n2 + 4) n2 C, n + sw n2 + 4 + n2, p)) i9).2.1))), (pa, .inl (cI, 4, .inl (fun i9 => nI ((va_up σ k (wr (wr2 B n (sw n2) (sv n2) 4 (fb (uNl (smb C 0 n2).toInt64))) (n + sw n2 + 4) n2 C, n + sw n2 + 4 + n2, p)) i9).2.2)))] := hD
              refine lv_iload hx hb d_M_wrap_135 (lv_at hl 6 rfl) ?_
              refine lv_iload_n hx hb d_M_wrap_137 rfl (lv_at hl 4 rfl) ?_
              refine lv_iadd hx hb d_M_wrap_138 ?_
              refine lv_topi (fun v138 ev138 => ?_)
              have ev138 : v138 = nI (sw n2 + 4) := by rw [ev138]; exact nI_add _ 4
              subst ev138
              refine lv_iload hx hb d_M_wrap_139 (lv_at hl 5 rfl) ?_
              refine lv_iadd hx hb d_M_wrap_141 ?_
              refine lv_topi (fun v141 ev141 => ?_)
              have ev141 : v141 = nI (sw n2 + 4 + n2) := by rw [ev141]; exact nI_add _ _
              subst ev141
              exact W.iret (v := nI (sw n2 + 4 + n2)) hx hb hr (fun t ht hW => ⟨⟨_, (0, va_up σ k (wr (wr2 B n (sw n2) (sv n2) 4 (fb (uNl (smb C 0 n2).toInt64))) (n + sw n2 + 4) n2 C, n + sw n2 + 4 + n2, p), tk), rfl, (by unfold spFrame; simp only [hrk, hrf1, hρ, hρ2]; rw [if_neg (fun h8 => h8 ⟨hR, hR2⟩), if_neg (Nat.not_lt.mpr hF2)]), by rw [ht]; exact hP, va_K.moved hW.alike hK, hD⟩, hS.F ht⟩) hS.2.2 d_M_wrap_142
            · have hi3 : i2 < n2 := by have := mt (nI_leI (a := n2) (b := i2) (by omega) (by omega)).mpr c114; omega
              refine lv_aload_n hx hb d_M_wrap_117 rfl (lv_at hl 1 rfl) ?_
              refine lv_iload_n hx hb d_M_wrap_118 rfl (lv_at hl 2 rfl) ?_
              refine lv_aload_n hx hb d_M_wrap_119 rfl (lv_at hl 1 rfl) ?_
              refine lv_iload_n hx hb d_M_wrap_120 rfl (lv_at hl 3 rfl) ?_
              refine lv_iload hx hb d_M_wrap_121 (lv_at hl 0 rfl) ?_
              have hPc := hP.sub (ws' := [(h, .inr (2, [.int 0, .int (nI M), .ref cl, .ref sa, .ref pa, .int tk])), (cl, .inl (cL, 32768, .inr (.inl (pkF (va_up σ k (wr (wr2 B n (sw n2) (sv n2) 4 (fb (uNl (smb C 0 n2).toInt64))) (n + sw n2 + 4) i2 C, n + sw n2 + 4 + i2, p)))))), (sa, .inl (cI, 4, .inl (fun i9 => nI ((va_up σ k (wr (wr2 B n (sw n2) (sv n2) 4 (fb (uNl (smb C 0 n2).toInt64))) (n + sw n2 + 4) i2 C, n + sw n2 + 4 + i2, p)) i9).2.1))), (pa, .inl (cI, 4, .inl (fun i9 => nI ((va_up σ k (wr (wr2 B n (sw n2) (sv n2) 4 (fb (uNl (smb C 0 n2).toInt64))) (n + sw n2 + 4) i2 C, n + sw n2 + 4 + i2, p)) i9).2.2)))]) [0, 1, 2, 3] rfl
              have hKc := hK.sub (tys' := [(cL, .long), (cI, .int)]) [0, 1] rfl
              refine vp_callSi (W.runV (As := [.int (nI f1), .int (nI i2)]) (rest := [.int (nI k), .ref h]) ⟨hx, hb, hml, hown, hA⟩ (c_M_at l D cL cI h cl sa pa M 0 tk (va_up σ k (wr (wr2 B n (sw n2) (sv n2) 4 (fb (uNl (smb C 0 n2).toInt64))) (n + sw n2 + 4) i2 C, n + sw n2 + 4 + i2, p)) f1 i2 hf1 (by omega) (bok_w hσ hf1 (wr_lt (wr_lt (wr_lt hB (fun i9 _ => sv_lt n2 i9)) (fun i9 _ => fb_lt _ i9)) (fun i9 _ => hB2 _)) _ _)) (q_M_at hA k3_66 rfl rfl ⟨(Nat.le_of_ble_eq_true rfl), (Nat.le_of_ble_eq_true rfl)⟩) (ox_V (va_recv hKc hPc (ci := 2) (q0 := 0) rfl rfl) (ox_S hPc hKc)) rfl rfl hl.1 rfl (lv_room (Nat.le_of_ble_eq_true rfl)) d_M_wrap_123 ⟨(Nat.le_of_ble_eq_true rfl), (Nat.le_of_ble_eq_true rfl)⟩) (fun r123 hr123 => ?_)
              have er123 : r123 = nI (C i2) := by rw [hr123, rd_g hρ (fun j9 h9 => by unfold wr2; rw [wr_out (by omega), wr_out (by omega), wr_out h9]) _ _ (by rw [hρ2]; show i2 < n2; omega), hρ2]
              subst er123
              have hPc := hP
              have hFc := va_free (wc := [(h, .inr (2, [.int 0, .int (nI M), .ref cl, .ref sa, .ref pa, .int tk])), (cl, .inl (cL, 32768, .inr (.inl (pkF (va_up σ k (wr (wr2 B n (sw n2) (sv n2) 4 (fb (uNl (smb C 0 n2).toInt64))) (n + sw n2 + 4) i2 C, n + sw n2 + 4 + i2, p)))))), (sa, .inl (cI, 4, .inl (fun i9 => nI ((va_up σ k (wr (wr2 B n (sw n2) (sv n2) 4 (fb (uNl (smb C 0 n2).toInt64))) (n + sw n2 + 4) i2 C, n + sw n2 + 4 + i2, p)) i9).2.1))), (pa, .inl (cI, 4, .inl (fun i9 => nI ((va_up σ k (wr (wr2 B n (sw n2) (sv n2) 4 (fb (uNl (smb C 0 n2).toInt64))) (n + sw n2 + 4) i2 C, n + sw n2 + 4 + i2, p)) i9).2.2)))]) hD hS hAq [0, 1, 2, 3] rfl
              have hKc := hK.sub (tys' := [(cL, .long), (cI, .int)]) [0, 1] rfl
              refine va_callv (va_runV (As := [.int (nI k), .int (nI (C i2))]) (rest := []) ⟨hx, hb, hml, hown, hA⟩ (c_M_add l D cL cI h cl sa pa M 0 tk (σ) H.size k hk (wr (wr2 B n (sw n2) (sv n2) 4 (fb (uNl (smb C 0 n2).toInt64))) (n + sw n2 + 4) i2 C) (n + sw n2 + 4 + i2) p (wr_lt (wr_lt (wr_lt hB (fun i9 _ => sv_lt n2 i9)) (fun i9 _ => fb_lt _ i9)) (fun i9 _ => hB2 _)) (C i2) (by omega) (hB2 _)) (q_M_add hA k3_13 rfl rfl ⟨(Nat.le_of_ble_eq_true rfl), (Nat.le_of_ble_eq_true rfl)⟩) (ox_V (va_recv hKc hPc (ci := 2) (q0 := 0) rfl rfl) (oxw_S hPc hKc hD)) rfl rfl hl.1 rfl (lv_room (Nat.le_of_ble_eq_true rfl)) d_M_wrap_126 ⟨(Nat.le_of_ble_eq_true rfl), (Nat.le_of_ble_eq_true rfl)⟩) hS (fun q _ h => hFc q h) hFc (fun u9 t9 H1 locs ht9 hvm9 hw9 hB9 hz1 hk1 hS => ?_)
              obtain ⟨hP, hK1, hD1⟩ := hB9
              rw [ht9] at hP
              obtain ⟨hP, hD⟩ := va_join (wr := []) (w1 := rfW cL cI h cl sa pa M 0 tk (va_up (σ) k (va_up (wr (wr2 B n (sw n2) (sv n2) 4 (fb (uNl (smb C 0 n2).toInt64))) (n + sw n2 + 4) i2 C) (n + sw n2 + 4 + i2) (C i2), n + sw n2 + 4 + i2 + 1, p))) hPc hD [0, 1, 2, 3] [] rfl rfl (by decide) (by decide) hk1 hFc hP hD1
              generalize H1 = H at hP hS ⊢
              have hP : va_P D vCl [(h, .inr (2, [.int 0, .int (nI M), .ref cl, .ref sa, .ref pa, .int tk])), (cl, .inl (cL, 32768, .inr (.inl (pkF (va_up (σ) k (va_up (wr (wr2 B n (sw n2) (sv n2) 4 (fb (uNl (smb C 0 n2).toInt64))) (n + sw n2 + 4) i2 C) (n + sw n2 + 4 + i2) (C i2), n + sw n2 + 4 + i2 + 1, p)))))), (sa, .inl (cI, 4, .inl (fun i9 => nI ((va_up (σ) k (va_up (wr (wr2 B n (sw n2) (sv n2) 4 (fb (uNl (smb C 0 n2).toInt64))) (n + sw n2 + 4) i2 C) (n + sw n2 + 4 + i2) (C i2), n + sw n2 + 4 + i2 + 1, p)) i9).2.1))), (pa, .inl (cI, 4, .inl (fun i9 => nI ((va_up (σ) k (va_up (wr (wr2 B n (sw n2) (sv n2) 4 (fb (uNl (smb C 0 n2).toInt64))) (n + sw n2 + 4) i2 C) (n + sw n2 + 4 + i2) (C i2), n + sw n2 + 4 + i2 + 1, p)) i9).2.2)))] H := hP
              have hD : va_D A [(h, .inr (2, [.int 0, .int (nI M), .ref cl, .ref sa, .ref pa, .int tk])), (cl, .inl (cL, 32768, .inr (.inl (pkF (va_up (σ) k (va_up (wr (wr2 B n (sw n2) (sv n2) 4 (fb (uNl (smb C 0 n2).toInt64))) (n + sw n2 + 4) i2 C) (n + sw n2 + 4 + i2) (C i2), n + sw n2 + 4 + i2 + 1, p)))))), (sa, .inl (cI, 4, .inl (fun i9 => nI ((va_up (σ) k (va_up (wr (wr2 B n (sw n2) (sv n2) 4 (fb (uNl (smb C 0 n2).toInt64))) (n + sw n2 + 4) i2 C) (n + sw n2 + 4 + i2) (C i2), n + sw n2 + 4 + i2 + 1, p)) i9).2.1))), (pa, .inl (cI, 4, .inl (fun i9 => nI ((va_up (σ) k (va_up (wr (wr2 B n (sw n2) (sv n2) 4 (fb (uNl (smb C 0 n2).toInt64))) (n + sw n2 + 4) i2 C) (n + sw n2 + 4 + i2) (C i2), n + sw n2 + 4 + i2 + 1, p)) i9).2.2)))] := hD
              rw [wr_s, Nat.add_assoc (n + sw n2 + 4) i2 1] at hP hD
              have hP : va_P D vCl [(h, .inr (2, [.int 0, .int (nI M), .ref cl, .ref sa, .ref pa, .int tk])), (cl, .inl (cL, 32768, .inr (.inl (pkF (va_up (σ) k (wr (wr2 B n (sw n2) (sv n2) 4 (fb (uNl (smb C 0 n2).toInt64))) (n + sw n2 + 4) (i2 + 1) C, n + sw n2 + 4 + (i2 + 1), p)))))), (sa, .inl (cI, 4, .inl (fun i9 => nI ((va_up (σ) k (wr (wr2 B n (sw n2) (sv n2) 4 (fb (uNl (smb C 0 n2).toInt64))) (n + sw n2 + 4) (i2 + 1) C, n + sw n2 + 4 + (i2 + 1), p)) i9).2.1))), (pa, .inl (cI, 4, .inl (fun i9 => nI ((va_up (σ) k (wr (wr2 B n (sw n2) (sv n2) 4 (fb (uNl (smb C 0 n2).toInt64))) (n + sw n2 + 4) (i2 + 1) C, n + sw n2 + 4 + (i2 + 1), p)) i9).2.2)))] H := hP
              have hD : va_D A [(h, .inr (2, [.int 0, .int (nI M), .ref cl, .ref sa, .ref pa, .int tk])), (cl, .inl (cL, 32768, .inr (.inl (pkF (va_up (σ) k (wr (wr2 B n (sw n2) (sv n2) 4 (fb (uNl (smb C 0 n2).toInt64))) (n + sw n2 + 4) (i2 + 1) C, n + sw n2 + 4 + (i2 + 1), p)))))), (sa, .inl (cI, 4, .inl (fun i9 => nI ((va_up (σ) k (wr (wr2 B n (sw n2) (sv n2) 4 (fb (uNl (smb C 0 n2).toInt64))) (n + sw n2 + 4) (i2 + 1) C, n + sw n2 + 4 + (i2 + 1), p)) i9).2.1))), (pa, .inl (cI, 4, .inl (fun i9 => nI ((va_up (σ) k (wr (wr2 B n (sw n2) (sv n2) 4 (fb (uNl (smb C 0 n2).toInt64))) (n + sw n2 + 4) (i2 + 1) C, n + sw n2 + 4 + (i2 + 1), p)) i9).2.2)))] := hD
              obtain ⟨v129, ev129⟩ : ∃ y : Int32, y = nI i2 + 1 := ⟨_, rfl⟩
              refine lv_iinc (v := v129) (lv' := [(7, .int v129), (0, .ref h), (1, .int (nI k)), (2, .int (nI f1)), (3, .int 4), (4, .int (nI n2)), (5, .int (nI (sw n2)))]) hx hb d_M_wrap_129 hl (k := 0) rfl (by rw [ev129]; rfl) (by decide) rfl (fun ls hl => ?_)
              have ev129 : v129 = nI (i2 + 1) := by rw [ev129]; exact nI_1 i2
              subst ev129
              refine lv_goto (tgt := 110) hx hb d_M_wrap_132 (by decide) ?_
              exact ih_loop (i2 + 1) (by omega) (by omega) _ _ (hP.sub [0, 1, 2, 3] rfl) (hD.sub [0, 1, 2, 3] (by decide) rfl) hS ls (lv_sub hl [0, 1, 2, 3, 4, 5, 6] rfl)
        exact loop (n2 + 1) 0 (by omega) (by omega) _ _ (hP.sub [0, 1, 2, 3] rfl) (hD.sub [0, 1, 2, 3] (by decide) rfl) hS ls (lv_sub hl [0, 4, 5, 6, 7, 3, 2] rfl)
      · refine lv_if_ne (tgt := 57) hx hb d_M_wrap_48 (by decide) (fun q9 => absurd (by decide) q9) (fun _ => ?_)
        rw [hρ] at hF
        have hF2 : M < n + (sw n2 + 4 + n2) := Nat.not_le.mp hF
        refine lv_aload_n hx hb d_M_wrap_51 rfl (lv_at hl 2 rfl) ?_
        refine lv_iconst (v := 2) hx hb d_M_wrap_52 (by decide) ?_
        have hPc := hP
        have hFc := va_free (wc := [(h, .inr (2, [.int 0, .int (nI M), .ref cl, .ref sa, .ref pa, .int tk])), (cl, .inl (cL, 32768, .inr (.inl (pkF (σ))))), (sa, .inl (cI, 4, .inl (fun i9 => nI ((σ) i9).2.1))), (pa, .inl (cI, 4, .inl (fun i9 => nI ((σ) i9).2.2)))]) hD hS hAq [0, 1, 2, 3] rfl
        have hKc := hK.sub (tys' := [(cL, .long), (cI, .int)]) [0, 1] rfl
        refine va_calli (va_runV (As := [.int 2]) (rest := []) ⟨hx, hb, hml, hown, hA⟩ (c_M_fail l D cL cI h cl sa pa M 0 tk (σ) s.heap.size 2) (q_M_fail hA k3_4 rfl rfl ⟨(Nat.le_of_ble_eq_true rfl), (Nat.le_of_ble_eq_true rfl)⟩) (ox_V (va_recv hKc hPc (ci := 2) (q0 := 0) rfl rfl) (oxw_S hPc hKc hD)) rfl rfl hl.1 rfl (lv_room (Nat.le_of_ble_eq_true rfl)) d_M_wrap_53 ⟨(Nat.le_of_ble_eq_true rfl), (Nat.le_of_ble_eq_true rfl)⟩) hS (fun q _ h => hFc q h) hFc (fun r53 u9 t9 H1 locs ht9 hvm9 hw9 hB9 hz1 hk1 hS => ?_)
        obtain ⟨hP, hK1, hD1⟩ := hB9
        rw [ht9] at hP
        obtain ⟨hP, hD⟩ := va_join (wr := []) (w1 := rfW cL cI h cl sa pa M 2 tk (σ)) hPc hD [0, 1, 2, 3] [] rfl rfl (by decide) (by decide) hk1 hFc hP hD1
        generalize H1 = H at hP hS ⊢
        have hP : va_P D vCl [(h, .inr (2, [.int 2, .int (nI M), .ref cl, .ref sa, .ref pa, .int tk])), (cl, .inl (cL, 32768, .inr (.inl (pkF (σ))))), (sa, .inl (cI, 4, .inl (fun i9 => nI ((σ) i9).2.1))), (pa, .inl (cI, 4, .inl (fun i9 => nI ((σ) i9).2.2)))] H := hP
        have hD : va_D A [(h, .inr (2, [.int 2, .int (nI M), .ref cl, .ref sa, .ref pa, .int tk])), (cl, .inl (cL, 32768, .inr (.inl (pkF (σ))))), (sa, .inl (cI, 4, .inl (fun i9 => nI ((σ) i9).2.1))), (pa, .inl (cI, 4, .inl (fun i9 => nI ((σ) i9).2.2)))] := hD
        subst hw9
        exact W.iret (v := 0) hx hb hr (fun t ht hW => ⟨⟨_, (2, σ, tk), rfl, (by unfold spFrame; simp only [hrk, hrf1, hρ, hρ2]; rw [if_neg (fun h8 => h8 ⟨hR, hR2⟩), if_pos hF2]), by rw [ht]; exact hP, va_K.moved hW.alike hK, hD⟩, hS.F ht⟩) hS.2.2 d_M_wrap_56
    · refine lv_if_ne (tgt := 20) hx hb d_M_wrap_11 (by decide) (fun q9 => absurd (by decide) q9) (fun _ => ?_)
      refine lv_aload_n hx hb d_M_wrap_14 rfl (lv_at hl 0 rfl) ?_
      refine lv_iconst (v := 1) hx hb d_M_wrap_15 (by decide) ?_
      have hPc := hP
      have hFc := va_free (wc := [(h, .inr (2, [.int 0, .int (nI M), .ref cl, .ref sa, .ref pa, .int tk])), (cl, .inl (cL, 32768, .inr (.inl (pkF (σ))))), (sa, .inl (cI, 4, .inl (fun i9 => nI ((σ) i9).2.1))), (pa, .inl (cI, 4, .inl (fun i9 => nI ((σ) i9).2.2)))]) hD hS hAq [0, 1, 2, 3] rfl
      have hKc := hK.sub (tys' := [(cL, .long), (cI, .int)]) [0, 1] rfl
      refine va_calli (va_runV (As := [.int 1]) (rest := []) ⟨hx, hb, hml, hown, hA⟩ (c_M_fail l D cL cI h cl sa pa M 0 tk (σ) s.heap.size 1) (q_M_fail hA k3_4 rfl rfl ⟨(Nat.le_of_ble_eq_true rfl), (Nat.le_of_ble_eq_true rfl)⟩) (ox_V (va_recv hKc hPc (ci := 2) (q0 := 0) rfl rfl) (oxw_S hPc hKc hD)) rfl rfl hl.1 rfl (lv_room (Nat.le_of_ble_eq_true rfl)) d_M_wrap_16 ⟨(Nat.le_of_ble_eq_true rfl), (Nat.le_of_ble_eq_true rfl)⟩) hS (fun q _ h => hFc q h) hFc (fun r16 u9 t9 H1 locs ht9 hvm9 hw9 hB9 hz1 hk1 hS => ?_)
      obtain ⟨hP, hK1, hD1⟩ := hB9
      rw [ht9] at hP
      obtain ⟨hP, hD⟩ := va_join (wr := []) (w1 := rfW cL cI h cl sa pa M 1 tk (σ)) hPc hD [0, 1, 2, 3] [] rfl rfl (by decide) (by decide) hk1 hFc hP hD1
      generalize H1 = H at hP hS ⊢
      have hP : va_P D vCl [(h, .inr (2, [.int 1, .int (nI M), .ref cl, .ref sa, .ref pa, .int tk])), (cl, .inl (cL, 32768, .inr (.inl (pkF (σ))))), (sa, .inl (cI, 4, .inl (fun i9 => nI ((σ) i9).2.1))), (pa, .inl (cI, 4, .inl (fun i9 => nI ((σ) i9).2.2)))] H := hP
      have hD : va_D A [(h, .inr (2, [.int 1, .int (nI M), .ref cl, .ref sa, .ref pa, .int tk])), (cl, .inl (cL, 32768, .inr (.inl (pkF (σ))))), (sa, .inl (cI, 4, .inl (fun i9 => nI ((σ) i9).2.1))), (pa, .inl (cI, 4, .inl (fun i9 => nI ((σ) i9).2.2)))] := hD
      subst hw9
      exact W.iret (v := 0) hx hb hr (fun t ht hW => ⟨⟨_, (1, σ, tk), rfl, (by unfold spFrame; rw [if_pos (fun h9 => by first | exact hR h9.1 | exact hR2 h9.2)]), by rw [ht]; exact hP, va_K.moved hW.alike hK, hD⟩, hS.F ht⟩) hS.2.2 d_M_wrap_19
  · refine lv_if_eq (tgt := 14) hx hb d_M_wrap_4 (by decide) (fun _ => ?_) (fun q9 => absurd (by decide) q9)
    refine lv_aload_n hx hb d_M_wrap_14 rfl (lv_at hl 0 rfl) ?_
    refine lv_iconst (v := 1) hx hb d_M_wrap_15 (by decide) ?_
    have hPc := hP
    have hFc := va_free (wc := [(h, .inr (2, [.int 0, .int (nI M), .ref cl, .ref sa, .ref pa, .int tk])), (cl, .inl (cL, 32768, .inr (.inl (pkF (σ))))), (sa, .inl (cI, 4, .inl (fun i9 => nI ((σ) i9).2.1))), (pa, .inl (cI, 4, .inl (fun i9 => nI ((σ) i9).2.2)))]) hD hS hAq [0, 1, 2, 3] rfl
    have hKc := hK.sub (tys' := [(cL, .long), (cI, .int)]) [0, 1] rfl
    refine va_calli (va_runV (As := [.int 1]) (rest := []) ⟨hx, hb, hml, hown, hA⟩ (c_M_fail l D cL cI h cl sa pa M 0 tk (σ) s.heap.size 1) (q_M_fail hA k3_4 rfl rfl ⟨(Nat.le_of_ble_eq_true rfl), (Nat.le_of_ble_eq_true rfl)⟩) (ox_V (va_recv hKc hPc (ci := 2) (q0 := 0) rfl rfl) (oxw_S hPc hKc hD)) rfl rfl hl.1 rfl (lv_room (Nat.le_of_ble_eq_true rfl)) d_M_wrap_16 ⟨(Nat.le_of_ble_eq_true rfl), (Nat.le_of_ble_eq_true rfl)⟩) hS (fun q _ h => hFc q h) hFc (fun r16 u9 t9 H1 locs ht9 hvm9 hw9 hB9 hz1 hk1 hS => ?_)
    obtain ⟨hP, hK1, hD1⟩ := hB9
    rw [ht9] at hP
    obtain ⟨hP, hD⟩ := va_join (wr := []) (w1 := rfW cL cI h cl sa pa M 1 tk (σ)) hPc hD [0, 1, 2, 3] [] rfl rfl (by decide) (by decide) hk1 hFc hP hD1
    generalize H1 = H at hP hS ⊢
    have hP : va_P D vCl [(h, .inr (2, [.int 1, .int (nI M), .ref cl, .ref sa, .ref pa, .int tk])), (cl, .inl (cL, 32768, .inr (.inl (pkF (σ))))), (sa, .inl (cI, 4, .inl (fun i9 => nI ((σ) i9).2.1))), (pa, .inl (cI, 4, .inl (fun i9 => nI ((σ) i9).2.2)))] H := hP
    have hD : va_D A [(h, .inr (2, [.int 1, .int (nI M), .ref cl, .ref sa, .ref pa, .int tk])), (cl, .inl (cL, 32768, .inr (.inl (pkF (σ))))), (sa, .inl (cI, 4, .inl (fun i9 => nI ((σ) i9).2.1))), (pa, .inl (cI, 4, .inl (fun i9 => nI ((σ) i9).2.2)))] := hD
    subst hw9
    exact W.iret (v := 0) hx hb hr (fun t ht hW => ⟨⟨_, (1, σ, tk), rfl, (by unfold spFrame; rw [if_pos (fun h9 => by first | exact hR h9.1 | exact hR2 h9.2)]), by rw [ht]; exact hP, va_K.moved hW.alike hK, hD⟩, hS.F ht⟩) hS.2.2 d_M_wrap_19
set_option maxHeartbeats 600000 in
set_option maxRecDepth 100000 in
/-- block -/
theorem c_M_block (l : Launch) (D : va_G) (cL cI : ClassId) (h cl sa pa M : Nat) (th tk : Int32) (σ : dkS) (sz : Nat) (x f : Int32) (hσ : dkok M σ) : Met l y_M_block w_M_block ({ frames := 4, cells := 0, slots := 0, locals := 100 }) (va_Pc [.ref h, .int x, .int f] (oxw sz D [(cL, .long), (cI, .int)] [(h, .inr (2, [.int th, .int (nI M), .ref cl, .ref sa, .ref pa, .int tk])), (cl, .inl (cL, 32768, .inr (.inl (pkF (σ))))), (sa, .inl (cI, 4, .inl (fun i9 => nI ((σ) i9).2.1))), (pa, .inl (cI, 4, .inl (fun i9 => nI ((σ) i9).2.2)))])) (va_Qi (fun (r : Int32) (uu : Nat × dkS × Int32) => spBlock M σ x f = (uu.1, r, uu.2.1)) (fun uu => ow D [(cL, .long), (cI, .int)] (va_A [(h, .inr (2, [.int th, .int (nI M), .ref cl, .ref sa, .ref pa, .int tk])), (cl, .inl (cL, 32768, .inr (.inl (pkF (σ))))), (sa, .inl (cI, 4, .inl (fun i9 => nI ((σ) i9).2.1))), (pa, .inl (cI, 4, .inl (fun i9 => nI ((σ) i9).2.2)))] sz) (rfW cL cI h cl sa pa M (nI uu.1) uu.2.2 uu.2.1)) (va_A [(h, .inr (2, [.int th, .int (nI M), .ref cl, .ref sa, .ref pa, .int tk])), (cl, .inl (cL, 32768, .inr (.inl (pkF (σ))))), (sa, .inl (cI, 4, .inl (fun i9 => nI ((σ) i9).2.1))), (pa, .inl (cI, 4, .inl (fun i9 => nI ((σ) i9).2.2)))] sz)) 0 0 (va_A [(h, .inr (2, [.int th, .int (nI M), .ref cl, .ref sa, .ref pa, .int tk])), (cl, .inl (cL, 32768, .inr (.inl (pkF (σ))))), (sa, .inl (cI, 4, .inl (fun i9 => nI ((σ) i9).2.1))), (pa, .inl (cI, 4, .inl (fun i9 => nI ((σ) i9).2.2)))] sz) := by
  refine Met.ofW (cc := b_M_block) (maxL := 3) (ret := (some .int)) (by decide) rfl ?_
  intro p9 e9 s m args below meth c9 s₁ BL hml hv
  obtain ⟨rfl, hsz, hP, hK, hD0⟩ := hv
  have hx := BL.exec
  have hb := BL.bytes
  have hr := BL.returns
  have hts := atoms_spec (ws := w_M_block) BL.pre
  have hA : ∀ w ∈ wsA, w.before _ s = true := fun w h => hts w (List.mem_cons_of_mem _ h)
  have hown : s.vm.findClass R_M = some m.cls := findClass_of_methodNamed BL.named
  have hlocks := BL.notSynchronized
  subst hsz
  have hD := hD0.self (sz := s.heap.size)
  generalize hAe : va_A [(h, .inr (2, [.int th, .int (nI M), .ref cl, .ref sa, .ref pa, .int tk])), (cl, .inl (cL, 32768, .inr (.inl (pkF (σ))))), (sa, .inl (cI, 4, .inl (fun i9 => nI ((σ) i9).2.1))), (pa, .inl (cI, 4, .inl (fun i9 => nI ((σ) i9).2.2)))] s.heap.size = A at hD ⊢
  have hAq : ∀ q : Nat, s.heap.size ≤ q → A q := fun q h => by rw [← hAe]; exact Or.inr h
  have hS : va_S A s.heap s.heap [] := va_S.rf
  have hP : va_P D vCl [(h, .inr (2, [.int th, .int (nI M), .ref cl, .ref sa, .ref pa, .int tk])), (cl, .inl (cL, 32768, .inr (.inl (pkF (σ))))), (sa, .inl (cI, 4, .inl (fun i9 => nI ((σ) i9).2.1))), (pa, .inl (cI, 4, .inl (fun i9 => nI ((σ) i9).2.2)))] s.heap := hP
  have hl := lv_entry ([.ref h, .int x, .int f]) (n := 3) (Nat.le_of_ble_eq_true rfl)
  rw [lg_entry_eq]
  generalize (lg_sl ([.ref h, .int x, .int f]) ++ List.replicate (3 - (lg_sl ([.ref h, .int x, .int f])).length) Slot.unset).toArray = ls at hl ⊢
  have hl : lv_has ls 3 [(0, .ref h), (1, .int x), (2, .int f)] := hl
  refine lv_aload_n hx hb d_M_block_0 rfl (lv_at hl 0 rfl) ?_
  refine lv_iconst (v := 0) hx hb d_M_block_1 (by decide) ?_
  refine va_put (D := D) (ci := 2) (v := .int 0) (ty := .int) (C := R_M) (T := F_M) (N := 6) hx hb hA i_M t_M t_M_ok n_M hown hK hP hD hS 0 rfl rfl 0 (by decide) (hA _ k2_212) (fun _ h9 => h9) rfl (by decide +kernel) rfl rfl (Nat.le_of_ble_eq_true rfl) d_M_block_2 (fun H locs hP hD hS => ?_)
  have hP : va_P D vCl [(h, .inr (2, [.int 0, .int (nI M), .ref cl, .ref sa, .ref pa, .int tk])), (cl, .inl (cL, 32768, .inr (.inl (pkF (σ))))), (sa, .inl (cI, 4, .inl (fun i9 => nI ((σ) i9).2.1))), (pa, .inl (cI, 4, .inl (fun i9 => nI ((σ) i9).2.2)))] H := hP
  have hD : va_D A [(h, .inr (2, [.int 0, .int (nI M), .ref cl, .ref sa, .ref pa, .int tk])), (cl, .inl (cL, 32768, .inr (.inl (pkF (σ))))), (sa, .inl (cI, 4, .inl (fun i9 => nI ((σ) i9).2.1))), (pa, .inl (cI, 4, .inl (fun i9 => nI ((σ) i9).2.2)))] := hD
  refine lv_aload_n hx hb d_M_block_5 rfl (lv_at hl 0 rfl) ?_
  refine lv_iload_n hx hb d_M_block_6 rfl (lv_at hl 1 rfl) ?_
  refine lv_iload_n hx hb d_M_block_7 rfl (lv_at hl 2 rfl) ?_
  refine lv_iconst (v := 0) hx hb d_M_block_8 (by decide) ?_
  have hPc := hP
  have hFc := va_free (wc := [(h, .inr (2, [.int 0, .int (nI M), .ref cl, .ref sa, .ref pa, .int tk])), (cl, .inl (cL, 32768, .inr (.inl (pkF (σ))))), (sa, .inl (cI, 4, .inl (fun i9 => nI ((σ) i9).2.1))), (pa, .inl (cI, 4, .inl (fun i9 => nI ((σ) i9).2.2)))]) hD hS hAq [0, 1, 2, 3] rfl
  have hKc := hK.sub (tys' := [(cL, .long), (cI, .int)]) [0, 1] rfl
  refine va_calli (va_runV (As := [.int x, .int f, .int 0]) (rest := []) ⟨hx, hb, hml, hown, hA⟩ (c_M_wrap0 l D cL cI h cl sa pa M 0 tk σ H.size x f hσ) (q_M_wrap hA k3_74 rfl rfl ⟨(Nat.le_of_ble_eq_true rfl), (Nat.le_of_ble_eq_true rfl)⟩) (ox_V (va_recv hKc hPc (ci := 2) (q0 := 0) rfl rfl) (oxw_S hPc hKc hD)) rfl rfl hl.1 rfl (lv_room (Nat.le_of_ble_eq_true rfl)) d_M_block_9 ⟨(Nat.le_of_ble_eq_true rfl), (Nat.le_of_ble_eq_true rfl)⟩) hS (fun q _ h => hFc q h) hFc (fun r9 u9 t9 H1 locs ht9 hvm9 hw9 hB9 hz1 hk1 hS => ?_)
  obtain ⟨hP, hK1, hD1⟩ := hB9
  rw [ht9] at hP
  obtain ⟨hP, hD⟩ := va_join (wr := []) (w1 := rfW cL cI h cl sa pa M (nI u9.1) u9.2.2 u9.2.1) hPc hD [0, 1, 2, 3] [] rfl rfl (by decide) (by decide) hk1 hFc hP hD1
  generalize H1 = H at hP hS ⊢
  have hP : va_P D vCl [(h, .inr (2, [.int (nI u9.1), .int (nI M), .ref cl, .ref sa, .ref pa, .int u9.2.2])), (cl, .inl (cL, 32768, .inr (.inl (pkF u9.2.1)))), (sa, .inl (cI, 4, .inl (fun i9 => nI (u9.2.1 i9).2.1))), (pa, .inl (cI, 4, .inl (fun i9 => nI (u9.2.1 i9).2.2)))] H := hP
  have hD : va_D A [(h, .inr (2, [.int (nI u9.1), .int (nI M), .ref cl, .ref sa, .ref pa, .int u9.2.2])), (cl, .inl (cL, 32768, .inr (.inl (pkF u9.2.1)))), (sa, .inl (cI, 4, .inl (fun i9 => nI (u9.2.1 i9).2.1))), (pa, .inl (cI, 4, .inl (fun i9 => nI (u9.2.1 i9).2.2)))] := hD
  exact W.iret (v := r9) hx hb hr (fun t ht hW => ⟨⟨_, u9, rfl, (hw9), by rw [ht]; exact hP, va_K.moved hW.alike hK, hD⟩, hS.F ht⟩) hS.2.2 d_M_block_12
set_option maxHeartbeats 600000 in
set_option maxRecDepth 100000 in
/-- frame -/
theorem c_M_frame (l : Launch) (D : va_G) (cL cI : ClassId) (h cl sa pa M : Nat) (th tk : Int32) (σ : dkS) (sz : Nat) (x f : Int32) (hσ : dkok M σ) : Met l y_M_frame w_M_frame ({ frames := 4, cells := 0, slots := 0, locals := 100 }) (va_Pc [.ref h, .int x, .int f] (oxw sz D [(cL, .long), (cI, .int)] [(h, .inr (2, [.int th, .int (nI M), .ref cl, .ref sa, .ref pa, .int tk])), (cl, .inl (cL, 32768, .inr (.inl (pkF (σ))))), (sa, .inl (cI, 4, .inl (fun i9 => nI ((σ) i9).2.1))), (pa, .inl (cI, 4, .inl (fun i9 => nI ((σ) i9).2.2)))])) (va_Qi (fun (r : Int32) (uu : Nat × dkS × Int32) => spFrame M σ x f = (uu.1, r, uu.2.1)) (fun uu => ow D [(cL, .long), (cI, .int)] (va_A [(h, .inr (2, [.int th, .int (nI M), .ref cl, .ref sa, .ref pa, .int tk])), (cl, .inl (cL, 32768, .inr (.inl (pkF (σ))))), (sa, .inl (cI, 4, .inl (fun i9 => nI ((σ) i9).2.1))), (pa, .inl (cI, 4, .inl (fun i9 => nI ((σ) i9).2.2)))] sz) (rfW cL cI h cl sa pa M (nI uu.1) uu.2.2 uu.2.1)) (va_A [(h, .inr (2, [.int th, .int (nI M), .ref cl, .ref sa, .ref pa, .int tk])), (cl, .inl (cL, 32768, .inr (.inl (pkF (σ))))), (sa, .inl (cI, 4, .inl (fun i9 => nI ((σ) i9).2.1))), (pa, .inl (cI, 4, .inl (fun i9 => nI ((σ) i9).2.2)))] sz)) 0 0 (va_A [(h, .inr (2, [.int th, .int (nI M), .ref cl, .ref sa, .ref pa, .int tk])), (cl, .inl (cL, 32768, .inr (.inl (pkF (σ))))), (sa, .inl (cI, 4, .inl (fun i9 => nI ((σ) i9).2.1))), (pa, .inl (cI, 4, .inl (fun i9 => nI ((σ) i9).2.2)))] sz) := by
  refine Met.ofW (cc := b_M_frame) (maxL := 3) (ret := (some .int)) (by decide) rfl ?_
  intro p9 e9 s m args below meth c9 s₁ BL hml hv
  obtain ⟨rfl, hsz, hP, hK, hD0⟩ := hv
  have hx := BL.exec
  have hb := BL.bytes
  have hr := BL.returns
  have hts := atoms_spec (ws := w_M_frame) BL.pre
  have hA : ∀ w ∈ wsA, w.before _ s = true := fun w h => hts w (List.mem_cons_of_mem _ h)
  have hown : s.vm.findClass R_M = some m.cls := findClass_of_methodNamed BL.named
  have hlocks := BL.notSynchronized
  subst hsz
  have hD := hD0.self (sz := s.heap.size)
  generalize hAe : va_A [(h, .inr (2, [.int th, .int (nI M), .ref cl, .ref sa, .ref pa, .int tk])), (cl, .inl (cL, 32768, .inr (.inl (pkF (σ))))), (sa, .inl (cI, 4, .inl (fun i9 => nI ((σ) i9).2.1))), (pa, .inl (cI, 4, .inl (fun i9 => nI ((σ) i9).2.2)))] s.heap.size = A at hD ⊢
  have hAq : ∀ q : Nat, s.heap.size ≤ q → A q := fun q h => by rw [← hAe]; exact Or.inr h
  have hS : va_S A s.heap s.heap [] := va_S.rf
  have hP : va_P D vCl [(h, .inr (2, [.int th, .int (nI M), .ref cl, .ref sa, .ref pa, .int tk])), (cl, .inl (cL, 32768, .inr (.inl (pkF (σ))))), (sa, .inl (cI, 4, .inl (fun i9 => nI ((σ) i9).2.1))), (pa, .inl (cI, 4, .inl (fun i9 => nI ((σ) i9).2.2)))] s.heap := hP
  have hl := lv_entry ([.ref h, .int x, .int f]) (n := 3) (Nat.le_of_ble_eq_true rfl)
  rw [lg_entry_eq]
  generalize (lg_sl ([.ref h, .int x, .int f]) ++ List.replicate (3 - (lg_sl ([.ref h, .int x, .int f])).length) Slot.unset).toArray = ls at hl ⊢
  have hl : lv_has ls 3 [(0, .ref h), (1, .int x), (2, .int f)] := hl
  refine lv_aload_n hx hb d_M_frame_0 rfl (lv_at hl 0 rfl) ?_
  refine lv_iconst (v := 0) hx hb d_M_frame_1 (by decide) ?_
  refine va_put (D := D) (ci := 2) (v := .int 0) (ty := .int) (C := R_M) (T := F_M) (N := 6) hx hb hA i_M t_M t_M_ok n_M hown hK hP hD hS 0 rfl rfl 0 (by decide) (hA _ k2_212) (fun _ h9 => h9) rfl (by decide +kernel) rfl rfl (Nat.le_of_ble_eq_true rfl) d_M_frame_2 (fun H locs hP hD hS => ?_)
  have hP : va_P D vCl [(h, .inr (2, [.int 0, .int (nI M), .ref cl, .ref sa, .ref pa, .int tk])), (cl, .inl (cL, 32768, .inr (.inl (pkF (σ))))), (sa, .inl (cI, 4, .inl (fun i9 => nI ((σ) i9).2.1))), (pa, .inl (cI, 4, .inl (fun i9 => nI ((σ) i9).2.2)))] H := hP
  have hD : va_D A [(h, .inr (2, [.int 0, .int (nI M), .ref cl, .ref sa, .ref pa, .int tk])), (cl, .inl (cL, 32768, .inr (.inl (pkF (σ))))), (sa, .inl (cI, 4, .inl (fun i9 => nI ((σ) i9).2.1))), (pa, .inl (cI, 4, .inl (fun i9 => nI ((σ) i9).2.2)))] := hD
  refine lv_aload_n hx hb d_M_frame_5 rfl (lv_at hl 0 rfl) ?_
  refine lv_iload_n hx hb d_M_frame_6 rfl (lv_at hl 1 rfl) ?_
  refine lv_iload_n hx hb d_M_frame_7 rfl (lv_at hl 2 rfl) ?_
  refine lv_iconst (v := 4) hx hb d_M_frame_8 (by decide) ?_
  have hPc := hP
  have hFc := va_free (wc := [(h, .inr (2, [.int 0, .int (nI M), .ref cl, .ref sa, .ref pa, .int tk])), (cl, .inl (cL, 32768, .inr (.inl (pkF (σ))))), (sa, .inl (cI, 4, .inl (fun i9 => nI ((σ) i9).2.1))), (pa, .inl (cI, 4, .inl (fun i9 => nI ((σ) i9).2.2)))]) hD hS hAq [0, 1, 2, 3] rfl
  have hKc := hK.sub (tys' := [(cL, .long), (cI, .int)]) [0, 1] rfl
  refine va_calli (va_runV (As := [.int x, .int f, .int 4]) (rest := []) ⟨hx, hb, hml, hown, hA⟩ (c_M_wrap4 l D cL cI h cl sa pa M 0 tk σ H.size x f hσ) (q_M_wrap hA k3_74 rfl rfl ⟨(Nat.le_of_ble_eq_true rfl), (Nat.le_of_ble_eq_true rfl)⟩) (ox_V (va_recv hKc hPc (ci := 2) (q0 := 0) rfl rfl) (oxw_S hPc hKc hD)) rfl rfl hl.1 rfl (lv_room (Nat.le_of_ble_eq_true rfl)) d_M_frame_9 ⟨(Nat.le_of_ble_eq_true rfl), (Nat.le_of_ble_eq_true rfl)⟩) hS (fun q _ h => hFc q h) hFc (fun r9 u9 t9 H1 locs ht9 hvm9 hw9 hB9 hz1 hk1 hS => ?_)
  obtain ⟨hP, hK1, hD1⟩ := hB9
  rw [ht9] at hP
  obtain ⟨hP, hD⟩ := va_join (wr := []) (w1 := rfW cL cI h cl sa pa M (nI u9.1) u9.2.2 u9.2.1) hPc hD [0, 1, 2, 3] [] rfl rfl (by decide) (by decide) hk1 hFc hP hD1
  generalize H1 = H at hP hS ⊢
  have hP : va_P D vCl [(h, .inr (2, [.int (nI u9.1), .int (nI M), .ref cl, .ref sa, .ref pa, .int u9.2.2])), (cl, .inl (cL, 32768, .inr (.inl (pkF u9.2.1)))), (sa, .inl (cI, 4, .inl (fun i9 => nI (u9.2.1 i9).2.1))), (pa, .inl (cI, 4, .inl (fun i9 => nI (u9.2.1 i9).2.2)))] H := hP
  have hD : va_D A [(h, .inr (2, [.int (nI u9.1), .int (nI M), .ref cl, .ref sa, .ref pa, .int u9.2.2])), (cl, .inl (cL, 32768, .inr (.inl (pkF u9.2.1)))), (sa, .inl (cI, 4, .inl (fun i9 => nI (u9.2.1 i9).2.1))), (pa, .inl (cI, 4, .inl (fun i9 => nI (u9.2.1 i9).2.2)))] := hD
  exact W.iret (v := r9) hx hb hr (fun t ht hW => ⟨⟨_, u9, rfl, (hw9), by rw [ht]; exact hP, va_K.moved hW.alike hK, hD⟩, hS.F ht⟩) hS.2.2 d_M_frame_12
