/-! THE REFERENCE: BLOCKS AND FRAMES READ -/
set_option maxHeartbeats 2000000 in
set_option maxRecDepth 100000 in
/-- unwrap, 0 -/
theorem c_M_unwrap0 (l : Launch) (D : va_G) (cL cI : ClassId) (h cl sa pa M : Nat) (th tk : Int32) (σ : dkS) (sz : Nat) (x f : Int32) (hσ : dkok M σ) : Met l y_M_unwrap w_M_unwrap ({ frames := 2, cells := 0, slots := 0, locals := 50 }) (va_Pc [.ref h, .int x, .int f, .int 0] (oxw sz D [(cL, .long), (cI, .int)] [(h, .inr (2, [.int 0, .int (nI M), .ref cl, .ref sa, .ref pa, .int tk])), (cl, .inl (cL, 32768, .inr (.inl (pkF (σ))))), (sa, .inl (cI, 4, .inl (fun i9 => nI ((σ) i9).2.1))), (pa, .inl (cI, 4, .inl (fun i9 => nI ((σ) i9).2.2)))])) (va_Qi (fun (r : Int32) (uu : Nat × dkS × Int32) => spReadBlock σ x f = (uu.1, r, uu.2.1)) (fun uu => ow D [(cL, .long), (cI, .int)] (va_A [(h, .inr (2, [.int 0, .int (nI M), .ref cl, .ref sa, .ref pa, .int tk])), (cl, .inl (cL, 32768, .inr (.inl (pkF (σ))))), (sa, .inl (cI, 4, .inl (fun i9 => nI ((σ) i9).2.1))), (pa, .inl (cI, 4, .inl (fun i9 => nI ((σ) i9).2.2)))] sz) (rfW cL cI h cl sa pa M (nI uu.1) uu.2.2 uu.2.1)) (va_A [(h, .inr (2, [.int 0, .int (nI M), .ref cl, .ref sa, .ref pa, .int tk])), (cl, .inl (cL, 32768, .inr (.inl (pkF (σ))))), (sa, .inl (cI, 4, .inl (fun i9 => nI ((σ) i9).2.1))), (pa, .inl (cI, 4, .inl (fun i9 => nI ((σ) i9).2.2)))] sz)) 0 0 (va_A [(h, .inr (2, [.int 0, .int (nI M), .ref cl, .ref sa, .ref pa, .int tk])), (cl, .inl (cL, 32768, .inr (.inl (pkF (σ))))), (sa, .inl (cI, 4, .inl (fun i9 => nI ((σ) i9).2.1))), (pa, .inl (cI, 4, .inl (fun i9 => nI ((σ) i9).2.2)))] sz) := by
  refine Met.ofW (cc := b_M_unwrap) (maxL := 9) (ret := (some .int)) (by decide) rfl ?_
  intro p9 e9 s m args below meth c9 s₁ BL hml hv
  obtain ⟨rfl, hsz, hP, hK, hD0⟩ := hv
  have hx := BL.exec
  have hb := BL.bytes
  have hr := BL.returns
  have hts := atoms_spec (ws := w_M_unwrap) BL.pre
  have hA : ∀ w ∈ wsA, w.before _ s = true := fun w h => hts w (List.mem_cons_of_mem _ h)
  have hown : s.vm.findClass R_M = some m.cls := findClass_of_methodNamed BL.named
  have hlocks := BL.notSynchronized
  subst hsz
  have hD := hD0.self (sz := s.heap.size)
  generalize hAe : va_A [(h, .inr (2, [.int 0, .int (nI M), .ref cl, .ref sa, .ref pa, .int tk])), (cl, .inl (cL, 32768, .inr (.inl (pkF (σ))))), (sa, .inl (cI, 4, .inl (fun i9 => nI ((σ) i9).2.1))), (pa, .inl (cI, 4, .inl (fun i9 => nI ((σ) i9).2.2)))] s.heap.size = A at hD ⊢
  have hAq : ∀ q : Nat, s.heap.size ≤ q → A q := fun q h => by rw [← hAe]; exact Or.inr h
  have hS : va_S A s.heap s.heap [] := va_S.rf
  have hP : va_P D vCl [(h, .inr (2, [.int 0, .int (nI M), .ref cl, .ref sa, .ref pa, .int tk])), (cl, .inl (cL, 32768, .inr (.inl (pkF (σ))))), (sa, .inl (cI, 4, .inl (fun i9 => nI ((σ) i9).2.1))), (pa, .inl (cI, 4, .inl (fun i9 => nI ((σ) i9).2.2)))] s.heap := hP
  have hl := lv_entry ([.ref h, .int x, .int f, .int 0]) (n := 9) (Nat.le_of_ble_eq_true rfl)
  rw [lg_entry_eq]
  generalize (lg_sl ([.ref h, .int x, .int f, .int 0]) ++ List.replicate (9 - (lg_sl ([.ref h, .int x, .int f, .int 0])).length) Slot.unset).toArray = ls at hl ⊢
  have hl : lv_has ls 9 [(0, .ref h), (1, .int x), (2, .int f), (3, .int 0)] := hl
  refine lv_iload_n hx hb d_M_unwrap_0 rfl (lv_at hl 1 rfl) ?_
  refine vp_callSi (W.runS (As := [.int x]) (rest := []) ⟨hx, hb, hml, hown, hA⟩ (c_M_isRow l x) (q_M_isRow hA k3_1 rfl rfl ⟨(Nat.le_of_ble_eq_true rfl), (Nat.le_of_ble_eq_true rfl)⟩) (⟨fun a U g mk q => q, fun U hU hW => ⟨rfl, trivial⟩⟩) rfl rfl hl.1 rfl (lv_room (Nat.le_of_ble_eq_true rfl)) d_M_unwrap_1 ⟨(Nat.le_of_ble_eq_true rfl), (Nat.le_of_ble_eq_true rfl)⟩) (fun r1 hr1 => ?_)
  rcases hr1 with ⟨hR, rfl⟩ | ⟨hR, rfl⟩
  · refine lv_if_eq (tgt := 14) hx hb d_M_unwrap_4 (by decide) (fun q9 => absurd q9 (by decide)) (fun _ => ?_)
    refine lv_iload_n hx hb d_M_unwrap_7 rfl (lv_at hl 2 rfl) ?_
    refine vp_callSi (W.runS (As := [.int f]) (rest := []) ⟨hx, hb, hml, hown, hA⟩ (c_M_isRow l f) (q_M_isRow hA k3_1 rfl rfl ⟨(Nat.le_of_ble_eq_true rfl), (Nat.le_of_ble_eq_true rfl)⟩) (⟨fun a U g mk q => q, fun U hU hW => ⟨rfl, trivial⟩⟩) rfl rfl hl.1 rfl (lv_room (Nat.le_of_ble_eq_true rfl)) d_M_unwrap_8 ⟨(Nat.le_of_ble_eq_true rfl), (Nat.le_of_ble_eq_true rfl)⟩) (fun r8 hr8 => ?_)
    rcases hr8 with ⟨hR2, rfl⟩ | ⟨hR2, rfl⟩
    · refine lv_if_ne (tgt := 20) hx hb d_M_unwrap_11 (by decide) (fun _ => ?_) (fun q9 => absurd q9 (by decide))
      obtain ⟨k, hk0, rfl⟩ := nI_of (show ¬ x < 0 by rw [Int32.lt_iff_toInt_lt, li_0]; exact Int.not_lt.mpr hR.1)
      have hk : k < 4 := by have h9 := hR.2; rw [nI_toInt hk0] at h9; omega
      have hrk : rj (nI k) = k := rj_n hk
      obtain ⟨⟨B, n, p⟩, hρ⟩ : ∃ ρ, σ k = ρ := ⟨_, rfl⟩
      have hk9 := hσ.2 k hk
      have hBσ : ∀ j, (σ k).1 j < 256 := hk9.2.2
      have hnσ : (σ k).2.1 ≤ 65536 := Nat.le_trans hk9.2.1 hσ.1
      rw [hρ] at hk9
      obtain ⟨hp, hn, hB⟩ := hk9
      have hp : p ≤ n := hp
      have hn : n ≤ M := hn
      have hB : ∀ j, B j < 256 := hB
      have hM := hσ.1
      obtain ⟨f1, hf10, rfl⟩ := nI_of (show ¬ f < 0 by rw [Int32.lt_iff_toInt_lt, li_0]; exact Int.not_lt.mpr hR2.1)
      have hf1 : f1 < 4 := by have h9 := hR2.2; rw [nI_toInt hf10] at h9; omega
      have hrf1 : rj (nI f1) = f1 := rj_n hf1
      obtain ⟨⟨C, n2, p2⟩, hρ2⟩ : ∃ ρ, σ f1 = ρ := ⟨_, rfl⟩
      have hk9 := hσ.2 f1 hf1
      have hBσ2 : ∀ j, (σ f1).1 j < 256 := hk9.2.2
      have hnσ2 : (σ f1).2.1 ≤ 65536 := Nat.le_trans hk9.2.1 hσ.1
      rw [hρ2] at hk9
      obtain ⟨hp2, hn2, hB2⟩ := hk9
      have hp2 : p2 ≤ n2 := hp2
      have hn2 : n2 ≤ M := hn2
      have hB2 : ∀ j, C j < 256 := hB2
      refine lv_iload_n hx hb d_M_unwrap_20 rfl (lv_at hl 1 rfl) ?_
      refine lv_iload_n hx hb d_M_unwrap_21 rfl (lv_at hl 2 rfl) ?_
      refine lv_icmp_ne (tgt := 31) hx hb d_M_unwrap_22 (by decide) (fun c22 => ?_) (fun c22 => ?_)
      · have hkf : ¬ k = f1 := fun q9 => c22 (by rw [q9])
        refine lv_aload_n hx hb d_M_unwrap_31 rfl (lv_at hl 0 rfl) ?_
        refine lv_iload_n hx hb d_M_unwrap_32 rfl (lv_at hl 1 rfl) ?_
        refine lv_aload_n hx hb d_M_unwrap_33 rfl (lv_at hl 0 rfl) ?_
        refine va_get (D := D) (ci := 2) (v := .ref pa) (C := R_M) (T := F_M) (N := 6) hx hb hA i_M hown hK hP 0 rfl rfl 4 (by decide) (hA _ k2_216) (fun _ h9 => h9) rfl d_M_unwrap_34 ?_
        refine lv_iload_n hx hb d_M_unwrap_37 rfl (lv_at hl 1 rfl) ?_
        refine va_iald hx hb hK hP 3 1 rfl rfl (vp_in_nI hk (by decide)) d_M_unwrap_38 ?_
        refine lv_topi (fun v38 ev38 => ?_)
        have ev38 : v38 = nI p := by rw [ev38]; show nI ((σ) (nI k).toNatClampNeg).2.2 = _; rw [nI_clamp (by omega), hρ]
        subst ev38
        have hPc := hP
        have hFc := va_free (wc := [(h, .inr (2, [.int 0, .int (nI M), .ref cl, .ref sa, .ref pa, .int tk])), (cl, .inl (cL, 32768, .inr (.inl (pkF (σ))))), (sa, .inl (cI, 4, .inl (fun i9 => nI ((σ) i9).2.1))), (pa, .inl (cI, 4, .inl (fun i9 => nI ((σ) i9).2.2)))]) hD hS hAq [0, 1, 2, 3] rfl
        have hKc := hK.sub (tys' := [(cL, .long), (cI, .int)]) [0, 1] rfl
        refine va_calll (va_runV (As := [.int (nI k), .int (nI p)]) (rest := []) ⟨hx, hb, hml, hown, hA⟩ (c_M_grouped l D cL cI h cl sa pa M 0 tk σ s.heap.size k hk hBσ hnσ p (by rw [hρ]; exact hp)) (q_M_grouped hA k3_111 rfl rfl ⟨(Nat.le_of_ble_eq_true rfl), (Nat.le_of_ble_eq_true rfl)⟩) (ox_V (va_recv hKc hPc (ci := 2) (q0 := 0) rfl rfl) (oxw_S hPc hKc hD)) rfl rfl hl.1 rfl (lv_room (Nat.le_of_ble_eq_true rfl)) d_M_unwrap_39 ⟨(Nat.le_of_ble_eq_true rfl), (Nat.le_of_ble_eq_true rfl)⟩) hS (fun q _ h => hFc q h) hFc (fun r39 u9 t9 H1 locs ht9 hvm9 hw9 hB9 hz1 hk1 hS => ?_)
        obtain ⟨hP, hK1, hD1⟩ := hB9
        rw [ht9] at hP
        obtain ⟨hP, hD⟩ := va_join (wr := []) (w1 := rfW cL cI h cl sa pa M 0 u9 (σ)) hPc hD [0, 1, 2, 3] [] rfl rfl (by decide) (by decide) hk1 hFc hP hD1
        generalize H1 = H at hP hS ⊢
        have hP : va_P D vCl [(h, .inr (2, [.int 0, .int (nI M), .ref cl, .ref sa, .ref pa, .int u9])), (cl, .inl (cL, 32768, .inr (.inl (pkF (σ))))), (sa, .inl (cI, 4, .inl (fun i9 => nI ((σ) i9).2.1))), (pa, .inl (cI, 4, .inl (fun i9 => nI ((σ) i9).2.2)))] H := hP
        have hD : va_D A [(h, .inr (2, [.int 0, .int (nI M), .ref cl, .ref sa, .ref pa, .int u9])), (cl, .inl (cL, 32768, .inr (.inl (pkF (σ))))), (sa, .inl (cI, 4, .inl (fun i9 => nI ((σ) i9).2.1))), (pa, .inl (cI, 4, .inl (fun i9 => nI ((σ) i9).2.2)))] := hD
        rcases hw9 with ⟨hg, rfl, rfl⟩ | ⟨hg, rfl, rfl⟩ | ⟨w, hg, rfl, hr9⟩
        · rw [hρ] at hg
          have hg : gw B p n 10 = -2 := hg
          refine lv_lstore (lv' := [(4, .long 0), (0, .ref h), (1, .int (nI k)), (2, .int (nI f1)), (3, .int 0)]) hx hb d_M_unwrap_42 hl (by decide) rfl (fun ls hl => ?_)
          refine lv_aload_n hx hb d_M_unwrap_44 rfl (lv_at hl 1 rfl) ?_
          refine va_get (D := D) (ci := 2) (v := .int (-2)) (C := R_M) (T := F_M) (N := 6) hx hb hA i_M hown hK hP 0 rfl rfl 5 (by decide) (hA _ k2_217) (fun _ h9 => h9) rfl d_M_unwrap_45 ?_
          refine lv_if_ge (tgt := 56) hx hb d_M_unwrap_48 (by decide) (fun q9 => absurd q9 (by decide)) (fun _ => ?_)
          refine lv_aload_n hx hb d_M_unwrap_51 rfl (lv_at hl 1 rfl) ?_
          have hPc := hP
          have hFc := va_free (wc := [(h, .inr (2, [.int 0, .int (nI M), .ref cl, .ref sa, .ref pa, .int (-2)])), (cl, .inl (cL, 32768, .inr (.inl (pkF (σ))))), (sa, .inl (cI, 4, .inl (fun i9 => nI ((σ) i9).2.1))), (pa, .inl (cI, 4, .inl (fun i9 => nI ((σ) i9).2.2)))]) hD hS hAq [0, 1, 2, 3] rfl
          have hKc := hK.sub (tys' := [(cL, .long), (cI, .int)]) [0, 1] rfl
          refine va_calli (va_runV (As := []) (rest := []) ⟨hx, hb, hml, hown, hA⟩ (c_M_failed l D cL cI h cl sa pa M 0 (-2) (σ) H.size 2 (by decide)) (q_M_failed hA k3_115 rfl rfl ⟨(Nat.le_of_ble_eq_true rfl), (Nat.le_of_ble_eq_true rfl)⟩) (ox_V (va_recv hKc hPc (ci := 2) (q0 := 0) rfl rfl) (oxw_S hPc hKc hD)) rfl rfl hl.1 rfl (lv_room (Nat.le_of_ble_eq_true rfl)) d_M_unwrap_52 ⟨(Nat.le_of_ble_eq_true rfl), (Nat.le_of_ble_eq_true rfl)⟩) hS (fun q _ h => hFc q h) hFc (fun r52 u9 t9 H1 locs ht9 hvm9 hw9 hB9 hz1 hk1 hS => ?_)
          obtain ⟨hP, hK1, hD1⟩ := hB9
          rw [ht9] at hP
          obtain ⟨hP, hD⟩ := va_join (wr := []) (w1 := rfW cL cI h cl sa pa M 2 (-2) (σ)) hPc hD [0, 1, 2, 3] [] rfl rfl (by decide) (by decide) hk1 hFc hP hD1
          generalize H1 = H at hP hS ⊢
          have hP : va_P D vCl [(h, .inr (2, [.int 2, .int (nI M), .ref cl, .ref sa, .ref pa, .int (-2)])), (cl, .inl (cL, 32768, .inr (.inl (pkF (σ))))), (sa, .inl (cI, 4, .inl (fun i9 => nI ((σ) i9).2.1))), (pa, .inl (cI, 4, .inl (fun i9 => nI ((σ) i9).2.2)))] H := hP
          have hD : va_D A [(h, .inr (2, [.int 2, .int (nI M), .ref cl, .ref sa, .ref pa, .int (-2)])), (cl, .inl (cL, 32768, .inr (.inl (pkF (σ))))), (sa, .inl (cI, 4, .inl (fun i9 => nI ((σ) i9).2.1))), (pa, .inl (cI, 4, .inl (fun i9 => nI ((σ) i9).2.2)))] := hD
          subst hw9
          exact W.iret (v := 0) hx hb hr (fun t ht hW => ⟨⟨_, (2, σ, (-2)), rfl, (by unfold spReadBlock gmσ gwσ; simp only [hrk, hrf1, hρ, hρ2]; rw [if_neg (fun h8 => h8 ⟨hR, hR2⟩), if_neg c22, if_pos hg]), by rw [ht]; exact hP, va_K.moved hW.alike hK, hD⟩, hS.F ht⟩) hS.2.2 d_M_unwrap_55
        · rw [hρ] at hg
          have hg : gw B p n 10 = -3 := hg
          refine lv_lstore (lv' := [(4, .long 0), (0, .ref h), (1, .int (nI k)), (2, .int (nI f1)), (3, .int 0)]) hx hb d_M_unwrap_42 hl (by decide) rfl (fun ls hl => ?_)
          refine lv_aload_n hx hb d_M_unwrap_44 rfl (lv_at hl 1 rfl) ?_
          refine va_get (D := D) (ci := 2) (v := .int (-3)) (C := R_M) (T := F_M) (N := 6) hx hb hA i_M hown hK hP 0 rfl rfl 5 (by decide) (hA _ k2_217) (fun _ h9 => h9) rfl d_M_unwrap_45 ?_
          refine lv_if_ge (tgt := 56) hx hb d_M_unwrap_48 (by decide) (fun q9 => absurd q9 (by decide)) (fun _ => ?_)
          refine lv_aload_n hx hb d_M_unwrap_51 rfl (lv_at hl 1 rfl) ?_
          have hPc := hP
          have hFc := va_free (wc := [(h, .inr (2, [.int 0, .int (nI M), .ref cl, .ref sa, .ref pa, .int (-3)])), (cl, .inl (cL, 32768, .inr (.inl (pkF (σ))))), (sa, .inl (cI, 4, .inl (fun i9 => nI ((σ) i9).2.1))), (pa, .inl (cI, 4, .inl (fun i9 => nI ((σ) i9).2.2)))]) hD hS hAq [0, 1, 2, 3] rfl
          have hKc := hK.sub (tys' := [(cL, .long), (cI, .int)]) [0, 1] rfl
          refine va_calli (va_runV (As := []) (rest := []) ⟨hx, hb, hml, hown, hA⟩ (c_M_failed l D cL cI h cl sa pa M 0 (-3) (σ) H.size 3 (by decide)) (q_M_failed hA k3_115 rfl rfl ⟨(Nat.le_of_ble_eq_true rfl), (Nat.le_of_ble_eq_true rfl)⟩) (ox_V (va_recv hKc hPc (ci := 2) (q0 := 0) rfl rfl) (oxw_S hPc hKc hD)) rfl rfl hl.1 rfl (lv_room (Nat.le_of_ble_eq_true rfl)) d_M_unwrap_52 ⟨(Nat.le_of_ble_eq_true rfl), (Nat.le_of_ble_eq_true rfl)⟩) hS (fun q _ h => hFc q h) hFc (fun r52 u9 t9 H1 locs ht9 hvm9 hw9 hB9 hz1 hk1 hS => ?_)
          obtain ⟨hP, hK1, hD1⟩ := hB9
          rw [ht9] at hP
          obtain ⟨hP, hD⟩ := va_join (wr := []) (w1 := rfW cL cI h cl sa pa M 3 (-3) (σ)) hPc hD [0, 1, 2, 3] [] rfl rfl (by decide) (by decide) hk1 hFc hP hD1
          generalize H1 = H at hP hS ⊢
          have hP : va_P D vCl [(h, .inr (2, [.int 3, .int (nI M), .ref cl, .ref sa, .ref pa, .int (-3)])), (cl, .inl (cL, 32768, .inr (.inl (pkF (σ))))), (sa, .inl (cI, 4, .inl (fun i9 => nI ((σ) i9).2.1))), (pa, .inl (cI, 4, .inl (fun i9 => nI ((σ) i9).2.2)))] H := hP
          have hD : va_D A [(h, .inr (2, [.int 3, .int (nI M), .ref cl, .ref sa, .ref pa, .int (-3)])), (cl, .inl (cL, 32768, .inr (.inl (pkF (σ))))), (sa, .inl (cI, 4, .inl (fun i9 => nI ((σ) i9).2.1))), (pa, .inl (cI, 4, .inl (fun i9 => nI ((σ) i9).2.2)))] := hD
          subst hw9
          exact W.iret (v := 0) hx hb hr (fun t ht hW => ⟨⟨_, (3, σ, (-3)), rfl, (by unfold spReadBlock gmσ gwσ; simp only [hrk, hrf1, hρ, hρ2]; rw [if_neg (fun h8 => h8 ⟨hR, hR2⟩), if_neg c22, if_neg (by rw [hg]; decide), if_pos hg]), by rw [ht]; exact hP, va_K.moved hW.alike hK, hD⟩, hS.F ht⟩) hS.2.2 d_M_unwrap_55
        · rw [hρ] at hg hr9
          have hg : gw B p n 10 = (w : Int) := hg
          have hr9 : r39 = lN (gs B p w) := hr9
          subst hr9
          obtain ⟨hw1, hw2, hw3, hw4⟩ := gw_ok 10 w (Nat.le_refl _) hg
          refine lv_lstore (lv' := [(4, .long (lN (gs B p w))), (0, .ref h), (1, .int (nI k)), (2, .int (nI f1)), (3, .int 0)]) hx hb d_M_unwrap_42 hl (by decide) rfl (fun ls hl => ?_)
          refine lv_aload_n hx hb d_M_unwrap_44 rfl (lv_at hl 1 rfl) ?_
          refine va_get (D := D) (ci := 2) (v := .int (nI w)) (C := R_M) (T := F_M) (N := 6) hx hb hA i_M hown hK hP 0 rfl rfl 5 (by decide) (hA _ k2_217) (fun _ h9 => h9) rfl d_M_unwrap_45 ?_
          refine lv_if_ge (tgt := 56) hx hb d_M_unwrap_48 (by decide) (fun c48 => ?_) (fun c48 => ?_)
          · have hgn : (gw B p n 10).toNat = w := by rw [hg]; rfl
            have h64 : gs B p w < 2 ^ 64 := gs_64 hw2 hw4
            refine lv_lload hx hb d_M_unwrap_56 (lv_at hl 0 rfl) ?_
            refine lv_lconst (v := 0) hx hb d_M_unwrap_58 (by decide) ?_
            refine W.lcmp hx hb d_M_unwrap_59 ?_
            refine lv_topi (fun v59 ev59 => ?_)
            refine lv_if_lt (tgt := 72) hx hb d_M_unwrap_60 (by decide) (fun c60 => ?_) (fun c60 => ?_)
            · have hg6 : 65536 < gs B p w := by
                first
                | (have := (hm_neg h64).mp ((lg_cmp_lt _ _).mp (by rw [← ev59]; exact c60)); omega)
                | (have := mt hle.mpr (fun z => c69 (by rw [ev68]; exact (lg_cmp_le _ _).mpr z)); omega)
              refine lv_aload_n hx hb d_M_unwrap_72 rfl (lv_at hl 1 rfl) ?_
              refine lv_iconst (v := 2) hx hb d_M_unwrap_73 (by decide) ?_
              have hPc := hP
              have hFc := va_free (wc := [(h, .inr (2, [.int 0, .int (nI M), .ref cl, .ref sa, .ref pa, .int (nI w)])), (cl, .inl (cL, 32768, .inr (.inl (pkF (σ))))), (sa, .inl (cI, 4, .inl (fun i9 => nI ((σ) i9).2.1))), (pa, .inl (cI, 4, .inl (fun i9 => nI ((σ) i9).2.2)))]) hD hS hAq [0, 1, 2, 3] rfl
              have hKc := hK.sub (tys' := [(cL, .long), (cI, .int)]) [0, 1] rfl
              refine va_calli (va_runV (As := [.int 2]) (rest := []) ⟨hx, hb, hml, hown, hA⟩ (c_M_fail l D cL cI h cl sa pa M 0 (nI w) (σ) H.size 2) (q_M_fail hA k3_4 rfl rfl ⟨(Nat.le_of_ble_eq_true rfl), (Nat.le_of_ble_eq_true rfl)⟩) (ox_V (va_recv hKc hPc (ci := 2) (q0 := 0) rfl rfl) (oxw_S hPc hKc hD)) rfl rfl hl.1 rfl (lv_room (Nat.le_of_ble_eq_true rfl)) d_M_unwrap_74 ⟨(Nat.le_of_ble_eq_true rfl), (Nat.le_of_ble_eq_true rfl)⟩) hS (fun q _ h => hFc q h) hFc (fun r74 u9 t9 H1 locs ht9 hvm9 hw9 hB9 hz1 hk1 hS => ?_)
              obtain ⟨hP, hK1, hD1⟩ := hB9
              rw [ht9] at hP
              obtain ⟨hP, hD⟩ := va_join (wr := []) (w1 := rfW cL cI h cl sa pa M 2 (nI w) (σ)) hPc hD [0, 1, 2, 3] [] rfl rfl (by decide) (by decide) hk1 hFc hP hD1
              generalize H1 = H at hP hS ⊢
              have hP : va_P D vCl [(h, .inr (2, [.int 2, .int (nI M), .ref cl, .ref sa, .ref pa, .int (nI w)])), (cl, .inl (cL, 32768, .inr (.inl (pkF (σ))))), (sa, .inl (cI, 4, .inl (fun i9 => nI ((σ) i9).2.1))), (pa, .inl (cI, 4, .inl (fun i9 => nI ((σ) i9).2.2)))] H := hP
              have hD : va_D A [(h, .inr (2, [.int 2, .int (nI M), .ref cl, .ref sa, .ref pa, .int (nI w)])), (cl, .inl (cL, 32768, .inr (.inl (pkF (σ))))), (sa, .inl (cI, 4, .inl (fun i9 => nI ((σ) i9).2.1))), (pa, .inl (cI, 4, .inl (fun i9 => nI ((σ) i9).2.2)))] := hD
              subst hw9
              exact W.iret (v := 0) hx hb hr (fun t ht hW => ⟨⟨_, (2, σ, nI w), rfl, (by unfold spReadBlock gmσ gwσ; simp only [hrk, hrf1, hρ, hρ2]; rw [if_neg (fun h8 => h8 ⟨hR, hR2⟩), if_neg c22, if_neg (by rw [hg]; omega), if_neg (by rw [hg]; omega), hgn, if_pos hg6]), by rw [ht]; exact hP, va_K.moved hW.alike hK, hD⟩, hS.F ht⟩) hS.2.2 d_M_unwrap_77
            · have hs : gs B p w < 2 ^ 63 := by have := mt (hm_neg h64).mpr (fun z => c60 (by rw [ev59]; exact (lg_cmp_lt _ _).mpr z)); omega
              have hle : lN (gs B p w) ≤ 65536 ↔ gs B p w ≤ 65536 := pk_lLE (b := 65536) hs (by decide)
              refine lv_lload hx hb d_M_unwrap_63 (lv_at hl 0 rfl) ?_
              refine lv_ldc2 (v := 65536) hx hb hown (hA _ k3_143) d_M_unwrap_65 ?_
              refine W.lcmp hx hb d_M_unwrap_68 ?_
              refine lv_topi (fun v68 ev68 => ?_)
              refine lv_if_le (tgt := 78) hx hb d_M_unwrap_69 (by decide) (fun c69 => ?_) (fun c69 => ?_)
              · have hg6 : gs B p w ≤ 65536 := hle.mp ((lg_cmp_le _ _).mp (by rw [← ev68]; exact c69))
                refine lv_lload hx hb d_M_unwrap_78 (lv_at hl 0 rfl) ?_
                refine lv_l2i hx hb d_M_unwrap_80 rfl ?_
                refine lv_topi (fun v80 ev80 => ?_)
                have ev80 : v80 = nI (gs B p w) := by rw [ev80]; exact lN_i _
                subst ev80
                refine lv_istore (lv' := [(6, .int (nI (gs B p w))), (4, .long (lN (gs B p w))), (0, .ref h), (1, .int (nI k)), (2, .int (nI f1)), (3, .int 0)]) hx hb d_M_unwrap_81 hl (by decide) rfl (fun ls hl => ?_)
                refine lv_aload_n hx hb d_M_unwrap_83 rfl (lv_at hl 2 rfl) ?_
                refine va_get (D := D) (ci := 2) (v := .ref pa) (C := R_M) (T := F_M) (N := 6) hx hb hA i_M hown hK hP 0 rfl rfl 4 (by decide) (hA _ k2_216) (fun _ h9 => h9) rfl d_M_unwrap_84 ?_
                refine lv_iload_n hx hb d_M_unwrap_87 rfl (lv_at hl 3 rfl) ?_
                refine va_iald hx hb hK hP 3 1 rfl rfl (vp_in_nI hk (by decide)) d_M_unwrap_88 ?_
                refine lv_topi (fun v88 ev88 => ?_)
                have ev88 : v88 = nI p := by rw [ev88]; show nI ((σ) (nI k).toNatClampNeg).2.2 = _; rw [nI_clamp (by omega), hρ]
                subst ev88
                refine lv_aload_n hx hb d_M_unwrap_89 rfl (lv_at hl 2 rfl) ?_
                refine va_get (D := D) (ci := 2) (v := .int (nI w)) (C := R_M) (T := F_M) (N := 6) hx hb hA i_M hown hK hP 0 rfl rfl 5 (by decide) (hA _ k2_217) (fun _ h9 => h9) rfl d_M_unwrap_90 ?_
                refine lv_iadd hx hb d_M_unwrap_93 ?_
                refine lv_topi (fun v93 ev93 => ?_)
                have ev93 : v93 = nI (p + w) := by rw [ev93]; exact nI_add _ _
                subst ev93
                refine lv_iload_n hx hb d_M_unwrap_94 rfl (lv_at hl 5 rfl) ?_
                refine lv_iadd hx hb d_M_unwrap_95 ?_
                refine lv_topi (fun v95 ev95 => ?_)
                have ev95 : v95 = nI (p + w) := by rw [ev95]; exact nI_add (p + w) 0
                subst ev95
                refine lv_istore (lv' := [(7, .int (nI (p + w))), (6, .int (nI (gs B p w))), (4, .long (lN (gs B p w))), (0, .ref h), (1, .int (nI k)), (2, .int (nI f1)), (3, .int 0)]) hx hb d_M_unwrap_96 hl (by decide) rfl (fun ls hl => ?_)
                refine lv_iload hx hb d_M_unwrap_98 (lv_at hl 0 rfl) ?_
                refine lv_aload_n hx hb d_M_unwrap_100 rfl (lv_at hl 3 rfl) ?_
                refine va_get (D := D) (ci := 2) (v := .ref sa) (C := R_M) (T := F_M) (N := 6) hx hb hA i_M hown hK hP 0 rfl rfl 3 (by decide) (hA _ k2_215) (fun _ h9 => h9) rfl d_M_unwrap_101 ?_
                refine lv_iload_n hx hb d_M_unwrap_104 rfl (lv_at hl 4 rfl) ?_
                refine va_iald hx hb hK hP 2 1 rfl rfl (vp_in_nI hk (by decide)) d_M_unwrap_105 ?_
                refine lv_topi (fun v105 ev105 => ?_)
                have ev105 : v105 = nI n := by rw [ev105]; show nI ((σ) (nI k).toNatClampNeg).2.1 = _; rw [nI_clamp (by omega), hρ]
                subst ev105
                refine lv_icmp_gt (tgt := 123) hx hb d_M_unwrap_106 (by decide) (fun c106 => ?_) (fun c106 => ?_)
                · have hl6 : n < p + (w + (gs B p w)) := by
                    first
                    | (have := (nI_ltI (a := n) (b := p + w) (by omega) (by omega)).mp c106; omega)
                    | (have := mt (nI_leI (a := gs B p w) (b := n - (p + w)) (by omega) (by omega)).mpr c120; omega)
                  refine lv_aload_n hx hb d_M_unwrap_123 rfl (lv_at hl 3 rfl) ?_
                  refine lv_iconst (v := 3) hx hb d_M_unwrap_124 (by decide) ?_
                  have hPc := hP
                  have hFc := va_free (wc := [(h, .inr (2, [.int 0, .int (nI M), .ref cl, .ref sa, .ref pa, .int (nI w)])), (cl, .inl (cL, 32768, .inr (.inl (pkF (σ))))), (sa, .inl (cI, 4, .inl (fun i9 => nI ((σ) i9).2.1))), (pa, .inl (cI, 4, .inl (fun i9 => nI ((σ) i9).2.2)))]) hD hS hAq [0, 1, 2, 3] rfl
                  have hKc := hK.sub (tys' := [(cL, .long), (cI, .int)]) [0, 1] rfl
                  refine va_calli (va_runV (As := [.int 3]) (rest := []) ⟨hx, hb, hml, hown, hA⟩ (c_M_fail l D cL cI h cl sa pa M 0 (nI w) (σ) H.size 3) (q_M_fail hA k3_4 rfl rfl ⟨(Nat.le_of_ble_eq_true rfl), (Nat.le_of_ble_eq_true rfl)⟩) (ox_V (va_recv hKc hPc (ci := 2) (q0 := 0) rfl rfl) (oxw_S hPc hKc hD)) rfl rfl hl.1 rfl (lv_room (Nat.le_of_ble_eq_true rfl)) d_M_unwrap_125 ⟨(Nat.le_of_ble_eq_true rfl), (Nat.le_of_ble_eq_true rfl)⟩) hS (fun q _ h => hFc q h) hFc (fun r125 u9 t9 H1 locs ht9 hvm9 hw9 hB9 hz1 hk1 hS => ?_)
                  obtain ⟨hP, hK1, hD1⟩ := hB9
                  rw [ht9] at hP
                  obtain ⟨hP, hD⟩ := va_join (wr := []) (w1 := rfW cL cI h cl sa pa M 3 (nI w) (σ)) hPc hD [0, 1, 2, 3] [] rfl rfl (by decide) (by decide) hk1 hFc hP hD1
                  generalize H1 = H at hP hS ⊢
                  have hP : va_P D vCl [(h, .inr (2, [.int 3, .int (nI M), .ref cl, .ref sa, .ref pa, .int (nI w)])), (cl, .inl (cL, 32768, .inr (.inl (pkF (σ))))), (sa, .inl (cI, 4, .inl (fun i9 => nI ((σ) i9).2.1))), (pa, .inl (cI, 4, .inl (fun i9 => nI ((σ) i9).2.2)))] H := hP
                  have hD : va_D A [(h, .inr (2, [.int 3, .int (nI M), .ref cl, .ref sa, .ref pa, .int (nI w)])), (cl, .inl (cL, 32768, .inr (.inl (pkF (σ))))), (sa, .inl (cI, 4, .inl (fun i9 => nI ((σ) i9).2.1))), (pa, .inl (cI, 4, .inl (fun i9 => nI ((σ) i9).2.2)))] := hD
                  subst hw9
                  exact W.iret (v := 0) hx hb hr (fun t ht hW => ⟨⟨_, (3, σ, nI w), rfl, (by unfold spReadBlock gmσ gwσ; simp only [hrk, hrf1, hρ, hρ2]; rw [if_neg (fun h8 => h8 ⟨hR, hR2⟩), if_neg c22, if_neg (by rw [hg]; omega), if_neg (by rw [hg]; omega), hgn, if_neg (Nat.not_lt.mpr hg6), if_pos hl6]), by rw [ht]; exact hP, va_K.moved hW.alike hK, hD⟩, hS.F ht⟩) hS.2.2 d_M_unwrap_128
                · have hfn : p + w ≤ n := by have := mt (nI_ltI (a := n) (b := p + w) (by omega) (by omega)).mpr c106; omega
                  refine lv_iload hx hb d_M_unwrap_109 (lv_at hl 1 rfl) ?_
                  refine lv_aload_n hx hb d_M_unwrap_111 rfl (lv_at hl 3 rfl) ?_
                  refine va_get (D := D) (ci := 2) (v := .ref sa) (C := R_M) (T := F_M) (N := 6) hx hb hA i_M hown hK hP 0 rfl rfl 3 (by decide) (hA _ k2_215) (fun _ h9 => h9) rfl d_M_unwrap_112 ?_
                  refine lv_iload_n hx hb d_M_unwrap_115 rfl (lv_at hl 4 rfl) ?_
                  refine va_iald hx hb hK hP 2 1 rfl rfl (vp_in_nI hk (by decide)) d_M_unwrap_116 ?_
                  refine lv_topi (fun v116 ev116 => ?_)
                  have ev116 : v116 = nI n := by rw [ev116]; show nI ((σ) (nI k).toNatClampNeg).2.1 = _; rw [nI_clamp (by omega), hρ]
                  subst ev116
                  refine lv_iload hx hb d_M_unwrap_117 (lv_at hl 0 rfl) ?_
                  refine lv_isub hx hb d_M_unwrap_119 ?_
                  refine lv_topi (fun v119 ev119 => ?_)
                  have ev119 : v119 = nI (n - (p + w)) := by rw [ev119]; exact pk_sub hfn
                  subst ev119
                  refine lv_icmp_le (tgt := 129) hx hb d_M_unwrap_120 (by decide) (fun c120 => ?_) (fun c120 => ?_)
                  · have hl6 : p + (w + (gs B p w)) ≤ n := by have := (nI_leI (a := gs B p w) (b := n - (p + w)) (by omega) (by omega)).mp c120; omega
                    refine lv_iload_n hx hb d_M_unwrap_129 rfl (lv_at hl 6 rfl) ?_
                    refine lv_if_le (tgt := 162) hx hb d_M_unwrap_130 (by decide) (fun _ => ?_) (fun q9 => absurd (by decide) q9)
                    rw [up_id hρ2] at hP hD
                    have hP : va_P D vCl [(h, .inr (2, [.int 0, .int (nI M), .ref cl, .ref sa, .ref pa, .int (nI w)])), (cl, .inl (cL, 32768, .inr (.inl (pkF (va_up σ f1 (C, n2, p2)))))), (sa, .inl (cI, 4, .inl (fun i9 => nI ((va_up σ f1 (C, n2, p2)) i9).2.1))), (pa, .inl (cI, 4, .inl (fun i9 => nI ((va_up σ f1 (C, n2, p2)) i9).2.2)))] H := hP
                    have hD : va_D A [(h, .inr (2, [.int 0, .int (nI M), .ref cl, .ref sa, .ref pa, .int (nI w)])), (cl, .inl (cL, 32768, .inr (.inl (pkF (va_up σ f1 (C, n2, p2)))))), (sa, .inl (cI, 4, .inl (fun i9 => nI ((va_up σ f1 (C, n2, p2)) i9).2.1))), (pa, .inl (cI, 4, .inl (fun i9 => nI ((va_up σ f1 (C, n2, p2)) i9).2.2)))] := hD
                    refine lv_aload_n hx hb d_M_unwrap_162 rfl (lv_at hl 3 rfl) ?_
                    refine va_get (D := D) (ci := 2) (v := .ref sa) (C := R_M) (T := F_M) (N := 6) hx hb hA i_M hown hK hP 0 rfl rfl 3 (by decide) (hA _ k2_215) (fun _ h9 => h9) rfl d_M_unwrap_163 ?_
                    refine lv_iload_n hx hb d_M_unwrap_166 rfl (lv_at hl 5 rfl) ?_
                    refine lv_iconst (v := 0) hx hb d_M_unwrap_167 (by decide) ?_
                    refine va_iast hx hb hK hP hD hS 2 1 rfl rfl (vp_in_nI hf1 (by decide)) d_M_unwrap_168 (fun H locs hP hD hS => ?_)
                    have hP : va_P D vCl [(h, .inr (2, [.int 0, .int (nI M), .ref cl, .ref sa, .ref pa, .int (nI w)])), (cl, .inl (cL, 32768, .inr (.inl (pkF (va_up σ f1 (C, n2, p2)))))), (sa, .inl (cI, 4, .inl (upd (fun i9 => nI ((va_up σ f1 (C, n2, p2)) i9).2.1) (nI f1).toNatClampNeg (nI 0)))), (pa, .inl (cI, 4, .inl (fun i9 => nI ((va_up σ f1 (C, n2, p2)) i9).2.2)))] H := hP
                    have hD : va_D A [(h, .inr (2, [.int 0, .int (nI M), .ref cl, .ref sa, .ref pa, .int (nI w)])), (cl, .inl (cL, 32768, .inr (.inl (pkF (va_up σ f1 (C, n2, p2)))))), (sa, .inl (cI, 4, .inl (upd (fun i9 => nI ((va_up σ f1 (C, n2, p2)) i9).2.1) (nI f1).toNatClampNeg (nI 0)))), (pa, .inl (cI, 4, .inl (fun i9 => nI ((va_up σ f1 (C, n2, p2)) i9).2.2)))] := hD
                    rw [sz_up (σ) hf1 C C n2 p2 0 p2, pc_nc (σ) f1 C n2 p2 0 p2, pl_nc (σ) f1 C C n2 0 p2] at hP hD
                    have hP : va_P D vCl [(h, .inr (2, [.int 0, .int (nI M), .ref cl, .ref sa, .ref pa, .int (nI w)])), (cl, .inl (cL, 32768, .inr (.inl (pkF (va_up (σ) f1 (C, 0, p2)))))), (sa, .inl (cI, 4, .inl (fun i9 => nI ((va_up (σ) f1 (C, 0, p2)) i9).2.1))), (pa, .inl (cI, 4, .inl (fun i9 => nI ((va_up (σ) f1 (C, 0, p2)) i9).2.2)))] H := hP
                    have hD : va_D A [(h, .inr (2, [.int 0, .int (nI M), .ref cl, .ref sa, .ref pa, .int (nI w)])), (cl, .inl (cL, 32768, .inr (.inl (pkF (va_up (σ) f1 (C, 0, p2)))))), (sa, .inl (cI, 4, .inl (fun i9 => nI ((va_up (σ) f1 (C, 0, p2)) i9).2.1))), (pa, .inl (cI, 4, .inl (fun i9 => nI ((va_up (σ) f1 (C, 0, p2)) i9).2.2)))] := hD
                    refine lv_aload_n hx hb d_M_unwrap_169 rfl (lv_at hl 3 rfl) ?_
                    refine va_get (D := D) (ci := 2) (v := .ref pa) (C := R_M) (T := F_M) (N := 6) hx hb hA i_M hown hK hP 0 rfl rfl 4 (by decide) (hA _ k2_216) (fun _ h9 => h9) rfl d_M_unwrap_170 ?_
                    refine lv_iload_n hx hb d_M_unwrap_173 rfl (lv_at hl 5 rfl) ?_
                    refine lv_iconst (v := 0) hx hb d_M_unwrap_174 (by decide) ?_
                    refine va_iast hx hb hK hP hD hS 3 1 rfl rfl (vp_in_nI hf1 (by decide)) d_M_unwrap_175 (fun H locs hP hD hS => ?_)
                    have hP : va_P D vCl [(h, .inr (2, [.int 0, .int (nI M), .ref cl, .ref sa, .ref pa, .int (nI w)])), (cl, .inl (cL, 32768, .inr (.inl (pkF (va_up (σ) f1 (C, 0, p2)))))), (sa, .inl (cI, 4, .inl (fun i9 => nI ((va_up (σ) f1 (C, 0, p2)) i9).2.1))), (pa, .inl (cI, 4, .inl (upd (fun i9 => nI ((va_up (σ) f1 (C, 0, p2)) i9).2.2) (nI f1).toNatClampNeg (nI 0))))] H := hP
                    have hD : va_D A [(h, .inr (2, [.int 0, .int (nI M), .ref cl, .ref sa, .ref pa, .int (nI w)])), (cl, .inl (cL, 32768, .inr (.inl (pkF (va_up (σ) f1 (C, 0, p2)))))), (sa, .inl (cI, 4, .inl (fun i9 => nI ((va_up (σ) f1 (C, 0, p2)) i9).2.1))), (pa, .inl (cI, 4, .inl (upd (fun i9 => nI ((va_up (σ) f1 (C, 0, p2)) i9).2.2) (nI f1).toNatClampNeg (nI 0))))] := hD
                    rw [pl_up (σ) hf1 C C 0 p2 0 0, pc_nc (σ) f1 C 0 p2 0 0, sz_nc (σ) f1 C C 0 p2 0] at hP hD
                    have hP : va_P D vCl [(h, .inr (2, [.int 0, .int (nI M), .ref cl, .ref sa, .ref pa, .int (nI w)])), (cl, .inl (cL, 32768, .inr (.inl (pkF (va_up (σ) f1 (C, 0, 0)))))), (sa, .inl (cI, 4, .inl (fun i9 => nI ((va_up (σ) f1 (C, 0, 0)) i9).2.1))), (pa, .inl (cI, 4, .inl (fun i9 => nI ((va_up (σ) f1 (C, 0, 0)) i9).2.2)))] H := hP
                    have hD : va_D A [(h, .inr (2, [.int 0, .int (nI M), .ref cl, .ref sa, .ref pa, .int (nI w)])), (cl, .inl (cL, 32768, .inr (.inl (pkF (va_up (σ) f1 (C, 0, 0)))))), (sa, .inl (cI, 4, .inl (fun i9 => nI ((va_up (σ) f1 (C, 0, 0)) i9).2.1))), (pa, .inl (cI, 4, .inl (fun i9 => nI ((va_up (σ) f1 (C, 0, 0)) i9).2.2)))] := hD
                    rw [show va_up (σ) f1 (C, 0, 0) = va_up (σ) f1 (wr C 0 0 (fun i9 => B (p + w + i9)), 0 + 0, 0) from by rw [wr_0, Nat.add_zero]] at hP hD
                    have hP : va_P D vCl [(h, .inr (2, [.int 0, .int (nI M), .ref cl, .ref sa, .ref pa, .int (nI w)])), (cl, .inl (cL, 32768, .inr (.inl (pkF (va_up (σ) f1 (wr C 0 0 (fun i9 => B (p + w + i9)), 0 + 0, 0)))))), (sa, .inl (cI, 4, .inl (fun i9 => nI ((va_up (σ) f1 (wr C 0 0 (fun i9 => B (p + w + i9)), 0 + 0, 0)) i9).2.1))), (pa, .inl (cI, 4, .inl (fun i9 => nI ((va_up (σ) f1 (wr C 0 0 (fun i9 => B (p + w + i9)), 0 + 0, 0)) i9).2.2)))] H := hP
                    have hD : va_D A [(h, .inr (2, [.int 0, .int (nI M), .ref cl, .ref sa, .ref pa, .int (nI w)])), (cl, .inl (cL, 32768, .inr (.inl (pkF (va_up (σ) f1 (wr C 0 0 (fun i9 => B (p + w + i9)), 0 + 0, 0)))))), (sa, .inl (cI, 4, .inl (fun i9 => nI ((va_up (σ) f1 (wr C 0 0 (fun i9 => B (p + w + i9)), 0 + 0, 0)) i9).2.1))), (pa, .inl (cI, 4, .inl (fun i9 => nI ((va_up (σ) f1 (wr C 0 0 (fun i9 => B (p + w + i9)), 0 + 0, 0)) i9).2.2)))] := hD
                    refine lv_iconst (v := 0) hx hb d_M_unwrap_176 (by decide) ?_
                    refine lv_topi (fun v176 ev176 => ?_)
                    have ev176 : v176 = nI 0 := by rw [ev176]; rfl
                    subst ev176
                    refine lv_istore (lv' := [(8, .int (nI 0)), (7, .int (nI (p + w))), (6, .int (nI (gs B p w))), (4, .long (lN (gs B p w))), (0, .ref h), (1, .int (nI k)), (2, .int (nI f1)), (3, .int 0)]) hx hb d_M_unwrap_177 hl (by decide) rfl (fun ls hl => ?_)
                    have loop : ∀ (q i2 : Nat), i2 + q = (gs B p w) + 1 → i2 ≤ (gs B p w) → ∀ (H : Heap) (locs : List Loc), va_P D vCl [(h, .inr (2, [.int 0, .int (nI M), .ref cl, .ref sa, .ref pa, .int (nI w)])), (cl, .inl (cL, 32768, .inr (.inl (pkF (va_up σ f1 (wr C 0 i2 (fun i9 => B (p + w + i9)), 0 + i2, 0)))))), (sa, .inl (cI, 4, .inl (fun i9 => nI ((va_up σ f1 (wr C 0 i2 (fun i9 => B (p + w + i9)), 0 + i2, 0)) i9).2.1))), (pa, .inl (cI, 4, .inl (fun i9 => nI ((va_up σ f1 (wr C 0 i2 (fun i9 => B (p + w + i9)), 0 + i2, 0)) i9).2.2)))] H → va_D A [(h, .inr (2, [.int 0, .int (nI M), .ref cl, .ref sa, .ref pa, .int (nI w)])), (cl, .inl (cL, 32768, .inr (.inl (pkF (va_up σ f1 (wr C 0 i2 (fun i9 => B (p + w + i9)), 0 + i2, 0)))))), (sa, .inl (cI, 4, .inl (fun i9 => nI ((va_up σ f1 (wr C 0 i2 (fun i9 => B (p + w + i9)), 0 + i2, 0)) i9).2.1))), (pa, .inl (cI, 4, .inl (fun i9 => nI ((va_up σ f1 (wr C 0 i2 (fun i9 => B (p + w + i9)), 0 + i2, 0)) i9).2.2)))] → va_S A s.heap H locs → ∀ (ls : Array Slot), lv_has ls 9 [(8, .int (nI i2)), (0, .ref h), (1, .int (nI k)), (2, .int (nI f1)), (6, .int (nI (gs B p w))), (7, .int (nI (p + w)))] → W p9 l e9 (headSpec w_M_unwrap ({ frames := 2, cells := 0, slots := 0, locals := 50 })).room s m [.ref h, .int (nI k), .int (nI f1), .int 0].toArray below meth c9 H locs 0 0 (MQ below (va_Qi (fun (r : Int32) (uu : Nat × dkS × Int32) => spReadBlock σ (nI k) (nI f1) = (uu.1, r, uu.2.1)) (fun uu => ow D [(cL, .long), (cI, .int)] A (rfW cL cI h cl sa pa M (nI uu.1) uu.2.2 uu.2.1)) A) [.ref h, .int (nI k), .int (nI f1), .int 0].toArray s 0 0 A) (F0 m 179 ls []) := by
                      intro q
                      induction q with
                      | zero =>
                        intro i2 hq hi2 H locs hP hD hS ls hl
                        exact absurd hq (by omega)
                      | succ q ih_loop =>
                        intro i2 hq hi2 H locs hP hD hS ls hl
                        refine lv_iload hx hb d_M_unwrap_179 (lv_at hl 0 rfl) ?_
                        refine lv_iload hx hb d_M_unwrap_181 (lv_at hl 4 rfl) ?_
                        refine lv_icmp_ge (tgt := 207) hx hb d_M_unwrap_183 (by decide) (fun c183 => ?_) (fun c183 => ?_)
                        · have hi4 : i2 = (gs B p w) := by have := (nI_leI (a := (gs B p w)) (b := i2) (by omega) (by omega)).mp c183; omega
                          rw [hi4, Nat.zero_add] at hP hD
                          have hρ3 : (va_up σ f1 (wr C 0 (gs B p w) (fun i9 => B (p + w + i9)), (gs B p w), 0)) k = (B, n, p) := by rw [up_n _ hkf]; exact hρ
                          rw [up_id hρ3] at hP hD
                          have hP : va_P D vCl [(h, .inr (2, [.int 0, .int (nI M), .ref cl, .ref sa, .ref pa, .int (nI w)])), (cl, .inl (cL, 32768, .inr (.inl (pkF (va_up (va_up σ f1 (wr C 0 (gs B p w) (fun i9 => B (p + w + i9)), (gs B p w), 0)) k (B, n, p)))))), (sa, .inl (cI, 4, .inl (fun i9 => nI ((va_up (va_up σ f1 (wr C 0 (gs B p w) (fun i9 => B (p + w + i9)), (gs B p w), 0)) k (B, n, p)) i9).2.1))), (pa, .inl (cI, 4, .inl (fun i9 => nI ((va_up (va_up σ f1 (wr C 0 (gs B p w) (fun i9 => B (p + w + i9)), (gs B p w), 0)) k (B, n, p)) i9).2.2)))] H := hP
                          have hD : va_D A [(h, .inr (2, [.int 0, .int (nI M), .ref cl, .ref sa, .ref pa, .int (nI w)])), (cl, .inl (cL, 32768, .inr (.inl (pkF (va_up (va_up σ f1 (wr C 0 (gs B p w) (fun i9 => B (p + w + i9)), (gs B p w), 0)) k (B, n, p)))))), (sa, .inl (cI, 4, .inl (fun i9 => nI ((va_up (va_up σ f1 (wr C 0 (gs B p w) (fun i9 => B (p + w + i9)), (gs B p w), 0)) k (B, n, p)) i9).2.1))), (pa, .inl (cI, 4, .inl (fun i9 => nI ((va_up (va_up σ f1 (wr C 0 (gs B p w) (fun i9 => B (p + w + i9)), (gs B p w), 0)) k (B, n, p)) i9).2.2)))] := hD
                          refine lv_aload_n hx hb d_M_unwrap_207 rfl (lv_at hl 1 rfl) ?_
                          refine va_get (D := D) (ci := 2) (v := .ref pa) (C := R_M) (T := F_M) (N := 6) hx hb hA i_M hown hK hP 0 rfl rfl 4 (by decide) (hA _ k2_216) (fun _ h9 => h9) rfl d_M_unwrap_208 ?_
                          refine lv_iload_n hx hb d_M_unwrap_211 rfl (lv_at hl 2 rfl) ?_
                          refine lv_iload hx hb d_M_unwrap_212 (lv_at hl 5 rfl) ?_
                          refine lv_iload hx hb d_M_unwrap_214 (lv_at hl 4 rfl) ?_
                          refine lv_iadd hx hb d_M_unwrap_216 ?_
                          refine lv_topi (fun v216 ev216 => ?_)
                          have ev216 : v216 = nI (p + w + (gs B p w)) := by rw [ev216]; exact nI_add _ _
                          subst ev216
                          refine va_iast hx hb hK hP hD hS 3 1 rfl rfl (vp_in_nI hk (by decide)) d_M_unwrap_217 (fun H locs hP hD hS => ?_)
                          have hP : va_P D vCl [(h, .inr (2, [.int 0, .int (nI M), .ref cl, .ref sa, .ref pa, .int (nI w)])), (cl, .inl (cL, 32768, .inr (.inl (pkF (va_up (va_up σ f1 (wr C 0 (gs B p w) (fun i9 => B (p + w + i9)), (gs B p w), 0)) k (B, n, p)))))), (sa, .inl (cI, 4, .inl (fun i9 => nI ((va_up (va_up σ f1 (wr C 0 (gs B p w) (fun i9 => B (p + w + i9)), (gs B p w), 0)) k (B, n, p)) i9).2.1))), (pa, .inl (cI, 4, .inl (upd (fun i9 => nI ((va_up (va_up σ f1 (wr C 0 (gs B p w) (fun i9 => B (p + w + i9)), (gs B p w), 0)) k (B, n, p)) i9).2.2) (nI k).toNatClampNeg (nI (p + w + (gs B p w))))))] H := hP
                          have hD : va_D A [(h, .inr (2, [.int 0, .int (nI M), .ref cl, .ref sa, .ref pa, .int (nI w)])), (cl, .inl (cL, 32768, .inr (.inl (pkF (va_up (va_up σ f1 (wr C 0 (gs B p w) (fun i9 => B (p + w + i9)), (gs B p w), 0)) k (B, n, p)))))), (sa, .inl (cI, 4, .inl (fun i9 => nI ((va_up (va_up σ f1 (wr C 0 (gs B p w) (fun i9 => B (p + w + i9)), (gs B p w), 0)) k (B, n, p)) i9).2.1))), (pa, .inl (cI, 4, .inl (upd (fun i9 => nI ((va_up (va_up σ f1 (wr C 0 (gs B p w) (fun i9 => B (p + w + i9)), (gs B p w), 0)) k (B, n, p)) i9).2.2) (nI k).toNatClampNeg (nI (p + w + (gs B p w))))))] := hD
                          rw [pl_up (va_up σ f1 (wr C 0 (gs B p w) (fun i9 => B (p + w + i9)), (gs B p w), 0)) hk B B n p n (p + w + (gs B p w)), pc_nc (va_up σ f1 (wr C 0 (gs B p w) (fun i9 => B (p + w + i9)), (gs B p w), 0)) k B n p n (p + w + (gs B p w)), sz_nc (va_up σ f1 (wr C 0 (gs B p w) (fun i9 => B (p + w + i9)), (gs B p w), 0)) k B B n p (p + w + (gs B p w))] at hP hD
                          have hP : va_P D vCl [(h, .inr (2, [.int 0, .int (nI M), .ref cl, .ref sa, .ref pa, .int (nI w)])), (cl, .inl (cL, 32768, .inr (.inl (pkF (va_up (va_up σ f1 (wr C 0 (gs B p w) (fun i9 => B (p + w + i9)), (gs B p w), 0)) k (B, n, p + w + (gs B p w))))))), (sa, .inl (cI, 4, .inl (fun i9 => nI ((va_up (va_up σ f1 (wr C 0 (gs B p w) (fun i9 => B (p + w + i9)), (gs B p w), 0)) k (B, n, p + w + (gs B p w))) i9).2.1))), (pa, .inl (cI, 4, .inl (fun i9 => nI ((va_up (va_up σ f1 (wr C 0 (gs B p w) (fun i9 => B (p + w + i9)), (gs B p w), 0)) k (B, n, p + w + (gs B p w))) i9).2.2)))] H := hP
                          have hD : va_D A [(h, .inr (2, [.int 0, .int (nI M), .ref cl, .ref sa, .ref pa, .int (nI w)])), (cl, .inl (cL, 32768, .inr (.inl (pkF (va_up (va_up σ f1 (wr C 0 (gs B p w) (fun i9 => B (p + w + i9)), (gs B p w), 0)) k (B, n, p + w + (gs B p w))))))), (sa, .inl (cI, 4, .inl (fun i9 => nI ((va_up (va_up σ f1 (wr C 0 (gs B p w) (fun i9 => B (p + w + i9)), (gs B p w), 0)) k (B, n, p + w + (gs B p w))) i9).2.1))), (pa, .inl (cI, 4, .inl (fun i9 => nI ((va_up (va_up σ f1 (wr C 0 (gs B p w) (fun i9 => B (p + w + i9)), (gs B p w), 0)) k (B, n, p + w + (gs B p w))) i9).2.2)))] := hD
                          refine lv_iload hx hb d_M_unwrap_218 (lv_at hl 4 rfl) ?_
                          exact W.iret (v := nI (gs B p w)) hx hb hr (fun t ht hW => ⟨⟨_, (0, va_up (va_up σ f1 (wr C 0 (gs B p w) (fun i9 => B (p + w + i9)), (gs B p w), 0)) k (B, n, p + w + (gs B p w)), nI w), rfl, (by rw [← up_sw hkf]; unfold spReadBlock gmσ gwσ; simp only [hrk, hrf1, hρ, hρ2]; rw [if_neg (fun h8 => h8 ⟨hR, hR2⟩), if_neg c22, if_neg (by rw [hg]; omega), if_neg (by rw [hg]; omega), hgn, if_neg (Nat.not_lt.mpr hg6), if_neg (Nat.not_lt.mpr hl6)]; unfold mvσ gmσ gwσ; simp only [hrk, hrf1, hρ, hρ2]; rw [hgn]), by rw [ht]; exact hP, va_K.moved hW.alike hK, hD⟩, hS.F ht⟩) hS.2.2 d_M_unwrap_220
                        · have hi3 : i2 < (gs B p w) := by have := mt (nI_leI (a := (gs B p w)) (b := i2) (by omega) (by omega)).mpr c183; omega
                          refine lv_aload_n hx hb d_M_unwrap_186 rfl (lv_at hl 1 rfl) ?_
                          refine lv_iload_n hx hb d_M_unwrap_187 rfl (lv_at hl 3 rfl) ?_
                          refine lv_aload_n hx hb d_M_unwrap_188 rfl (lv_at hl 1 rfl) ?_
                          refine lv_iload_n hx hb d_M_unwrap_189 rfl (lv_at hl 2 rfl) ?_
                          refine lv_iload hx hb d_M_unwrap_190 (lv_at hl 5 rfl) ?_
                          refine lv_iload hx hb d_M_unwrap_192 (lv_at hl 0 rfl) ?_
                          refine lv_iadd hx hb d_M_unwrap_194 ?_
                          refine lv_topi (fun v194 ev194 => ?_)
                          have ev194 : v194 = nI (p + w + i2) := by rw [ev194]; exact nI_add _ _
                          subst ev194
                          have hPc := hP.sub (ws' := [(h, .inr (2, [.int 0, .int (nI M), .ref cl, .ref sa, .ref pa, .int (nI w)])), (cl, .inl (cL, 32768, .inr (.inl (pkF (va_up σ f1 (wr C 0 i2 (fun i9 => B (p + w + i9)), 0 + i2, 0)))))), (sa, .inl (cI, 4, .inl (fun i9 => nI ((va_up σ f1 (wr C 0 i2 (fun i9 => B (p + w + i9)), 0 + i2, 0)) i9).2.1))), (pa, .inl (cI, 4, .inl (fun i9 => nI ((va_up σ f1 (wr C 0 i2 (fun i9 => B (p + w + i9)), 0 + i2, 0)) i9).2.2)))]) [0, 1, 2, 3] rfl
                          have hKc := hK.sub (tys' := [(cL, .long), (cI, .int)]) [0, 1] rfl
                          refine vp_callSi (W.runV (As := [.int (nI k), .int (nI (p + w + i2))]) (rest := [.int (nI f1), .ref h]) ⟨hx, hb, hml, hown, hA⟩ (c_M_at l D cL cI h cl sa pa M 0 (nI w) (va_up σ f1 (wr C 0 i2 (fun i9 => B (p + w + i9)), 0 + i2, 0)) k (p + w + i2) hk (by omega) (by rw [up_n _ hkf]; exact hBσ)) (q_M_at hA k3_66 rfl rfl ⟨(Nat.le_of_ble_eq_true rfl), (Nat.le_of_ble_eq_true rfl)⟩) (ox_V (va_recv hKc hPc (ci := 2) (q0 := 0) rfl rfl) (ox_S hPc hKc)) rfl rfl hl.1 rfl (lv_room (Nat.le_of_ble_eq_true rfl)) d_M_unwrap_195 ⟨(Nat.le_of_ble_eq_true rfl), (Nat.le_of_ble_eq_true rfl)⟩) (fun r195 hr195 => ?_)
                          have er195 : r195 = nI (B (p + w + i2)) := by rw [hr195, up_n _ hkf, hρ]
                          subst er195
                          have hPc := hP
                          have hFc := va_free (wc := [(h, .inr (2, [.int 0, .int (nI M), .ref cl, .ref sa, .ref pa, .int (nI w)])), (cl, .inl (cL, 32768, .inr (.inl (pkF (va_up σ f1 (wr C 0 i2 (fun i9 => B (p + w + i9)), 0 + i2, 0)))))), (sa, .inl (cI, 4, .inl (fun i9 => nI ((va_up σ f1 (wr C 0 i2 (fun i9 => B (p + w + i9)), 0 + i2, 0)) i9).2.1))), (pa, .inl (cI, 4, .inl (fun i9 => nI ((va_up σ f1 (wr C 0 i2 (fun i9 => B (p + w + i9)), 0 + i2, 0)) i9).2.2)))]) hD hS hAq [0, 1, 2, 3] rfl
                          have hKc := hK.sub (tys' := [(cL, .long), (cI, .int)]) [0, 1] rfl
                          refine va_callv (va_runV (As := [.int (nI f1), .int (nI (B (p + w + i2)))]) (rest := []) ⟨hx, hb, hml, hown, hA⟩ (c_M_add l D cL cI h cl sa pa M 0 (nI w) (σ) H.size f1 hf1 (wr C 0 i2 (fun i9 => B (p + w + i9))) (0 + i2) 0 (wr_lt hB2 (fun i9 _ => hB _)) ((fun i9 => B (p + w + i9)) i2) (by omega) (hB _)) (q_M_add hA k3_13 rfl rfl ⟨(Nat.le_of_ble_eq_true rfl), (Nat.le_of_ble_eq_true rfl)⟩) (ox_V (va_recv hKc hPc (ci := 2) (q0 := 0) rfl rfl) (oxw_S hPc hKc hD)) rfl rfl hl.1 rfl (lv_room (Nat.le_of_ble_eq_true rfl)) d_M_unwrap_198 ⟨(Nat.le_of_ble_eq_true rfl), (Nat.le_of_ble_eq_true rfl)⟩) hS (fun q _ h => hFc q h) hFc (fun u9 t9 H1 locs ht9 hvm9 hw9 hB9 hz1 hk1 hS => ?_)
                          obtain ⟨hP, hK1, hD1⟩ := hB9
                          rw [ht9] at hP
                          obtain ⟨hP, hD⟩ := va_join (wr := []) (w1 := rfW cL cI h cl sa pa M 0 (nI w) (va_up (σ) f1 (va_up (wr C 0 i2 (fun i9 => B (p + w + i9))) (0 + i2) ((fun i9 => B (p + w + i9)) i2), 0 + i2 + 1, 0))) hPc hD [0, 1, 2, 3] [] rfl rfl (by decide) (by decide) hk1 hFc hP hD1
                          generalize H1 = H at hP hS ⊢
                          have hP : va_P D vCl [(h, .inr (2, [.int 0, .int (nI M), .ref cl, .ref sa, .ref pa, .int (nI w)])), (cl, .inl (cL, 32768, .inr (.inl (pkF (va_up (σ) f1 (va_up (wr C 0 i2 (fun i9 => B (p + w + i9))) (0 + i2) ((fun i9 => B (p + w + i9)) i2), 0 + i2 + 1, 0)))))), (sa, .inl (cI, 4, .inl (fun i9 => nI ((va_up (σ) f1 (va_up (wr C 0 i2 (fun i9 => B (p + w + i9))) (0 + i2) ((fun i9 => B (p + w + i9)) i2), 0 + i2 + 1, 0)) i9).2.1))), (pa, .inl (cI, 4, .inl (fun i9 => nI ((va_up (σ) f1 (va_up (wr C 0 i2 (fun i9 => B (p + w + i9))) (0 + i2) ((fun i9 => B (p + w + i9)) i2), 0 + i2 + 1, 0)) i9).2.2)))] H := hP
                          have hD : va_D A [(h, .inr (2, [.int 0, .int (nI M), .ref cl, .ref sa, .ref pa, .int (nI w)])), (cl, .inl (cL, 32768, .inr (.inl (pkF (va_up (σ) f1 (va_up (wr C 0 i2 (fun i9 => B (p + w + i9))) (0 + i2) ((fun i9 => B (p + w + i9)) i2), 0 + i2 + 1, 0)))))), (sa, .inl (cI, 4, .inl (fun i9 => nI ((va_up (σ) f1 (va_up (wr C 0 i2 (fun i9 => B (p + w + i9))) (0 + i2) ((fun i9 => B (p + w + i9)) i2), 0 + i2 + 1, 0)) i9).2.1))), (pa, .inl (cI, 4, .inl (fun i9 => nI ((va_up (σ) f1 (va_up (wr C 0 i2 (fun i9 => B (p + w + i9))) (0 + i2) ((fun i9 => B (p + w + i9)) i2), 0 + i2 + 1, 0)) i9).2.2)))] := hD
                          rw [wr_s, Nat.add_assoc 0 i2 1] at hP hD
                          have hP : va_P D vCl [(h, .inr (2, [.int 0, .int (nI M), .ref cl, .ref sa, .ref pa, .int (nI w)])), (cl, .inl (cL, 32768, .inr (.inl (pkF (va_up (σ) f1 (wr C 0 (i2 + 1) (fun i9 => B (p + w + i9)), 0 + (i2 + 1), 0)))))), (sa, .inl (cI, 4, .inl (fun i9 => nI ((va_up (σ) f1 (wr C 0 (i2 + 1) (fun i9 => B (p + w + i9)), 0 + (i2 + 1), 0)) i9).2.1))), (pa, .inl (cI, 4, .inl (fun i9 => nI ((va_up (σ) f1 (wr C 0 (i2 + 1) (fun i9 => B (p + w + i9)), 0 + (i2 + 1), 0)) i9).2.2)))] H := hP
                          have hD : va_D A [(h, .inr (2, [.int 0, .int (nI M), .ref cl, .ref sa, .ref pa, .int (nI w)])), (cl, .inl (cL, 32768, .inr (.inl (pkF (va_up (σ) f1 (wr C 0 (i2 + 1) (fun i9 => B (p + w + i9)), 0 + (i2 + 1), 0)))))), (sa, .inl (cI, 4, .inl (fun i9 => nI ((va_up (σ) f1 (wr C 0 (i2 + 1) (fun i9 => B (p + w + i9)), 0 + (i2 + 1), 0)) i9).2.1))), (pa, .inl (cI, 4, .inl (fun i9 => nI ((va_up (σ) f1 (wr C 0 (i2 + 1) (fun i9 => B (p + w + i9)), 0 + (i2 + 1), 0)) i9).2.2)))] := hD
                          obtain ⟨v201, ev201⟩ : ∃ y : Int32, y = nI i2 + 1 := ⟨_, rfl⟩
                          refine lv_iinc (v := v201) (lv' := [(8, .int v201), (0, .ref h), (1, .int (nI k)), (2, .int (nI f1)), (6, .int (nI (gs B p w))), (7, .int (nI (p + w)))]) hx hb d_M_unwrap_201 hl (k := 0) rfl (by rw [ev201]; rfl) (by decide) rfl (fun ls hl => ?_)
                          have ev201 : v201 = nI (i2 + 1) := by rw [ev201]; exact nI_1 i2
                          subst ev201
                          refine lv_goto (tgt := 179) hx hb d_M_unwrap_204 (by decide) ?_
                          exact ih_loop (i2 + 1) (by omega) (by omega) _ _ (hP.sub [0, 1, 2, 3] rfl) (hD.sub [0, 1, 2, 3] (by decide) rfl) hS ls (lv_sub hl [0, 1, 2, 3, 4, 5] rfl)
                    exact loop ((gs B p w) + 1) 0 (by omega) (by omega) _ _ (hP.sub [0, 1, 2, 3] rfl) (hD.sub [0, 1, 2, 3] (by decide) rfl) hS ls (lv_sub hl [0, 4, 5, 6, 2, 1] rfl)
                  · have hl6 : n < p + (w + (gs B p w)) := by
                      first
                      | (have := (nI_ltI (a := n) (b := p + w) (by omega) (by omega)).mp c106; omega)
                      | (have := mt (nI_leI (a := gs B p w) (b := n - (p + w)) (by omega) (by omega)).mpr c120; omega)
                    refine lv_aload_n hx hb d_M_unwrap_123 rfl (lv_at hl 3 rfl) ?_
                    refine lv_iconst (v := 3) hx hb d_M_unwrap_124 (by decide) ?_
                    have hPc := hP
                    have hFc := va_free (wc := [(h, .inr (2, [.int 0, .int (nI M), .ref cl, .ref sa, .ref pa, .int (nI w)])), (cl, .inl (cL, 32768, .inr (.inl (pkF (σ))))), (sa, .inl (cI, 4, .inl (fun i9 => nI ((σ) i9).2.1))), (pa, .inl (cI, 4, .inl (fun i9 => nI ((σ) i9).2.2)))]) hD hS hAq [0, 1, 2, 3] rfl
                    have hKc := hK.sub (tys' := [(cL, .long), (cI, .int)]) [0, 1] rfl
                    refine va_calli (va_runV (As := [.int 3]) (rest := []) ⟨hx, hb, hml, hown, hA⟩ (c_M_fail l D cL cI h cl sa pa M 0 (nI w) (σ) H.size 3) (q_M_fail hA k3_4 rfl rfl ⟨(Nat.le_of_ble_eq_true rfl), (Nat.le_of_ble_eq_true rfl)⟩) (ox_V (va_recv hKc hPc (ci := 2) (q0 := 0) rfl rfl) (oxw_S hPc hKc hD)) rfl rfl hl.1 rfl (lv_room (Nat.le_of_ble_eq_true rfl)) d_M_unwrap_125 ⟨(Nat.le_of_ble_eq_true rfl), (Nat.le_of_ble_eq_true rfl)⟩) hS (fun q _ h => hFc q h) hFc (fun r125 u9 t9 H1 locs ht9 hvm9 hw9 hB9 hz1 hk1 hS => ?_)
                    obtain ⟨hP, hK1, hD1⟩ := hB9
                    rw [ht9] at hP
                    obtain ⟨hP, hD⟩ := va_join (wr := []) (w1 := rfW cL cI h cl sa pa M 3 (nI w) (σ)) hPc hD [0, 1, 2, 3] [] rfl rfl (by decide) (by decide) hk1 hFc hP hD1
                    generalize H1 = H at hP hS ⊢
                    have hP : va_P D vCl [(h, .inr (2, [.int 3, .int (nI M), .ref cl, .ref sa, .ref pa, .int (nI w)])), (cl, .inl (cL, 32768, .inr (.inl (pkF (σ))))), (sa, .inl (cI, 4, .inl (fun i9 => nI ((σ) i9).2.1))), (pa, .inl (cI, 4, .inl (fun i9 => nI ((σ) i9).2.2)))] H := hP
                    have hD : va_D A [(h, .inr (2, [.int 3, .int (nI M), .ref cl, .ref sa, .ref pa, .int (nI w)])), (cl, .inl (cL, 32768, .inr (.inl (pkF (σ))))), (sa, .inl (cI, 4, .inl (fun i9 => nI ((σ) i9).2.1))), (pa, .inl (cI, 4, .inl (fun i9 => nI ((σ) i9).2.2)))] := hD
                    subst hw9
                    exact W.iret (v := 0) hx hb hr (fun t ht hW => ⟨⟨_, (3, σ, nI w), rfl, (by unfold spReadBlock gmσ gwσ; simp only [hrk, hrf1, hρ, hρ2]; rw [if_neg (fun h8 => h8 ⟨hR, hR2⟩), if_neg c22, if_neg (by rw [hg]; omega), if_neg (by rw [hg]; omega), hgn, if_neg (Nat.not_lt.mpr hg6), if_pos hl6]), by rw [ht]; exact hP, va_K.moved hW.alike hK, hD⟩, hS.F ht⟩) hS.2.2 d_M_unwrap_128
              · have hg6 : 65536 < gs B p w := by
                  first
                  | (have := (hm_neg h64).mp ((lg_cmp_lt _ _).mp (by rw [← ev59]; exact c60)); omega)
                  | (have := mt hle.mpr (fun z => c69 (by rw [ev68]; exact (lg_cmp_le _ _).mpr z)); omega)
                refine lv_aload_n hx hb d_M_unwrap_72 rfl (lv_at hl 1 rfl) ?_
                refine lv_iconst (v := 2) hx hb d_M_unwrap_73 (by decide) ?_
                have hPc := hP
                have hFc := va_free (wc := [(h, .inr (2, [.int 0, .int (nI M), .ref cl, .ref sa, .ref pa, .int (nI w)])), (cl, .inl (cL, 32768, .inr (.inl (pkF (σ))))), (sa, .inl (cI, 4, .inl (fun i9 => nI ((σ) i9).2.1))), (pa, .inl (cI, 4, .inl (fun i9 => nI ((σ) i9).2.2)))]) hD hS hAq [0, 1, 2, 3] rfl
                have hKc := hK.sub (tys' := [(cL, .long), (cI, .int)]) [0, 1] rfl
                refine va_calli (va_runV (As := [.int 2]) (rest := []) ⟨hx, hb, hml, hown, hA⟩ (c_M_fail l D cL cI h cl sa pa M 0 (nI w) (σ) H.size 2) (q_M_fail hA k3_4 rfl rfl ⟨(Nat.le_of_ble_eq_true rfl), (Nat.le_of_ble_eq_true rfl)⟩) (ox_V (va_recv hKc hPc (ci := 2) (q0 := 0) rfl rfl) (oxw_S hPc hKc hD)) rfl rfl hl.1 rfl (lv_room (Nat.le_of_ble_eq_true rfl)) d_M_unwrap_74 ⟨(Nat.le_of_ble_eq_true rfl), (Nat.le_of_ble_eq_true rfl)⟩) hS (fun q _ h => hFc q h) hFc (fun r74 u9 t9 H1 locs ht9 hvm9 hw9 hB9 hz1 hk1 hS => ?_)
                obtain ⟨hP, hK1, hD1⟩ := hB9
                rw [ht9] at hP
                obtain ⟨hP, hD⟩ := va_join (wr := []) (w1 := rfW cL cI h cl sa pa M 2 (nI w) (σ)) hPc hD [0, 1, 2, 3] [] rfl rfl (by decide) (by decide) hk1 hFc hP hD1
                generalize H1 = H at hP hS ⊢
                have hP : va_P D vCl [(h, .inr (2, [.int 2, .int (nI M), .ref cl, .ref sa, .ref pa, .int (nI w)])), (cl, .inl (cL, 32768, .inr (.inl (pkF (σ))))), (sa, .inl (cI, 4, .inl (fun i9 => nI ((σ) i9).2.1))), (pa, .inl (cI, 4, .inl (fun i9 => nI ((σ) i9).2.2)))] H := hP
                have hD : va_D A [(h, .inr (2, [.int 2, .int (nI M), .ref cl, .ref sa, .ref pa, .int (nI w)])), (cl, .inl (cL, 32768, .inr (.inl (pkF (σ))))), (sa, .inl (cI, 4, .inl (fun i9 => nI ((σ) i9).2.1))), (pa, .inl (cI, 4, .inl (fun i9 => nI ((σ) i9).2.2)))] := hD
                subst hw9
                exact W.iret (v := 0) hx hb hr (fun t ht hW => ⟨⟨_, (2, σ, nI w), rfl, (by unfold spReadBlock gmσ gwσ; simp only [hrk, hrf1, hρ, hρ2]; rw [if_neg (fun h8 => h8 ⟨hR, hR2⟩), if_neg c22, if_neg (by rw [hg]; omega), if_neg (by rw [hg]; omega), hgn, if_pos hg6]), by rw [ht]; exact hP, va_K.moved hW.alike hK, hD⟩, hS.F ht⟩) hS.2.2 d_M_unwrap_77
          · exact absurd (nI_pos' (by omega)) c48
      · refine lv_aload_n hx hb d_M_unwrap_25 rfl (lv_at hl 0 rfl) ?_
        refine lv_iconst (v := 2) hx hb d_M_unwrap_26 (by decide) ?_
        have hPc := hP
        have hFc := va_free (wc := [(h, .inr (2, [.int 0, .int (nI M), .ref cl, .ref sa, .ref pa, .int tk])), (cl, .inl (cL, 32768, .inr (.inl (pkF (σ))))), (sa, .inl (cI, 4, .inl (fun i9 => nI ((σ) i9).2.1))), (pa, .inl (cI, 4, .inl (fun i9 => nI ((σ) i9).2.2)))]) hD hS hAq [0, 1, 2, 3] rfl
        have hKc := hK.sub (tys' := [(cL, .long), (cI, .int)]) [0, 1] rfl
        refine va_calli (va_runV (As := [.int 2]) (rest := []) ⟨hx, hb, hml, hown, hA⟩ (c_M_fail l D cL cI h cl sa pa M 0 tk (σ) s.heap.size 2) (q_M_fail hA k3_4 rfl rfl ⟨(Nat.le_of_ble_eq_true rfl), (Nat.le_of_ble_eq_true rfl)⟩) (ox_V (va_recv hKc hPc (ci := 2) (q0 := 0) rfl rfl) (oxw_S hPc hKc hD)) rfl rfl hl.1 rfl (lv_room (Nat.le_of_ble_eq_true rfl)) d_M_unwrap_27 ⟨(Nat.le_of_ble_eq_true rfl), (Nat.le_of_ble_eq_true rfl)⟩) hS (fun q _ h => hFc q h) hFc (fun r27 u9 t9 H1 locs ht9 hvm9 hw9 hB9 hz1 hk1 hS => ?_)
        obtain ⟨hP, hK1, hD1⟩ := hB9
        rw [ht9] at hP
        obtain ⟨hP, hD⟩ := va_join (wr := []) (w1 := rfW cL cI h cl sa pa M 2 tk (σ)) hPc hD [0, 1, 2, 3] [] rfl rfl (by decide) (by decide) hk1 hFc hP hD1
        generalize H1 = H at hP hS ⊢
        have hP : va_P D vCl [(h, .inr (2, [.int 2, .int (nI M), .ref cl, .ref sa, .ref pa, .int tk])), (cl, .inl (cL, 32768, .inr (.inl (pkF (σ))))), (sa, .inl (cI, 4, .inl (fun i9 => nI ((σ) i9).2.1))), (pa, .inl (cI, 4, .inl (fun i9 => nI ((σ) i9).2.2)))] H := hP
        have hD : va_D A [(h, .inr (2, [.int 2, .int (nI M), .ref cl, .ref sa, .ref pa, .int tk])), (cl, .inl (cL, 32768, .inr (.inl (pkF (σ))))), (sa, .inl (cI, 4, .inl (fun i9 => nI ((σ) i9).2.1))), (pa, .inl (cI, 4, .inl (fun i9 => nI ((σ) i9).2.2)))] := hD
        subst hw9
        exact W.iret (v := 0) hx hb hr (fun t ht hW => ⟨⟨_, (2, σ, tk), rfl, (by unfold spReadBlock gmσ gwσ; simp only [hrk, hrf1, hρ, hρ2]; rw [if_neg (fun h8 => h8 ⟨hR, hR2⟩), if_pos c22]), by rw [ht]; exact hP, va_K.moved hW.alike hK, hD⟩, hS.F ht⟩) hS.2.2 d_M_unwrap_30
    · refine lv_if_ne (tgt := 20) hx hb d_M_unwrap_11 (by decide) (fun q9 => absurd (by decide) q9) (fun _ => ?_)
      refine lv_aload_n hx hb d_M_unwrap_14 rfl (lv_at hl 0 rfl) ?_
      refine lv_iconst (v := 1) hx hb d_M_unwrap_15 (by decide) ?_
      have hPc := hP
      have hFc := va_free (wc := [(h, .inr (2, [.int 0, .int (nI M), .ref cl, .ref sa, .ref pa, .int tk])), (cl, .inl (cL, 32768, .inr (.inl (pkF (σ))))), (sa, .inl (cI, 4, .inl (fun i9 => nI ((σ) i9).2.1))), (pa, .inl (cI, 4, .inl (fun i9 => nI ((σ) i9).2.2)))]) hD hS hAq [0, 1, 2, 3] rfl
      have hKc := hK.sub (tys' := [(cL, .long), (cI, .int)]) [0, 1] rfl
      refine va_calli (va_runV (As := [.int 1]) (rest := []) ⟨hx, hb, hml, hown, hA⟩ (c_M_fail l D cL cI h cl sa pa M 0 tk (σ) s.heap.size 1) (q_M_fail hA k3_4 rfl rfl ⟨(Nat.le_of_ble_eq_true rfl), (Nat.le_of_ble_eq_true rfl)⟩) (ox_V (va_recv hKc hPc (ci := 2) (q0 := 0) rfl rfl) (oxw_S hPc hKc hD)) rfl rfl hl.1 rfl (lv_room (Nat.le_of_ble_eq_true rfl)) d_M_unwrap_16 ⟨(Nat.le_of_ble_eq_true rfl), (Nat.le_of_ble_eq_true rfl)⟩) hS (fun q _ h => hFc q h) hFc (fun r16 u9 t9 H1 locs ht9 hvm9 hw9 hB9 hz1 hk1 hS => ?_)
      obtain ⟨hP, hK1, hD1⟩ := hB9
      rw [ht9] at hP
      obtain ⟨hP, hD⟩ := va_join (wr := []) (w1 := rfW cL cI h cl sa pa M 1 tk (σ)) hPc hD [0, 1, 2, 3] [] rfl rfl (by decide) (by decide) hk1 hFc hP hD1
      generalize H1 = H at hP hS ⊢
      have hP : va_P D vCl [(h, .inr (2, [.int 1, .int (nI M), .ref cl, .ref sa, .ref pa, .int tk])), (cl, .inl (cL, 32768, .inr (.inl (pkF (σ))))), (sa, .inl (cI, 4, .inl (fun i9 => nI ((σ) i9).2.1))), (pa, .inl (cI, 4, .inl (fun i9 => nI ((σ) i9).2.2)))] H := hP
      have hD : va_D A [(h, .inr (2, [.int 1, .int (nI M), .ref cl, .ref sa, .ref pa, .int tk])), (cl, .inl (cL, 32768, .inr (.inl (pkF (σ))))), (sa, .inl (cI, 4, .inl (fun i9 => nI ((σ) i9).2.1))), (pa, .inl (cI, 4, .inl (fun i9 => nI ((σ) i9).2.2)))] := hD
      subst hw9
      exact W.iret (v := 0) hx hb hr (fun t ht hW => ⟨⟨_, (1, σ, tk), rfl, (by unfold spReadBlock; rw [if_pos (fun h9 => by first | exact hR h9.1 | exact hR2 h9.2)]), by rw [ht]; exact hP, va_K.moved hW.alike hK, hD⟩, hS.F ht⟩) hS.2.2 d_M_unwrap_19
  · refine lv_if_eq (tgt := 14) hx hb d_M_unwrap_4 (by decide) (fun _ => ?_) (fun q9 => absurd (by decide) q9)
    refine lv_aload_n hx hb d_M_unwrap_14 rfl (lv_at hl 0 rfl) ?_
    refine lv_iconst (v := 1) hx hb d_M_unwrap_15 (by decide) ?_
    have hPc := hP
    have hFc := va_free (wc := [(h, .inr (2, [.int 0, .int (nI M), .ref cl, .ref sa, .ref pa, .int tk])), (cl, .inl (cL, 32768, .inr (.inl (pkF (σ))))), (sa, .inl (cI, 4, .inl (fun i9 => nI ((σ) i9).2.1))), (pa, .inl (cI, 4, .inl (fun i9 => nI ((σ) i9).2.2)))]) hD hS hAq [0, 1, 2, 3] rfl
    have hKc := hK.sub (tys' := [(cL, .long), (cI, .int)]) [0, 1] rfl
    refine va_calli (va_runV (As := [.int 1]) (rest := []) ⟨hx, hb, hml, hown, hA⟩ (c_M_fail l D cL cI h cl sa pa M 0 tk (σ) s.heap.size 1) (q_M_fail hA k3_4 rfl rfl ⟨(Nat.le_of_ble_eq_true rfl), (Nat.le_of_ble_eq_true rfl)⟩) (ox_V (va_recv hKc hPc (ci := 2) (q0 := 0) rfl rfl) (oxw_S hPc hKc hD)) rfl rfl hl.1 rfl (lv_room (Nat.le_of_ble_eq_true rfl)) d_M_unwrap_16 ⟨(Nat.le_of_ble_eq_true rfl), (Nat.le_of_ble_eq_true rfl)⟩) hS (fun q _ h => hFc q h) hFc (fun r16 u9 t9 H1 locs ht9 hvm9 hw9 hB9 hz1 hk1 hS => ?_)
    obtain ⟨hP, hK1, hD1⟩ := hB9
    rw [ht9] at hP
    obtain ⟨hP, hD⟩ := va_join (wr := []) (w1 := rfW cL cI h cl sa pa M 1 tk (σ)) hPc hD [0, 1, 2, 3] [] rfl rfl (by decide) (by decide) hk1 hFc hP hD1
    generalize H1 = H at hP hS ⊢
    have hP : va_P D vCl [(h, .inr (2, [.int 1, .int (nI M), .ref cl, .ref sa, .ref pa, .int tk])), (cl, .inl (cL, 32768, .inr (.inl (pkF (σ))))), (sa, .inl (cI, 4, .inl (fun i9 => nI ((σ) i9).2.1))), (pa, .inl (cI, 4, .inl (fun i9 => nI ((σ) i9).2.2)))] H := hP
    have hD : va_D A [(h, .inr (2, [.int 1, .int (nI M), .ref cl, .ref sa, .ref pa, .int tk])), (cl, .inl (cL, 32768, .inr (.inl (pkF (σ))))), (sa, .inl (cI, 4, .inl (fun i9 => nI ((σ) i9).2.1))), (pa, .inl (cI, 4, .inl (fun i9 => nI ((σ) i9).2.2)))] := hD
    subst hw9
    exact W.iret (v := 0) hx hb hr (fun t ht hW => ⟨⟨_, (1, σ, tk), rfl, (by unfold spReadBlock; rw [if_pos (fun h9 => by first | exact hR h9.1 | exact hR2 h9.2)]), by rw [ht]; exact hP, va_K.moved hW.alike hK, hD⟩, hS.F ht⟩) hS.2.2 d_M_unwrap_19
set_option maxHeartbeats 2000000 in
set_option maxRecDepth 100000 in
/-- unwrap, 4 -/
theorem c_M_unwrap4 (l : Launch) (D : va_G) (cL cI : ClassId) (h cl sa pa M : Nat) (th tk : Int32) (σ : dkS) (sz : Nat) (x f : Int32) (hσ : dkok M σ) : Met l y_M_unwrap w_M_unwrap ({ frames := 2, cells := 0, slots := 0, locals := 50 }) (va_Pc [.ref h, .int x, .int f, .int 4] (oxw sz D [(cL, .long), (cI, .int)] [(h, .inr (2, [.int 0, .int (nI M), .ref cl, .ref sa, .ref pa, .int tk])), (cl, .inl (cL, 32768, .inr (.inl (pkF (σ))))), (sa, .inl (cI, 4, .inl (fun i9 => nI ((σ) i9).2.1))), (pa, .inl (cI, 4, .inl (fun i9 => nI ((σ) i9).2.2)))])) (va_Qi (fun (r : Int32) (uu : Nat × dkS × Int32) => spReadFrame σ x f = (uu.1, r, uu.2.1)) (fun uu => ow D [(cL, .long), (cI, .int)] (va_A [(h, .inr (2, [.int 0, .int (nI M), .ref cl, .ref sa, .ref pa, .int tk])), (cl, .inl (cL, 32768, .inr (.inl (pkF (σ))))), (sa, .inl (cI, 4, .inl (fun i9 => nI ((σ) i9).2.1))), (pa, .inl (cI, 4, .inl (fun i9 => nI ((σ) i9).2.2)))] sz) (rfW cL cI h cl sa pa M (nI uu.1) uu.2.2 uu.2.1)) (va_A [(h, .inr (2, [.int 0, .int (nI M), .ref cl, .ref sa, .ref pa, .int tk])), (cl, .inl (cL, 32768, .inr (.inl (pkF (σ))))), (sa, .inl (cI, 4, .inl (fun i9 => nI ((σ) i9).2.1))), (pa, .inl (cI, 4, .inl (fun i9 => nI ((σ) i9).2.2)))] sz)) 0 0 (va_A [(h, .inr (2, [.int 0, .int (nI M), .ref cl, .ref sa, .ref pa, .int tk])), (cl, .inl (cL, 32768, .inr (.inl (pkF (σ))))), (sa, .inl (cI, 4, .inl (fun i9 => nI ((σ) i9).2.1))), (pa, .inl (cI, 4, .inl (fun i9 => nI ((σ) i9).2.2)))] sz) := by
  refine Met.ofW (cc := b_M_unwrap) (maxL := 9) (ret := (some .int)) (by decide) rfl ?_
  intro p9 e9 s m args below meth c9 s₁ BL hml hv
  obtain ⟨rfl, hsz, hP, hK, hD0⟩ := hv
  have hx := BL.exec
  have hb := BL.bytes
  have hr := BL.returns
  have hts := atoms_spec (ws := w_M_unwrap) BL.pre
  have hA : ∀ w ∈ wsA, w.before _ s = true := fun w h => hts w (List.mem_cons_of_mem _ h)
  have hown : s.vm.findClass R_M = some m.cls := findClass_of_methodNamed BL.named
  have hlocks := BL.notSynchronized
  subst hsz
  have hD := hD0.self (sz := s.heap.size)
  generalize hAe : va_A [(h, .inr (2, [.int 0, .int (nI M), .ref cl, .ref sa, .ref pa, .int tk])), (cl, .inl (cL, 32768, .inr (.inl (pkF (σ))))), (sa, .inl (cI, 4, .inl (fun i9 => nI ((σ) i9).2.1))), (pa, .inl (cI, 4, .inl (fun i9 => nI ((σ) i9).2.2)))] s.heap.size = A at hD ⊢
  have hAq : ∀ q : Nat, s.heap.size ≤ q → A q := fun q h => by rw [← hAe]; exact Or.inr h
  have hS : va_S A s.heap s.heap [] := va_S.rf
  have hP : va_P D vCl [(h, .inr (2, [.int 0, .int (nI M), .ref cl, .ref sa, .ref pa, .int tk])), (cl, .inl (cL, 32768, .inr (.inl (pkF (σ))))), (sa, .inl (cI, 4, .inl (fun i9 => nI ((σ) i9).2.1))), (pa, .inl (cI, 4, .inl (fun i9 => nI ((σ) i9).2.2)))] s.heap := hP
  have hl := lv_entry ([.ref h, .int x, .int f, .int 4]) (n := 9) (Nat.le_of_ble_eq_true rfl)
  rw [lg_entry_eq]
  generalize (lg_sl ([.ref h, .int x, .int f, .int 4]) ++ List.replicate (9 - (lg_sl ([.ref h, .int x, .int f, .int 4])).length) Slot.unset).toArray = ls at hl ⊢
  have hl : lv_has ls 9 [(0, .ref h), (1, .int x), (2, .int f), (3, .int 4)] := hl
  refine lv_iload_n hx hb d_M_unwrap_0 rfl (lv_at hl 1 rfl) ?_
  refine vp_callSi (W.runS (As := [.int x]) (rest := []) ⟨hx, hb, hml, hown, hA⟩ (c_M_isRow l x) (q_M_isRow hA k3_1 rfl rfl ⟨(Nat.le_of_ble_eq_true rfl), (Nat.le_of_ble_eq_true rfl)⟩) (⟨fun a U g mk q => q, fun U hU hW => ⟨rfl, trivial⟩⟩) rfl rfl hl.1 rfl (lv_room (Nat.le_of_ble_eq_true rfl)) d_M_unwrap_1 ⟨(Nat.le_of_ble_eq_true rfl), (Nat.le_of_ble_eq_true rfl)⟩) (fun r1 hr1 => ?_)
  rcases hr1 with ⟨hR, rfl⟩ | ⟨hR, rfl⟩
  · refine lv_if_eq (tgt := 14) hx hb d_M_unwrap_4 (by decide) (fun q9 => absurd q9 (by decide)) (fun _ => ?_)
    refine lv_iload_n hx hb d_M_unwrap_7 rfl (lv_at hl 2 rfl) ?_
    refine vp_callSi (W.runS (As := [.int f]) (rest := []) ⟨hx, hb, hml, hown, hA⟩ (c_M_isRow l f) (q_M_isRow hA k3_1 rfl rfl ⟨(Nat.le_of_ble_eq_true rfl), (Nat.le_of_ble_eq_true rfl)⟩) (⟨fun a U g mk q => q, fun U hU hW => ⟨rfl, trivial⟩⟩) rfl rfl hl.1 rfl (lv_room (Nat.le_of_ble_eq_true rfl)) d_M_unwrap_8 ⟨(Nat.le_of_ble_eq_true rfl), (Nat.le_of_ble_eq_true rfl)⟩) (fun r8 hr8 => ?_)
    rcases hr8 with ⟨hR2, rfl⟩ | ⟨hR2, rfl⟩
    · refine lv_if_ne (tgt := 20) hx hb d_M_unwrap_11 (by decide) (fun _ => ?_) (fun q9 => absurd q9 (by decide))
      obtain ⟨k, hk0, rfl⟩ := nI_of (show ¬ x < 0 by rw [Int32.lt_iff_toInt_lt, li_0]; exact Int.not_lt.mpr hR.1)
      have hk : k < 4 := by have h9 := hR.2; rw [nI_toInt hk0] at h9; omega
      have hrk : rj (nI k) = k := rj_n hk
      obtain ⟨⟨B, n, p⟩, hρ⟩ : ∃ ρ, σ k = ρ := ⟨_, rfl⟩
      have hk9 := hσ.2 k hk
      have hBσ : ∀ j, (σ k).1 j < 256 := hk9.2.2
      have hnσ : (σ k).2.1 ≤ 65536 := Nat.le_trans hk9.2.1 hσ.1
      rw [hρ] at hk9
      obtain ⟨hp, hn, hB⟩ := hk9
      have hp : p ≤ n := hp
      have hn : n ≤ M := hn
      have hB : ∀ j, B j < 256 := hB
      have hM := hσ.1
      obtain ⟨f1, hf10, rfl⟩ := nI_of (show ¬ f < 0 by rw [Int32.lt_iff_toInt_lt, li_0]; exact Int.not_lt.mpr hR2.1)
      have hf1 : f1 < 4 := by have h9 := hR2.2; rw [nI_toInt hf10] at h9; omega
      have hrf1 : rj (nI f1) = f1 := rj_n hf1
      obtain ⟨⟨C, n2, p2⟩, hρ2⟩ : ∃ ρ, σ f1 = ρ := ⟨_, rfl⟩
      have hk9 := hσ.2 f1 hf1
      have hBσ2 : ∀ j, (σ f1).1 j < 256 := hk9.2.2
      have hnσ2 : (σ f1).2.1 ≤ 65536 := Nat.le_trans hk9.2.1 hσ.1
      rw [hρ2] at hk9
      obtain ⟨hp2, hn2, hB2⟩ := hk9
      have hp2 : p2 ≤ n2 := hp2
      have hn2 : n2 ≤ M := hn2
      have hB2 : ∀ j, C j < 256 := hB2
      refine lv_iload_n hx hb d_M_unwrap_20 rfl (lv_at hl 1 rfl) ?_
      refine lv_iload_n hx hb d_M_unwrap_21 rfl (lv_at hl 2 rfl) ?_
      refine lv_icmp_ne (tgt := 31) hx hb d_M_unwrap_22 (by decide) (fun c22 => ?_) (fun c22 => ?_)
      · have hkf : ¬ k = f1 := fun q9 => c22 (by rw [q9])
        refine lv_aload_n hx hb d_M_unwrap_31 rfl (lv_at hl 0 rfl) ?_
        refine lv_iload_n hx hb d_M_unwrap_32 rfl (lv_at hl 1 rfl) ?_
        refine lv_aload_n hx hb d_M_unwrap_33 rfl (lv_at hl 0 rfl) ?_
        refine va_get (D := D) (ci := 2) (v := .ref pa) (C := R_M) (T := F_M) (N := 6) hx hb hA i_M hown hK hP 0 rfl rfl 4 (by decide) (hA _ k2_216) (fun _ h9 => h9) rfl d_M_unwrap_34 ?_
        refine lv_iload_n hx hb d_M_unwrap_37 rfl (lv_at hl 1 rfl) ?_
        refine va_iald hx hb hK hP 3 1 rfl rfl (vp_in_nI hk (by decide)) d_M_unwrap_38 ?_
        refine lv_topi (fun v38 ev38 => ?_)
        have ev38 : v38 = nI p := by rw [ev38]; show nI ((σ) (nI k).toNatClampNeg).2.2 = _; rw [nI_clamp (by omega), hρ]
        subst ev38
        have hPc := hP
        have hFc := va_free (wc := [(h, .inr (2, [.int 0, .int (nI M), .ref cl, .ref sa, .ref pa, .int tk])), (cl, .inl (cL, 32768, .inr (.inl (pkF (σ))))), (sa, .inl (cI, 4, .inl (fun i9 => nI ((σ) i9).2.1))), (pa, .inl (cI, 4, .inl (fun i9 => nI ((σ) i9).2.2)))]) hD hS hAq [0, 1, 2, 3] rfl
        have hKc := hK.sub (tys' := [(cL, .long), (cI, .int)]) [0, 1] rfl
        refine va_calll (va_runV (As := [.int (nI k), .int (nI p)]) (rest := []) ⟨hx, hb, hml, hown, hA⟩ (c_M_grouped l D cL cI h cl sa pa M 0 tk σ s.heap.size k hk hBσ hnσ p (by rw [hρ]; exact hp)) (q_M_grouped hA k3_111 rfl rfl ⟨(Nat.le_of_ble_eq_true rfl), (Nat.le_of_ble_eq_true rfl)⟩) (ox_V (va_recv hKc hPc (ci := 2) (q0 := 0) rfl rfl) (oxw_S hPc hKc hD)) rfl rfl hl.1 rfl (lv_room (Nat.le_of_ble_eq_true rfl)) d_M_unwrap_39 ⟨(Nat.le_of_ble_eq_true rfl), (Nat.le_of_ble_eq_true rfl)⟩) hS (fun q _ h => hFc q h) hFc (fun r39 u9 t9 H1 locs ht9 hvm9 hw9 hB9 hz1 hk1 hS => ?_)
        obtain ⟨hP, hK1, hD1⟩ := hB9
        rw [ht9] at hP
        obtain ⟨hP, hD⟩ := va_join (wr := []) (w1 := rfW cL cI h cl sa pa M 0 u9 (σ)) hPc hD [0, 1, 2, 3] [] rfl rfl (by decide) (by decide) hk1 hFc hP hD1
        generalize H1 = H at hP hS ⊢
        have hP : va_P D vCl [(h, .inr (2, [.int 0, .int (nI M), .ref cl, .ref sa, .ref pa, .int u9])), (cl, .inl (cL, 32768, .inr (.inl (pkF (σ))))), (sa, .inl (cI, 4, .inl (fun i9 => nI ((σ) i9).2.1))), (pa, .inl (cI, 4, .inl (fun i9 => nI ((σ) i9).2.2)))] H := hP
        have hD : va_D A [(h, .inr (2, [.int 0, .int (nI M), .ref cl, .ref sa, .ref pa, .int u9])), (cl, .inl (cL, 32768, .inr (.inl (pkF (σ))))), (sa, .inl (cI, 4, .inl (fun i9 => nI ((σ) i9).2.1))), (pa, .inl (cI, 4, .inl (fun i9 => nI ((σ) i9).2.2)))] := hD
        rcases hw9 with ⟨hg, rfl, rfl⟩ | ⟨hg, rfl, rfl⟩ | ⟨w, hg, rfl, hr9⟩
        · rw [hρ] at hg
          have hg : gw B p n 10 = -2 := hg
          refine lv_lstore (lv' := [(4, .long 0), (0, .ref h), (1, .int (nI k)), (2, .int (nI f1)), (3, .int 4)]) hx hb d_M_unwrap_42 hl (by decide) rfl (fun ls hl => ?_)
          refine lv_aload_n hx hb d_M_unwrap_44 rfl (lv_at hl 1 rfl) ?_
          refine va_get (D := D) (ci := 2) (v := .int (-2)) (C := R_M) (T := F_M) (N := 6) hx hb hA i_M hown hK hP 0 rfl rfl 5 (by decide) (hA _ k2_217) (fun _ h9 => h9) rfl d_M_unwrap_45 ?_
          refine lv_if_ge (tgt := 56) hx hb d_M_unwrap_48 (by decide) (fun q9 => absurd q9 (by decide)) (fun _ => ?_)
          refine lv_aload_n hx hb d_M_unwrap_51 rfl (lv_at hl 1 rfl) ?_
          have hPc := hP
          have hFc := va_free (wc := [(h, .inr (2, [.int 0, .int (nI M), .ref cl, .ref sa, .ref pa, .int (-2)])), (cl, .inl (cL, 32768, .inr (.inl (pkF (σ))))), (sa, .inl (cI, 4, .inl (fun i9 => nI ((σ) i9).2.1))), (pa, .inl (cI, 4, .inl (fun i9 => nI ((σ) i9).2.2)))]) hD hS hAq [0, 1, 2, 3] rfl
          have hKc := hK.sub (tys' := [(cL, .long), (cI, .int)]) [0, 1] rfl
          refine va_calli (va_runV (As := []) (rest := []) ⟨hx, hb, hml, hown, hA⟩ (c_M_failed l D cL cI h cl sa pa M 0 (-2) (σ) H.size 2 (by decide)) (q_M_failed hA k3_115 rfl rfl ⟨(Nat.le_of_ble_eq_true rfl), (Nat.le_of_ble_eq_true rfl)⟩) (ox_V (va_recv hKc hPc (ci := 2) (q0 := 0) rfl rfl) (oxw_S hPc hKc hD)) rfl rfl hl.1 rfl (lv_room (Nat.le_of_ble_eq_true rfl)) d_M_unwrap_52 ⟨(Nat.le_of_ble_eq_true rfl), (Nat.le_of_ble_eq_true rfl)⟩) hS (fun q _ h => hFc q h) hFc (fun r52 u9 t9 H1 locs ht9 hvm9 hw9 hB9 hz1 hk1 hS => ?_)
          obtain ⟨hP, hK1, hD1⟩ := hB9
          rw [ht9] at hP
          obtain ⟨hP, hD⟩ := va_join (wr := []) (w1 := rfW cL cI h cl sa pa M 2 (-2) (σ)) hPc hD [0, 1, 2, 3] [] rfl rfl (by decide) (by decide) hk1 hFc hP hD1
          generalize H1 = H at hP hS ⊢
          have hP : va_P D vCl [(h, .inr (2, [.int 2, .int (nI M), .ref cl, .ref sa, .ref pa, .int (-2)])), (cl, .inl (cL, 32768, .inr (.inl (pkF (σ))))), (sa, .inl (cI, 4, .inl (fun i9 => nI ((σ) i9).2.1))), (pa, .inl (cI, 4, .inl (fun i9 => nI ((σ) i9).2.2)))] H := hP
          have hD : va_D A [(h, .inr (2, [.int 2, .int (nI M), .ref cl, .ref sa, .ref pa, .int (-2)])), (cl, .inl (cL, 32768, .inr (.inl (pkF (σ))))), (sa, .inl (cI, 4, .inl (fun i9 => nI ((σ) i9).2.1))), (pa, .inl (cI, 4, .inl (fun i9 => nI ((σ) i9).2.2)))] := hD
          subst hw9
          exact W.iret (v := 0) hx hb hr (fun t ht hW => ⟨⟨_, (2, σ, (-2)), rfl, (by unfold spReadFrame gmσ gwσ; simp only [hrk, hrf1, hρ, hρ2]; rw [if_neg (fun h8 => h8 ⟨hR, hR2⟩), if_neg c22, if_pos hg]), by rw [ht]; exact hP, va_K.moved hW.alike hK, hD⟩, hS.F ht⟩) hS.2.2 d_M_unwrap_55
        · rw [hρ] at hg
          have hg : gw B p n 10 = -3 := hg
          refine lv_lstore (lv' := [(4, .long 0), (0, .ref h), (1, .int (nI k)), (2, .int (nI f1)), (3, .int 4)]) hx hb d_M_unwrap_42 hl (by decide) rfl (fun ls hl => ?_)
          refine lv_aload_n hx hb d_M_unwrap_44 rfl (lv_at hl 1 rfl) ?_
          refine va_get (D := D) (ci := 2) (v := .int (-3)) (C := R_M) (T := F_M) (N := 6) hx hb hA i_M hown hK hP 0 rfl rfl 5 (by decide) (hA _ k2_217) (fun _ h9 => h9) rfl d_M_unwrap_45 ?_
          refine lv_if_ge (tgt := 56) hx hb d_M_unwrap_48 (by decide) (fun q9 => absurd q9 (by decide)) (fun _ => ?_)
          refine lv_aload_n hx hb d_M_unwrap_51 rfl (lv_at hl 1 rfl) ?_
          have hPc := hP
          have hFc := va_free (wc := [(h, .inr (2, [.int 0, .int (nI M), .ref cl, .ref sa, .ref pa, .int (-3)])), (cl, .inl (cL, 32768, .inr (.inl (pkF (σ))))), (sa, .inl (cI, 4, .inl (fun i9 => nI ((σ) i9).2.1))), (pa, .inl (cI, 4, .inl (fun i9 => nI ((σ) i9).2.2)))]) hD hS hAq [0, 1, 2, 3] rfl
          have hKc := hK.sub (tys' := [(cL, .long), (cI, .int)]) [0, 1] rfl
          refine va_calli (va_runV (As := []) (rest := []) ⟨hx, hb, hml, hown, hA⟩ (c_M_failed l D cL cI h cl sa pa M 0 (-3) (σ) H.size 3 (by decide)) (q_M_failed hA k3_115 rfl rfl ⟨(Nat.le_of_ble_eq_true rfl), (Nat.le_of_ble_eq_true rfl)⟩) (ox_V (va_recv hKc hPc (ci := 2) (q0 := 0) rfl rfl) (oxw_S hPc hKc hD)) rfl rfl hl.1 rfl (lv_room (Nat.le_of_ble_eq_true rfl)) d_M_unwrap_52 ⟨(Nat.le_of_ble_eq_true rfl), (Nat.le_of_ble_eq_true rfl)⟩) hS (fun q _ h => hFc q h) hFc (fun r52 u9 t9 H1 locs ht9 hvm9 hw9 hB9 hz1 hk1 hS => ?_)
          obtain ⟨hP, hK1, hD1⟩ := hB9
          rw [ht9] at hP
          obtain ⟨hP, hD⟩ := va_join (wr := []) (w1 := rfW cL cI h cl sa pa M 3 (-3) (σ)) hPc hD [0, 1, 2, 3] [] rfl rfl (by decide) (by decide) hk1 hFc hP hD1
          generalize H1 = H at hP hS ⊢
          have hP : va_P D vCl [(h, .inr (2, [.int 3, .int (nI M), .ref cl, .ref sa, .ref pa, .int (-3)])), (cl, .inl (cL, 32768, .inr (.inl (pkF (σ))))), (sa, .inl (cI, 4, .inl (fun i9 => nI ((σ) i9).2.1))), (pa, .inl (cI, 4, .inl (fun i9 => nI ((σ) i9).2.2)))] H := hP
          have hD : va_D A [(h, .inr (2, [.int 3, .int (nI M), .ref cl, .ref sa, .ref pa, .int (-3)])), (cl, .inl (cL, 32768, .inr (.inl (pkF (σ))))), (sa, .inl (cI, 4, .inl (fun i9 => nI ((σ) i9).2.1))), (pa, .inl (cI, 4, .inl (fun i9 => nI ((σ) i9).2.2)))] := hD
          subst hw9
          exact W.iret (v := 0) hx hb hr (fun t ht hW => ⟨⟨_, (3, σ, (-3)), rfl, (by unfold spReadFrame gmσ gwσ; simp only [hrk, hrf1, hρ, hρ2]; rw [if_neg (fun h8 => h8 ⟨hR, hR2⟩), if_neg c22, if_neg (by rw [hg]; decide), if_pos hg]), by rw [ht]; exact hP, va_K.moved hW.alike hK, hD⟩, hS.F ht⟩) hS.2.2 d_M_unwrap_55
        · rw [hρ] at hg hr9
          have hg : gw B p n 10 = (w : Int) := hg
          have hr9 : r39 = lN (gs B p w) := hr9
          subst hr9
          obtain ⟨hw1, hw2, hw3, hw4⟩ := gw_ok 10 w (Nat.le_refl _) hg
          refine lv_lstore (lv' := [(4, .long (lN (gs B p w))), (0, .ref h), (1, .int (nI k)), (2, .int (nI f1)), (3, .int 4)]) hx hb d_M_unwrap_42 hl (by decide) rfl (fun ls hl => ?_)
          refine lv_aload_n hx hb d_M_unwrap_44 rfl (lv_at hl 1 rfl) ?_
          refine va_get (D := D) (ci := 2) (v := .int (nI w)) (C := R_M) (T := F_M) (N := 6) hx hb hA i_M hown hK hP 0 rfl rfl 5 (by decide) (hA _ k2_217) (fun _ h9 => h9) rfl d_M_unwrap_45 ?_
          refine lv_if_ge (tgt := 56) hx hb d_M_unwrap_48 (by decide) (fun c48 => ?_) (fun c48 => ?_)
          · have hgn : (gw B p n 10).toNat = w := by rw [hg]; rfl
            have h64 : gs B p w < 2 ^ 64 := gs_64 hw2 hw4
            refine lv_lload hx hb d_M_unwrap_56 (lv_at hl 0 rfl) ?_
            refine lv_lconst (v := 0) hx hb d_M_unwrap_58 (by decide) ?_
            refine W.lcmp hx hb d_M_unwrap_59 ?_
            refine lv_topi (fun v59 ev59 => ?_)
            refine lv_if_lt (tgt := 72) hx hb d_M_unwrap_60 (by decide) (fun c60 => ?_) (fun c60 => ?_)
            · have hg6 : 65536 < gs B p w := by
                first
                | (have := (hm_neg h64).mp ((lg_cmp_lt _ _).mp (by rw [← ev59]; exact c60)); omega)
                | (have := mt hle.mpr (fun z => c69 (by rw [ev68]; exact (lg_cmp_le _ _).mpr z)); omega)
              refine lv_aload_n hx hb d_M_unwrap_72 rfl (lv_at hl 1 rfl) ?_
              refine lv_iconst (v := 2) hx hb d_M_unwrap_73 (by decide) ?_
              have hPc := hP
              have hFc := va_free (wc := [(h, .inr (2, [.int 0, .int (nI M), .ref cl, .ref sa, .ref pa, .int (nI w)])), (cl, .inl (cL, 32768, .inr (.inl (pkF (σ))))), (sa, .inl (cI, 4, .inl (fun i9 => nI ((σ) i9).2.1))), (pa, .inl (cI, 4, .inl (fun i9 => nI ((σ) i9).2.2)))]) hD hS hAq [0, 1, 2, 3] rfl
              have hKc := hK.sub (tys' := [(cL, .long), (cI, .int)]) [0, 1] rfl
              refine va_calli (va_runV (As := [.int 2]) (rest := []) ⟨hx, hb, hml, hown, hA⟩ (c_M_fail l D cL cI h cl sa pa M 0 (nI w) (σ) H.size 2) (q_M_fail hA k3_4 rfl rfl ⟨(Nat.le_of_ble_eq_true rfl), (Nat.le_of_ble_eq_true rfl)⟩) (ox_V (va_recv hKc hPc (ci := 2) (q0 := 0) rfl rfl) (oxw_S hPc hKc hD)) rfl rfl hl.1 rfl (lv_room (Nat.le_of_ble_eq_true rfl)) d_M_unwrap_74 ⟨(Nat.le_of_ble_eq_true rfl), (Nat.le_of_ble_eq_true rfl)⟩) hS (fun q _ h => hFc q h) hFc (fun r74 u9 t9 H1 locs ht9 hvm9 hw9 hB9 hz1 hk1 hS => ?_)
              obtain ⟨hP, hK1, hD1⟩ := hB9
              rw [ht9] at hP
              obtain ⟨hP, hD⟩ := va_join (wr := []) (w1 := rfW cL cI h cl sa pa M 2 (nI w) (σ)) hPc hD [0, 1, 2, 3] [] rfl rfl (by decide) (by decide) hk1 hFc hP hD1
              generalize H1 = H at hP hS ⊢
              have hP : va_P D vCl [(h, .inr (2, [.int 2, .int (nI M), .ref cl, .ref sa, .ref pa, .int (nI w)])), (cl, .inl (cL, 32768, .inr (.inl (pkF (σ))))), (sa, .inl (cI, 4, .inl (fun i9 => nI ((σ) i9).2.1))), (pa, .inl (cI, 4, .inl (fun i9 => nI ((σ) i9).2.2)))] H := hP
              have hD : va_D A [(h, .inr (2, [.int 2, .int (nI M), .ref cl, .ref sa, .ref pa, .int (nI w)])), (cl, .inl (cL, 32768, .inr (.inl (pkF (σ))))), (sa, .inl (cI, 4, .inl (fun i9 => nI ((σ) i9).2.1))), (pa, .inl (cI, 4, .inl (fun i9 => nI ((σ) i9).2.2)))] := hD
              subst hw9
              exact W.iret (v := 0) hx hb hr (fun t ht hW => ⟨⟨_, (2, σ, nI w), rfl, (by unfold spReadFrame gmσ gwσ; simp only [hrk, hrf1, hρ, hρ2]; rw [if_neg (fun h8 => h8 ⟨hR, hR2⟩), if_neg c22, if_neg (by rw [hg]; omega), if_neg (by rw [hg]; omega), hgn, if_pos hg6]), by rw [ht]; exact hP, va_K.moved hW.alike hK, hD⟩, hS.F ht⟩) hS.2.2 d_M_unwrap_77
            · have hs : gs B p w < 2 ^ 63 := by have := mt (hm_neg h64).mpr (fun z => c60 (by rw [ev59]; exact (lg_cmp_lt _ _).mpr z)); omega
              have hle : lN (gs B p w) ≤ 65536 ↔ gs B p w ≤ 65536 := pk_lLE (b := 65536) hs (by decide)
              refine lv_lload hx hb d_M_unwrap_63 (lv_at hl 0 rfl) ?_
              refine lv_ldc2 (v := 65536) hx hb hown (hA _ k3_143) d_M_unwrap_65 ?_
              refine W.lcmp hx hb d_M_unwrap_68 ?_
              refine lv_topi (fun v68 ev68 => ?_)
              refine lv_if_le (tgt := 78) hx hb d_M_unwrap_69 (by decide) (fun c69 => ?_) (fun c69 => ?_)
              · have hg6 : gs B p w ≤ 65536 := hle.mp ((lg_cmp_le _ _).mp (by rw [← ev68]; exact c69))
                refine lv_lload hx hb d_M_unwrap_78 (lv_at hl 0 rfl) ?_
                refine lv_l2i hx hb d_M_unwrap_80 rfl ?_
                refine lv_topi (fun v80 ev80 => ?_)
                have ev80 : v80 = nI (gs B p w) := by rw [ev80]; exact lN_i _
                subst ev80
                refine lv_istore (lv' := [(6, .int (nI (gs B p w))), (4, .long (lN (gs B p w))), (0, .ref h), (1, .int (nI k)), (2, .int (nI f1)), (3, .int 4)]) hx hb d_M_unwrap_81 hl (by decide) rfl (fun ls hl => ?_)
                refine lv_aload_n hx hb d_M_unwrap_83 rfl (lv_at hl 2 rfl) ?_
                refine va_get (D := D) (ci := 2) (v := .ref pa) (C := R_M) (T := F_M) (N := 6) hx hb hA i_M hown hK hP 0 rfl rfl 4 (by decide) (hA _ k2_216) (fun _ h9 => h9) rfl d_M_unwrap_84 ?_
                refine lv_iload_n hx hb d_M_unwrap_87 rfl (lv_at hl 3 rfl) ?_
                refine va_iald hx hb hK hP 3 1 rfl rfl (vp_in_nI hk (by decide)) d_M_unwrap_88 ?_
                refine lv_topi (fun v88 ev88 => ?_)
                have ev88 : v88 = nI p := by rw [ev88]; show nI ((σ) (nI k).toNatClampNeg).2.2 = _; rw [nI_clamp (by omega), hρ]
                subst ev88
                refine lv_aload_n hx hb d_M_unwrap_89 rfl (lv_at hl 2 rfl) ?_
                refine va_get (D := D) (ci := 2) (v := .int (nI w)) (C := R_M) (T := F_M) (N := 6) hx hb hA i_M hown hK hP 0 rfl rfl 5 (by decide) (hA _ k2_217) (fun _ h9 => h9) rfl d_M_unwrap_90 ?_
                refine lv_iadd hx hb d_M_unwrap_93 ?_
                refine lv_topi (fun v93 ev93 => ?_)
                have ev93 : v93 = nI (p + w) := by rw [ev93]; exact nI_add _ _
                subst ev93
                refine lv_iload_n hx hb d_M_unwrap_94 rfl (lv_at hl 5 rfl) ?_
                refine lv_iadd hx hb d_M_unwrap_95 ?_
                refine lv_topi (fun v95 ev95 => ?_)
                have ev95 : v95 = nI (p + (w + 4)) := by rw [ev95]; exact (nI_add (p + w) 4).trans (congrArg nI (by omega))
                subst ev95
                refine lv_istore (lv' := [(7, .int (nI (p + (w + 4)))), (6, .int (nI (gs B p w))), (4, .long (lN (gs B p w))), (0, .ref h), (1, .int (nI k)), (2, .int (nI f1)), (3, .int 4)]) hx hb d_M_unwrap_96 hl (by decide) rfl (fun ls hl => ?_)
                refine lv_iload hx hb d_M_unwrap_98 (lv_at hl 0 rfl) ?_
                refine lv_aload_n hx hb d_M_unwrap_100 rfl (lv_at hl 3 rfl) ?_
                refine va_get (D := D) (ci := 2) (v := .ref sa) (C := R_M) (T := F_M) (N := 6) hx hb hA i_M hown hK hP 0 rfl rfl 3 (by decide) (hA _ k2_215) (fun _ h9 => h9) rfl d_M_unwrap_101 ?_
                refine lv_iload_n hx hb d_M_unwrap_104 rfl (lv_at hl 4 rfl) ?_
                refine va_iald hx hb hK hP 2 1 rfl rfl (vp_in_nI hk (by decide)) d_M_unwrap_105 ?_
                refine lv_topi (fun v105 ev105 => ?_)
                have ev105 : v105 = nI n := by rw [ev105]; show nI ((σ) (nI k).toNatClampNeg).2.1 = _; rw [nI_clamp (by omega), hρ]
                subst ev105
                refine lv_icmp_gt (tgt := 123) hx hb d_M_unwrap_106 (by decide) (fun c106 => ?_) (fun c106 => ?_)
                · have hl6 : n < p + ((w + 4) + (gs B p w)) := by
                    first
                    | (have := (nI_ltI (a := n) (b := p + (w + 4)) (by omega) (by omega)).mp c106; omega)
                    | (have := mt (nI_leI (a := gs B p w) (b := n - (p + (w + 4))) (by omega) (by omega)).mpr c120; omega)
                  refine lv_aload_n hx hb d_M_unwrap_123 rfl (lv_at hl 3 rfl) ?_
                  refine lv_iconst (v := 3) hx hb d_M_unwrap_124 (by decide) ?_
                  have hPc := hP
                  have hFc := va_free (wc := [(h, .inr (2, [.int 0, .int (nI M), .ref cl, .ref sa, .ref pa, .int (nI w)])), (cl, .inl (cL, 32768, .inr (.inl (pkF (σ))))), (sa, .inl (cI, 4, .inl (fun i9 => nI ((σ) i9).2.1))), (pa, .inl (cI, 4, .inl (fun i9 => nI ((σ) i9).2.2)))]) hD hS hAq [0, 1, 2, 3] rfl
                  have hKc := hK.sub (tys' := [(cL, .long), (cI, .int)]) [0, 1] rfl
                  refine va_calli (va_runV (As := [.int 3]) (rest := []) ⟨hx, hb, hml, hown, hA⟩ (c_M_fail l D cL cI h cl sa pa M 0 (nI w) (σ) H.size 3) (q_M_fail hA k3_4 rfl rfl ⟨(Nat.le_of_ble_eq_true rfl), (Nat.le_of_ble_eq_true rfl)⟩) (ox_V (va_recv hKc hPc (ci := 2) (q0 := 0) rfl rfl) (oxw_S hPc hKc hD)) rfl rfl hl.1 rfl (lv_room (Nat.le_of_ble_eq_true rfl)) d_M_unwrap_125 ⟨(Nat.le_of_ble_eq_true rfl), (Nat.le_of_ble_eq_true rfl)⟩) hS (fun q _ h => hFc q h) hFc (fun r125 u9 t9 H1 locs ht9 hvm9 hw9 hB9 hz1 hk1 hS => ?_)
                  obtain ⟨hP, hK1, hD1⟩ := hB9
                  rw [ht9] at hP
                  obtain ⟨hP, hD⟩ := va_join (wr := []) (w1 := rfW cL cI h cl sa pa M 3 (nI w) (σ)) hPc hD [0, 1, 2, 3] [] rfl rfl (by decide) (by decide) hk1 hFc hP hD1
                  generalize H1 = H at hP hS ⊢
                  have hP : va_P D vCl [(h, .inr (2, [.int 3, .int (nI M), .ref cl, .ref sa, .ref pa, .int (nI w)])), (cl, .inl (cL, 32768, .inr (.inl (pkF (σ))))), (sa, .inl (cI, 4, .inl (fun i9 => nI ((σ) i9).2.1))), (pa, .inl (cI, 4, .inl (fun i9 => nI ((σ) i9).2.2)))] H := hP
                  have hD : va_D A [(h, .inr (2, [.int 3, .int (nI M), .ref cl, .ref sa, .ref pa, .int (nI w)])), (cl, .inl (cL, 32768, .inr (.inl (pkF (σ))))), (sa, .inl (cI, 4, .inl (fun i9 => nI ((σ) i9).2.1))), (pa, .inl (cI, 4, .inl (fun i9 => nI ((σ) i9).2.2)))] := hD
                  subst hw9
                  exact W.iret (v := 0) hx hb hr (fun t ht hW => ⟨⟨_, (3, σ, nI w), rfl, (by unfold spReadFrame gmσ gwσ; simp only [hrk, hrf1, hρ, hρ2]; rw [if_neg (fun h8 => h8 ⟨hR, hR2⟩), if_neg c22, if_neg (by rw [hg]; omega), if_neg (by rw [hg]; omega), hgn, if_neg (Nat.not_lt.mpr hg6), if_pos hl6]), by rw [ht]; exact hP, va_K.moved hW.alike hK, hD⟩, hS.F ht⟩) hS.2.2 d_M_unwrap_128
                · have hfn : p + (w + 4) ≤ n := by have := mt (nI_ltI (a := n) (b := p + (w + 4)) (by omega) (by omega)).mpr c106; omega
                  refine lv_iload hx hb d_M_unwrap_109 (lv_at hl 1 rfl) ?_
                  refine lv_aload_n hx hb d_M_unwrap_111 rfl (lv_at hl 3 rfl) ?_
                  refine va_get (D := D) (ci := 2) (v := .ref sa) (C := R_M) (T := F_M) (N := 6) hx hb hA i_M hown hK hP 0 rfl rfl 3 (by decide) (hA _ k2_215) (fun _ h9 => h9) rfl d_M_unwrap_112 ?_
                  refine lv_iload_n hx hb d_M_unwrap_115 rfl (lv_at hl 4 rfl) ?_
                  refine va_iald hx hb hK hP 2 1 rfl rfl (vp_in_nI hk (by decide)) d_M_unwrap_116 ?_
                  refine lv_topi (fun v116 ev116 => ?_)
                  have ev116 : v116 = nI n := by rw [ev116]; show nI ((σ) (nI k).toNatClampNeg).2.1 = _; rw [nI_clamp (by omega), hρ]
                  subst ev116
                  refine lv_iload hx hb d_M_unwrap_117 (lv_at hl 0 rfl) ?_
                  refine lv_isub hx hb d_M_unwrap_119 ?_
                  refine lv_topi (fun v119 ev119 => ?_)
                  have ev119 : v119 = nI (n - (p + (w + 4))) := by rw [ev119]; exact pk_sub hfn
                  subst ev119
                  refine lv_icmp_le (tgt := 129) hx hb d_M_unwrap_120 (by decide) (fun c120 => ?_) (fun c120 => ?_)
                  · have hl6 : p + ((w + 4) + (gs B p w)) ≤ n := by have := (nI_leI (a := gs B p w) (b := n - (p + (w + 4))) (by omega) (by omega)).mp c120; omega
                    refine lv_iload_n hx hb d_M_unwrap_129 rfl (lv_at hl 6 rfl) ?_
                    refine lv_if_le (tgt := 162) hx hb d_M_unwrap_130 (by decide) (fun q9 => absurd q9 (by decide)) (fun _ => ?_)
                    refine lv_aload_n hx hb d_M_unwrap_133 rfl (lv_at hl 3 rfl) ?_
                    refine lv_iload_n hx hb d_M_unwrap_134 rfl (lv_at hl 4 rfl) ?_
                    refine lv_iload hx hb d_M_unwrap_135 (lv_at hl 0 rfl) ?_
                    refine lv_iconst (v := 4) hx hb d_M_unwrap_137 (by decide) ?_
                    refine lv_isub hx hb d_M_unwrap_138 ?_
                    refine lv_topi (fun v138 ev138 => ?_)
                    have ev138 : v138 = nI (p + w) := by rw [ev138]; exact (pk_sub (b := 4) (by omega)).trans (congrArg nI (by omega))
                    subst ev138
                    refine lv_iconst (v := 4) hx hb d_M_unwrap_139 (by decide) ?_
                    refine lv_topi (fun v139 ev139 => ?_)
                    have ev139 : v139 = nI 4 := by rw [ev139]; rfl
                    subst ev139
                    have hPc := hP.sub (ws' := [(h, .inr (2, [.int 0, .int (nI M), .ref cl, .ref sa, .ref pa, .int (nI w)])), (cl, .inl (cL, 32768, .inr (.inl (pkF (σ))))), (sa, .inl (cI, 4, .inl (fun i9 => nI ((σ) i9).2.1))), (pa, .inl (cI, 4, .inl (fun i9 => nI ((σ) i9).2.2)))]) [0, 1, 2, 3] rfl
                    have hKc := hK.sub (tys' := [(cL, .long), (cI, .int)]) [0, 1] rfl
                    refine vp_callSl (W.runV (As := [.int (nI k), .int (nI (p + w)), .int (nI 4)]) (rest := []) ⟨hx, hb, hml, hown, hA⟩ (c_M_number l D cL cI h cl sa pa M 0 (nI w) σ k hk hBσ (p + w) 4 (by omega) (by omega)) (q_M_number hA k3_103 rfl rfl ⟨(Nat.le_of_ble_eq_true rfl), (Nat.le_of_ble_eq_true rfl)⟩) (ox_V (va_recv hKc hPc (ci := 2) (q0 := 0) rfl rfl) (ox_S hPc hKc)) rfl rfl hl.1 rfl (lv_room (Nat.le_of_ble_eq_true rfl)) d_M_unwrap_140 ⟨(Nat.le_of_ble_eq_true rfl), (Nat.le_of_ble_eq_true rfl)⟩) (fun r140 hr140 => ?_)
                    have er140 : r140 = lN (fx B (p + w) 4) := by rw [hr140, hρ]
                    subst er140
                    refine lv_l2i hx hb d_M_unwrap_143 rfl ?_
                    refine lv_topi (fun v143 ev143 => ?_)
                    subst ev143
                    refine lv_aload_n hx hb d_M_unwrap_144 rfl (lv_at hl 3 rfl) ?_
                    refine lv_iload_n hx hb d_M_unwrap_145 rfl (lv_at hl 4 rfl) ?_
                    refine lv_iload hx hb d_M_unwrap_146 (lv_at hl 0 rfl) ?_
                    refine lv_iload hx hb d_M_unwrap_148 (lv_at hl 1 rfl) ?_
                    have hPc := hP.sub (ws' := [(h, .inr (2, [.int 0, .int (nI M), .ref cl, .ref sa, .ref pa, .int (nI w)])), (cl, .inl (cL, 32768, .inr (.inl (pkF (σ))))), (sa, .inl (cI, 4, .inl (fun i9 => nI ((σ) i9).2.1))), (pa, .inl (cI, 4, .inl (fun i9 => nI ((σ) i9).2.2)))]) [0, 1, 2, 3] rfl
                    have hKc := hK.sub (tys' := [(cL, .long), (cI, .int)]) [0, 1] rfl
                    refine vp_callSi (W.runV (As := [.int (nI k), .int (nI (p + (w + 4))), .int (nI (gs B p w))]) (rest := [.int ((lN (fx B (p + w) 4)).toInt32)]) ⟨hx, hb, hml, hown, hA⟩ (c_M_sumOf l D cL cI h cl sa pa M 0 (nI w) σ k hk hBσ (p + (w + 4)) (gs B p w) (by omega)) (q_M_sumOf hA k3_78 rfl rfl ⟨(Nat.le_of_ble_eq_true rfl), (Nat.le_of_ble_eq_true rfl)⟩) (ox_V (va_recv hKc hPc (ci := 2) (q0 := 0) rfl rfl) (ox_S hPc hKc)) rfl rfl hl.1 rfl (lv_room (Nat.le_of_ble_eq_true rfl)) d_M_unwrap_150 ⟨(Nat.le_of_ble_eq_true rfl), (Nat.le_of_ble_eq_true rfl)⟩) (fun r150 hr150 => ?_)
                    have er150 : r150 = smb B (p + (w + 4)) (gs B p w) := by rw [hr150, hρ]
                    subst er150
                    refine lv_icmp_eq (tgt := 162) hx hb d_M_unwrap_153 (by decide) (fun c153 => ?_) (fun c153 => ?_)
                    · rw [up_id hρ2] at hP hD
                      have hP : va_P D vCl [(h, .inr (2, [.int 0, .int (nI M), .ref cl, .ref sa, .ref pa, .int (nI w)])), (cl, .inl (cL, 32768, .inr (.inl (pkF (va_up σ f1 (C, n2, p2)))))), (sa, .inl (cI, 4, .inl (fun i9 => nI ((va_up σ f1 (C, n2, p2)) i9).2.1))), (pa, .inl (cI, 4, .inl (fun i9 => nI ((va_up σ f1 (C, n2, p2)) i9).2.2)))] H := hP
                      have hD : va_D A [(h, .inr (2, [.int 0, .int (nI M), .ref cl, .ref sa, .ref pa, .int (nI w)])), (cl, .inl (cL, 32768, .inr (.inl (pkF (va_up σ f1 (C, n2, p2)))))), (sa, .inl (cI, 4, .inl (fun i9 => nI ((va_up σ f1 (C, n2, p2)) i9).2.1))), (pa, .inl (cI, 4, .inl (fun i9 => nI ((va_up σ f1 (C, n2, p2)) i9).2.2)))] := hD
                      refine lv_aload_n hx hb d_M_unwrap_162 rfl (lv_at hl 3 rfl) ?_
                      refine va_get (D := D) (ci := 2) (v := .ref sa) (C := R_M) (T := F_M) (N := 6) hx hb hA i_M hown hK hP 0 rfl rfl 3 (by decide) (hA _ k2_215) (fun _ h9 => h9) rfl d_M_unwrap_163 ?_
                      refine lv_iload_n hx hb d_M_unwrap_166 rfl (lv_at hl 5 rfl) ?_
                      refine lv_iconst (v := 0) hx hb d_M_unwrap_167 (by decide) ?_
                      refine va_iast hx hb hK hP hD hS 2 1 rfl rfl (vp_in_nI hf1 (by decide)) d_M_unwrap_168 (fun H locs hP hD hS => ?_)
                      have hP : va_P D vCl [(h, .inr (2, [.int 0, .int (nI M), .ref cl, .ref sa, .ref pa, .int (nI w)])), (cl, .inl (cL, 32768, .inr (.inl (pkF (va_up σ f1 (C, n2, p2)))))), (sa, .inl (cI, 4, .inl (upd (fun i9 => nI ((va_up σ f1 (C, n2, p2)) i9).2.1) (nI f1).toNatClampNeg (nI 0)))), (pa, .inl (cI, 4, .inl (fun i9 => nI ((va_up σ f1 (C, n2, p2)) i9).2.2)))] H := hP
                      have hD : va_D A [(h, .inr (2, [.int 0, .int (nI M), .ref cl, .ref sa, .ref pa, .int (nI w)])), (cl, .inl (cL, 32768, .inr (.inl (pkF (va_up σ f1 (C, n2, p2)))))), (sa, .inl (cI, 4, .inl (upd (fun i9 => nI ((va_up σ f1 (C, n2, p2)) i9).2.1) (nI f1).toNatClampNeg (nI 0)))), (pa, .inl (cI, 4, .inl (fun i9 => nI ((va_up σ f1 (C, n2, p2)) i9).2.2)))] := hD
                      rw [sz_up (σ) hf1 C C n2 p2 0 p2, pc_nc (σ) f1 C n2 p2 0 p2, pl_nc (σ) f1 C C n2 0 p2] at hP hD
                      have hP : va_P D vCl [(h, .inr (2, [.int 0, .int (nI M), .ref cl, .ref sa, .ref pa, .int (nI w)])), (cl, .inl (cL, 32768, .inr (.inl (pkF (va_up (σ) f1 (C, 0, p2)))))), (sa, .inl (cI, 4, .inl (fun i9 => nI ((va_up (σ) f1 (C, 0, p2)) i9).2.1))), (pa, .inl (cI, 4, .inl (fun i9 => nI ((va_up (σ) f1 (C, 0, p2)) i9).2.2)))] H := hP
                      have hD : va_D A [(h, .inr (2, [.int 0, .int (nI M), .ref cl, .ref sa, .ref pa, .int (nI w)])), (cl, .inl (cL, 32768, .inr (.inl (pkF (va_up (σ) f1 (C, 0, p2)))))), (sa, .inl (cI, 4, .inl (fun i9 => nI ((va_up (σ) f1 (C, 0, p2)) i9).2.1))), (pa, .inl (cI, 4, .inl (fun i9 => nI ((va_up (σ) f1 (C, 0, p2)) i9).2.2)))] := hD
                      refine lv_aload_n hx hb d_M_unwrap_169 rfl (lv_at hl 3 rfl) ?_
                      refine va_get (D := D) (ci := 2) (v := .ref pa) (C := R_M) (T := F_M) (N := 6) hx hb hA i_M hown hK hP 0 rfl rfl 4 (by decide) (hA _ k2_216) (fun _ h9 => h9) rfl d_M_unwrap_170 ?_
                      refine lv_iload_n hx hb d_M_unwrap_173 rfl (lv_at hl 5 rfl) ?_
                      refine lv_iconst (v := 0) hx hb d_M_unwrap_174 (by decide) ?_
                      refine va_iast hx hb hK hP hD hS 3 1 rfl rfl (vp_in_nI hf1 (by decide)) d_M_unwrap_175 (fun H locs hP hD hS => ?_)
                      have hP : va_P D vCl [(h, .inr (2, [.int 0, .int (nI M), .ref cl, .ref sa, .ref pa, .int (nI w)])), (cl, .inl (cL, 32768, .inr (.inl (pkF (va_up (σ) f1 (C, 0, p2)))))), (sa, .inl (cI, 4, .inl (fun i9 => nI ((va_up (σ) f1 (C, 0, p2)) i9).2.1))), (pa, .inl (cI, 4, .inl (upd (fun i9 => nI ((va_up (σ) f1 (C, 0, p2)) i9).2.2) (nI f1).toNatClampNeg (nI 0))))] H := hP
                      have hD : va_D A [(h, .inr (2, [.int 0, .int (nI M), .ref cl, .ref sa, .ref pa, .int (nI w)])), (cl, .inl (cL, 32768, .inr (.inl (pkF (va_up (σ) f1 (C, 0, p2)))))), (sa, .inl (cI, 4, .inl (fun i9 => nI ((va_up (σ) f1 (C, 0, p2)) i9).2.1))), (pa, .inl (cI, 4, .inl (upd (fun i9 => nI ((va_up (σ) f1 (C, 0, p2)) i9).2.2) (nI f1).toNatClampNeg (nI 0))))] := hD
                      rw [pl_up (σ) hf1 C C 0 p2 0 0, pc_nc (σ) f1 C 0 p2 0 0, sz_nc (σ) f1 C C 0 p2 0] at hP hD
                      have hP : va_P D vCl [(h, .inr (2, [.int 0, .int (nI M), .ref cl, .ref sa, .ref pa, .int (nI w)])), (cl, .inl (cL, 32768, .inr (.inl (pkF (va_up (σ) f1 (C, 0, 0)))))), (sa, .inl (cI, 4, .inl (fun i9 => nI ((va_up (σ) f1 (C, 0, 0)) i9).2.1))), (pa, .inl (cI, 4, .inl (fun i9 => nI ((va_up (σ) f1 (C, 0, 0)) i9).2.2)))] H := hP
                      have hD : va_D A [(h, .inr (2, [.int 0, .int (nI M), .ref cl, .ref sa, .ref pa, .int (nI w)])), (cl, .inl (cL, 32768, .inr (.inl (pkF (va_up (σ) f1 (C, 0, 0)))))), (sa, .inl (cI, 4, .inl (fun i9 => nI ((va_up (σ) f1 (C, 0, 0)) i9).2.1))), (pa, .inl (cI, 4, .inl (fun i9 => nI ((va_up (σ) f1 (C, 0, 0)) i9).2.2)))] := hD
                      rw [show va_up (σ) f1 (C, 0, 0) = va_up (σ) f1 (wr C 0 0 (fun i9 => B (p + (w + 4) + i9)), 0 + 0, 0) from by rw [wr_0, Nat.add_zero]] at hP hD
                      have hP : va_P D vCl [(h, .inr (2, [.int 0, .int (nI M), .ref cl, .ref sa, .ref pa, .int (nI w)])), (cl, .inl (cL, 32768, .inr (.inl (pkF (va_up (σ) f1 (wr C 0 0 (fun i9 => B (p + (w + 4) + i9)), 0 + 0, 0)))))), (sa, .inl (cI, 4, .inl (fun i9 => nI ((va_up (σ) f1 (wr C 0 0 (fun i9 => B (p + (w + 4) + i9)), 0 + 0, 0)) i9).2.1))), (pa, .inl (cI, 4, .inl (fun i9 => nI ((va_up (σ) f1 (wr C 0 0 (fun i9 => B (p + (w + 4) + i9)), 0 + 0, 0)) i9).2.2)))] H := hP
                      have hD : va_D A [(h, .inr (2, [.int 0, .int (nI M), .ref cl, .ref sa, .ref pa, .int (nI w)])), (cl, .inl (cL, 32768, .inr (.inl (pkF (va_up (σ) f1 (wr C 0 0 (fun i9 => B (p + (w + 4) + i9)), 0 + 0, 0)))))), (sa, .inl (cI, 4, .inl (fun i9 => nI ((va_up (σ) f1 (wr C 0 0 (fun i9 => B (p + (w + 4) + i9)), 0 + 0, 0)) i9).2.1))), (pa, .inl (cI, 4, .inl (fun i9 => nI ((va_up (σ) f1 (wr C 0 0 (fun i9 => B (p + (w + 4) + i9)), 0 + 0, 0)) i9).2.2)))] := hD
                      refine lv_iconst (v := 0) hx hb d_M_unwrap_176 (by decide) ?_
                      refine lv_topi (fun v176 ev176 => ?_)
                      have ev176 : v176 = nI 0 := by rw [ev176]; rfl
                      subst ev176
                      refine lv_istore (lv' := [(8, .int (nI 0)), (7, .int (nI (p + (w + 4)))), (6, .int (nI (gs B p w))), (4, .long (lN (gs B p w))), (0, .ref h), (1, .int (nI k)), (2, .int (nI f1)), (3, .int 4)]) hx hb d_M_unwrap_177 hl (by decide) rfl (fun ls hl => ?_)
                      have loop : ∀ (q i2 : Nat), i2 + q = (gs B p w) + 1 → i2 ≤ (gs B p w) → ∀ (H : Heap) (locs : List Loc), va_P D vCl [(h, .inr (2, [.int 0, .int (nI M), .ref cl, .ref sa, .ref pa, .int (nI w)])), (cl, .inl (cL, 32768, .inr (.inl (pkF (va_up σ f1 (wr C 0 i2 (fun i9 => B (p + (w + 4) + i9)), 0 + i2, 0)))))), (sa, .inl (cI, 4, .inl (fun i9 => nI ((va_up σ f1 (wr C 0 i2 (fun i9 => B (p + (w + 4) + i9)), 0 + i2, 0)) i9).2.1))), (pa, .inl (cI, 4, .inl (fun i9 => nI ((va_up σ f1 (wr C 0 i2 (fun i9 => B (p + (w + 4) + i9)), 0 + i2, 0)) i9).2.2)))] H → va_D A [(h, .inr (2, [.int 0, .int (nI M), .ref cl, .ref sa, .ref pa, .int (nI w)])), (cl, .inl (cL, 32768, .inr (.inl (pkF (va_up σ f1 (wr C 0 i2 (fun i9 => B (p + (w + 4) + i9)), 0 + i2, 0)))))), (sa, .inl (cI, 4, .inl (fun i9 => nI ((va_up σ f1 (wr C 0 i2 (fun i9 => B (p + (w + 4) + i9)), 0 + i2, 0)) i9).2.1))), (pa, .inl (cI, 4, .inl (fun i9 => nI ((va_up σ f1 (wr C 0 i2 (fun i9 => B (p + (w + 4) + i9)), 0 + i2, 0)) i9).2.2)))] → va_S A s.heap H locs → ∀ (ls : Array Slot), lv_has ls 9 [(8, .int (nI i2)), (0, .ref h), (1, .int (nI k)), (2, .int (nI f1)), (6, .int (nI (gs B p w))), (7, .int (nI (p + (w + 4))))] → W p9 l e9 (headSpec w_M_unwrap ({ frames := 2, cells := 0, slots := 0, locals := 50 })).room s m [.ref h, .int (nI k), .int (nI f1), .int 4].toArray below meth c9 H locs 0 0 (MQ below (va_Qi (fun (r : Int32) (uu : Nat × dkS × Int32) => spReadFrame σ (nI k) (nI f1) = (uu.1, r, uu.2.1)) (fun uu => ow D [(cL, .long), (cI, .int)] A (rfW cL cI h cl sa pa M (nI uu.1) uu.2.2 uu.2.1)) A) [.ref h, .int (nI k), .int (nI f1), .int 4].toArray s 0 0 A) (F0 m 179 ls []) := by
                        intro q
                        induction q with
                        | zero =>
                          intro i2 hq hi2 H locs hP hD hS ls hl
                          exact absurd hq (by omega)
                        | succ q ih_loop =>
                          intro i2 hq hi2 H locs hP hD hS ls hl
                          refine lv_iload hx hb d_M_unwrap_179 (lv_at hl 0 rfl) ?_
                          refine lv_iload hx hb d_M_unwrap_181 (lv_at hl 4 rfl) ?_
                          refine lv_icmp_ge (tgt := 207) hx hb d_M_unwrap_183 (by decide) (fun c183 => ?_) (fun c183 => ?_)
                          · have hi4 : i2 = (gs B p w) := by have := (nI_leI (a := (gs B p w)) (b := i2) (by omega) (by omega)).mp c183; omega
                            rw [hi4, Nat.zero_add] at hP hD
                            have hρ3 : (va_up σ f1 (wr C 0 (gs B p w) (fun i9 => B (p + (w + 4) + i9)), (gs B p w), 0)) k = (B, n, p) := by rw [up_n _ hkf]; exact hρ
                            rw [up_id hρ3] at hP hD
                            have hP : va_P D vCl [(h, .inr (2, [.int 0, .int (nI M), .ref cl, .ref sa, .ref pa, .int (nI w)])), (cl, .inl (cL, 32768, .inr (.inl (pkF (va_up (va_up σ f1 (wr C 0 (gs B p w) (fun i9 => B (p + (w + 4) + i9)), (gs B p w), 0)) k (B, n, p)))))), (sa, .inl (cI, 4, .inl (fun i9 => nI ((va_up (va_up σ f1 (wr C 0 (gs B p w) (fun i9 => B (p + (w + 4) + i9)), (gs B p w), 0)) k (B, n, p)) i9).2.1))), (pa, .inl (cI, 4, .inl (fun i9 => nI ((va_up (va_up σ f1 (wr C 0 (gs B p w) (fun i9 => B (p + (w + 4) + i9)), (gs B p w), 0)) k (B, n, p)) i9).2.2)))] H := hP
                            have hD : va_D A [(h, .inr (2, [.int 0, .int (nI M), .ref cl, .ref sa, .ref pa, .int (nI w)])), (cl, .inl (cL, 32768, .inr (.inl (pkF (va_up (va_up σ f1 (wr C 0 (gs B p w) (fun i9 => B (p + (w + 4) + i9)), (gs B p w), 0)) k (B, n, p)))))), (sa, .inl (cI, 4, .inl (fun i9 => nI ((va_up (va_up σ f1 (wr C 0 (gs B p w) (fun i9 => B (p + (w + 4) + i9)), (gs B p w), 0)) k (B, n, p)) i9).2.1))), (pa, .inl (cI, 4, .inl (fun i9 => nI ((va_up (va_up σ f1 (wr C 0 (gs B p w) (fun i9 => B (p + (w + 4) + i9)), (gs B p w), 0)) k (B, n, p)) i9).2.2)))] := hD
                            refine lv_aload_n hx hb d_M_unwrap_207 rfl (lv_at hl 1 rfl) ?_
                            refine va_get (D := D) (ci := 2) (v := .ref pa) (C := R_M) (T := F_M) (N := 6) hx hb hA i_M hown hK hP 0 rfl rfl 4 (by decide) (hA _ k2_216) (fun _ h9 => h9) rfl d_M_unwrap_208 ?_
                            refine lv_iload_n hx hb d_M_unwrap_211 rfl (lv_at hl 2 rfl) ?_
                            refine lv_iload hx hb d_M_unwrap_212 (lv_at hl 5 rfl) ?_
                            refine lv_iload hx hb d_M_unwrap_214 (lv_at hl 4 rfl) ?_
                            refine lv_iadd hx hb d_M_unwrap_216 ?_
                            refine lv_topi (fun v216 ev216 => ?_)
                            have ev216 : v216 = nI (p + (w + 4) + (gs B p w)) := by rw [ev216]; exact nI_add _ _
                            subst ev216
                            refine va_iast hx hb hK hP hD hS 3 1 rfl rfl (vp_in_nI hk (by decide)) d_M_unwrap_217 (fun H locs hP hD hS => ?_)
                            have hP : va_P D vCl [(h, .inr (2, [.int 0, .int (nI M), .ref cl, .ref sa, .ref pa, .int (nI w)])), (cl, .inl (cL, 32768, .inr (.inl (pkF (va_up (va_up σ f1 (wr C 0 (gs B p w) (fun i9 => B (p + (w + 4) + i9)), (gs B p w), 0)) k (B, n, p)))))), (sa, .inl (cI, 4, .inl (fun i9 => nI ((va_up (va_up σ f1 (wr C 0 (gs B p w) (fun i9 => B (p + (w + 4) + i9)), (gs B p w), 0)) k (B, n, p)) i9).2.1))), (pa, .inl (cI, 4, .inl (upd (fun i9 => nI ((va_up (va_up σ f1 (wr C 0 (gs B p w) (fun i9 => B (p + (w + 4) + i9)), (gs B p w), 0)) k (B, n, p)) i9).2.2) (nI k).toNatClampNeg (nI (p + (w + 4) + (gs B p w))))))] H := hP
                            have hD : va_D A [(h, .inr (2, [.int 0, .int (nI M), .ref cl, .ref sa, .ref pa, .int (nI w)])), (cl, .inl (cL, 32768, .inr (.inl (pkF (va_up (va_up σ f1 (wr C 0 (gs B p w) (fun i9 => B (p + (w + 4) + i9)), (gs B p w), 0)) k (B, n, p)))))), (sa, .inl (cI, 4, .inl (fun i9 => nI ((va_up (va_up σ f1 (wr C 0 (gs B p w) (fun i9 => B (p + (w + 4) + i9)), (gs B p w), 0)) k (B, n, p)) i9).2.1))), (pa, .inl (cI, 4, .inl (upd (fun i9 => nI ((va_up (va_up σ f1 (wr C 0 (gs B p w) (fun i9 => B (p + (w + 4) + i9)), (gs B p w), 0)) k (B, n, p)) i9).2.2) (nI k).toNatClampNeg (nI (p + (w + 4) + (gs B p w))))))] := hD
                            rw [pl_up (va_up σ f1 (wr C 0 (gs B p w) (fun i9 => B (p + (w + 4) + i9)), (gs B p w), 0)) hk B B n p n (p + (w + 4) + (gs B p w)), pc_nc (va_up σ f1 (wr C 0 (gs B p w) (fun i9 => B (p + (w + 4) + i9)), (gs B p w), 0)) k B n p n (p + (w + 4) + (gs B p w)), sz_nc (va_up σ f1 (wr C 0 (gs B p w) (fun i9 => B (p + (w + 4) + i9)), (gs B p w), 0)) k B B n p (p + (w + 4) + (gs B p w))] at hP hD
                            have hP : va_P D vCl [(h, .inr (2, [.int 0, .int (nI M), .ref cl, .ref sa, .ref pa, .int (nI w)])), (cl, .inl (cL, 32768, .inr (.inl (pkF (va_up (va_up σ f1 (wr C 0 (gs B p w) (fun i9 => B (p + (w + 4) + i9)), (gs B p w), 0)) k (B, n, p + (w + 4) + (gs B p w))))))), (sa, .inl (cI, 4, .inl (fun i9 => nI ((va_up (va_up σ f1 (wr C 0 (gs B p w) (fun i9 => B (p + (w + 4) + i9)), (gs B p w), 0)) k (B, n, p + (w + 4) + (gs B p w))) i9).2.1))), (pa, .inl (cI, 4, .inl (fun i9 => nI ((va_up (va_up σ f1 (wr C 0 (gs B p w) (fun i9 => B (p + (w + 4) + i9)), (gs B p w), 0)) k (B, n, p + (w + 4) + (gs B p w))) i9).2.2)))] H := hP
                            have hD : va_D A [(h, .inr (2, [.int 0, .int (nI M), .ref cl, .ref sa, .ref pa, .int (nI w)])), (cl, .inl (cL, 32768, .inr (.inl (pkF (va_up (va_up σ f1 (wr C 0 (gs B p w) (fun i9 => B (p + (w + 4) + i9)), (gs B p w), 0)) k (B, n, p + (w + 4) + (gs B p w))))))), (sa, .inl (cI, 4, .inl (fun i9 => nI ((va_up (va_up σ f1 (wr C 0 (gs B p w) (fun i9 => B (p + (w + 4) + i9)), (gs B p w), 0)) k (B, n, p + (w + 4) + (gs B p w))) i9).2.1))), (pa, .inl (cI, 4, .inl (fun i9 => nI ((va_up (va_up σ f1 (wr C 0 (gs B p w) (fun i9 => B (p + (w + 4) + i9)), (gs B p w), 0)) k (B, n, p + (w + 4) + (gs B p w))) i9).2.2)))] := hD
                            refine lv_iload hx hb d_M_unwrap_218 (lv_at hl 4 rfl) ?_
                            exact W.iret (v := nI (gs B p w)) hx hb hr (fun t ht hW => ⟨⟨_, (0, va_up (va_up σ f1 (wr C 0 (gs B p w) (fun i9 => B (p + (w + 4) + i9)), (gs B p w), 0)) k (B, n, p + (w + 4) + (gs B p w)), nI w), rfl, (by rw [← up_sw hkf]; unfold spReadFrame gmσ gwσ; simp only [hrk, hrf1, hρ, hρ2]; rw [if_neg (fun h8 => h8 ⟨hR, hR2⟩), if_neg c22, if_neg (by rw [hg]; omega), if_neg (by rw [hg]; omega), hgn, if_neg (Nat.not_lt.mpr hg6), if_neg (Nat.not_lt.mpr hl6), if_neg (fun h8 => h8 c153)]; unfold mvσ gmσ gwσ; simp only [hrk, hrf1, hρ, hρ2]; rw [hgn]), by rw [ht]; exact hP, va_K.moved hW.alike hK, hD⟩, hS.F ht⟩) hS.2.2 d_M_unwrap_220
                          · have hi3 : i2 < (gs B p w) := by have := mt (nI_leI (a := (gs B p w)) (b := i2) (by omega) (by omega)).mpr c183; omega
                            refine lv_aload_n hx hb d_M_unwrap_186 rfl (lv_at hl 1 rfl) ?_
                            refine lv_iload_n hx hb d_M_unwrap_187 rfl (lv_at hl 3 rfl) ?_
                            refine lv_aload_n hx hb d_M_unwrap_188 rfl (lv_at hl 1 rfl) ?_
                            refine lv_iload_n hx hb d_M_unwrap_189 rfl (lv_at hl 2 rfl) ?_
                            refine lv_iload hx hb d_M_unwrap_190 (lv_at hl 5 rfl) ?_
                            refine lv_iload hx hb d_M_unwrap_192 (lv_at hl 0 rfl) ?_
                            refine lv_iadd hx hb d_M_unwrap_194 ?_
                            refine lv_topi (fun v194 ev194 => ?_)
                            have ev194 : v194 = nI (p + (w + 4) + i2) := by rw [ev194]; exact nI_add _ _
                            subst ev194
                            have hPc := hP.sub (ws' := [(h, .inr (2, [.int 0, .int (nI M), .ref cl, .ref sa, .ref pa, .int (nI w)])), (cl, .inl (cL, 32768, .inr (.inl (pkF (va_up σ f1 (wr C 0 i2 (fun i9 => B (p + (w + 4) + i9)), 0 + i2, 0)))))), (sa, .inl (cI, 4, .inl (fun i9 => nI ((va_up σ f1 (wr C 0 i2 (fun i9 => B (p + (w + 4) + i9)), 0 + i2, 0)) i9).2.1))), (pa, .inl (cI, 4, .inl (fun i9 => nI ((va_up σ f1 (wr C 0 i2 (fun i9 => B (p + (w + 4) + i9)), 0 + i2, 0)) i9).2.2)))]) [0, 1, 2, 3] rfl
                            have hKc := hK.sub (tys' := [(cL, .long), (cI, .int)]) [0, 1] rfl
                            refine vp_callSi (W.runV (As := [.int (nI k), .int (nI (p + (w + 4) + i2))]) (rest := [.int (nI f1), .ref h]) ⟨hx, hb, hml, hown, hA⟩ (c_M_at l D cL cI h cl sa pa M 0 (nI w) (va_up σ f1 (wr C 0 i2 (fun i9 => B (p + (w + 4) + i9)), 0 + i2, 0)) k (p + (w + 4) + i2) hk (by omega) (by rw [up_n _ hkf]; exact hBσ)) (q_M_at hA k3_66 rfl rfl ⟨(Nat.le_of_ble_eq_true rfl), (Nat.le_of_ble_eq_true rfl)⟩) (ox_V (va_recv hKc hPc (ci := 2) (q0 := 0) rfl rfl) (ox_S hPc hKc)) rfl rfl hl.1 rfl (lv_room (Nat.le_of_ble_eq_true rfl)) d_M_unwrap_195 ⟨(Nat.le_of_ble_eq_true rfl), (Nat.le_of_ble_eq_true rfl)⟩) (fun r195 hr195 => ?_)
                            have er195 : r195 = nI (B (p + (w + 4) + i2)) := by rw [hr195, up_n _ hkf, hρ]
                            subst er195
                            have hPc := hP
                            have hFc := va_free (wc := [(h, .inr (2, [.int 0, .int (nI M), .ref cl, .ref sa, .ref pa, .int (nI w)])), (cl, .inl (cL, 32768, .inr (.inl (pkF (va_up σ f1 (wr C 0 i2 (fun i9 => B (p + (w + 4) + i9)), 0 + i2, 0)))))), (sa, .inl (cI, 4, .inl (fun i9 => nI ((va_up σ f1 (wr C 0 i2 (fun i9 => B (p + (w + 4) + i9)), 0 + i2, 0)) i9).2.1))), (pa, .inl (cI, 4, .inl (fun i9 => nI ((va_up σ f1 (wr C 0 i2 (fun i9 => B (p + (w + 4) + i9)), 0 + i2, 0)) i9).2.2)))]) hD hS hAq [0, 1, 2, 3] rfl
                            have hKc := hK.sub (tys' := [(cL, .long), (cI, .int)]) [0, 1] rfl
                            refine va_callv (va_runV (As := [.int (nI f1), .int (nI (B (p + (w + 4) + i2)))]) (rest := []) ⟨hx, hb, hml, hown, hA⟩ (c_M_add l D cL cI h cl sa pa M 0 (nI w) (σ) H.size f1 hf1 (wr C 0 i2 (fun i9 => B (p + (w + 4) + i9))) (0 + i2) 0 (wr_lt hB2 (fun i9 _ => hB _)) ((fun i9 => B (p + (w + 4) + i9)) i2) (by omega) (hB _)) (q_M_add hA k3_13 rfl rfl ⟨(Nat.le_of_ble_eq_true rfl), (Nat.le_of_ble_eq_true rfl)⟩) (ox_V (va_recv hKc hPc (ci := 2) (q0 := 0) rfl rfl) (oxw_S hPc hKc hD)) rfl rfl hl.1 rfl (lv_room (Nat.le_of_ble_eq_true rfl)) d_M_unwrap_198 ⟨(Nat.le_of_ble_eq_true rfl), (Nat.le_of_ble_eq_true rfl)⟩) hS (fun q _ h => hFc q h) hFc (fun u9 t9 H1 locs ht9 hvm9 hw9 hB9 hz1 hk1 hS => ?_)
                            obtain ⟨hP, hK1, hD1⟩ := hB9
                            rw [ht9] at hP
                            obtain ⟨hP, hD⟩ := va_join (wr := []) (w1 := rfW cL cI h cl sa pa M 0 (nI w) (va_up (σ) f1 (va_up (wr C 0 i2 (fun i9 => B (p + (w + 4) + i9))) (0 + i2) ((fun i9 => B (p + (w + 4) + i9)) i2), 0 + i2 + 1, 0))) hPc hD [0, 1, 2, 3] [] rfl rfl (by decide) (by decide) hk1 hFc hP hD1
                            generalize H1 = H at hP hS ⊢
                            have hP : va_P D vCl [(h, .inr (2, [.int 0, .int (nI M), .ref cl, .ref sa, .ref pa, .int (nI w)])), (cl, .inl (cL, 32768, .inr (.inl (pkF (va_up (σ) f1 (va_up (wr C 0 i2 (fun i9 => B (p + (w + 4) + i9))) (0 + i2) ((fun i9 => B (p + (w + 4) + i9)) i2), 0 + i2 + 1, 0)))))), (sa, .inl (cI, 4, .inl (fun i9 => nI ((va_up (σ) f1 (va_up (wr C 0 i2 (fun i9 => B (p + (w + 4) + i9))) (0 + i2) ((fun i9 => B (p + (w + 4) + i9)) i2), 0 + i2 + 1, 0)) i9).2.1))), (pa, .inl (cI, 4, .inl (fun i9 => nI ((va_up (σ) f1 (va_up (wr C 0 i2 (fun i9 => B (p + (w + 4) + i9))) (0 + i2) ((fun i9 => B (p + (w + 4) + i9)) i2), 0 + i2 + 1, 0)) i9).2.2)))] H := hP
                            have hD : va_D A [(h, .inr (2, [.int 0, .int (nI M), .ref cl, .ref sa, .ref pa, .int (nI w)])), (cl, .inl (cL, 32768, .inr (.inl (pkF (va_up (σ) f1 (va_up (wr C 0 i2 (fun i9 => B (p + (w + 4) + i9))) (0 + i2) ((fun i9 => B (p + (w + 4) + i9)) i2), 0 + i2 + 1, 0)))))), (sa, .inl (cI, 4, .inl (fun i9 => nI ((va_up (σ) f1 (va_up (wr C 0 i2 (fun i9 => B (p + (w + 4) + i9))) (0 + i2) ((fun i9 => B (p + (w + 4) + i9)) i2), 0 + i2 + 1, 0)) i9).2.1))), (pa, .inl (cI, 4, .inl (fun i9 => nI ((va_up (σ) f1 (va_up (wr C 0 i2 (fun i9 => B (p + (w + 4) + i9))) (0 + i2) ((fun i9 => B (p + (w + 4) + i9)) i2), 0 + i2 + 1, 0)) i9).2.2)))] := hD
                            rw [wr_s, Nat.add_assoc 0 i2 1] at hP hD
                            have hP : va_P D vCl [(h, .inr (2, [.int 0, .int (nI M), .ref cl, .ref sa, .ref pa, .int (nI w)])), (cl, .inl (cL, 32768, .inr (.inl (pkF (va_up (σ) f1 (wr C 0 (i2 + 1) (fun i9 => B (p + (w + 4) + i9)), 0 + (i2 + 1), 0)))))), (sa, .inl (cI, 4, .inl (fun i9 => nI ((va_up (σ) f1 (wr C 0 (i2 + 1) (fun i9 => B (p + (w + 4) + i9)), 0 + (i2 + 1), 0)) i9).2.1))), (pa, .inl (cI, 4, .inl (fun i9 => nI ((va_up (σ) f1 (wr C 0 (i2 + 1) (fun i9 => B (p + (w + 4) + i9)), 0 + (i2 + 1), 0)) i9).2.2)))] H := hP
                            have hD : va_D A [(h, .inr (2, [.int 0, .int (nI M), .ref cl, .ref sa, .ref pa, .int (nI w)])), (cl, .inl (cL, 32768, .inr (.inl (pkF (va_up (σ) f1 (wr C 0 (i2 + 1) (fun i9 => B (p + (w + 4) + i9)), 0 + (i2 + 1), 0)))))), (sa, .inl (cI, 4, .inl (fun i9 => nI ((va_up (σ) f1 (wr C 0 (i2 + 1) (fun i9 => B (p + (w + 4) + i9)), 0 + (i2 + 1), 0)) i9).2.1))), (pa, .inl (cI, 4, .inl (fun i9 => nI ((va_up (σ) f1 (wr C 0 (i2 + 1) (fun i9 => B (p + (w + 4) + i9)), 0 + (i2 + 1), 0)) i9).2.2)))] := hD
                            obtain ⟨v201, ev201⟩ : ∃ y : Int32, y = nI i2 + 1 := ⟨_, rfl⟩
                            refine lv_iinc (v := v201) (lv' := [(8, .int v201), (0, .ref h), (1, .int (nI k)), (2, .int (nI f1)), (6, .int (nI (gs B p w))), (7, .int (nI (p + (w + 4))))]) hx hb d_M_unwrap_201 hl (k := 0) rfl (by rw [ev201]; rfl) (by decide) rfl (fun ls hl => ?_)
                            have ev201 : v201 = nI (i2 + 1) := by rw [ev201]; exact nI_1 i2
                            subst ev201
                            refine lv_goto (tgt := 179) hx hb d_M_unwrap_204 (by decide) ?_
                            exact ih_loop (i2 + 1) (by omega) (by omega) _ _ (hP.sub [0, 1, 2, 3] rfl) (hD.sub [0, 1, 2, 3] (by decide) rfl) hS ls (lv_sub hl [0, 1, 2, 3, 4, 5] rfl)
                      exact loop ((gs B p w) + 1) 0 (by omega) (by omega) _ _ (hP.sub [0, 1, 2, 3] rfl) (hD.sub [0, 1, 2, 3] (by decide) rfl) hS ls (lv_sub hl [0, 4, 5, 6, 2, 1] rfl)
                    · refine lv_aload_n hx hb d_M_unwrap_156 rfl (lv_at hl 3 rfl) ?_
                      refine lv_iconst (v := 4) hx hb d_M_unwrap_157 (by decide) ?_
                      have hPc := hP
                      have hFc := va_free (wc := [(h, .inr (2, [.int 0, .int (nI M), .ref cl, .ref sa, .ref pa, .int (nI w)])), (cl, .inl (cL, 32768, .inr (.inl (pkF (σ))))), (sa, .inl (cI, 4, .inl (fun i9 => nI ((σ) i9).2.1))), (pa, .inl (cI, 4, .inl (fun i9 => nI ((σ) i9).2.2)))]) hD hS hAq [0, 1, 2, 3] rfl
                      have hKc := hK.sub (tys' := [(cL, .long), (cI, .int)]) [0, 1] rfl
                      refine va_calli (va_runV (As := [.int 4]) (rest := []) ⟨hx, hb, hml, hown, hA⟩ (c_M_fail l D cL cI h cl sa pa M 0 (nI w) (σ) H.size 4) (q_M_fail hA k3_4 rfl rfl ⟨(Nat.le_of_ble_eq_true rfl), (Nat.le_of_ble_eq_true rfl)⟩) (ox_V (va_recv hKc hPc (ci := 2) (q0 := 0) rfl rfl) (oxw_S hPc hKc hD)) rfl rfl hl.1 rfl (lv_room (Nat.le_of_ble_eq_true rfl)) d_M_unwrap_158 ⟨(Nat.le_of_ble_eq_true rfl), (Nat.le_of_ble_eq_true rfl)⟩) hS (fun q _ h => hFc q h) hFc (fun r158 u9 t9 H1 locs ht9 hvm9 hw9 hB9 hz1 hk1 hS => ?_)
                      obtain ⟨hP, hK1, hD1⟩ := hB9
                      rw [ht9] at hP
                      obtain ⟨hP, hD⟩ := va_join (wr := []) (w1 := rfW cL cI h cl sa pa M 4 (nI w) (σ)) hPc hD [0, 1, 2, 3] [] rfl rfl (by decide) (by decide) hk1 hFc hP hD1
                      generalize H1 = H at hP hS ⊢
                      have hP : va_P D vCl [(h, .inr (2, [.int 4, .int (nI M), .ref cl, .ref sa, .ref pa, .int (nI w)])), (cl, .inl (cL, 32768, .inr (.inl (pkF (σ))))), (sa, .inl (cI, 4, .inl (fun i9 => nI ((σ) i9).2.1))), (pa, .inl (cI, 4, .inl (fun i9 => nI ((σ) i9).2.2)))] H := hP
                      have hD : va_D A [(h, .inr (2, [.int 4, .int (nI M), .ref cl, .ref sa, .ref pa, .int (nI w)])), (cl, .inl (cL, 32768, .inr (.inl (pkF (σ))))), (sa, .inl (cI, 4, .inl (fun i9 => nI ((σ) i9).2.1))), (pa, .inl (cI, 4, .inl (fun i9 => nI ((σ) i9).2.2)))] := hD
                      subst hw9
                      exact W.iret (v := 0) hx hb hr (fun t ht hW => ⟨⟨_, (4, σ, nI w), rfl, (by unfold spReadFrame gmσ gwσ; simp only [hrk, hrf1, hρ, hρ2]; rw [if_neg (fun h8 => h8 ⟨hR, hR2⟩), if_neg c22, if_neg (by rw [hg]; omega), if_neg (by rw [hg]; omega), hgn, if_neg (Nat.not_lt.mpr hg6), if_neg (Nat.not_lt.mpr hl6), if_pos c153]), by rw [ht]; exact hP, va_K.moved hW.alike hK, hD⟩, hS.F ht⟩) hS.2.2 d_M_unwrap_161
                  · have hl6 : n < p + ((w + 4) + (gs B p w)) := by
                      first
                      | (have := (nI_ltI (a := n) (b := p + (w + 4)) (by omega) (by omega)).mp c106; omega)
                      | (have := mt (nI_leI (a := gs B p w) (b := n - (p + (w + 4))) (by omega) (by omega)).mpr c120; omega)
                    refine lv_aload_n hx hb d_M_unwrap_123 rfl (lv_at hl 3 rfl) ?_
                    refine lv_iconst (v := 3) hx hb d_M_unwrap_124 (by decide) ?_
                    have hPc := hP
                    have hFc := va_free (wc := [(h, .inr (2, [.int 0, .int (nI M), .ref cl, .ref sa, .ref pa, .int (nI w)])), (cl, .inl (cL, 32768, .inr (.inl (pkF (σ))))), (sa, .inl (cI, 4, .inl (fun i9 => nI ((σ) i9).2.1))), (pa, .inl (cI, 4, .inl (fun i9 => nI ((σ) i9).2.2)))]) hD hS hAq [0, 1, 2, 3] rfl
                    have hKc := hK.sub (tys' := [(cL, .long), (cI, .int)]) [0, 1] rfl
                    refine va_calli (va_runV (As := [.int 3]) (rest := []) ⟨hx, hb, hml, hown, hA⟩ (c_M_fail l D cL cI h cl sa pa M 0 (nI w) (σ) H.size 3) (q_M_fail hA k3_4 rfl rfl ⟨(Nat.le_of_ble_eq_true rfl), (Nat.le_of_ble_eq_true rfl)⟩) (ox_V (va_recv hKc hPc (ci := 2) (q0 := 0) rfl rfl) (oxw_S hPc hKc hD)) rfl rfl hl.1 rfl (lv_room (Nat.le_of_ble_eq_true rfl)) d_M_unwrap_125 ⟨(Nat.le_of_ble_eq_true rfl), (Nat.le_of_ble_eq_true rfl)⟩) hS (fun q _ h => hFc q h) hFc (fun r125 u9 t9 H1 locs ht9 hvm9 hw9 hB9 hz1 hk1 hS => ?_)
                    obtain ⟨hP, hK1, hD1⟩ := hB9
                    rw [ht9] at hP
                    obtain ⟨hP, hD⟩ := va_join (wr := []) (w1 := rfW cL cI h cl sa pa M 3 (nI w) (σ)) hPc hD [0, 1, 2, 3] [] rfl rfl (by decide) (by decide) hk1 hFc hP hD1
                    generalize H1 = H at hP hS ⊢
                    have hP : va_P D vCl [(h, .inr (2, [.int 3, .int (nI M), .ref cl, .ref sa, .ref pa, .int (nI w)])), (cl, .inl (cL, 32768, .inr (.inl (pkF (σ))))), (sa, .inl (cI, 4, .inl (fun i9 => nI ((σ) i9).2.1))), (pa, .inl (cI, 4, .inl (fun i9 => nI ((σ) i9).2.2)))] H := hP
                    have hD : va_D A [(h, .inr (2, [.int 3, .int (nI M), .ref cl, .ref sa, .ref pa, .int (nI w)])), (cl, .inl (cL, 32768, .inr (.inl (pkF (σ))))), (sa, .inl (cI, 4, .inl (fun i9 => nI ((σ) i9).2.1))), (pa, .inl (cI, 4, .inl (fun i9 => nI ((σ) i9).2.2)))] := hD
                    subst hw9
                    exact W.iret (v := 0) hx hb hr (fun t ht hW => ⟨⟨_, (3, σ, nI w), rfl, (by unfold spReadFrame gmσ gwσ; simp only [hrk, hrf1, hρ, hρ2]; rw [if_neg (fun h8 => h8 ⟨hR, hR2⟩), if_neg c22, if_neg (by rw [hg]; omega), if_neg (by rw [hg]; omega), hgn, if_neg (Nat.not_lt.mpr hg6), if_pos hl6]), by rw [ht]; exact hP, va_K.moved hW.alike hK, hD⟩, hS.F ht⟩) hS.2.2 d_M_unwrap_128
              · have hg6 : 65536 < gs B p w := by
                  first
                  | (have := (hm_neg h64).mp ((lg_cmp_lt _ _).mp (by rw [← ev59]; exact c60)); omega)
                  | (have := mt hle.mpr (fun z => c69 (by rw [ev68]; exact (lg_cmp_le _ _).mpr z)); omega)
                refine lv_aload_n hx hb d_M_unwrap_72 rfl (lv_at hl 1 rfl) ?_
                refine lv_iconst (v := 2) hx hb d_M_unwrap_73 (by decide) ?_
                have hPc := hP
                have hFc := va_free (wc := [(h, .inr (2, [.int 0, .int (nI M), .ref cl, .ref sa, .ref pa, .int (nI w)])), (cl, .inl (cL, 32768, .inr (.inl (pkF (σ))))), (sa, .inl (cI, 4, .inl (fun i9 => nI ((σ) i9).2.1))), (pa, .inl (cI, 4, .inl (fun i9 => nI ((σ) i9).2.2)))]) hD hS hAq [0, 1, 2, 3] rfl
                have hKc := hK.sub (tys' := [(cL, .long), (cI, .int)]) [0, 1] rfl
                refine va_calli (va_runV (As := [.int 2]) (rest := []) ⟨hx, hb, hml, hown, hA⟩ (c_M_fail l D cL cI h cl sa pa M 0 (nI w) (σ) H.size 2) (q_M_fail hA k3_4 rfl rfl ⟨(Nat.le_of_ble_eq_true rfl), (Nat.le_of_ble_eq_true rfl)⟩) (ox_V (va_recv hKc hPc (ci := 2) (q0 := 0) rfl rfl) (oxw_S hPc hKc hD)) rfl rfl hl.1 rfl (lv_room (Nat.le_of_ble_eq_true rfl)) d_M_unwrap_74 ⟨(Nat.le_of_ble_eq_true rfl), (Nat.le_of_ble_eq_true rfl)⟩) hS (fun q _ h => hFc q h) hFc (fun r74 u9 t9 H1 locs ht9 hvm9 hw9 hB9 hz1 hk1 hS => ?_)
                obtain ⟨hP, hK1, hD1⟩ := hB9
                rw [ht9] at hP
                obtain ⟨hP, hD⟩ := va_join (wr := []) (w1 := rfW cL cI h cl sa pa M 2 (nI w) (σ)) hPc hD [0, 1, 2, 3] [] rfl rfl (by decide) (by decide) hk1 hFc hP hD1
                generalize H1 = H at hP hS ⊢
                have hP : va_P D vCl [(h, .inr (2, [.int 2, .int (nI M), .ref cl, .ref sa, .ref pa, .int (nI w)])), (cl, .inl (cL, 32768, .inr (.inl (pkF (σ))))), (sa, .inl (cI, 4, .inl (fun i9 => nI ((σ) i9).2.1))), (pa, .inl (cI, 4, .inl (fun i9 => nI ((σ) i9).2.2)))] H := hP
                have hD : va_D A [(h, .inr (2, [.int 2, .int (nI M), .ref cl, .ref sa, .ref pa, .int (nI w)])), (cl, .inl (cL, 32768, .inr (.inl (pkF (σ))))), (sa, .inl (cI, 4, .inl (fun i9 => nI ((σ) i9).2.1))), (pa, .inl (cI, 4, .inl (fun i9 => nI ((σ) i9).2.2)))] := hD
                subst hw9
                exact W.iret (v := 0) hx hb hr (fun t ht hW => ⟨⟨_, (2, σ, nI w), rfl, (by unfold spReadFrame gmσ gwσ; simp only [hrk, hrf1, hρ, hρ2]; rw [if_neg (fun h8 => h8 ⟨hR, hR2⟩), if_neg c22, if_neg (by rw [hg]; omega), if_neg (by rw [hg]; omega), hgn, if_pos hg6]), by rw [ht]; exact hP, va_K.moved hW.alike hK, hD⟩, hS.F ht⟩) hS.2.2 d_M_unwrap_77
          · exact absurd (nI_pos' (by omega)) c48
      · refine lv_aload_n hx hb d_M_unwrap_25 rfl (lv_at hl 0 rfl) ?_
        refine lv_iconst (v := 2) hx hb d_M_unwrap_26 (by decide) ?_
        have hPc := hP
        have hFc := va_free (wc := [(h, .inr (2, [.int 0, .int (nI M), .ref cl, .ref sa, .ref pa, .int tk])), (cl, .inl (cL, 32768, .inr (.inl (pkF (σ))))), (sa, .inl (cI, 4, .inl (fun i9 => nI ((σ) i9).2.1))), (pa, .inl (cI, 4, .inl (fun i9 => nI ((σ) i9).2.2)))]) hD hS hAq [0, 1, 2, 3] rfl
        have hKc := hK.sub (tys' := [(cL, .long), (cI, .int)]) [0, 1] rfl
        refine va_calli (va_runV (As := [.int 2]) (rest := []) ⟨hx, hb, hml, hown, hA⟩ (c_M_fail l D cL cI h cl sa pa M 0 tk (σ) s.heap.size 2) (q_M_fail hA k3_4 rfl rfl ⟨(Nat.le_of_ble_eq_true rfl), (Nat.le_of_ble_eq_true rfl)⟩) (ox_V (va_recv hKc hPc (ci := 2) (q0 := 0) rfl rfl) (oxw_S hPc hKc hD)) rfl rfl hl.1 rfl (lv_room (Nat.le_of_ble_eq_true rfl)) d_M_unwrap_27 ⟨(Nat.le_of_ble_eq_true rfl), (Nat.le_of_ble_eq_true rfl)⟩) hS (fun q _ h => hFc q h) hFc (fun r27 u9 t9 H1 locs ht9 hvm9 hw9 hB9 hz1 hk1 hS => ?_)
        obtain ⟨hP, hK1, hD1⟩ := hB9
        rw [ht9] at hP
        obtain ⟨hP, hD⟩ := va_join (wr := []) (w1 := rfW cL cI h cl sa pa M 2 tk (σ)) hPc hD [0, 1, 2, 3] [] rfl rfl (by decide) (by decide) hk1 hFc hP hD1
        generalize H1 = H at hP hS ⊢
        have hP : va_P D vCl [(h, .inr (2, [.int 2, .int (nI M), .ref cl, .ref sa, .ref pa, .int tk])), (cl, .inl (cL, 32768, .inr (.inl (pkF (σ))))), (sa, .inl (cI, 4, .inl (fun i9 => nI ((σ) i9).2.1))), (pa, .inl (cI, 4, .inl (fun i9 => nI ((σ) i9).2.2)))] H := hP
        have hD : va_D A [(h, .inr (2, [.int 2, .int (nI M), .ref cl, .ref sa, .ref pa, .int tk])), (cl, .inl (cL, 32768, .inr (.inl (pkF (σ))))), (sa, .inl (cI, 4, .inl (fun i9 => nI ((σ) i9).2.1))), (pa, .inl (cI, 4, .inl (fun i9 => nI ((σ) i9).2.2)))] := hD
        subst hw9
        exact W.iret (v := 0) hx hb hr (fun t ht hW => ⟨⟨_, (2, σ, tk), rfl, (by unfold spReadFrame gmσ gwσ; simp only [hrk, hrf1, hρ, hρ2]; rw [if_neg (fun h8 => h8 ⟨hR, hR2⟩), if_pos c22]), by rw [ht]; exact hP, va_K.moved hW.alike hK, hD⟩, hS.F ht⟩) hS.2.2 d_M_unwrap_30
    · refine lv_if_ne (tgt := 20) hx hb d_M_unwrap_11 (by decide) (fun q9 => absurd (by decide) q9) (fun _ => ?_)
      refine lv_aload_n hx hb d_M_unwrap_14 rfl (lv_at hl 0 rfl) ?_
      refine lv_iconst (v := 1) hx hb d_M_unwrap_15 (by decide) ?_
      have hPc := hP
      have hFc := va_free (wc := [(h, .inr (2, [.int 0, .int (nI M), .ref cl, .ref sa, .ref pa, .int tk])), (cl, .inl (cL, 32768, .inr (.inl (pkF (σ))))), (sa, .inl (cI, 4, .inl (fun i9 => nI ((σ) i9).2.1))), (pa, .inl (cI, 4, .inl (fun i9 => nI ((σ) i9).2.2)))]) hD hS hAq [0, 1, 2, 3] rfl
      have hKc := hK.sub (tys' := [(cL, .long), (cI, .int)]) [0, 1] rfl
      refine va_calli (va_runV (As := [.int 1]) (rest := []) ⟨hx, hb, hml, hown, hA⟩ (c_M_fail l D cL cI h cl sa pa M 0 tk (σ) s.heap.size 1) (q_M_fail hA k3_4 rfl rfl ⟨(Nat.le_of_ble_eq_true rfl), (Nat.le_of_ble_eq_true rfl)⟩) (ox_V (va_recv hKc hPc (ci := 2) (q0 := 0) rfl rfl) (oxw_S hPc hKc hD)) rfl rfl hl.1 rfl (lv_room (Nat.le_of_ble_eq_true rfl)) d_M_unwrap_16 ⟨(Nat.le_of_ble_eq_true rfl), (Nat.le_of_ble_eq_true rfl)⟩) hS (fun q _ h => hFc q h) hFc (fun r16 u9 t9 H1 locs ht9 hvm9 hw9 hB9 hz1 hk1 hS => ?_)
      obtain ⟨hP, hK1, hD1⟩ := hB9
      rw [ht9] at hP
      obtain ⟨hP, hD⟩ := va_join (wr := []) (w1 := rfW cL cI h cl sa pa M 1 tk (σ)) hPc hD [0, 1, 2, 3] [] rfl rfl (by decide) (by decide) hk1 hFc hP hD1
      generalize H1 = H at hP hS ⊢
      have hP : va_P D vCl [(h, .inr (2, [.int 1, .int (nI M), .ref cl, .ref sa, .ref pa, .int tk])), (cl, .inl (cL, 32768, .inr (.inl (pkF (σ))))), (sa, .inl (cI, 4, .inl (fun i9 => nI ((σ) i9).2.1))), (pa, .inl (cI, 4, .inl (fun i9 => nI ((σ) i9).2.2)))] H := hP
      have hD : va_D A [(h, .inr (2, [.int 1, .int (nI M), .ref cl, .ref sa, .ref pa, .int tk])), (cl, .inl (cL, 32768, .inr (.inl (pkF (σ))))), (sa, .inl (cI, 4, .inl (fun i9 => nI ((σ) i9).2.1))), (pa, .inl (cI, 4, .inl (fun i9 => nI ((σ) i9).2.2)))] := hD
      subst hw9
      exact W.iret (v := 0) hx hb hr (fun t ht hW => ⟨⟨_, (1, σ, tk), rfl, (by unfold spReadFrame; rw [if_pos (fun h9 => by first | exact hR h9.1 | exact hR2 h9.2)]), by rw [ht]; exact hP, va_K.moved hW.alike hK, hD⟩, hS.F ht⟩) hS.2.2 d_M_unwrap_19
  · refine lv_if_eq (tgt := 14) hx hb d_M_unwrap_4 (by decide) (fun _ => ?_) (fun q9 => absurd (by decide) q9)
    refine lv_aload_n hx hb d_M_unwrap_14 rfl (lv_at hl 0 rfl) ?_
    refine lv_iconst (v := 1) hx hb d_M_unwrap_15 (by decide) ?_
    have hPc := hP
    have hFc := va_free (wc := [(h, .inr (2, [.int 0, .int (nI M), .ref cl, .ref sa, .ref pa, .int tk])), (cl, .inl (cL, 32768, .inr (.inl (pkF (σ))))), (sa, .inl (cI, 4, .inl (fun i9 => nI ((σ) i9).2.1))), (pa, .inl (cI, 4, .inl (fun i9 => nI ((σ) i9).2.2)))]) hD hS hAq [0, 1, 2, 3] rfl
    have hKc := hK.sub (tys' := [(cL, .long), (cI, .int)]) [0, 1] rfl
    refine va_calli (va_runV (As := [.int 1]) (rest := []) ⟨hx, hb, hml, hown, hA⟩ (c_M_fail l D cL cI h cl sa pa M 0 tk (σ) s.heap.size 1) (q_M_fail hA k3_4 rfl rfl ⟨(Nat.le_of_ble_eq_true rfl), (Nat.le_of_ble_eq_true rfl)⟩) (ox_V (va_recv hKc hPc (ci := 2) (q0 := 0) rfl rfl) (oxw_S hPc hKc hD)) rfl rfl hl.1 rfl (lv_room (Nat.le_of_ble_eq_true rfl)) d_M_unwrap_16 ⟨(Nat.le_of_ble_eq_true rfl), (Nat.le_of_ble_eq_true rfl)⟩) hS (fun q _ h => hFc q h) hFc (fun r16 u9 t9 H1 locs ht9 hvm9 hw9 hB9 hz1 hk1 hS => ?_)
    obtain ⟨hP, hK1, hD1⟩ := hB9
    rw [ht9] at hP
    obtain ⟨hP, hD⟩ := va_join (wr := []) (w1 := rfW cL cI h cl sa pa M 1 tk (σ)) hPc hD [0, 1, 2, 3] [] rfl rfl (by decide) (by decide) hk1 hFc hP hD1
    generalize H1 = H at hP hS ⊢
    have hP : va_P D vCl [(h, .inr (2, [.int 1, .int (nI M), .ref cl, .ref sa, .ref pa, .int tk])), (cl, .inl (cL, 32768, .inr (.inl (pkF (σ))))), (sa, .inl (cI, 4, .inl (fun i9 => nI ((σ) i9).2.1))), (pa, .inl (cI, 4, .inl (fun i9 => nI ((σ) i9).2.2)))] H := hP
    have hD : va_D A [(h, .inr (2, [.int 1, .int (nI M), .ref cl, .ref sa, .ref pa, .int tk])), (cl, .inl (cL, 32768, .inr (.inl (pkF (σ))))), (sa, .inl (cI, 4, .inl (fun i9 => nI ((σ) i9).2.1))), (pa, .inl (cI, 4, .inl (fun i9 => nI ((σ) i9).2.2)))] := hD
    subst hw9
    exact W.iret (v := 0) hx hb hr (fun t ht hW => ⟨⟨_, (1, σ, tk), rfl, (by unfold spReadFrame; rw [if_pos (fun h9 => by first | exact hR h9.1 | exact hR2 h9.2)]), by rw [ht]; exact hP, va_K.moved hW.alike hK, hD⟩, hS.F ht⟩) hS.2.2 d_M_unwrap_19
set_option maxHeartbeats 600000 in
set_option maxRecDepth 100000 in
/-- readBlock -/
theorem c_M_readBlock (l : Launch) (D : va_G) (cL cI : ClassId) (h cl sa pa M : Nat) (th tk : Int32) (σ : dkS) (sz : Nat) (x f : Int32) (hσ : dkok M σ) : Met l y_M_readBlock w_M_readBlock ({ frames := 3, cells := 0, slots := 0, locals := 78 }) (va_Pc [.ref h, .int x, .int f] (oxw sz D [(cL, .long), (cI, .int)] [(h, .inr (2, [.int th, .int (nI M), .ref cl, .ref sa, .ref pa, .int tk])), (cl, .inl (cL, 32768, .inr (.inl (pkF (σ))))), (sa, .inl (cI, 4, .inl (fun i9 => nI ((σ) i9).2.1))), (pa, .inl (cI, 4, .inl (fun i9 => nI ((σ) i9).2.2)))])) (va_Qi (fun (r : Int32) (uu : Nat × dkS × Int32) => spReadBlock σ x f = (uu.1, r, uu.2.1)) (fun uu => ow D [(cL, .long), (cI, .int)] (va_A [(h, .inr (2, [.int th, .int (nI M), .ref cl, .ref sa, .ref pa, .int tk])), (cl, .inl (cL, 32768, .inr (.inl (pkF (σ))))), (sa, .inl (cI, 4, .inl (fun i9 => nI ((σ) i9).2.1))), (pa, .inl (cI, 4, .inl (fun i9 => nI ((σ) i9).2.2)))] sz) (rfW cL cI h cl sa pa M (nI uu.1) uu.2.2 uu.2.1)) (va_A [(h, .inr (2, [.int th, .int (nI M), .ref cl, .ref sa, .ref pa, .int tk])), (cl, .inl (cL, 32768, .inr (.inl (pkF (σ))))), (sa, .inl (cI, 4, .inl (fun i9 => nI ((σ) i9).2.1))), (pa, .inl (cI, 4, .inl (fun i9 => nI ((σ) i9).2.2)))] sz)) 0 0 (va_A [(h, .inr (2, [.int th, .int (nI M), .ref cl, .ref sa, .ref pa, .int tk])), (cl, .inl (cL, 32768, .inr (.inl (pkF (σ))))), (sa, .inl (cI, 4, .inl (fun i9 => nI ((σ) i9).2.1))), (pa, .inl (cI, 4, .inl (fun i9 => nI ((σ) i9).2.2)))] sz) := by
  refine Met.ofW (cc := b_M_readBlock) (maxL := 3) (ret := (some .int)) (by decide) rfl ?_
  intro p9 e9 s m args below meth c9 s₁ BL hml hv
  obtain ⟨rfl, hsz, hP, hK, hD0⟩ := hv
  have hx := BL.exec
  have hb := BL.bytes
  have hr := BL.returns
  have hts := atoms_spec (ws := w_M_readBlock) BL.pre
  have hA : ∀ w ∈ wsA, w.before _ s = true := fun w h => hts w (List.mem_cons_of_mem _ h)
  have hown : s.vm.findClass R_M = some m.cls := findClass_of_methodNamed BL.named
  have hlocks := BL.notSynchronized
  subst hsz
  have hD := hD0.self (sz := s.heap.size)
  generalize hAe : va_A [(h, .inr (2, [.int th, .int (nI M), .ref cl, .ref sa, .ref pa, .int tk])), (cl, .inl (cL, 32768, .inr (.inl (pkF (σ))))), (sa, .inl (cI, 4, .inl (fun i9 => nI ((σ) i9).2.1))), (pa, .inl (cI, 4, .inl (fun i9 => nI ((σ) i9).2.2)))] s.heap.size = A at hD ⊢
  have hAq : ∀ q : Nat, s.heap.size ≤ q → A q := fun q h => by rw [← hAe]; exact Or.inr h
  have hS : va_S A s.heap s.heap [] := va_S.rf
  have hP : va_P D vCl [(h, .inr (2, [.int th, .int (nI M), .ref cl, .ref sa, .ref pa, .int tk])), (cl, .inl (cL, 32768, .inr (.inl (pkF (σ))))), (sa, .inl (cI, 4, .inl (fun i9 => nI ((σ) i9).2.1))), (pa, .inl (cI, 4, .inl (fun i9 => nI ((σ) i9).2.2)))] s.heap := hP
  have hl := lv_entry ([.ref h, .int x, .int f]) (n := 3) (Nat.le_of_ble_eq_true rfl)
  rw [lg_entry_eq]
  generalize (lg_sl ([.ref h, .int x, .int f]) ++ List.replicate (3 - (lg_sl ([.ref h, .int x, .int f])).length) Slot.unset).toArray = ls at hl ⊢
  have hl : lv_has ls 3 [(0, .ref h), (1, .int x), (2, .int f)] := hl
  refine lv_aload_n hx hb d_M_readBlock_0 rfl (lv_at hl 0 rfl) ?_
  refine lv_iconst (v := 0) hx hb d_M_readBlock_1 (by decide) ?_
  refine va_put (D := D) (ci := 2) (v := .int 0) (ty := .int) (C := R_M) (T := F_M) (N := 6) hx hb hA i_M t_M t_M_ok n_M hown hK hP hD hS 0 rfl rfl 0 (by decide) (hA _ k2_212) (fun _ h9 => h9) rfl (by decide +kernel) rfl rfl (Nat.le_of_ble_eq_true rfl) d_M_readBlock_2 (fun H locs hP hD hS => ?_)
  have hP : va_P D vCl [(h, .inr (2, [.int 0, .int (nI M), .ref cl, .ref sa, .ref pa, .int tk])), (cl, .inl (cL, 32768, .inr (.inl (pkF (σ))))), (sa, .inl (cI, 4, .inl (fun i9 => nI ((σ) i9).2.1))), (pa, .inl (cI, 4, .inl (fun i9 => nI ((σ) i9).2.2)))] H := hP
  have hD : va_D A [(h, .inr (2, [.int 0, .int (nI M), .ref cl, .ref sa, .ref pa, .int tk])), (cl, .inl (cL, 32768, .inr (.inl (pkF (σ))))), (sa, .inl (cI, 4, .inl (fun i9 => nI ((σ) i9).2.1))), (pa, .inl (cI, 4, .inl (fun i9 => nI ((σ) i9).2.2)))] := hD
  refine lv_aload_n hx hb d_M_readBlock_5 rfl (lv_at hl 0 rfl) ?_
  refine lv_iload_n hx hb d_M_readBlock_6 rfl (lv_at hl 1 rfl) ?_
  refine lv_iload_n hx hb d_M_readBlock_7 rfl (lv_at hl 2 rfl) ?_
  refine lv_iconst (v := 0) hx hb d_M_readBlock_8 (by decide) ?_
  have hPc := hP
  have hFc := va_free (wc := [(h, .inr (2, [.int 0, .int (nI M), .ref cl, .ref sa, .ref pa, .int tk])), (cl, .inl (cL, 32768, .inr (.inl (pkF (σ))))), (sa, .inl (cI, 4, .inl (fun i9 => nI ((σ) i9).2.1))), (pa, .inl (cI, 4, .inl (fun i9 => nI ((σ) i9).2.2)))]) hD hS hAq [0, 1, 2, 3] rfl
  have hKc := hK.sub (tys' := [(cL, .long), (cI, .int)]) [0, 1] rfl
  refine va_calli (va_runV (As := [.int x, .int f, .int 0]) (rest := []) ⟨hx, hb, hml, hown, hA⟩ (c_M_unwrap0 l D cL cI h cl sa pa M 0 tk σ H.size x f hσ) (q_M_unwrap hA k3_139 rfl rfl ⟨(Nat.le_of_ble_eq_true rfl), (Nat.le_of_ble_eq_true rfl)⟩) (ox_V (va_recv hKc hPc (ci := 2) (q0 := 0) rfl rfl) (oxw_S hPc hKc hD)) rfl rfl hl.1 rfl (lv_room (Nat.le_of_ble_eq_true rfl)) d_M_readBlock_9 ⟨(Nat.le_of_ble_eq_true rfl), (Nat.le_of_ble_eq_true rfl)⟩) hS (fun q _ h => hFc q h) hFc (fun r9 u9 t9 H1 locs ht9 hvm9 hw9 hB9 hz1 hk1 hS => ?_)
  obtain ⟨hP, hK1, hD1⟩ := hB9
  rw [ht9] at hP
  obtain ⟨hP, hD⟩ := va_join (wr := []) (w1 := rfW cL cI h cl sa pa M (nI u9.1) u9.2.2 u9.2.1) hPc hD [0, 1, 2, 3] [] rfl rfl (by decide) (by decide) hk1 hFc hP hD1
  generalize H1 = H at hP hS ⊢
  have hP : va_P D vCl [(h, .inr (2, [.int (nI u9.1), .int (nI M), .ref cl, .ref sa, .ref pa, .int u9.2.2])), (cl, .inl (cL, 32768, .inr (.inl (pkF u9.2.1)))), (sa, .inl (cI, 4, .inl (fun i9 => nI (u9.2.1 i9).2.1))), (pa, .inl (cI, 4, .inl (fun i9 => nI (u9.2.1 i9).2.2)))] H := hP
  have hD : va_D A [(h, .inr (2, [.int (nI u9.1), .int (nI M), .ref cl, .ref sa, .ref pa, .int u9.2.2])), (cl, .inl (cL, 32768, .inr (.inl (pkF u9.2.1)))), (sa, .inl (cI, 4, .inl (fun i9 => nI (u9.2.1 i9).2.1))), (pa, .inl (cI, 4, .inl (fun i9 => nI (u9.2.1 i9).2.2)))] := hD
  exact W.iret (v := r9) hx hb hr (fun t ht hW => ⟨⟨_, u9, rfl, (hw9), by rw [ht]; exact hP, va_K.moved hW.alike hK, hD⟩, hS.F ht⟩) hS.2.2 d_M_readBlock_12
set_option maxHeartbeats 600000 in
set_option maxRecDepth 100000 in
/-- readFrame -/
theorem c_M_readFrame (l : Launch) (D : va_G) (cL cI : ClassId) (h cl sa pa M : Nat) (th tk : Int32) (σ : dkS) (sz : Nat) (x f : Int32) (hσ : dkok M σ) : Met l y_M_readFrame w_M_readFrame ({ frames := 3, cells := 0, slots := 0, locals := 78 }) (va_Pc [.ref h, .int x, .int f] (oxw sz D [(cL, .long), (cI, .int)] [(h, .inr (2, [.int th, .int (nI M), .ref cl, .ref sa, .ref pa, .int tk])), (cl, .inl (cL, 32768, .inr (.inl (pkF (σ))))), (sa, .inl (cI, 4, .inl (fun i9 => nI ((σ) i9).2.1))), (pa, .inl (cI, 4, .inl (fun i9 => nI ((σ) i9).2.2)))])) (va_Qi (fun (r : Int32) (uu : Nat × dkS × Int32) => spReadFrame σ x f = (uu.1, r, uu.2.1)) (fun uu => ow D [(cL, .long), (cI, .int)] (va_A [(h, .inr (2, [.int th, .int (nI M), .ref cl, .ref sa, .ref pa, .int tk])), (cl, .inl (cL, 32768, .inr (.inl (pkF (σ))))), (sa, .inl (cI, 4, .inl (fun i9 => nI ((σ) i9).2.1))), (pa, .inl (cI, 4, .inl (fun i9 => nI ((σ) i9).2.2)))] sz) (rfW cL cI h cl sa pa M (nI uu.1) uu.2.2 uu.2.1)) (va_A [(h, .inr (2, [.int th, .int (nI M), .ref cl, .ref sa, .ref pa, .int tk])), (cl, .inl (cL, 32768, .inr (.inl (pkF (σ))))), (sa, .inl (cI, 4, .inl (fun i9 => nI ((σ) i9).2.1))), (pa, .inl (cI, 4, .inl (fun i9 => nI ((σ) i9).2.2)))] sz)) 0 0 (va_A [(h, .inr (2, [.int th, .int (nI M), .ref cl, .ref sa, .ref pa, .int tk])), (cl, .inl (cL, 32768, .inr (.inl (pkF (σ))))), (sa, .inl (cI, 4, .inl (fun i9 => nI ((σ) i9).2.1))), (pa, .inl (cI, 4, .inl (fun i9 => nI ((σ) i9).2.2)))] sz) := by
  refine Met.ofW (cc := b_M_readFrame) (maxL := 3) (ret := (some .int)) (by decide) rfl ?_
  intro p9 e9 s m args below meth c9 s₁ BL hml hv
  obtain ⟨rfl, hsz, hP, hK, hD0⟩ := hv
  have hx := BL.exec
  have hb := BL.bytes
  have hr := BL.returns
  have hts := atoms_spec (ws := w_M_readFrame) BL.pre
  have hA : ∀ w ∈ wsA, w.before _ s = true := fun w h => hts w (List.mem_cons_of_mem _ h)
  have hown : s.vm.findClass R_M = some m.cls := findClass_of_methodNamed BL.named
  have hlocks := BL.notSynchronized
  subst hsz
  have hD := hD0.self (sz := s.heap.size)
  generalize hAe : va_A [(h, .inr (2, [.int th, .int (nI M), .ref cl, .ref sa, .ref pa, .int tk])), (cl, .inl (cL, 32768, .inr (.inl (pkF (σ))))), (sa, .inl (cI, 4, .inl (fun i9 => nI ((σ) i9).2.1))), (pa, .inl (cI, 4, .inl (fun i9 => nI ((σ) i9).2.2)))] s.heap.size = A at hD ⊢
  have hAq : ∀ q : Nat, s.heap.size ≤ q → A q := fun q h => by rw [← hAe]; exact Or.inr h
  have hS : va_S A s.heap s.heap [] := va_S.rf
  have hP : va_P D vCl [(h, .inr (2, [.int th, .int (nI M), .ref cl, .ref sa, .ref pa, .int tk])), (cl, .inl (cL, 32768, .inr (.inl (pkF (σ))))), (sa, .inl (cI, 4, .inl (fun i9 => nI ((σ) i9).2.1))), (pa, .inl (cI, 4, .inl (fun i9 => nI ((σ) i9).2.2)))] s.heap := hP
  have hl := lv_entry ([.ref h, .int x, .int f]) (n := 3) (Nat.le_of_ble_eq_true rfl)
  rw [lg_entry_eq]
  generalize (lg_sl ([.ref h, .int x, .int f]) ++ List.replicate (3 - (lg_sl ([.ref h, .int x, .int f])).length) Slot.unset).toArray = ls at hl ⊢
  have hl : lv_has ls 3 [(0, .ref h), (1, .int x), (2, .int f)] := hl
  refine lv_aload_n hx hb d_M_readFrame_0 rfl (lv_at hl 0 rfl) ?_
  refine lv_iconst (v := 0) hx hb d_M_readFrame_1 (by decide) ?_
  refine va_put (D := D) (ci := 2) (v := .int 0) (ty := .int) (C := R_M) (T := F_M) (N := 6) hx hb hA i_M t_M t_M_ok n_M hown hK hP hD hS 0 rfl rfl 0 (by decide) (hA _ k2_212) (fun _ h9 => h9) rfl (by decide +kernel) rfl rfl (Nat.le_of_ble_eq_true rfl) d_M_readFrame_2 (fun H locs hP hD hS => ?_)
  have hP : va_P D vCl [(h, .inr (2, [.int 0, .int (nI M), .ref cl, .ref sa, .ref pa, .int tk])), (cl, .inl (cL, 32768, .inr (.inl (pkF (σ))))), (sa, .inl (cI, 4, .inl (fun i9 => nI ((σ) i9).2.1))), (pa, .inl (cI, 4, .inl (fun i9 => nI ((σ) i9).2.2)))] H := hP
  have hD : va_D A [(h, .inr (2, [.int 0, .int (nI M), .ref cl, .ref sa, .ref pa, .int tk])), (cl, .inl (cL, 32768, .inr (.inl (pkF (σ))))), (sa, .inl (cI, 4, .inl (fun i9 => nI ((σ) i9).2.1))), (pa, .inl (cI, 4, .inl (fun i9 => nI ((σ) i9).2.2)))] := hD
  refine lv_aload_n hx hb d_M_readFrame_5 rfl (lv_at hl 0 rfl) ?_
  refine lv_iload_n hx hb d_M_readFrame_6 rfl (lv_at hl 1 rfl) ?_
  refine lv_iload_n hx hb d_M_readFrame_7 rfl (lv_at hl 2 rfl) ?_
  refine lv_iconst (v := 4) hx hb d_M_readFrame_8 (by decide) ?_
  have hPc := hP
  have hFc := va_free (wc := [(h, .inr (2, [.int 0, .int (nI M), .ref cl, .ref sa, .ref pa, .int tk])), (cl, .inl (cL, 32768, .inr (.inl (pkF (σ))))), (sa, .inl (cI, 4, .inl (fun i9 => nI ((σ) i9).2.1))), (pa, .inl (cI, 4, .inl (fun i9 => nI ((σ) i9).2.2)))]) hD hS hAq [0, 1, 2, 3] rfl
  have hKc := hK.sub (tys' := [(cL, .long), (cI, .int)]) [0, 1] rfl
  refine va_calli (va_runV (As := [.int x, .int f, .int 4]) (rest := []) ⟨hx, hb, hml, hown, hA⟩ (c_M_unwrap4 l D cL cI h cl sa pa M 0 tk σ H.size x f hσ) (q_M_unwrap hA k3_139 rfl rfl ⟨(Nat.le_of_ble_eq_true rfl), (Nat.le_of_ble_eq_true rfl)⟩) (ox_V (va_recv hKc hPc (ci := 2) (q0 := 0) rfl rfl) (oxw_S hPc hKc hD)) rfl rfl hl.1 rfl (lv_room (Nat.le_of_ble_eq_true rfl)) d_M_readFrame_9 ⟨(Nat.le_of_ble_eq_true rfl), (Nat.le_of_ble_eq_true rfl)⟩) hS (fun q _ h => hFc q h) hFc (fun r9 u9 t9 H1 locs ht9 hvm9 hw9 hB9 hz1 hk1 hS => ?_)
  obtain ⟨hP, hK1, hD1⟩ := hB9
  rw [ht9] at hP
  obtain ⟨hP, hD⟩ := va_join (wr := []) (w1 := rfW cL cI h cl sa pa M (nI u9.1) u9.2.2 u9.2.1) hPc hD [0, 1, 2, 3] [] rfl rfl (by decide) (by decide) hk1 hFc hP hD1
  generalize H1 = H at hP hS ⊢
  have hP : va_P D vCl [(h, .inr (2, [.int (nI u9.1), .int (nI M), .ref cl, .ref sa, .ref pa, .int u9.2.2])), (cl, .inl (cL, 32768, .inr (.inl (pkF u9.2.1)))), (sa, .inl (cI, 4, .inl (fun i9 => nI (u9.2.1 i9).2.1))), (pa, .inl (cI, 4, .inl (fun i9 => nI (u9.2.1 i9).2.2)))] H := hP
  have hD : va_D A [(h, .inr (2, [.int (nI u9.1), .int (nI M), .ref cl, .ref sa, .ref pa, .int u9.2.2])), (cl, .inl (cL, 32768, .inr (.inl (pkF u9.2.1)))), (sa, .inl (cI, 4, .inl (fun i9 => nI (u9.2.1 i9).2.1))), (pa, .inl (cI, 4, .inl (fun i9 => nI (u9.2.1 i9).2.2)))] := hD
  exact W.iret (v := r9) hx hb hr (fun t ht hW => ⟨⟨_, u9, rfl, (hw9), by rw [ht]; exact hP, va_K.moved hW.alike hK, hD⟩, hS.F ht⟩) hS.2.2 d_M_readFrame_12
