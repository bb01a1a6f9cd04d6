/-! THE REFERENCE: PLACE, CUT, TURN, ROW, BYTEAT, SUM -/
set_option maxHeartbeats 600000 in
set_option maxRecDepth 100000 in
/-- place -/
theorem c_M_place (l : Launch) (D : va_G) (cL cI : ClassId) (h cl sa pa M : Nat) (th tk : Int32) (σ : dkS) (sz : Nat) (x z : Int32) (hσ : dkok M σ) : Met l y_M_place w_M_place ({ frames := 1, cells := 0, slots := 0, locals := 21 }) (va_Pc [.ref h, .int x, .int z] (oxw sz D [(cL, .long), (cI, .int)] [(h, .inr (2, [.int th, .int (nI M), .ref cl, .ref sa, .ref pa, .int tk])), (cl, .inl (cL, 32768, .inr (.inl (pkF (σ))))), (sa, .inl (cI, 4, .inl (fun i9 => nI ((σ) i9).2.1))), (pa, .inl (cI, 4, .inl (fun i9 => nI ((σ) i9).2.2)))])) (va_Qi (fun (r : Int32) (uu : Nat × dkS × Int32) => spPlace σ x z = (uu.1, r, uu.2.1)) (fun uu => ow D [(cL, .long), (cI, .int)] (va_A [(h, .inr (2, [.int th, .int (nI M), .ref cl, .ref sa, .ref pa, .int tk])), (cl, .inl (cL, 32768, .inr (.inl (pkF (σ))))), (sa, .inl (cI, 4, .inl (fun i9 => nI ((σ) i9).2.1))), (pa, .inl (cI, 4, .inl (fun i9 => nI ((σ) i9).2.2)))] sz) (rfW cL cI h cl sa pa M (nI uu.1) uu.2.2 uu.2.1)) (va_A [(h, .inr (2, [.int th, .int (nI M), .ref cl, .ref sa, .ref pa, .int tk])), (cl, .inl (cL, 32768, .inr (.inl (pkF (σ))))), (sa, .inl (cI, 4, .inl (fun i9 => nI ((σ) i9).2.1))), (pa, .inl (cI, 4, .inl (fun i9 => nI ((σ) i9).2.2)))] sz)) 0 0 (va_A [(h, .inr (2, [.int th, .int (nI M), .ref cl, .ref sa, .ref pa, .int tk])), (cl, .inl (cL, 32768, .inr (.inl (pkF (σ))))), (sa, .inl (cI, 4, .inl (fun i9 => nI ((σ) i9).2.1))), (pa, .inl (cI, 4, .inl (fun i9 => nI ((σ) i9).2.2)))] sz) := by
  refine Met.ofW (cc := b_M_place) (maxL := 4) (ret := (some .int)) (by decide) rfl ?_
  intro p9 e9 s m args below meth c9 s₁ BL hml hv
  obtain ⟨rfl, hsz, hP, hK, hD0⟩ := hv
  have hx := BL.exec
  have hb := BL.bytes
  have hr := BL.returns
  have hts := atoms_spec (ws := w_M_place) BL.pre
  have hA : ∀ w ∈ wsA, w.before _ s = true := fun w h => hts w (List.mem_cons_of_mem _ h)
  have hown : s.vm.findClass R_M = some m.cls := findClass_of_methodNamed BL.named
  have hlocks := BL.notSynchronized
  subst hsz
  have hD := hD0.self (sz := s.heap.size)
  generalize hAe : va_A [(h, .inr (2, [.int th, .int (nI M), .ref cl, .ref sa, .ref pa, .int tk])), (cl, .inl (cL, 32768, .inr (.inl (pkF (σ))))), (sa, .inl (cI, 4, .inl (fun i9 => nI ((σ) i9).2.1))), (pa, .inl (cI, 4, .inl (fun i9 => nI ((σ) i9).2.2)))] s.heap.size = A at hD ⊢
  have hAq : ∀ q : Nat, s.heap.size ≤ q → A q := fun q h => by rw [← hAe]; exact Or.inr h
  have hS : va_S A s.heap s.heap [] := va_S.rf
  have hP : va_P D vCl [(h, .inr (2, [.int th, .int (nI M), .ref cl, .ref sa, .ref pa, .int tk])), (cl, .inl (cL, 32768, .inr (.inl (pkF (σ))))), (sa, .inl (cI, 4, .inl (fun i9 => nI ((σ) i9).2.1))), (pa, .inl (cI, 4, .inl (fun i9 => nI ((σ) i9).2.2)))] s.heap := hP
  have hl := lv_entry ([.ref h, .int x, .int z]) (n := 4) (Nat.le_of_ble_eq_true rfl)
  rw [lg_entry_eq]
  generalize (lg_sl ([.ref h, .int x, .int z]) ++ List.replicate (4 - (lg_sl ([.ref h, .int x, .int z])).length) Slot.unset).toArray = ls at hl ⊢
  have hl : lv_has ls 4 [(0, .ref h), (1, .int x), (2, .int z)] := hl
  refine lv_aload_n hx hb d_M_place_0 rfl (lv_at hl 0 rfl) ?_
  refine lv_iconst (v := 0) hx hb d_M_place_1 (by decide) ?_
  refine va_put (D := D) (ci := 2) (v := .int 0) (ty := .int) (C := R_M) (T := F_M) (N := 6) hx hb hA i_M t_M t_M_ok n_M hown hK hP hD hS 0 rfl rfl 0 (by decide) (hA _ k2_212) (fun _ h9 => h9) rfl (by decide +kernel) rfl rfl (Nat.le_of_ble_eq_true rfl) d_M_place_2 (fun H locs hP hD hS => ?_)
  have hP : va_P D vCl [(h, .inr (2, [.int 0, .int (nI M), .ref cl, .ref sa, .ref pa, .int tk])), (cl, .inl (cL, 32768, .inr (.inl (pkF (σ))))), (sa, .inl (cI, 4, .inl (fun i9 => nI ((σ) i9).2.1))), (pa, .inl (cI, 4, .inl (fun i9 => nI ((σ) i9).2.2)))] H := hP
  have hD : va_D A [(h, .inr (2, [.int 0, .int (nI M), .ref cl, .ref sa, .ref pa, .int tk])), (cl, .inl (cL, 32768, .inr (.inl (pkF (σ))))), (sa, .inl (cI, 4, .inl (fun i9 => nI ((σ) i9).2.1))), (pa, .inl (cI, 4, .inl (fun i9 => nI ((σ) i9).2.2)))] := hD
  refine lv_iload_n hx hb d_M_place_5 rfl (lv_at hl 1 rfl) ?_
  refine vp_callSi (W.runS (As := [.int x]) (rest := []) ⟨hx, hb, hml, hown, hA⟩ (c_M_isRow l x) (q_M_isRow hA k3_1 rfl rfl ⟨(Nat.le_of_ble_eq_true rfl), (Nat.le_of_ble_eq_true rfl)⟩) (⟨fun a U g mk q => q, fun U hU hW => ⟨rfl, trivial⟩⟩) rfl rfl hl.1 rfl (lv_room (Nat.le_of_ble_eq_true rfl)) d_M_place_6 ⟨(Nat.le_of_ble_eq_true rfl), (Nat.le_of_ble_eq_true rfl)⟩) (fun r6 hr6 => ?_)
  rcases hr6 with ⟨hR, rfl⟩ | ⟨hR, rfl⟩
  · refine lv_if_ne (tgt := 18) hx hb d_M_place_9 (by decide) (fun _ => ?_) (fun q9 => absurd q9 (by decide))
    obtain ⟨k, hk0, rfl⟩ := nI_of (show ¬ x < 0 by rw [Int32.lt_iff_toInt_lt, li_0]; exact Int.not_lt.mpr hR.1)
    have hk : k < 4 := by have h9 := hR.2; rw [nI_toInt hk0] at h9; omega
    have hrk : rj (nI k) = k := rj_n hk
    obtain ⟨⟨B, n, p⟩, hρ⟩ : ∃ ρ, σ k = ρ := ⟨_, rfl⟩
    have hk9 := hσ.2 k hk
    have hBσ : ∀ j, (σ k).1 j < 256 := hk9.2.2
    have hnσ : (σ k).2.1 ≤ 65536 := Nat.le_trans hk9.2.1 hσ.1
    rw [hρ] at hk9
    obtain ⟨hp, hn, hB⟩ := hk9
    have hp : p ≤ n := hp
    have hn : n ≤ M := hn
    have hB : ∀ j, B j < 256 := hB
    have hM := hσ.1
    refine lv_iload_n hx hb d_M_place_18 rfl (lv_at hl 2 rfl) ?_
    refine lv_if_lt (tgt := 32) hx hb d_M_place_19 (by decide) (fun c19 => ?_) (fun c19 => ?_)
    · have hni : (nI n).toInt = (n : Int) := nI_toInt (by omega)
      have hz2 : ¬ (0 ≤ z.toInt ∧ z.toInt ≤ (n : Int)) := by simp only [Int32.lt_iff_toInt_lt, Int32.le_iff_toInt_le, li_0, li_1, li_2, li_3, li_4, li_8, li_10, li_16, li_63, li_127, li_128, li_191, li_192, li_194, li_224, li_240, li_244, li_255, li_2048, li_55296, li_57343, li_65536, li_1114111, li_m1, li_m2] at *; omega
      refine lv_aload_n hx hb d_M_place_32 rfl (lv_at hl 0 rfl) ?_
      refine lv_iconst (v := 2) hx hb d_M_place_33 (by decide) ?_
      have hPc := hP
      have hFc := va_free (wc := [(h, .inr (2, [.int 0, .int (nI M), .ref cl, .ref sa, .ref pa, .int tk])), (cl, .inl (cL, 32768, .inr (.inl (pkF (σ))))), (sa, .inl (cI, 4, .inl (fun i9 => nI ((σ) i9).2.1))), (pa, .inl (cI, 4, .inl (fun i9 => nI ((σ) i9).2.2)))]) hD hS hAq [0, 1, 2, 3] rfl
      have hKc := hK.sub (tys' := [(cL, .long), (cI, .int)]) [0, 1] rfl
      refine va_calli (va_runV (As := [.int 2]) (rest := []) ⟨hx, hb, hml, hown, hA⟩ (c_M_fail l D cL cI h cl sa pa M 0 tk (σ) H.size 2) (q_M_fail hA k3_4 rfl rfl ⟨(Nat.le_of_ble_eq_true rfl), (Nat.le_of_ble_eq_true rfl)⟩) (ox_V (va_recv hKc hPc (ci := 2) (q0 := 0) rfl rfl) (oxw_S hPc hKc hD)) rfl rfl hl.1 rfl (lv_room (Nat.le_of_ble_eq_true rfl)) d_M_place_34 ⟨(Nat.le_of_ble_eq_true rfl), (Nat.le_of_ble_eq_true rfl)⟩) hS (fun q _ h => hFc q h) hFc (fun r34 u9 t9 H1 locs ht9 hvm9 hw9 hB9 hz1 hk1 hS => ?_)
      obtain ⟨hP, hK1, hD1⟩ := hB9
      rw [ht9] at hP
      obtain ⟨hP, hD⟩ := va_join (wr := []) (w1 := rfW cL cI h cl sa pa M 2 tk (σ)) hPc hD [0, 1, 2, 3] [] rfl rfl (by decide) (by decide) hk1 hFc hP hD1
      generalize H1 = H at hP hS ⊢
      have hP : va_P D vCl [(h, .inr (2, [.int 2, .int (nI M), .ref cl, .ref sa, .ref pa, .int tk])), (cl, .inl (cL, 32768, .inr (.inl (pkF (σ))))), (sa, .inl (cI, 4, .inl (fun i9 => nI ((σ) i9).2.1))), (pa, .inl (cI, 4, .inl (fun i9 => nI ((σ) i9).2.2)))] H := hP
      have hD : va_D A [(h, .inr (2, [.int 2, .int (nI M), .ref cl, .ref sa, .ref pa, .int tk])), (cl, .inl (cL, 32768, .inr (.inl (pkF (σ))))), (sa, .inl (cI, 4, .inl (fun i9 => nI ((σ) i9).2.1))), (pa, .inl (cI, 4, .inl (fun i9 => nI ((σ) i9).2.2)))] := hD
      subst hw9
      exact W.iret (v := 0) hx hb hr (fun t ht hW => ⟨⟨_, (2, σ, tk), rfl, (by unfold spPlace; simp only [hrk, hρ]; rw [if_neg (fun h8 => h8 hR), if_pos hz2]), by rw [ht]; exact hP, va_K.moved hW.alike hK, hD⟩, hS.F ht⟩) hS.2.2 d_M_place_37
    · refine lv_iload_n hx hb d_M_place_22 rfl (lv_at hl 2 rfl) ?_
      refine lv_aload_n hx hb d_M_place_23 rfl (lv_at hl 0 rfl) ?_
      refine va_get (D := D) (ci := 2) (v := .ref sa) (C := R_M) (T := F_M) (N := 6) hx hb hA i_M hown hK hP 0 rfl rfl 3 (by decide) (hA _ k2_215) (fun _ h9 => h9) rfl d_M_place_24 ?_
      refine lv_iload_n hx hb d_M_place_27 rfl (lv_at hl 1 rfl) ?_
      refine va_iald hx hb hK hP 2 1 rfl rfl (vp_in_nI hk (by decide)) d_M_place_28 ?_
      refine lv_topi (fun v28 ev28 => ?_)
      have ev28 : v28 = nI n := by rw [ev28]; show nI ((σ) (nI k).toNatClampNeg).2.1 = _; rw [nI_clamp (by omega), hρ]
      subst ev28
      refine lv_icmp_le (tgt := 38) hx hb d_M_place_29 (by decide) (fun c29 => ?_) (fun c29 => ?_)
      · have hni : (nI n).toInt = (n : Int) := nI_toInt (by omega)
        have hz2 : 0 ≤ z.toInt ∧ z.toInt ≤ (n : Int) := by simp only [Int32.lt_iff_toInt_lt, Int32.le_iff_toInt_le, li_0, li_1, li_2, li_3, li_4, li_8, li_10, li_16, li_63, li_127, li_128, li_191, li_192, li_194, li_224, li_240, li_244, li_255, li_2048, li_55296, li_57343, li_65536, li_1114111, li_m1, li_m2] at *; omega
        obtain ⟨q, hq0, rfl⟩ := nI_of c19
        have hqi : (nI q).toInt = (q : Int) := nI_toInt hq0
        have hqn : (nI q).toInt.toNat = q := by rw [hqi]; rfl
        rw [up_id hρ] at hP hD
        have hP : va_P D vCl [(h, .inr (2, [.int 0, .int (nI M), .ref cl, .ref sa, .ref pa, .int tk])), (cl, .inl (cL, 32768, .inr (.inl (pkF (va_up σ k (B, n, p)))))), (sa, .inl (cI, 4, .inl (fun i9 => nI ((va_up σ k (B, n, p)) i9).2.1))), (pa, .inl (cI, 4, .inl (fun i9 => nI ((va_up σ k (B, n, p)) i9).2.2)))] H := hP
        have hD : va_D A [(h, .inr (2, [.int 0, .int (nI M), .ref cl, .ref sa, .ref pa, .int tk])), (cl, .inl (cL, 32768, .inr (.inl (pkF (va_up σ k (B, n, p)))))), (sa, .inl (cI, 4, .inl (fun i9 => nI ((va_up σ k (B, n, p)) i9).2.1))), (pa, .inl (cI, 4, .inl (fun i9 => nI ((va_up σ k (B, n, p)) i9).2.2)))] := hD
        refine lv_aload_n hx hb d_M_place_38 rfl (lv_at hl 0 rfl) ?_
        refine va_get (D := D) (ci := 2) (v := .ref pa) (C := R_M) (T := F_M) (N := 6) hx hb hA i_M hown hK hP 0 rfl rfl 4 (by decide) (hA _ k2_216) (fun _ h9 => h9) rfl d_M_place_39 ?_
        refine lv_iload_n hx hb d_M_place_42 rfl (lv_at hl 1 rfl) ?_
        refine va_iald hx hb hK hP 3 1 rfl rfl (vp_in_nI hk (by decide)) d_M_place_43 ?_
        refine lv_topi (fun v43 ev43 => ?_)
        have ev43 : v43 = nI p := by rw [ev43]; show nI ((va_up σ k (B, n, p)) (nI k).toNatClampNeg).2.2 = _; rw [nI_clamp (by omega), up_s]
        subst ev43
        refine lv_istore_n (lv' := [(3, .int (nI p)), (0, .ref h), (1, .int (nI k)), (2, .int (nI q))]) hx hb d_M_place_44 rfl hl (by decide) rfl (fun ls hl => ?_)
        refine lv_aload_n hx hb d_M_place_45 rfl (lv_at hl 1 rfl) ?_
        refine va_get (D := D) (ci := 2) (v := .ref pa) (C := R_M) (T := F_M) (N := 6) hx hb hA i_M hown hK hP 0 rfl rfl 4 (by decide) (hA _ k2_216) (fun _ h9 => h9) rfl d_M_place_46 ?_
        refine lv_iload_n hx hb d_M_place_49 rfl (lv_at hl 2 rfl) ?_
        refine lv_iload_n hx hb d_M_place_50 rfl (lv_at hl 3 rfl) ?_
        refine va_iast hx hb hK hP hD hS 3 1 rfl rfl (vp_in_nI hk (by decide)) d_M_place_51 (fun H locs hP hD hS => ?_)
        have hP : va_P D vCl [(h, .inr (2, [.int 0, .int (nI M), .ref cl, .ref sa, .ref pa, .int tk])), (cl, .inl (cL, 32768, .inr (.inl (pkF (va_up σ k (B, n, p)))))), (sa, .inl (cI, 4, .inl (fun i9 => nI ((va_up σ k (B, n, p)) i9).2.1))), (pa, .inl (cI, 4, .inl (upd (fun i9 => nI ((va_up σ k (B, n, p)) i9).2.2) (nI k).toNatClampNeg (nI q))))] H := hP
        have hD : va_D A [(h, .inr (2, [.int 0, .int (nI M), .ref cl, .ref sa, .ref pa, .int tk])), (cl, .inl (cL, 32768, .inr (.inl (pkF (va_up σ k (B, n, p)))))), (sa, .inl (cI, 4, .inl (fun i9 => nI ((va_up σ k (B, n, p)) i9).2.1))), (pa, .inl (cI, 4, .inl (upd (fun i9 => nI ((va_up σ k (B, n, p)) i9).2.2) (nI k).toNatClampNeg (nI q))))] := hD
        rw [pl_up (σ) hk B B n p n q, pc_nc (σ) k B n p n q, sz_nc (σ) k B B n p q] at hP hD
        have hP : va_P D vCl [(h, .inr (2, [.int 0, .int (nI M), .ref cl, .ref sa, .ref pa, .int tk])), (cl, .inl (cL, 32768, .inr (.inl (pkF (va_up (σ) k (B, n, q)))))), (sa, .inl (cI, 4, .inl (fun i9 => nI ((va_up (σ) k (B, n, q)) i9).2.1))), (pa, .inl (cI, 4, .inl (fun i9 => nI ((va_up (σ) k (B, n, q)) i9).2.2)))] H := hP
        have hD : va_D A [(h, .inr (2, [.int 0, .int (nI M), .ref cl, .ref sa, .ref pa, .int tk])), (cl, .inl (cL, 32768, .inr (.inl (pkF (va_up (σ) k (B, n, q)))))), (sa, .inl (cI, 4, .inl (fun i9 => nI ((va_up (σ) k (B, n, q)) i9).2.1))), (pa, .inl (cI, 4, .inl (fun i9 => nI ((va_up (σ) k (B, n, q)) i9).2.2)))] := hD
        refine lv_iload_n hx hb d_M_place_52 rfl (lv_at hl 0 rfl) ?_
        exact W.iret (v := nI p) hx hb hr (fun t ht hW => ⟨⟨_, (0, va_up σ k (B, n, q), tk), rfl, (by unfold spPlace; simp only [hrk, hρ]; rw [if_neg (fun h8 => h8 hR), if_neg (fun h8 => h8 hz2), hqn]), by rw [ht]; exact hP, va_K.moved hW.alike hK, hD⟩, hS.F ht⟩) hS.2.2 d_M_place_53
      · have hni : (nI n).toInt = (n : Int) := nI_toInt (by omega)
        have hz2 : ¬ (0 ≤ z.toInt ∧ z.toInt ≤ (n : Int)) := by simp only [Int32.lt_iff_toInt_lt, Int32.le_iff_toInt_le, li_0, li_1, li_2, li_3, li_4, li_8, li_10, li_16, li_63, li_127, li_128, li_191, li_192, li_194, li_224, li_240, li_244, li_255, li_2048, li_55296, li_57343, li_65536, li_1114111, li_m1, li_m2] at *; omega
        refine lv_aload_n hx hb d_M_place_32 rfl (lv_at hl 0 rfl) ?_
        refine lv_iconst (v := 2) hx hb d_M_place_33 (by decide) ?_
        have hPc := hP
        have hFc := va_free (wc := [(h, .inr (2, [.int 0, .int (nI M), .ref cl, .ref sa, .ref pa, .int tk])), (cl, .inl (cL, 32768, .inr (.inl (pkF (σ))))), (sa, .inl (cI, 4, .inl (fun i9 => nI ((σ) i9).2.1))), (pa, .inl (cI, 4, .inl (fun i9 => nI ((σ) i9).2.2)))]) hD hS hAq [0, 1, 2, 3] rfl
        have hKc := hK.sub (tys' := [(cL, .long), (cI, .int)]) [0, 1] rfl
        refine va_calli (va_runV (As := [.int 2]) (rest := []) ⟨hx, hb, hml, hown, hA⟩ (c_M_fail l D cL cI h cl sa pa M 0 tk (σ) H.size 2) (q_M_fail hA k3_4 rfl rfl ⟨(Nat.le_of_ble_eq_true rfl), (Nat.le_of_ble_eq_true rfl)⟩) (ox_V (va_recv hKc hPc (ci := 2) (q0 := 0) rfl rfl) (oxw_S hPc hKc hD)) rfl rfl hl.1 rfl (lv_room (Nat.le_of_ble_eq_true rfl)) d_M_place_34 ⟨(Nat.le_of_ble_eq_true rfl), (Nat.le_of_ble_eq_true rfl)⟩) hS (fun q _ h => hFc q h) hFc (fun r34 u9 t9 H1 locs ht9 hvm9 hw9 hB9 hz1 hk1 hS => ?_)
        obtain ⟨hP, hK1, hD1⟩ := hB9
        rw [ht9] at hP
        obtain ⟨hP, hD⟩ := va_join (wr := []) (w1 := rfW cL cI h cl sa pa M 2 tk (σ)) hPc hD [0, 1, 2, 3] [] rfl rfl (by decide) (by decide) hk1 hFc hP hD1
        generalize H1 = H at hP hS ⊢
        have hP : va_P D vCl [(h, .inr (2, [.int 2, .int (nI M), .ref cl, .ref sa, .ref pa, .int tk])), (cl, .inl (cL, 32768, .inr (.inl (pkF (σ))))), (sa, .inl (cI, 4, .inl (fun i9 => nI ((σ) i9).2.1))), (pa, .inl (cI, 4, .inl (fun i9 => nI ((σ) i9).2.2)))] H := hP
        have hD : va_D A [(h, .inr (2, [.int 2, .int (nI M), .ref cl, .ref sa, .ref pa, .int tk])), (cl, .inl (cL, 32768, .inr (.inl (pkF (σ))))), (sa, .inl (cI, 4, .inl (fun i9 => nI ((σ) i9).2.1))), (pa, .inl (cI, 4, .inl (fun i9 => nI ((σ) i9).2.2)))] := hD
        subst hw9
        exact W.iret (v := 0) hx hb hr (fun t ht hW => ⟨⟨_, (2, σ, tk), rfl, (by unfold spPlace; simp only [hrk, hρ]; rw [if_neg (fun h8 => h8 hR), if_pos hz2]), by rw [ht]; exact hP, va_K.moved hW.alike hK, hD⟩, hS.F ht⟩) hS.2.2 d_M_place_37
  · refine lv_if_ne (tgt := 18) hx hb d_M_place_9 (by decide) (fun q9 => absurd (by decide) q9) (fun _ => ?_)
    refine lv_aload_n hx hb d_M_place_12 rfl (lv_at hl 0 rfl) ?_
    refine lv_iconst (v := 1) hx hb d_M_place_13 (by decide) ?_
    have hPc := hP
    have hFc := va_free (wc := [(h, .inr (2, [.int 0, .int (nI M), .ref cl, .ref sa, .ref pa, .int tk])), (cl, .inl (cL, 32768, .inr (.inl (pkF (σ))))), (sa, .inl (cI, 4, .inl (fun i9 => nI ((σ) i9).2.1))), (pa, .inl (cI, 4, .inl (fun i9 => nI ((σ) i9).2.2)))]) hD hS hAq [0, 1, 2, 3] rfl
    have hKc := hK.sub (tys' := [(cL, .long), (cI, .int)]) [0, 1] rfl
    refine va_calli (va_runV (As := [.int 1]) (rest := []) ⟨hx, hb, hml, hown, hA⟩ (c_M_fail l D cL cI h cl sa pa M 0 tk (σ) H.size 1) (q_M_fail hA k3_4 rfl rfl ⟨(Nat.le_of_ble_eq_true rfl), (Nat.le_of_ble_eq_true rfl)⟩) (ox_V (va_recv hKc hPc (ci := 2) (q0 := 0) rfl rfl) (oxw_S hPc hKc hD)) rfl rfl hl.1 rfl (lv_room (Nat.le_of_ble_eq_true rfl)) d_M_place_14 ⟨(Nat.le_of_ble_eq_true rfl), (Nat.le_of_ble_eq_true rfl)⟩) hS (fun q _ h => hFc q h) hFc (fun r14 u9 t9 H1 locs ht9 hvm9 hw9 hB9 hz1 hk1 hS => ?_)
    obtain ⟨hP, hK1, hD1⟩ := hB9
    rw [ht9] at hP
    obtain ⟨hP, hD⟩ := va_join (wr := []) (w1 := rfW cL cI h cl sa pa M 1 tk (σ)) hPc hD [0, 1, 2, 3] [] rfl rfl (by decide) (by decide) hk1 hFc hP hD1
    generalize H1 = H at hP hS ⊢
    have hP : va_P D vCl [(h, .inr (2, [.int 1, .int (nI M), .ref cl, .ref sa, .ref pa, .int tk])), (cl, .inl (cL, 32768, .inr (.inl (pkF (σ))))), (sa, .inl (cI, 4, .inl (fun i9 => nI ((σ) i9).2.1))), (pa, .inl (cI, 4, .inl (fun i9 => nI ((σ) i9).2.2)))] H := hP
    have hD : va_D A [(h, .inr (2, [.int 1, .int (nI M), .ref cl, .ref sa, .ref pa, .int tk])), (cl, .inl (cL, 32768, .inr (.inl (pkF (σ))))), (sa, .inl (cI, 4, .inl (fun i9 => nI ((σ) i9).2.1))), (pa, .inl (cI, 4, .inl (fun i9 => nI ((σ) i9).2.2)))] := hD
    subst hw9
    exact W.iret (v := 0) hx hb hr (fun t ht hW => ⟨⟨_, (1, σ, tk), rfl, (by unfold spPlace; rw [if_pos hR]), by rw [ht]; exact hP, va_K.moved hW.alike hK, hD⟩, hS.F ht⟩) hS.2.2 d_M_place_17
set_option maxHeartbeats 600000 in
set_option maxRecDepth 100000 in
/-- cut -/
theorem c_M_cut (l : Launch) (D : va_G) (cL cI : ClassId) (h cl sa pa M : Nat) (th tk : Int32) (σ : dkS) (sz : Nat) (x z : Int32) (hσ : dkok M σ) : Met l y_M_cut w_M_cut ({ frames := 1, cells := 0, slots := 0, locals := 21 }) (va_Pc [.ref h, .int x, .int z] (oxw sz D [(cL, .long), (cI, .int)] [(h, .inr (2, [.int th, .int (nI M), .ref cl, .ref sa, .ref pa, .int tk])), (cl, .inl (cL, 32768, .inr (.inl (pkF (σ))))), (sa, .inl (cI, 4, .inl (fun i9 => nI ((σ) i9).2.1))), (pa, .inl (cI, 4, .inl (fun i9 => nI ((σ) i9).2.2)))])) (va_Qi (fun (r : Int32) (uu : Nat × dkS × Int32) => spCut σ x z = (uu.1, r, uu.2.1)) (fun uu => ow D [(cL, .long), (cI, .int)] (va_A [(h, .inr (2, [.int th, .int (nI M), .ref cl, .ref sa, .ref pa, .int tk])), (cl, .inl (cL, 32768, .inr (.inl (pkF (σ))))), (sa, .inl (cI, 4, .inl (fun i9 => nI ((σ) i9).2.1))), (pa, .inl (cI, 4, .inl (fun i9 => nI ((σ) i9).2.2)))] sz) (rfW cL cI h cl sa pa M (nI uu.1) uu.2.2 uu.2.1)) (va_A [(h, .inr (2, [.int th, .int (nI M), .ref cl, .ref sa, .ref pa, .int tk])), (cl, .inl (cL, 32768, .inr (.inl (pkF (σ))))), (sa, .inl (cI, 4, .inl (fun i9 => nI ((σ) i9).2.1))), (pa, .inl (cI, 4, .inl (fun i9 => nI ((σ) i9).2.2)))] sz)) 0 0 (va_A [(h, .inr (2, [.int th, .int (nI M), .ref cl, .ref sa, .ref pa, .int tk])), (cl, .inl (cL, 32768, .inr (.inl (pkF (σ))))), (sa, .inl (cI, 4, .inl (fun i9 => nI ((σ) i9).2.1))), (pa, .inl (cI, 4, .inl (fun i9 => nI ((σ) i9).2.2)))] sz) := by
  refine Met.ofW (cc := b_M_cut) (maxL := 4) (ret := (some .int)) (by decide) rfl ?_
  intro p9 e9 s m args below meth c9 s₁ BL hml hv
  obtain ⟨rfl, hsz, hP, hK, hD0⟩ := hv
  have hx := BL.exec
  have hb := BL.bytes
  have hr := BL.returns
  have hts := atoms_spec (ws := w_M_cut) BL.pre
  have hA : ∀ w ∈ wsA, w.before _ s = true := fun w h => hts w (List.mem_cons_of_mem _ h)
  have hown : s.vm.findClass R_M = some m.cls := findClass_of_methodNamed BL.named
  have hlocks := BL.notSynchronized
  subst hsz
  have hD := hD0.self (sz := s.heap.size)
  generalize hAe : va_A [(h, .inr (2, [.int th, .int (nI M), .ref cl, .ref sa, .ref pa, .int tk])), (cl, .inl (cL, 32768, .inr (.inl (pkF (σ))))), (sa, .inl (cI, 4, .inl (fun i9 => nI ((σ) i9).2.1))), (pa, .inl (cI, 4, .inl (fun i9 => nI ((σ) i9).2.2)))] s.heap.size = A at hD ⊢
  have hAq : ∀ q : Nat, s.heap.size ≤ q → A q := fun q h => by rw [← hAe]; exact Or.inr h
  have hS : va_S A s.heap s.heap [] := va_S.rf
  have hP : va_P D vCl [(h, .inr (2, [.int th, .int (nI M), .ref cl, .ref sa, .ref pa, .int tk])), (cl, .inl (cL, 32768, .inr (.inl (pkF (σ))))), (sa, .inl (cI, 4, .inl (fun i9 => nI ((σ) i9).2.1))), (pa, .inl (cI, 4, .inl (fun i9 => nI ((σ) i9).2.2)))] s.heap := hP
  have hl := lv_entry ([.ref h, .int x, .int z]) (n := 4) (Nat.le_of_ble_eq_true rfl)
  rw [lg_entry_eq]
  generalize (lg_sl ([.ref h, .int x, .int z]) ++ List.replicate (4 - (lg_sl ([.ref h, .int x, .int z])).length) Slot.unset).toArray = ls at hl ⊢
  have hl : lv_has ls 4 [(0, .ref h), (1, .int x), (2, .int z)] := hl
  refine lv_aload_n hx hb d_M_cut_0 rfl (lv_at hl 0 rfl) ?_
  refine lv_iconst (v := 0) hx hb d_M_cut_1 (by decide) ?_
  refine va_put (D := D) (ci := 2) (v := .int 0) (ty := .int) (C := R_M) (T := F_M) (N := 6) hx hb hA i_M t_M t_M_ok n_M hown hK hP hD hS 0 rfl rfl 0 (by decide) (hA _ k2_212) (fun _ h9 => h9) rfl (by decide +kernel) rfl rfl (Nat.le_of_ble_eq_true rfl) d_M_cut_2 (fun H locs hP hD hS => ?_)
  have hP : va_P D vCl [(h, .inr (2, [.int 0, .int (nI M), .ref cl, .ref sa, .ref pa, .int tk])), (cl, .inl (cL, 32768, .inr (.inl (pkF (σ))))), (sa, .inl (cI, 4, .inl (fun i9 => nI ((σ) i9).2.1))), (pa, .inl (cI, 4, .inl (fun i9 => nI ((σ) i9).2.2)))] H := hP
  have hD : va_D A [(h, .inr (2, [.int 0, .int (nI M), .ref cl, .ref sa, .ref pa, .int tk])), (cl, .inl (cL, 32768, .inr (.inl (pkF (σ))))), (sa, .inl (cI, 4, .inl (fun i9 => nI ((σ) i9).2.1))), (pa, .inl (cI, 4, .inl (fun i9 => nI ((σ) i9).2.2)))] := hD
  refine lv_iload_n hx hb d_M_cut_5 rfl (lv_at hl 1 rfl) ?_
  refine vp_callSi (W.runS (As := [.int x]) (rest := []) ⟨hx, hb, hml, hown, hA⟩ (c_M_isRow l x) (q_M_isRow hA k3_1 rfl rfl ⟨(Nat.le_of_ble_eq_true rfl), (Nat.le_of_ble_eq_true rfl)⟩) (⟨fun a U g mk q => q, fun U hU hW => ⟨rfl, trivial⟩⟩) rfl rfl hl.1 rfl (lv_room (Nat.le_of_ble_eq_true rfl)) d_M_cut_6 ⟨(Nat.le_of_ble_eq_true rfl), (Nat.le_of_ble_eq_true rfl)⟩) (fun r6 hr6 => ?_)
  rcases hr6 with ⟨hR, rfl⟩ | ⟨hR, rfl⟩
  · refine lv_if_ne (tgt := 18) hx hb d_M_cut_9 (by decide) (fun _ => ?_) (fun q9 => absurd q9 (by decide))
    obtain ⟨k, hk0, rfl⟩ := nI_of (show ¬ x < 0 by rw [Int32.lt_iff_toInt_lt, li_0]; exact Int.not_lt.mpr hR.1)
    have hk : k < 4 := by have h9 := hR.2; rw [nI_toInt hk0] at h9; omega
    have hrk : rj (nI k) = k := rj_n hk
    obtain ⟨⟨B, n, p⟩, hρ⟩ : ∃ ρ, σ k = ρ := ⟨_, rfl⟩
    have hk9 := hσ.2 k hk
    have hBσ : ∀ j, (σ k).1 j < 256 := hk9.2.2
    have hnσ : (σ k).2.1 ≤ 65536 := Nat.le_trans hk9.2.1 hσ.1
    rw [hρ] at hk9
    obtain ⟨hp, hn, hB⟩ := hk9
    have hp : p ≤ n := hp
    have hn : n ≤ M := hn
    have hB : ∀ j, B j < 256 := hB
    have hM := hσ.1
    refine lv_iload_n hx hb d_M_cut_18 rfl (lv_at hl 2 rfl) ?_
    refine lv_if_lt (tgt := 32) hx hb d_M_cut_19 (by decide) (fun c19 => ?_) (fun c19 => ?_)
    · have hni : (nI n).toInt = (n : Int) := nI_toInt (by omega)
      have hz2 : ¬ (0 ≤ z.toInt ∧ z.toInt ≤ (n : Int)) := by simp only [Int32.lt_iff_toInt_lt, Int32.le_iff_toInt_le, li_0, li_1, li_2, li_3, li_4, li_8, li_10, li_16, li_63, li_127, li_128, li_191, li_192, li_194, li_224, li_240, li_244, li_255, li_2048, li_55296, li_57343, li_65536, li_1114111, li_m1, li_m2] at *; omega
      refine lv_aload_n hx hb d_M_cut_32 rfl (lv_at hl 0 rfl) ?_
      refine lv_iconst (v := 2) hx hb d_M_cut_33 (by decide) ?_
      have hPc := hP
      have hFc := va_free (wc := [(h, .inr (2, [.int 0, .int (nI M), .ref cl, .ref sa, .ref pa, .int tk])), (cl, .inl (cL, 32768, .inr (.inl (pkF (σ))))), (sa, .inl (cI, 4, .inl (fun i9 => nI ((σ) i9).2.1))), (pa, .inl (cI, 4, .inl (fun i9 => nI ((σ) i9).2.2)))]) hD hS hAq [0, 1, 2, 3] rfl
      have hKc := hK.sub (tys' := [(cL, .long), (cI, .int)]) [0, 1] rfl
      refine va_calli (va_runV (As := [.int 2]) (rest := []) ⟨hx, hb, hml, hown, hA⟩ (c_M_fail l D cL cI h cl sa pa M 0 tk (σ) H.size 2) (q_M_fail hA k3_4 rfl rfl ⟨(Nat.le_of_ble_eq_true rfl), (Nat.le_of_ble_eq_true rfl)⟩) (ox_V (va_recv hKc hPc (ci := 2) (q0 := 0) rfl rfl) (oxw_S hPc hKc hD)) rfl rfl hl.1 rfl (lv_room (Nat.le_of_ble_eq_true rfl)) d_M_cut_34 ⟨(Nat.le_of_ble_eq_true rfl), (Nat.le_of_ble_eq_true rfl)⟩) hS (fun q _ h => hFc q h) hFc (fun r34 u9 t9 H1 locs ht9 hvm9 hw9 hB9 hz1 hk1 hS => ?_)
      obtain ⟨hP, hK1, hD1⟩ := hB9
      rw [ht9] at hP
      obtain ⟨hP, hD⟩ := va_join (wr := []) (w1 := rfW cL cI h cl sa pa M 2 tk (σ)) hPc hD [0, 1, 2, 3] [] rfl rfl (by decide) (by decide) hk1 hFc hP hD1
      generalize H1 = H at hP hS ⊢
      have hP : va_P D vCl [(h, .inr (2, [.int 2, .int (nI M), .ref cl, .ref sa, .ref pa, .int tk])), (cl, .inl (cL, 32768, .inr (.inl (pkF (σ))))), (sa, .inl (cI, 4, .inl (fun i9 => nI ((σ) i9).2.1))), (pa, .inl (cI, 4, .inl (fun i9 => nI ((σ) i9).2.2)))] H := hP
      have hD : va_D A [(h, .inr (2, [.int 2, .int (nI M), .ref cl, .ref sa, .ref pa, .int tk])), (cl, .inl (cL, 32768, .inr (.inl (pkF (σ))))), (sa, .inl (cI, 4, .inl (fun i9 => nI ((σ) i9).2.1))), (pa, .inl (cI, 4, .inl (fun i9 => nI ((σ) i9).2.2)))] := hD
      subst hw9
      exact W.iret (v := 0) hx hb hr (fun t ht hW => ⟨⟨_, (2, σ, tk), rfl, (by unfold spCut; simp only [hrk, hρ]; rw [if_neg (fun h8 => h8 hR), if_pos hz2]), by rw [ht]; exact hP, va_K.moved hW.alike hK, hD⟩, hS.F ht⟩) hS.2.2 d_M_cut_37
    · refine lv_iload_n hx hb d_M_cut_22 rfl (lv_at hl 2 rfl) ?_
      refine lv_aload_n hx hb d_M_cut_23 rfl (lv_at hl 0 rfl) ?_
      refine va_get (D := D) (ci := 2) (v := .ref sa) (C := R_M) (T := F_M) (N := 6) hx hb hA i_M hown hK hP 0 rfl rfl 3 (by decide) (hA _ k2_215) (fun _ h9 => h9) rfl d_M_cut_24 ?_
      refine lv_iload_n hx hb d_M_cut_27 rfl (lv_at hl 1 rfl) ?_
      refine va_iald hx hb hK hP 2 1 rfl rfl (vp_in_nI hk (by decide)) d_M_cut_28 ?_
      refine lv_topi (fun v28 ev28 => ?_)
      have ev28 : v28 = nI n := by rw [ev28]; show nI ((σ) (nI k).toNatClampNeg).2.1 = _; rw [nI_clamp (by omega), hρ]
      subst ev28
      refine lv_icmp_le (tgt := 38) hx hb d_M_cut_29 (by decide) (fun c29 => ?_) (fun c29 => ?_)
      · have hni : (nI n).toInt = (n : Int) := nI_toInt (by omega)
        have hz2 : 0 ≤ z.toInt ∧ z.toInt ≤ (n : Int) := by simp only [Int32.lt_iff_toInt_lt, Int32.le_iff_toInt_le, li_0, li_1, li_2, li_3, li_4, li_8, li_10, li_16, li_63, li_127, li_128, li_191, li_192, li_194, li_224, li_240, li_244, li_255, li_2048, li_55296, li_57343, li_65536, li_1114111, li_m1, li_m2] at *; omega
        obtain ⟨q, hq0, rfl⟩ := nI_of c19
        have hqi : (nI q).toInt = (q : Int) := nI_toInt hq0
        have hqn : (nI q).toInt.toNat = q := by rw [hqi]; rfl
        rw [up_id hρ] at hP hD
        have hP : va_P D vCl [(h, .inr (2, [.int 0, .int (nI M), .ref cl, .ref sa, .ref pa, .int tk])), (cl, .inl (cL, 32768, .inr (.inl (pkF (va_up σ k (B, n, p)))))), (sa, .inl (cI, 4, .inl (fun i9 => nI ((va_up σ k (B, n, p)) i9).2.1))), (pa, .inl (cI, 4, .inl (fun i9 => nI ((va_up σ k (B, n, p)) i9).2.2)))] H := hP
        have hD : va_D A [(h, .inr (2, [.int 0, .int (nI M), .ref cl, .ref sa, .ref pa, .int tk])), (cl, .inl (cL, 32768, .inr (.inl (pkF (va_up σ k (B, n, p)))))), (sa, .inl (cI, 4, .inl (fun i9 => nI ((va_up σ k (B, n, p)) i9).2.1))), (pa, .inl (cI, 4, .inl (fun i9 => nI ((va_up σ k (B, n, p)) i9).2.2)))] := hD
        refine lv_aload_n hx hb d_M_cut_38 rfl (lv_at hl 0 rfl) ?_
        refine va_get (D := D) (ci := 2) (v := .ref sa) (C := R_M) (T := F_M) (N := 6) hx hb hA i_M hown hK hP 0 rfl rfl 3 (by decide) (hA _ k2_215) (fun _ h9 => h9) rfl d_M_cut_39 ?_
        refine lv_iload_n hx hb d_M_cut_42 rfl (lv_at hl 1 rfl) ?_
        refine va_iald hx hb hK hP 2 1 rfl rfl (vp_in_nI hk (by decide)) d_M_cut_43 ?_
        refine lv_topi (fun v43 ev43 => ?_)
        have ev43 : v43 = nI n := by rw [ev43]; show nI ((va_up σ k (B, n, p)) (nI k).toNatClampNeg).2.1 = _; rw [nI_clamp (by omega), up_s]
        subst ev43
        refine lv_istore_n (lv' := [(3, .int (nI n)), (0, .ref h), (1, .int (nI k)), (2, .int (nI q))]) hx hb d_M_cut_44 rfl hl (by decide) rfl (fun ls hl => ?_)
        refine lv_aload_n hx hb d_M_cut_45 rfl (lv_at hl 1 rfl) ?_
        refine va_get (D := D) (ci := 2) (v := .ref sa) (C := R_M) (T := F_M) (N := 6) hx hb hA i_M hown hK hP 0 rfl rfl 3 (by decide) (hA _ k2_215) (fun _ h9 => h9) rfl d_M_cut_46 ?_
        refine lv_iload_n hx hb d_M_cut_49 rfl (lv_at hl 2 rfl) ?_
        refine lv_iload_n hx hb d_M_cut_50 rfl (lv_at hl 3 rfl) ?_
        refine va_iast hx hb hK hP hD hS 2 1 rfl rfl (vp_in_nI hk (by decide)) d_M_cut_51 (fun H locs hP hD hS => ?_)
        have hP : va_P D vCl [(h, .inr (2, [.int 0, .int (nI M), .ref cl, .ref sa, .ref pa, .int tk])), (cl, .inl (cL, 32768, .inr (.inl (pkF (va_up σ k (B, n, p)))))), (sa, .inl (cI, 4, .inl (upd (fun i9 => nI ((va_up σ k (B, n, p)) i9).2.1) (nI k).toNatClampNeg (nI q)))), (pa, .inl (cI, 4, .inl (fun i9 => nI ((va_up σ k (B, n, p)) i9).2.2)))] H := hP
        have hD : va_D A [(h, .inr (2, [.int 0, .int (nI M), .ref cl, .ref sa, .ref pa, .int tk])), (cl, .inl (cL, 32768, .inr (.inl (pkF (va_up σ k (B, n, p)))))), (sa, .inl (cI, 4, .inl (upd (fun i9 => nI ((va_up σ k (B, n, p)) i9).2.1) (nI k).toNatClampNeg (nI q)))), (pa, .inl (cI, 4, .inl (fun i9 => nI ((va_up σ k (B, n, p)) i9).2.2)))] := hD
        rw [sz_up (σ) hk B B n p q p, pc_nc (σ) k B n p q p, pl_nc (σ) k B B n q p] at hP hD
        have hP : va_P D vCl [(h, .inr (2, [.int 0, .int (nI M), .ref cl, .ref sa, .ref pa, .int tk])), (cl, .inl (cL, 32768, .inr (.inl (pkF (va_up (σ) k (B, q, p)))))), (sa, .inl (cI, 4, .inl (fun i9 => nI ((va_up (σ) k (B, q, p)) i9).2.1))), (pa, .inl (cI, 4, .inl (fun i9 => nI ((va_up (σ) k (B, q, p)) i9).2.2)))] H := hP
        have hD : va_D A [(h, .inr (2, [.int 0, .int (nI M), .ref cl, .ref sa, .ref pa, .int tk])), (cl, .inl (cL, 32768, .inr (.inl (pkF (va_up (σ) k (B, q, p)))))), (sa, .inl (cI, 4, .inl (fun i9 => nI ((va_up (σ) k (B, q, p)) i9).2.1))), (pa, .inl (cI, 4, .inl (fun i9 => nI ((va_up (σ) k (B, q, p)) i9).2.2)))] := hD
        refine lv_aload_n hx hb d_M_cut_52 rfl (lv_at hl 1 rfl) ?_
        refine va_get (D := D) (ci := 2) (v := .ref pa) (C := R_M) (T := F_M) (N := 6) hx hb hA i_M hown hK hP 0 rfl rfl 4 (by decide) (hA _ k2_216) (fun _ h9 => h9) rfl d_M_cut_53 ?_
        refine lv_iload_n hx hb d_M_cut_56 rfl (lv_at hl 2 rfl) ?_
        refine lv_aload_n hx hb d_M_cut_57 rfl (lv_at hl 1 rfl) ?_
        refine va_get (D := D) (ci := 2) (v := .ref pa) (C := R_M) (T := F_M) (N := 6) hx hb hA i_M hown hK hP 0 rfl rfl 4 (by decide) (hA _ k2_216) (fun _ h9 => h9) rfl d_M_cut_58 ?_
        refine lv_iload_n hx hb d_M_cut_61 rfl (lv_at hl 2 rfl) ?_
        refine va_iald hx hb hK hP 3 1 rfl rfl (vp_in_nI hk (by decide)) d_M_cut_62 ?_
        refine lv_topi (fun v62 ev62 => ?_)
        have ev62 : v62 = nI p := by rw [ev62]; show nI ((va_up (σ) k (B, q, p)) (nI k).toNatClampNeg).2.2 = _; rw [nI_clamp (by omega), up_s]
        subst ev62
        refine lv_iload_n hx hb d_M_cut_63 rfl (lv_at hl 3 rfl) ?_
        refine lv_icmp_ge (tgt := 76) hx hb d_M_cut_64 (by decide) (fun c64 => ?_) (fun c64 => ?_)
        · refine lv_iload_n hx hb d_M_cut_76 rfl (lv_at hl 3 rfl) ?_
          refine lv_topi (fun v76 ev76 => ?_)
          have ev76 : v76 = nI (min p q) := by rw [ev76]; rw [Nat.min_eq_right ((nI_leI (a := q) (b := p) (by omega) (by omega)).mp c64)]
          subst ev76
          refine va_iast hx hb hK hP hD hS 3 1 rfl rfl (vp_in_nI hk (by decide)) d_M_cut_77 (fun H locs hP hD hS => ?_)
          have hP : va_P D vCl [(h, .inr (2, [.int 0, .int (nI M), .ref cl, .ref sa, .ref pa, .int tk])), (cl, .inl (cL, 32768, .inr (.inl (pkF (va_up (σ) k (B, q, p)))))), (sa, .inl (cI, 4, .inl (fun i9 => nI ((va_up (σ) k (B, q, p)) i9).2.1))), (pa, .inl (cI, 4, .inl (upd (fun i9 => nI ((va_up (σ) k (B, q, p)) i9).2.2) (nI k).toNatClampNeg (nI (min p q)))))] H := hP
          have hD : va_D A [(h, .inr (2, [.int 0, .int (nI M), .ref cl, .ref sa, .ref pa, .int tk])), (cl, .inl (cL, 32768, .inr (.inl (pkF (va_up (σ) k (B, q, p)))))), (sa, .inl (cI, 4, .inl (fun i9 => nI ((va_up (σ) k (B, q, p)) i9).2.1))), (pa, .inl (cI, 4, .inl (upd (fun i9 => nI ((va_up (σ) k (B, q, p)) i9).2.2) (nI k).toNatClampNeg (nI (min p q)))))] := hD
          rw [pl_up (σ) hk B B q p q (min p q), pc_nc (σ) k B q p q (min p q), sz_nc (σ) k B B q p (min p q)] at hP hD
          have hP : va_P D vCl [(h, .inr (2, [.int 0, .int (nI M), .ref cl, .ref sa, .ref pa, .int tk])), (cl, .inl (cL, 32768, .inr (.inl (pkF (va_up (σ) k (B, q, min p q)))))), (sa, .inl (cI, 4, .inl (fun i9 => nI ((va_up (σ) k (B, q, min p q)) i9).2.1))), (pa, .inl (cI, 4, .inl (fun i9 => nI ((va_up (σ) k (B, q, min p q)) i9).2.2)))] H := hP
          have hD : va_D A [(h, .inr (2, [.int 0, .int (nI M), .ref cl, .ref sa, .ref pa, .int tk])), (cl, .inl (cL, 32768, .inr (.inl (pkF (va_up (σ) k (B, q, min p q)))))), (sa, .inl (cI, 4, .inl (fun i9 => nI ((va_up (σ) k (B, q, min p q)) i9).2.1))), (pa, .inl (cI, 4, .inl (fun i9 => nI ((va_up (σ) k (B, q, min p q)) i9).2.2)))] := hD
          refine lv_iload_n hx hb d_M_cut_78 rfl (lv_at hl 0 rfl) ?_
          exact W.iret (v := nI n) hx hb hr (fun t ht hW => ⟨⟨_, (0, va_up σ k (B, q, min p q), tk), rfl, (by unfold spCut; simp only [hrk, hρ]; rw [if_neg (fun h8 => h8 hR), if_neg (fun h8 => h8 hz2), hqn]), by rw [ht]; exact hP, va_K.moved hW.alike hK, hD⟩, hS.F ht⟩) hS.2.2 d_M_cut_79
        · refine lv_aload_n hx hb d_M_cut_67 rfl (lv_at hl 1 rfl) ?_
          refine va_get (D := D) (ci := 2) (v := .ref pa) (C := R_M) (T := F_M) (N := 6) hx hb hA i_M hown hK hP 0 rfl rfl 4 (by decide) (hA _ k2_216) (fun _ h9 => h9) rfl d_M_cut_68 ?_
          refine lv_iload_n hx hb d_M_cut_71 rfl (lv_at hl 2 rfl) ?_
          refine va_iald hx hb hK hP 3 1 rfl rfl (vp_in_nI hk (by decide)) d_M_cut_72 ?_
          refine lv_topi (fun v72 ev72 => ?_)
          have ev72 : v72 = nI p := by rw [ev72]; show nI ((va_up (σ) k (B, q, p)) (nI k).toNatClampNeg).2.2 = _; rw [nI_clamp (by omega), up_s]
          subst ev72
          refine lv_goto (tgt := 77) hx hb d_M_cut_73 (by decide) ?_
          refine lv_topi (fun v76 ev76 => ?_)
          have ev76 : v76 = nI (min p q) := by rw [ev76]; rw [Nat.min_eq_left (by have := mt (nI_leI (a := q) (b := p) (by omega) (by omega)).mpr c64; omega)]
          subst ev76
          refine va_iast hx hb hK hP hD hS 3 1 rfl rfl (vp_in_nI hk (by decide)) d_M_cut_77 (fun H locs hP hD hS => ?_)
          have hP : va_P D vCl [(h, .inr (2, [.int 0, .int (nI M), .ref cl, .ref sa, .ref pa, .int tk])), (cl, .inl (cL, 32768, .inr (.inl (pkF (va_up (σ) k (B, q, p)))))), (sa, .inl (cI, 4, .inl (fun i9 => nI ((va_up (σ) k (B, q, p)) i9).2.1))), (pa, .inl (cI, 4, .inl (upd (fun i9 => nI ((va_up (σ) k (B, q, p)) i9).2.2) (nI k).toNatClampNeg (nI (min p q)))))] H := hP
          have hD : va_D A [(h, .inr (2, [.int 0, .int (nI M), .ref cl, .ref sa, .ref pa, .int tk])), (cl, .inl (cL, 32768, .inr (.inl (pkF (va_up (σ) k (B, q, p)))))), (sa, .inl (cI, 4, .inl (fun i9 => nI ((va_up (σ) k (B, q, p)) i9).2.1))), (pa, .inl (cI, 4, .inl (upd (fun i9 => nI ((va_up (σ) k (B, q, p)) i9).2.2) (nI k).toNatClampNeg (nI (min p q)))))] := hD
          rw [pl_up (σ) hk B B q p q (min p q), pc_nc (σ) k B q p q (min p q), sz_nc (σ) k B B q p (min p q)] at hP hD
          have hP : va_P D vCl [(h, .inr (2, [.int 0, .int (nI M), .ref cl, .ref sa, .ref pa, .int tk])), (cl, .inl (cL, 32768, .inr (.inl (pkF (va_up (σ) k (B, q, min p q)))))), (sa, .inl (cI, 4, .inl (fun i9 => nI ((va_up (σ) k (B, q, min p q)) i9).2.1))), (pa, .inl (cI, 4, .inl (fun i9 => nI ((va_up (σ) k (B, q, min p q)) i9).2.2)))] H := hP
          have hD : va_D A [(h, .inr (2, [.int 0, .int (nI M), .ref cl, .ref sa, .ref pa, .int tk])), (cl, .inl (cL, 32768, .inr (.inl (pkF (va_up (σ) k (B, q, min p q)))))), (sa, .inl (cI, 4, .inl (fun i9 => nI ((va_up (σ) k (B, q, min p q)) i9).2.1))), (pa, .inl (cI, 4, .inl (fun i9 => nI ((va_up (σ) k (B, q, min p q)) i9).2.2)))] := hD
          refine lv_iload_n hx hb d_M_cut_78 rfl (lv_at hl 0 rfl) ?_
          exact W.iret (v := nI n) hx hb hr (fun t ht hW => ⟨⟨_, (0, va_up σ k (B, q, min p q), tk), rfl, (by unfold spCut; simp only [hrk, hρ]; rw [if_neg (fun h8 => h8 hR), if_neg (fun h8 => h8 hz2), hqn]), by rw [ht]; exact hP, va_K.moved hW.alike hK, hD⟩, hS.F ht⟩) hS.2.2 d_M_cut_79
      · have hni : (nI n).toInt = (n : Int) := nI_toInt (by omega)
        have hz2 : ¬ (0 ≤ z.toInt ∧ z.toInt ≤ (n : Int)) := by simp only [Int32.lt_iff_toInt_lt, Int32.le_iff_toInt_le, li_0, li_1, li_2, li_3, li_4, li_8, li_10, li_16, li_63, li_127, li_128, li_191, li_192, li_194, li_224, li_240, li_244, li_255, li_2048, li_55296, li_57343, li_65536, li_1114111, li_m1, li_m2] at *; omega
        refine lv_aload_n hx hb d_M_cut_32 rfl (lv_at hl 0 rfl) ?_
        refine lv_iconst (v := 2) hx hb d_M_cut_33 (by decide) ?_
        have hPc := hP
        have hFc := va_free (wc := [(h, .inr (2, [.int 0, .int (nI M), .ref cl, .ref sa, .ref pa, .int tk])), (cl, .inl (cL, 32768, .inr (.inl (pkF (σ))))), (sa, .inl (cI, 4, .inl (fun i9 => nI ((σ) i9).2.1))), (pa, .inl (cI, 4, .inl (fun i9 => nI ((σ) i9).2.2)))]) hD hS hAq [0, 1, 2, 3] rfl
        have hKc := hK.sub (tys' := [(cL, .long), (cI, .int)]) [0, 1] rfl
        refine va_calli (va_runV (As := [.int 2]) (rest := []) ⟨hx, hb, hml, hown, hA⟩ (c_M_fail l D cL cI h cl sa pa M 0 tk (σ) H.size 2) (q_M_fail hA k3_4 rfl rfl ⟨(Nat.le_of_ble_eq_true rfl), (Nat.le_of_ble_eq_true rfl)⟩) (ox_V (va_recv hKc hPc (ci := 2) (q0 := 0) rfl rfl) (oxw_S hPc hKc hD)) rfl rfl hl.1 rfl (lv_room (Nat.le_of_ble_eq_true rfl)) d_M_cut_34 ⟨(Nat.le_of_ble_eq_true rfl), (Nat.le_of_ble_eq_true rfl)⟩) hS (fun q _ h => hFc q h) hFc (fun r34 u9 t9 H1 locs ht9 hvm9 hw9 hB9 hz1 hk1 hS => ?_)
        obtain ⟨hP, hK1, hD1⟩ := hB9
        rw [ht9] at hP
        obtain ⟨hP, hD⟩ := va_join (wr := []) (w1 := rfW cL cI h cl sa pa M 2 tk (σ)) hPc hD [0, 1, 2, 3] [] rfl rfl (by decide) (by decide) hk1 hFc hP hD1
        generalize H1 = H at hP hS ⊢
        have hP : va_P D vCl [(h, .inr (2, [.int 2, .int (nI M), .ref cl, .ref sa, .ref pa, .int tk])), (cl, .inl (cL, 32768, .inr (.inl (pkF (σ))))), (sa, .inl (cI, 4, .inl (fun i9 => nI ((σ) i9).2.1))), (pa, .inl (cI, 4, .inl (fun i9 => nI ((σ) i9).2.2)))] H := hP
        have hD : va_D A [(h, .inr (2, [.int 2, .int (nI M), .ref cl, .ref sa, .ref pa, .int tk])), (cl, .inl (cL, 32768, .inr (.inl (pkF (σ))))), (sa, .inl (cI, 4, .inl (fun i9 => nI ((σ) i9).2.1))), (pa, .inl (cI, 4, .inl (fun i9 => nI ((σ) i9).2.2)))] := hD
        subst hw9
        exact W.iret (v := 0) hx hb hr (fun t ht hW => ⟨⟨_, (2, σ, tk), rfl, (by unfold spCut; simp only [hrk, hρ]; rw [if_neg (fun h8 => h8 hR), if_pos hz2]), by rw [ht]; exact hP, va_K.moved hW.alike hK, hD⟩, hS.F ht⟩) hS.2.2 d_M_cut_37
  · refine lv_if_ne (tgt := 18) hx hb d_M_cut_9 (by decide) (fun q9 => absurd (by decide) q9) (fun _ => ?_)
    refine lv_aload_n hx hb d_M_cut_12 rfl (lv_at hl 0 rfl) ?_
    refine lv_iconst (v := 1) hx hb d_M_cut_13 (by decide) ?_
    have hPc := hP
    have hFc := va_free (wc := [(h, .inr (2, [.int 0, .int (nI M), .ref cl, .ref sa, .ref pa, .int tk])), (cl, .inl (cL, 32768, .inr (.inl (pkF (σ))))), (sa, .inl (cI, 4, .inl (fun i9 => nI ((σ) i9).2.1))), (pa, .inl (cI, 4, .inl (fun i9 => nI ((σ) i9).2.2)))]) hD hS hAq [0, 1, 2, 3] rfl
    have hKc := hK.sub (tys' := [(cL, .long), (cI, .int)]) [0, 1] rfl
    refine va_calli (va_runV (As := [.int 1]) (rest := []) ⟨hx, hb, hml, hown, hA⟩ (c_M_fail l D cL cI h cl sa pa M 0 tk (σ) H.size 1) (q_M_fail hA k3_4 rfl rfl ⟨(Nat.le_of_ble_eq_true rfl), (Nat.le_of_ble_eq_true rfl)⟩) (ox_V (va_recv hKc hPc (ci := 2) (q0 := 0) rfl rfl) (oxw_S hPc hKc hD)) rfl rfl hl.1 rfl (lv_room (Nat.le_of_ble_eq_true rfl)) d_M_cut_14 ⟨(Nat.le_of_ble_eq_true rfl), (Nat.le_of_ble_eq_true rfl)⟩) hS (fun q _ h => hFc q h) hFc (fun r14 u9 t9 H1 locs ht9 hvm9 hw9 hB9 hz1 hk1 hS => ?_)
    obtain ⟨hP, hK1, hD1⟩ := hB9
    rw [ht9] at hP
    obtain ⟨hP, hD⟩ := va_join (wr := []) (w1 := rfW cL cI h cl sa pa M 1 tk (σ)) hPc hD [0, 1, 2, 3] [] rfl rfl (by decide) (by decide) hk1 hFc hP hD1
    generalize H1 = H at hP hS ⊢
    have hP : va_P D vCl [(h, .inr (2, [.int 1, .int (nI M), .ref cl, .ref sa, .ref pa, .int tk])), (cl, .inl (cL, 32768, .inr (.inl (pkF (σ))))), (sa, .inl (cI, 4, .inl (fun i9 => nI ((σ) i9).2.1))), (pa, .inl (cI, 4, .inl (fun i9 => nI ((σ) i9).2.2)))] H := hP
    have hD : va_D A [(h, .inr (2, [.int 1, .int (nI M), .ref cl, .ref sa, .ref pa, .int tk])), (cl, .inl (cL, 32768, .inr (.inl (pkF (σ))))), (sa, .inl (cI, 4, .inl (fun i9 => nI ((σ) i9).2.1))), (pa, .inl (cI, 4, .inl (fun i9 => nI ((σ) i9).2.2)))] := hD
    subst hw9
    exact W.iret (v := 0) hx hb hr (fun t ht hW => ⟨⟨_, (1, σ, tk), rfl, (by unfold spCut; rw [if_pos hR]), by rw [ht]; exact hP, va_K.moved hW.alike hK, hD⟩, hS.F ht⟩) hS.2.2 d_M_cut_17
set_option maxHeartbeats 600000 in
set_option maxRecDepth 100000 in
/-- turn -/
theorem c_M_turn (l : Launch) (D : va_G) (cL cI : ClassId) (h cl sa pa M : Nat) (th tk : Int32) (σ : dkS) (sz : Nat) (x z : Int32) (hσ : dkok M σ) : Met l y_M_turn w_M_turn ({ frames := 1, cells := 0, slots := 0, locals := 25 }) (va_Pc [.ref h, .int x, .int z] (oxw sz D [(cL, .long), (cI, .int)] [(h, .inr (2, [.int th, .int (nI M), .ref cl, .ref sa, .ref pa, .int tk])), (cl, .inl (cL, 32768, .inr (.inl (pkF (σ))))), (sa, .inl (cI, 4, .inl (fun i9 => nI ((σ) i9).2.1))), (pa, .inl (cI, 4, .inl (fun i9 => nI ((σ) i9).2.2)))])) (va_Qi (fun (r : Int32) (uu : Nat × dkS × Int32) => spTurn σ x z = (uu.1, r, uu.2.1)) (fun uu => ow D [(cL, .long), (cI, .int)] (va_A [(h, .inr (2, [.int th, .int (nI M), .ref cl, .ref sa, .ref pa, .int tk])), (cl, .inl (cL, 32768, .inr (.inl (pkF (σ))))), (sa, .inl (cI, 4, .inl (fun i9 => nI ((σ) i9).2.1))), (pa, .inl (cI, 4, .inl (fun i9 => nI ((σ) i9).2.2)))] sz) (rfW cL cI h cl sa pa M (nI uu.1) uu.2.2 uu.2.1)) (va_A [(h, .inr (2, [.int th, .int (nI M), .ref cl, .ref sa, .ref pa, .int tk])), (cl, .inl (cL, 32768, .inr (.inl (pkF (σ))))), (sa, .inl (cI, 4, .inl (fun i9 => nI ((σ) i9).2.1))), (pa, .inl (cI, 4, .inl (fun i9 => nI ((σ) i9).2.2)))] sz)) 0 0 (va_A [(h, .inr (2, [.int th, .int (nI M), .ref cl, .ref sa, .ref pa, .int tk])), (cl, .inl (cL, 32768, .inr (.inl (pkF (σ))))), (sa, .inl (cI, 4, .inl (fun i9 => nI ((σ) i9).2.1))), (pa, .inl (cI, 4, .inl (fun i9 => nI ((σ) i9).2.2)))] sz) := by
  refine Met.ofW (cc := b_M_turn) (maxL := 3) (ret := (some .int)) (by decide) rfl ?_
  intro p9 e9 s m args below meth c9 s₁ BL hml hv
  obtain ⟨rfl, hsz, hP, hK, hD0⟩ := hv
  have hx := BL.exec
  have hb := BL.bytes
  have hr := BL.returns
  have hts := atoms_spec (ws := w_M_turn) BL.pre
  have hA : ∀ w ∈ wsA, w.before _ s = true := fun w h => hts w (List.mem_cons_of_mem _ h)
  have hown : s.vm.findClass R_M = some m.cls := findClass_of_methodNamed BL.named
  have hlocks := BL.notSynchronized
  subst hsz
  have hD := hD0.self (sz := s.heap.size)
  generalize hAe : va_A [(h, .inr (2, [.int th, .int (nI M), .ref cl, .ref sa, .ref pa, .int tk])), (cl, .inl (cL, 32768, .inr (.inl (pkF (σ))))), (sa, .inl (cI, 4, .inl (fun i9 => nI ((σ) i9).2.1))), (pa, .inl (cI, 4, .inl (fun i9 => nI ((σ) i9).2.2)))] s.heap.size = A at hD ⊢
  have hAq : ∀ q : Nat, s.heap.size ≤ q → A q := fun q h => by rw [← hAe]; exact Or.inr h
  have hS : va_S A s.heap s.heap [] := va_S.rf
  have hP : va_P D vCl [(h, .inr (2, [.int th, .int (nI M), .ref cl, .ref sa, .ref pa, .int tk])), (cl, .inl (cL, 32768, .inr (.inl (pkF (σ))))), (sa, .inl (cI, 4, .inl (fun i9 => nI ((σ) i9).2.1))), (pa, .inl (cI, 4, .inl (fun i9 => nI ((σ) i9).2.2)))] s.heap := hP
  have hl := lv_entry ([.ref h, .int x, .int z]) (n := 3) (Nat.le_of_ble_eq_true rfl)
  rw [lg_entry_eq]
  generalize (lg_sl ([.ref h, .int x, .int z]) ++ List.replicate (3 - (lg_sl ([.ref h, .int x, .int z])).length) Slot.unset).toArray = ls at hl ⊢
  have hl : lv_has ls 3 [(0, .ref h), (1, .int x), (2, .int z)] := hl
  refine lv_aload_n hx hb d_M_turn_0 rfl (lv_at hl 0 rfl) ?_
  refine lv_iconst (v := 0) hx hb d_M_turn_1 (by decide) ?_
  refine va_put (D := D) (ci := 2) (v := .int 0) (ty := .int) (C := R_M) (T := F_M) (N := 6) hx hb hA i_M t_M t_M_ok n_M hown hK hP hD hS 0 rfl rfl 0 (by decide) (hA _ k2_212) (fun _ h9 => h9) rfl (by decide +kernel) rfl rfl (Nat.le_of_ble_eq_true rfl) d_M_turn_2 (fun H locs hP hD hS => ?_)
  have hP : va_P D vCl [(h, .inr (2, [.int 0, .int (nI M), .ref cl, .ref sa, .ref pa, .int tk])), (cl, .inl (cL, 32768, .inr (.inl (pkF (σ))))), (sa, .inl (cI, 4, .inl (fun i9 => nI ((σ) i9).2.1))), (pa, .inl (cI, 4, .inl (fun i9 => nI ((σ) i9).2.2)))] H := hP
  have hD : va_D A [(h, .inr (2, [.int 0, .int (nI M), .ref cl, .ref sa, .ref pa, .int tk])), (cl, .inl (cL, 32768, .inr (.inl (pkF (σ))))), (sa, .inl (cI, 4, .inl (fun i9 => nI ((σ) i9).2.1))), (pa, .inl (cI, 4, .inl (fun i9 => nI ((σ) i9).2.2)))] := hD
  refine lv_iload_n hx hb d_M_turn_5 rfl (lv_at hl 1 rfl) ?_
  refine vp_callSi (W.runS (As := [.int x]) (rest := []) ⟨hx, hb, hml, hown, hA⟩ (c_M_isRow l x) (q_M_isRow hA k3_1 rfl rfl ⟨(Nat.le_of_ble_eq_true rfl), (Nat.le_of_ble_eq_true rfl)⟩) (⟨fun a U g mk q => q, fun U hU hW => ⟨rfl, trivial⟩⟩) rfl rfl hl.1 rfl (lv_room (Nat.le_of_ble_eq_true rfl)) d_M_turn_6 ⟨(Nat.le_of_ble_eq_true rfl), (Nat.le_of_ble_eq_true rfl)⟩) (fun r6 hr6 => ?_)
  rcases hr6 with ⟨hR, rfl⟩ | ⟨hR, rfl⟩
  · refine lv_if_ne (tgt := 18) hx hb d_M_turn_9 (by decide) (fun _ => ?_) (fun q9 => absurd q9 (by decide))
    obtain ⟨k, hk0, rfl⟩ := nI_of (show ¬ x < 0 by rw [Int32.lt_iff_toInt_lt, li_0]; exact Int.not_lt.mpr hR.1)
    have hk : k < 4 := by have h9 := hR.2; rw [nI_toInt hk0] at h9; omega
    have hrk : rj (nI k) = k := rj_n hk
    obtain ⟨⟨B, n, p⟩, hρ⟩ : ∃ ρ, σ k = ρ := ⟨_, rfl⟩
    have hk9 := hσ.2 k hk
    have hBσ : ∀ j, (σ k).1 j < 256 := hk9.2.2
    have hnσ : (σ k).2.1 ≤ 65536 := Nat.le_trans hk9.2.1 hσ.1
    rw [hρ] at hk9
    obtain ⟨hp, hn, hB⟩ := hk9
    have hp : p ≤ n := hp
    have hn : n ≤ M := hn
    have hB : ∀ j, B j < 256 := hB
    have hM := hσ.1
    refine lv_iload_n hx hb d_M_turn_18 rfl (lv_at hl 2 rfl) ?_
    refine lv_if_lt (tgt := 35) hx hb d_M_turn_19 (by decide) (fun c19 => ?_) (fun c19 => ?_)
    · have hz2 : ¬ (0 ≤ z.toInt ∧ z.toInt.toNat / 8 < n) := by rw [Int32.lt_iff_toInt_lt, li_0] at c19; omega
      refine lv_aload_n hx hb d_M_turn_35 rfl (lv_at hl 0 rfl) ?_
      refine lv_iconst (v := 2) hx hb d_M_turn_36 (by decide) ?_
      have hPc := hP
      have hFc := va_free (wc := [(h, .inr (2, [.int 0, .int (nI M), .ref cl, .ref sa, .ref pa, .int tk])), (cl, .inl (cL, 32768, .inr (.inl (pkF (σ))))), (sa, .inl (cI, 4, .inl (fun i9 => nI ((σ) i9).2.1))), (pa, .inl (cI, 4, .inl (fun i9 => nI ((σ) i9).2.2)))]) hD hS hAq [0, 1, 2, 3] rfl
      have hKc := hK.sub (tys' := [(cL, .long), (cI, .int)]) [0, 1] rfl
      refine va_calli (va_runV (As := [.int 2]) (rest := []) ⟨hx, hb, hml, hown, hA⟩ (c_M_fail l D cL cI h cl sa pa M 0 tk (σ) H.size 2) (q_M_fail hA k3_4 rfl rfl ⟨(Nat.le_of_ble_eq_true rfl), (Nat.le_of_ble_eq_true rfl)⟩) (ox_V (va_recv hKc hPc (ci := 2) (q0 := 0) rfl rfl) (oxw_S hPc hKc hD)) rfl rfl hl.1 rfl (lv_room (Nat.le_of_ble_eq_true rfl)) d_M_turn_37 ⟨(Nat.le_of_ble_eq_true rfl), (Nat.le_of_ble_eq_true rfl)⟩) hS (fun q _ h => hFc q h) hFc (fun r37 u9 t9 H1 locs ht9 hvm9 hw9 hB9 hz1 hk1 hS => ?_)
      obtain ⟨hP, hK1, hD1⟩ := hB9
      rw [ht9] at hP
      obtain ⟨hP, hD⟩ := va_join (wr := []) (w1 := rfW cL cI h cl sa pa M 2 tk (σ)) hPc hD [0, 1, 2, 3] [] rfl rfl (by decide) (by decide) hk1 hFc hP hD1
      generalize H1 = H at hP hS ⊢
      have hP : va_P D vCl [(h, .inr (2, [.int 2, .int (nI M), .ref cl, .ref sa, .ref pa, .int tk])), (cl, .inl (cL, 32768, .inr (.inl (pkF (σ))))), (sa, .inl (cI, 4, .inl (fun i9 => nI ((σ) i9).2.1))), (pa, .inl (cI, 4, .inl (fun i9 => nI ((σ) i9).2.2)))] H := hP
      have hD : va_D A [(h, .inr (2, [.int 2, .int (nI M), .ref cl, .ref sa, .ref pa, .int tk])), (cl, .inl (cL, 32768, .inr (.inl (pkF (σ))))), (sa, .inl (cI, 4, .inl (fun i9 => nI ((σ) i9).2.1))), (pa, .inl (cI, 4, .inl (fun i9 => nI ((σ) i9).2.2)))] := hD
      subst hw9
      exact W.iret (v := 0) hx hb hr (fun t ht hW => ⟨⟨_, (2, σ, tk), rfl, (by unfold spTurn; simp only [hrk, hρ]; rw [if_neg (fun h8 => h8 hR), if_pos hz2]), by rw [ht]; exact hP, va_K.moved hW.alike hK, hD⟩, hS.F ht⟩) hS.2.2 d_M_turn_40
    · obtain ⟨q, hq0, rfl⟩ := nI_of c19
      have hqi : (nI q).toInt = (q : Int) := nI_toInt hq0
      have hqn : (nI q).toInt.toNat = q := by rw [hqi]; rfl
      have hd : nI q / 8 = nI (q / 8) := pk_div (d := 8) hq0 (by decide) (by decide)
      refine lv_iload_n hx hb d_M_turn_22 rfl (lv_at hl 2 rfl) ?_
      refine lv_bipush (v := 8) hx hb d_M_turn_23 (by decide) ?_
      refine lv_idiv hx hb d_M_turn_25 (by decide) ?_
      refine lv_topi (fun v25 ev25 => ?_)
      have ev25 : v25 = nI (q / 8) := by rw [ev25]; exact hd
      subst ev25
      refine lv_aload_n hx hb d_M_turn_26 rfl (lv_at hl 0 rfl) ?_
      refine va_get (D := D) (ci := 2) (v := .ref sa) (C := R_M) (T := F_M) (N := 6) hx hb hA i_M hown hK hP 0 rfl rfl 3 (by decide) (hA _ k2_215) (fun _ h9 => h9) rfl d_M_turn_27 ?_
      refine lv_iload_n hx hb d_M_turn_30 rfl (lv_at hl 1 rfl) ?_
      refine va_iald hx hb hK hP 2 1 rfl rfl (vp_in_nI hk (by decide)) d_M_turn_31 ?_
      refine lv_topi (fun v31 ev31 => ?_)
      have ev31 : v31 = nI n := by rw [ev31]; show nI ((σ) (nI k).toNatClampNeg).2.1 = _; rw [nI_clamp (by omega), hρ]
      subst ev31
      refine lv_icmp_lt (tgt := 41) hx hb d_M_turn_32 (by decide) (fun c32 => ?_) (fun c32 => ?_)
      · have hqn8 : q / 8 < n := (nI_ltI (a := q / 8) (b := n) (by omega) (by omega)).mp c32
        have hz2 : 0 ≤ (nI q).toInt ∧ (nI q).toInt.toNat / 8 < n := by rw [hqn, hqi]; omega
        have hp2 : 2 ^ (q % 8) < 2 ^ 8 := Nat.pow_lt_pow_right (by decide) (by omega)
        have hB8 := hB (q / 8)
        have hx8 : (B (q / 8) ^^^ 2 ^ (q % 8)) < 256 := xor_256 hB8 (by omega)
        rw [up_id hρ] at hP hD
        have hP : va_P D vCl [(h, .inr (2, [.int 0, .int (nI M), .ref cl, .ref sa, .ref pa, .int tk])), (cl, .inl (cL, 32768, .inr (.inl (pkF (va_up σ k (B, n, p)))))), (sa, .inl (cI, 4, .inl (fun i9 => nI ((va_up σ k (B, n, p)) i9).2.1))), (pa, .inl (cI, 4, .inl (fun i9 => nI ((va_up σ k (B, n, p)) i9).2.2)))] H := hP
        have hD : va_D A [(h, .inr (2, [.int 0, .int (nI M), .ref cl, .ref sa, .ref pa, .int tk])), (cl, .inl (cL, 32768, .inr (.inl (pkF (va_up σ k (B, n, p)))))), (sa, .inl (cI, 4, .inl (fun i9 => nI ((va_up σ k (B, n, p)) i9).2.1))), (pa, .inl (cI, 4, .inl (fun i9 => nI ((va_up σ k (B, n, p)) i9).2.2)))] := hD
        refine lv_aload_n hx hb d_M_turn_41 rfl (lv_at hl 0 rfl) ?_
        refine lv_iload_n hx hb d_M_turn_42 rfl (lv_at hl 1 rfl) ?_
        refine lv_iload_n hx hb d_M_turn_43 rfl (lv_at hl 2 rfl) ?_
        refine lv_bipush (v := 8) hx hb d_M_turn_44 (by decide) ?_
        refine lv_idiv hx hb d_M_turn_46 (by decide) ?_
        refine lv_topi (fun v46 ev46 => ?_)
        have ev46 : v46 = nI (q / 8) := by rw [ev46]; exact hd
        subst ev46
        refine lv_aload_n hx hb d_M_turn_47 rfl (lv_at hl 0 rfl) ?_
        refine lv_iload_n hx hb d_M_turn_48 rfl (lv_at hl 1 rfl) ?_
        refine lv_iload_n hx hb d_M_turn_49 rfl (lv_at hl 2 rfl) ?_
        refine lv_bipush (v := 8) hx hb d_M_turn_50 (by decide) ?_
        refine lv_idiv hx hb d_M_turn_52 (by decide) ?_
        refine lv_topi (fun v52 ev52 => ?_)
        have ev52 : v52 = nI (q / 8) := by rw [ev52]; exact hd
        subst ev52
        have hPc := hP.sub (ws' := [(h, .inr (2, [.int 0, .int (nI M), .ref cl, .ref sa, .ref pa, .int tk])), (cl, .inl (cL, 32768, .inr (.inl (pkF (va_up σ k (B, n, p)))))), (sa, .inl (cI, 4, .inl (fun i9 => nI ((va_up σ k (B, n, p)) i9).2.1))), (pa, .inl (cI, 4, .inl (fun i9 => nI ((va_up σ k (B, n, p)) i9).2.2)))]) [0, 1, 2, 3] rfl
        have hKc := hK.sub (tys' := [(cL, .long), (cI, .int)]) [0, 1] rfl
        refine vp_callSi (W.runV (As := [.int (nI k), .int (nI (q / 8))]) (rest := [.int (nI (q / 8)), .int (nI k), .ref h]) ⟨hx, hb, hml, hown, hA⟩ (c_M_at l D cL cI h cl sa pa M 0 tk (va_up σ k (B, n, p)) k (q / 8) hk (by omega) (by rw [up_s]; exact hB)) (q_M_at hA k3_66 rfl rfl ⟨(Nat.le_of_ble_eq_true rfl), (Nat.le_of_ble_eq_true rfl)⟩) (ox_V (va_recv hKc hPc (ci := 2) (q0 := 0) rfl rfl) (ox_S hPc hKc)) rfl rfl hl.1 rfl (lv_room (Nat.le_of_ble_eq_true rfl)) d_M_turn_53 ⟨(Nat.le_of_ble_eq_true rfl), (Nat.le_of_ble_eq_true rfl)⟩) (fun r53 hr53 => ?_)
        have er53 : r53 = nI (B (q / 8)) := by rw [hr53, up_s]
        subst er53
        refine lv_iconst (v := 1) hx hb d_M_turn_56 (by decide) ?_
        refine lv_iload_n hx hb d_M_turn_57 rfl (lv_at hl 2 rfl) ?_
        refine lv_bipush (v := 8) hx hb d_M_turn_58 (by decide) ?_
        refine lv_irem hx hb d_M_turn_60 (by decide) ?_
        refine lv_topi (fun v60 ev60 => ?_)
        have ev60 : v60 = nI (q % 8) := by rw [ev60]; exact pk_rem (d := 8) hq0 (by decide) (by decide)
        subst ev60
        refine lv_ishl hx hb d_M_turn_61 ?_
        refine lv_topi (fun v61 ev61 => ?_)
        have ev61 : v61 = nI (2 ^ (q % 8)) := by rw [ev61]; exact (sh_n (n := 1) (k := q % 8) (by omega) (by omega)).trans (by rw [Nat.one_mul])
        subst ev61
        refine lv_ixor hx hb d_M_turn_62 ?_
        refine lv_topi (fun v62 ev62 => ?_)
        have ev62 : v62 = nI (B (q / 8) ^^^ 2 ^ (q % 8)) := by rw [ev62]; exact nI_xor (by omega) (by omega)
        subst ev62
        have hPc := hP
        have hFc := va_free (wc := [(h, .inr (2, [.int 0, .int (nI M), .ref cl, .ref sa, .ref pa, .int tk])), (cl, .inl (cL, 32768, .inr (.inl (pkF (va_up σ k (B, n, p)))))), (sa, .inl (cI, 4, .inl (fun i9 => nI ((va_up σ k (B, n, p)) i9).2.1))), (pa, .inl (cI, 4, .inl (fun i9 => nI ((va_up σ k (B, n, p)) i9).2.2)))]) hD hS hAq [0, 1, 2, 3] rfl
        have hKc := hK.sub (tys' := [(cL, .long), (cI, .int)]) [0, 1] rfl
        refine va_callv (va_runV (As := [.int (nI k), .int (nI (q / 8)), .int (nI (B (q / 8) ^^^ 2 ^ (q % 8)))]) (rest := []) ⟨hx, hb, hml, hown, hA⟩ (c_M_set l D cL cI h cl sa pa M 0 tk σ H.size k hk B n p hB (q / 8) (B (q / 8) ^^^ 2 ^ (q % 8)) (by omega) hx8) (q_M_set hA k3_17 rfl rfl ⟨(Nat.le_of_ble_eq_true rfl), (Nat.le_of_ble_eq_true rfl)⟩) (ox_V (va_recv hKc hPc (ci := 2) (q0 := 0) rfl rfl) (oxw_S hPc hKc hD)) rfl rfl hl.1 rfl (lv_room (Nat.le_of_ble_eq_true rfl)) d_M_turn_63 ⟨(Nat.le_of_ble_eq_true rfl), (Nat.le_of_ble_eq_true rfl)⟩) hS (fun q _ h => hFc q h) hFc (fun u9 t9 H1 locs ht9 hvm9 hw9 hB9 hz1 hk1 hS => ?_)
        obtain ⟨hP, hK1, hD1⟩ := hB9
        rw [ht9] at hP
        obtain ⟨hP, hD⟩ := va_join (wr := []) (w1 := rfW cL cI h cl sa pa M 0 tk (va_up σ k (va_up B (q / 8) (B (q / 8) ^^^ 2 ^ (q % 8)), n, p))) hPc hD [0, 1, 2, 3] [] rfl rfl (by decide) (by decide) hk1 hFc hP hD1
        generalize H1 = H at hP hS ⊢
        have hP : va_P D vCl [(h, .inr (2, [.int 0, .int (nI M), .ref cl, .ref sa, .ref pa, .int tk])), (cl, .inl (cL, 32768, .inr (.inl (pkF (va_up σ k (va_up B (q / 8) (B (q / 8) ^^^ 2 ^ (q % 8)), n, p)))))), (sa, .inl (cI, 4, .inl (fun i9 => nI ((va_up σ k (va_up B (q / 8) (B (q / 8) ^^^ 2 ^ (q % 8)), n, p)) i9).2.1))), (pa, .inl (cI, 4, .inl (fun i9 => nI ((va_up σ k (va_up B (q / 8) (B (q / 8) ^^^ 2 ^ (q % 8)), n, p)) i9).2.2)))] H := hP
        have hD : va_D A [(h, .inr (2, [.int 0, .int (nI M), .ref cl, .ref sa, .ref pa, .int tk])), (cl, .inl (cL, 32768, .inr (.inl (pkF (va_up σ k (va_up B (q / 8) (B (q / 8) ^^^ 2 ^ (q % 8)), n, p)))))), (sa, .inl (cI, 4, .inl (fun i9 => nI ((va_up σ k (va_up B (q / 8) (B (q / 8) ^^^ 2 ^ (q % 8)), n, p)) i9).2.1))), (pa, .inl (cI, 4, .inl (fun i9 => nI ((va_up σ k (va_up B (q / 8) (B (q / 8) ^^^ 2 ^ (q % 8)), n, p)) i9).2.2)))] := hD
        refine lv_aload_n hx hb d_M_turn_66 rfl (lv_at hl 0 rfl) ?_
        refine lv_iload_n hx hb d_M_turn_67 rfl (lv_at hl 1 rfl) ?_
        refine lv_iload_n hx hb d_M_turn_68 rfl (lv_at hl 2 rfl) ?_
        refine lv_bipush (v := 8) hx hb d_M_turn_69 (by decide) ?_
        refine lv_idiv hx hb d_M_turn_71 (by decide) ?_
        refine lv_topi (fun v71 ev71 => ?_)
        have ev71 : v71 = nI (q / 8) := by rw [ev71]; exact hd
        subst ev71
        have hPc := hP.sub (ws' := [(h, .inr (2, [.int 0, .int (nI M), .ref cl, .ref sa, .ref pa, .int tk])), (cl, .inl (cL, 32768, .inr (.inl (pkF (va_up σ k (va_up B (q / 8) (B (q / 8) ^^^ 2 ^ (q % 8)), n, p)))))), (sa, .inl (cI, 4, .inl (fun i9 => nI ((va_up σ k (va_up B (q / 8) (B (q / 8) ^^^ 2 ^ (q % 8)), n, p)) i9).2.1))), (pa, .inl (cI, 4, .inl (fun i9 => nI ((va_up σ k (va_up B (q / 8) (B (q / 8) ^^^ 2 ^ (q % 8)), n, p)) i9).2.2)))]) [0, 1, 2, 3] rfl
        have hKc := hK.sub (tys' := [(cL, .long), (cI, .int)]) [0, 1] rfl
        refine vp_callSi (W.runV (As := [.int (nI k), .int (nI (q / 8))]) (rest := []) ⟨hx, hb, hml, hown, hA⟩ (c_M_at l D cL cI h cl sa pa M 0 tk (va_up σ k (va_up B (q / 8) (B (q / 8) ^^^ 2 ^ (q % 8)), n, p)) k (q / 8) hk (by omega) (by rw [up_s]; exact by_lt hB hx8)) (q_M_at hA k3_66 rfl rfl ⟨(Nat.le_of_ble_eq_true rfl), (Nat.le_of_ble_eq_true rfl)⟩) (ox_V (va_recv hKc hPc (ci := 2) (q0 := 0) rfl rfl) (ox_S hPc hKc)) rfl rfl hl.1 rfl (lv_room (Nat.le_of_ble_eq_true rfl)) d_M_turn_72 ⟨(Nat.le_of_ble_eq_true rfl), (Nat.le_of_ble_eq_true rfl)⟩) (fun r72 hr72 => ?_)
        have er72 : r72 = nI (B (q / 8) ^^^ 2 ^ (q % 8)) := by rw [hr72, up_s]; show nI (va_up B (q / 8) (B (q / 8) ^^^ 2 ^ (q % 8)) (q / 8)) = _; unfold va_up; rw [if_pos rfl]
        subst er72
        exact W.iret (v := nI (B (q / 8) ^^^ 2 ^ (q % 8))) hx hb hr (fun t ht hW => ⟨⟨_, (0, va_up σ k (va_up B (q / 8) (B (q / 8) ^^^ 2 ^ (q % 8)), n, p), tk), rfl, (by unfold spTurn; simp only [hrk, hρ]; rw [if_neg (fun h8 => h8 hR), if_neg (fun h8 => h8 hz2), hqn]), by rw [ht]; exact hP, va_K.moved hW.alike hK, hD⟩, hS.F ht⟩) hS.2.2 d_M_turn_75
      · have hz2 : ¬ (0 ≤ (nI q).toInt ∧ (nI q).toInt.toNat / 8 < n) := by rw [hqn]; have := mt (nI_ltI (a := q / 8) (b := n) (by omega) (by omega)).mpr c32; omega
        refine lv_aload_n hx hb d_M_turn_35 rfl (lv_at hl 0 rfl) ?_
        refine lv_iconst (v := 2) hx hb d_M_turn_36 (by decide) ?_
        have hPc := hP
        have hFc := va_free (wc := [(h, .inr (2, [.int 0, .int (nI M), .ref cl, .ref sa, .ref pa, .int tk])), (cl, .inl (cL, 32768, .inr (.inl (pkF (σ))))), (sa, .inl (cI, 4, .inl (fun i9 => nI ((σ) i9).2.1))), (pa, .inl (cI, 4, .inl (fun i9 => nI ((σ) i9).2.2)))]) hD hS hAq [0, 1, 2, 3] rfl
        have hKc := hK.sub (tys' := [(cL, .long), (cI, .int)]) [0, 1] rfl
        refine va_calli (va_runV (As := [.int 2]) (rest := []) ⟨hx, hb, hml, hown, hA⟩ (c_M_fail l D cL cI h cl sa pa M 0 tk (σ) H.size 2) (q_M_fail hA k3_4 rfl rfl ⟨(Nat.le_of_ble_eq_true rfl), (Nat.le_of_ble_eq_true rfl)⟩) (ox_V (va_recv hKc hPc (ci := 2) (q0 := 0) rfl rfl) (oxw_S hPc hKc hD)) rfl rfl hl.1 rfl (lv_room (Nat.le_of_ble_eq_true rfl)) d_M_turn_37 ⟨(Nat.le_of_ble_eq_true rfl), (Nat.le_of_ble_eq_true rfl)⟩) hS (fun q _ h => hFc q h) hFc (fun r37 u9 t9 H1 locs ht9 hvm9 hw9 hB9 hz1 hk1 hS => ?_)
        obtain ⟨hP, hK1, hD1⟩ := hB9
        rw [ht9] at hP
        obtain ⟨hP, hD⟩ := va_join (wr := []) (w1 := rfW cL cI h cl sa pa M 2 tk (σ)) hPc hD [0, 1, 2, 3] [] rfl rfl (by decide) (by decide) hk1 hFc hP hD1
        generalize H1 = H at hP hS ⊢
        have hP : va_P D vCl [(h, .inr (2, [.int 2, .int (nI M), .ref cl, .ref sa, .ref pa, .int tk])), (cl, .inl (cL, 32768, .inr (.inl (pkF (σ))))), (sa, .inl (cI, 4, .inl (fun i9 => nI ((σ) i9).2.1))), (pa, .inl (cI, 4, .inl (fun i9 => nI ((σ) i9).2.2)))] H := hP
        have hD : va_D A [(h, .inr (2, [.int 2, .int (nI M), .ref cl, .ref sa, .ref pa, .int tk])), (cl, .inl (cL, 32768, .inr (.inl (pkF (σ))))), (sa, .inl (cI, 4, .inl (fun i9 => nI ((σ) i9).2.1))), (pa, .inl (cI, 4, .inl (fun i9 => nI ((σ) i9).2.2)))] := hD
        subst hw9
        exact W.iret (v := 0) hx hb hr (fun t ht hW => ⟨⟨_, (2, σ, tk), rfl, (by unfold spTurn; simp only [hrk, hρ]; rw [if_neg (fun h8 => h8 hR), if_pos hz2]), by rw [ht]; exact hP, va_K.moved hW.alike hK, hD⟩, hS.F ht⟩) hS.2.2 d_M_turn_40
  · refine lv_if_ne (tgt := 18) hx hb d_M_turn_9 (by decide) (fun q9 => absurd (by decide) q9) (fun _ => ?_)
    refine lv_aload_n hx hb d_M_turn_12 rfl (lv_at hl 0 rfl) ?_
    refine lv_iconst (v := 1) hx hb d_M_turn_13 (by decide) ?_
    have hPc := hP
    have hFc := va_free (wc := [(h, .inr (2, [.int 0, .int (nI M), .ref cl, .ref sa, .ref pa, .int tk])), (cl, .inl (cL, 32768, .inr (.inl (pkF (σ))))), (sa, .inl (cI, 4, .inl (fun i9 => nI ((σ) i9).2.1))), (pa, .inl (cI, 4, .inl (fun i9 => nI ((σ) i9).2.2)))]) hD hS hAq [0, 1, 2, 3] rfl
    have hKc := hK.sub (tys' := [(cL, .long), (cI, .int)]) [0, 1] rfl
    refine va_calli (va_runV (As := [.int 1]) (rest := []) ⟨hx, hb, hml, hown, hA⟩ (c_M_fail l D cL cI h cl sa pa M 0 tk (σ) H.size 1) (q_M_fail hA k3_4 rfl rfl ⟨(Nat.le_of_ble_eq_true rfl), (Nat.le_of_ble_eq_true rfl)⟩) (ox_V (va_recv hKc hPc (ci := 2) (q0 := 0) rfl rfl) (oxw_S hPc hKc hD)) rfl rfl hl.1 rfl (lv_room (Nat.le_of_ble_eq_true rfl)) d_M_turn_14 ⟨(Nat.le_of_ble_eq_true rfl), (Nat.le_of_ble_eq_true rfl)⟩) hS (fun q _ h => hFc q h) hFc (fun r14 u9 t9 H1 locs ht9 hvm9 hw9 hB9 hz1 hk1 hS => ?_)
    obtain ⟨hP, hK1, hD1⟩ := hB9
    rw [ht9] at hP
    obtain ⟨hP, hD⟩ := va_join (wr := []) (w1 := rfW cL cI h cl sa pa M 1 tk (σ)) hPc hD [0, 1, 2, 3] [] rfl rfl (by decide) (by decide) hk1 hFc hP hD1
    generalize H1 = H at hP hS ⊢
    have hP : va_P D vCl [(h, .inr (2, [.int 1, .int (nI M), .ref cl, .ref sa, .ref pa, .int tk])), (cl, .inl (cL, 32768, .inr (.inl (pkF (σ))))), (sa, .inl (cI, 4, .inl (fun i9 => nI ((σ) i9).2.1))), (pa, .inl (cI, 4, .inl (fun i9 => nI ((σ) i9).2.2)))] H := hP
    have hD : va_D A [(h, .inr (2, [.int 1, .int (nI M), .ref cl, .ref sa, .ref pa, .int tk])), (cl, .inl (cL, 32768, .inr (.inl (pkF (σ))))), (sa, .inl (cI, 4, .inl (fun i9 => nI ((σ) i9).2.1))), (pa, .inl (cI, 4, .inl (fun i9 => nI ((σ) i9).2.2)))] := hD
    subst hw9
    exact W.iret (v := 0) hx hb hr (fun t ht hW => ⟨⟨_, (1, σ, tk), rfl, (by unfold spTurn; rw [if_pos hR]), by rw [ht]; exact hP, va_K.moved hW.alike hK, hD⟩, hS.F ht⟩) hS.2.2 d_M_turn_17
set_option maxHeartbeats 600000 in
set_option maxRecDepth 100000 in
/-- row -/
theorem c_M_row (l : Launch) (D : va_G) (cL cI : ClassId) (h cl sa pa M : Nat) (th tk : Int32) (σ : dkS) (sz : Nat) (x z : Int32) (hσ : dkok M σ) : Met l y_M_row w_M_row ({ frames := 1, cells := 0, slots := 0, locals := 21 }) (va_Pc [.ref h, .int x, .int z] (oxw sz D [(cL, .long), (cI, .int)] [(h, .inr (2, [.int th, .int (nI M), .ref cl, .ref sa, .ref pa, .int tk])), (cl, .inl (cL, 32768, .inr (.inl (pkF (σ))))), (sa, .inl (cI, 4, .inl (fun i9 => nI ((σ) i9).2.1))), (pa, .inl (cI, 4, .inl (fun i9 => nI ((σ) i9).2.2)))])) (va_Qi (fun (r : Int32) (uu : Nat × dkS × Int32) => spRow σ x z = (uu.1, r, uu.2.1)) (fun uu => ow D [(cL, .long), (cI, .int)] (va_A [(h, .inr (2, [.int th, .int (nI M), .ref cl, .ref sa, .ref pa, .int tk])), (cl, .inl (cL, 32768, .inr (.inl (pkF (σ))))), (sa, .inl (cI, 4, .inl (fun i9 => nI ((σ) i9).2.1))), (pa, .inl (cI, 4, .inl (fun i9 => nI ((σ) i9).2.2)))] sz) (rfW cL cI h cl sa pa M (nI uu.1) uu.2.2 uu.2.1)) (va_A [(h, .inr (2, [.int th, .int (nI M), .ref cl, .ref sa, .ref pa, .int tk])), (cl, .inl (cL, 32768, .inr (.inl (pkF (σ))))), (sa, .inl (cI, 4, .inl (fun i9 => nI ((σ) i9).2.1))), (pa, .inl (cI, 4, .inl (fun i9 => nI ((σ) i9).2.2)))] sz)) 0 0 (va_A [(h, .inr (2, [.int th, .int (nI M), .ref cl, .ref sa, .ref pa, .int tk])), (cl, .inl (cL, 32768, .inr (.inl (pkF (σ))))), (sa, .inl (cI, 4, .inl (fun i9 => nI ((σ) i9).2.1))), (pa, .inl (cI, 4, .inl (fun i9 => nI ((σ) i9).2.2)))] sz) := by
  refine Met.ofW (cc := b_M_row) (maxL := 3) (ret := (some .int)) (by decide) rfl ?_
  intro p9 e9 s m args below meth c9 s₁ BL hml hv
  obtain ⟨rfl, hsz, hP, hK, hD0⟩ := hv
  have hx := BL.exec
  have hb := BL.bytes
  have hr := BL.returns
  have hts := atoms_spec (ws := w_M_row) BL.pre
  have hA : ∀ w ∈ wsA, w.before _ s = true := fun w h => hts w (List.mem_cons_of_mem _ h)
  have hown : s.vm.findClass R_M = some m.cls := findClass_of_methodNamed BL.named
  have hlocks := BL.notSynchronized
  subst hsz
  have hD := hD0.self (sz := s.heap.size)
  generalize hAe : va_A [(h, .inr (2, [.int th, .int (nI M), .ref cl, .ref sa, .ref pa, .int tk])), (cl, .inl (cL, 32768, .inr (.inl (pkF (σ))))), (sa, .inl (cI, 4, .inl (fun i9 => nI ((σ) i9).2.1))), (pa, .inl (cI, 4, .inl (fun i9 => nI ((σ) i9).2.2)))] s.heap.size = A at hD ⊢
  have hAq : ∀ q : Nat, s.heap.size ≤ q → A q := fun q h => by rw [← hAe]; exact Or.inr h
  have hS : va_S A s.heap s.heap [] := va_S.rf
  have hP : va_P D vCl [(h, .inr (2, [.int th, .int (nI M), .ref cl, .ref sa, .ref pa, .int tk])), (cl, .inl (cL, 32768, .inr (.inl (pkF (σ))))), (sa, .inl (cI, 4, .inl (fun i9 => nI ((σ) i9).2.1))), (pa, .inl (cI, 4, .inl (fun i9 => nI ((σ) i9).2.2)))] s.heap := hP
  have hl := lv_entry ([.ref h, .int x, .int z]) (n := 3) (Nat.le_of_ble_eq_true rfl)
  rw [lg_entry_eq]
  generalize (lg_sl ([.ref h, .int x, .int z]) ++ List.replicate (3 - (lg_sl ([.ref h, .int x, .int z])).length) Slot.unset).toArray = ls at hl ⊢
  have hl : lv_has ls 3 [(0, .ref h), (1, .int x), (2, .int z)] := hl
  refine lv_aload_n hx hb d_M_row_0 rfl (lv_at hl 0 rfl) ?_
  refine lv_iconst (v := 0) hx hb d_M_row_1 (by decide) ?_
  refine va_put (D := D) (ci := 2) (v := .int 0) (ty := .int) (C := R_M) (T := F_M) (N := 6) hx hb hA i_M t_M t_M_ok n_M hown hK hP hD hS 0 rfl rfl 0 (by decide) (hA _ k2_212) (fun _ h9 => h9) rfl (by decide +kernel) rfl rfl (Nat.le_of_ble_eq_true rfl) d_M_row_2 (fun H locs hP hD hS => ?_)
  have hP : va_P D vCl [(h, .inr (2, [.int 0, .int (nI M), .ref cl, .ref sa, .ref pa, .int tk])), (cl, .inl (cL, 32768, .inr (.inl (pkF (σ))))), (sa, .inl (cI, 4, .inl (fun i9 => nI ((σ) i9).2.1))), (pa, .inl (cI, 4, .inl (fun i9 => nI ((σ) i9).2.2)))] H := hP
  have hD : va_D A [(h, .inr (2, [.int 0, .int (nI M), .ref cl, .ref sa, .ref pa, .int tk])), (cl, .inl (cL, 32768, .inr (.inl (pkF (σ))))), (sa, .inl (cI, 4, .inl (fun i9 => nI ((σ) i9).2.1))), (pa, .inl (cI, 4, .inl (fun i9 => nI ((σ) i9).2.2)))] := hD
  refine lv_iload_n hx hb d_M_row_5 rfl (lv_at hl 1 rfl) ?_
  refine vp_callSi (W.runS (As := [.int x]) (rest := []) ⟨hx, hb, hml, hown, hA⟩ (c_M_isRow l x) (q_M_isRow hA k3_1 rfl rfl ⟨(Nat.le_of_ble_eq_true rfl), (Nat.le_of_ble_eq_true rfl)⟩) (⟨fun a U g mk q => q, fun U hU hW => ⟨rfl, trivial⟩⟩) rfl rfl hl.1 rfl (lv_room (Nat.le_of_ble_eq_true rfl)) d_M_row_6 ⟨(Nat.le_of_ble_eq_true rfl), (Nat.le_of_ble_eq_true rfl)⟩) (fun r6 hr6 => ?_)
  rcases hr6 with ⟨hR, rfl⟩ | ⟨hR, rfl⟩
  · refine lv_if_ne (tgt := 18) hx hb d_M_row_9 (by decide) (fun _ => ?_) (fun q9 => absurd q9 (by decide))
    obtain ⟨k, hk0, rfl⟩ := nI_of (show ¬ x < 0 by rw [Int32.lt_iff_toInt_lt, li_0]; exact Int.not_lt.mpr hR.1)
    have hk : k < 4 := by have h9 := hR.2; rw [nI_toInt hk0] at h9; omega
    have hrk : rj (nI k) = k := rj_n hk
    obtain ⟨⟨B, n, p⟩, hρ⟩ : ∃ ρ, σ k = ρ := ⟨_, rfl⟩
    have hk9 := hσ.2 k hk
    have hBσ : ∀ j, (σ k).1 j < 256 := hk9.2.2
    have hnσ : (σ k).2.1 ≤ 65536 := Nat.le_trans hk9.2.1 hσ.1
    rw [hρ] at hk9
    obtain ⟨hp, hn, hB⟩ := hk9
    have hp : p ≤ n := hp
    have hn : n ≤ M := hn
    have hB : ∀ j, B j < 256 := hB
    have hM := hσ.1
    refine lv_iload_n hx hb d_M_row_18 rfl (lv_at hl 2 rfl) ?_
    refine lv_if_lt (tgt := 27) hx hb d_M_row_19 (by decide) (fun c19 => ?_) (fun c19 => ?_)
    · have hz2 : ¬ (0 ≤ z.toInt ∧ z.toInt ≤ 2) := by simp only [Int32.lt_iff_toInt_lt, Int32.le_iff_toInt_le, li_0, li_1, li_2, li_3, li_4, li_8, li_10, li_16, li_63, li_127, li_128, li_191, li_192, li_194, li_224, li_240, li_244, li_255, li_2048, li_55296, li_57343, li_65536, li_1114111, li_m1, li_m2] at *; omega
      refine lv_aload_n hx hb d_M_row_27 rfl (lv_at hl 0 rfl) ?_
      refine lv_iconst (v := 2) hx hb d_M_row_28 (by decide) ?_
      have hPc := hP
      have hFc := va_free (wc := [(h, .inr (2, [.int 0, .int (nI M), .ref cl, .ref sa, .ref pa, .int tk])), (cl, .inl (cL, 32768, .inr (.inl (pkF (σ))))), (sa, .inl (cI, 4, .inl (fun i9 => nI ((σ) i9).2.1))), (pa, .inl (cI, 4, .inl (fun i9 => nI ((σ) i9).2.2)))]) hD hS hAq [0, 1, 2, 3] rfl
      have hKc := hK.sub (tys' := [(cL, .long), (cI, .int)]) [0, 1] rfl
      refine va_calli (va_runV (As := [.int 2]) (rest := []) ⟨hx, hb, hml, hown, hA⟩ (c_M_fail l D cL cI h cl sa pa M 0 tk (σ) H.size 2) (q_M_fail hA k3_4 rfl rfl ⟨(Nat.le_of_ble_eq_true rfl), (Nat.le_of_ble_eq_true rfl)⟩) (ox_V (va_recv hKc hPc (ci := 2) (q0 := 0) rfl rfl) (oxw_S hPc hKc hD)) rfl rfl hl.1 rfl (lv_room (Nat.le_of_ble_eq_true rfl)) d_M_row_29 ⟨(Nat.le_of_ble_eq_true rfl), (Nat.le_of_ble_eq_true rfl)⟩) hS (fun q _ h => hFc q h) hFc (fun r29 u9 t9 H1 locs ht9 hvm9 hw9 hB9 hz1 hk1 hS => ?_)
      obtain ⟨hP, hK1, hD1⟩ := hB9
      rw [ht9] at hP
      obtain ⟨hP, hD⟩ := va_join (wr := []) (w1 := rfW cL cI h cl sa pa M 2 tk (σ)) hPc hD [0, 1, 2, 3] [] rfl rfl (by decide) (by decide) hk1 hFc hP hD1
      generalize H1 = H at hP hS ⊢
      have hP : va_P D vCl [(h, .inr (2, [.int 2, .int (nI M), .ref cl, .ref sa, .ref pa, .int tk])), (cl, .inl (cL, 32768, .inr (.inl (pkF (σ))))), (sa, .inl (cI, 4, .inl (fun i9 => nI ((σ) i9).2.1))), (pa, .inl (cI, 4, .inl (fun i9 => nI ((σ) i9).2.2)))] H := hP
      have hD : va_D A [(h, .inr (2, [.int 2, .int (nI M), .ref cl, .ref sa, .ref pa, .int tk])), (cl, .inl (cL, 32768, .inr (.inl (pkF (σ))))), (sa, .inl (cI, 4, .inl (fun i9 => nI ((σ) i9).2.1))), (pa, .inl (cI, 4, .inl (fun i9 => nI ((σ) i9).2.2)))] := hD
      subst hw9
      exact W.iret (v := 0) hx hb hr (fun t ht hW => ⟨⟨_, (2, σ, tk), rfl, (by unfold spRow; simp only [hrk, hρ]; rw [if_neg (fun h8 => h8 hR), if_pos hz2]), by rw [ht]; exact hP, va_K.moved hW.alike hK, hD⟩, hS.F ht⟩) hS.2.2 d_M_row_32
    · refine lv_iload_n hx hb d_M_row_22 rfl (lv_at hl 2 rfl) ?_
      refine lv_iconst (v := 2) hx hb d_M_row_23 (by decide) ?_
      refine lv_icmp_le (tgt := 33) hx hb d_M_row_24 (by decide) (fun c24 => ?_) (fun c24 => ?_)
      · have hz2 : 0 ≤ z.toInt ∧ z.toInt ≤ 2 := by simp only [Int32.lt_iff_toInt_lt, Int32.le_iff_toInt_le, li_0, li_1, li_2, li_3, li_4, li_8, li_10, li_16, li_63, li_127, li_128, li_191, li_192, li_194, li_224, li_240, li_244, li_255, li_2048, li_55296, li_57343, li_65536, li_1114111, li_m1, li_m2] at *; omega
        obtain ⟨q, hq0, rfl⟩ := nI_of c19
        have hqi : (nI q).toInt = (q : Int) := nI_toInt hq0
        have hqn : (nI q).toInt.toNat = q := by rw [hqi]; rfl
        have e0 : nI q = 0 ↔ q = 0 := nI_eq (b := 0) (by omega) (by omega)
        have e1 : nI q = 1 ↔ q = 1 := nI_eq (b := 1) (by omega) (by omega)
        refine lv_iload_n hx hb d_M_row_33 rfl (lv_at hl 2 rfl) ?_
        refine lv_if_ne (tgt := 46) hx hb d_M_row_34 (by decide) (fun c34 => ?_) (fun c34 => ?_)
        · refine lv_iload_n hx hb d_M_row_46 rfl (lv_at hl 2 rfl) ?_
          refine lv_iconst (v := 1) hx hb d_M_row_47 (by decide) ?_
          refine lv_icmp_ne (tgt := 60) hx hb d_M_row_48 (by decide) (fun c48 => ?_) (fun c48 => ?_)
          · refine lv_aload_n hx hb d_M_row_60 rfl (lv_at hl 0 rfl) ?_
            refine va_get (D := D) (ci := 2) (v := .ref sa) (C := R_M) (T := F_M) (N := 6) hx hb hA i_M hown hK hP 0 rfl rfl 3 (by decide) (hA _ k2_215) (fun _ h9 => h9) rfl d_M_row_61 ?_
            refine lv_iload_n hx hb d_M_row_64 rfl (lv_at hl 1 rfl) ?_
            refine va_iald hx hb hK hP 2 1 rfl rfl (vp_in_nI hk (by decide)) d_M_row_65 ?_
            refine lv_topi (fun v65 ev65 => ?_)
            have ev65 : v65 = nI n := by rw [ev65]; show nI ((σ) (nI k).toNatClampNeg).2.1 = _; rw [nI_clamp (by omega), hρ]
            subst ev65
            refine lv_aload_n hx hb d_M_row_66 rfl (lv_at hl 0 rfl) ?_
            refine va_get (D := D) (ci := 2) (v := .ref pa) (C := R_M) (T := F_M) (N := 6) hx hb hA i_M hown hK hP 0 rfl rfl 4 (by decide) (hA _ k2_216) (fun _ h9 => h9) rfl d_M_row_67 ?_
            refine lv_iload_n hx hb d_M_row_70 rfl (lv_at hl 1 rfl) ?_
            refine va_iald hx hb hK hP 3 1 rfl rfl (vp_in_nI hk (by decide)) d_M_row_71 ?_
            refine lv_topi (fun v71 ev71 => ?_)
            have ev71 : v71 = nI p := by rw [ev71]; show nI ((σ) (nI k).toNatClampNeg).2.2 = _; rw [nI_clamp (by omega), hρ]
            subst ev71
            refine lv_isub hx hb d_M_row_72 ?_
            refine lv_topi (fun v72 ev72 => ?_)
            have ev72 : v72 = nI (n - p) := by rw [ev72]; exact pk_sub hp
            subst ev72
            have hq0a := mt e0.mpr c34
            have hq1a := mt e1.mpr c48
            exact W.iret (v := nI (n - p)) hx hb hr (fun t ht hW => ⟨⟨_, (0, σ, tk), rfl, (by unfold spRow; simp only [hrk, hρ]; rw [if_neg (fun h8 => h8 hR), if_neg (fun h8 => h8 hz2), if_neg (show ¬ (nI q).toInt = 0 by rw [hqi]; omega), if_neg (show ¬ (nI q).toInt = 1 by rw [hqi]; omega)]), by rw [ht]; exact hP, va_K.moved hW.alike hK, hD⟩, hS.F ht⟩) hS.2.2 d_M_row_73
          · refine lv_aload_n hx hb d_M_row_51 rfl (lv_at hl 0 rfl) ?_
            refine va_get (D := D) (ci := 2) (v := .ref pa) (C := R_M) (T := F_M) (N := 6) hx hb hA i_M hown hK hP 0 rfl rfl 4 (by decide) (hA _ k2_216) (fun _ h9 => h9) rfl d_M_row_52 ?_
            refine lv_iload_n hx hb d_M_row_55 rfl (lv_at hl 1 rfl) ?_
            refine va_iald hx hb hK hP 3 1 rfl rfl (vp_in_nI hk (by decide)) d_M_row_56 ?_
            refine lv_topi (fun v56 ev56 => ?_)
            have ev56 : v56 = nI p := by rw [ev56]; show nI ((σ) (nI k).toNatClampNeg).2.2 = _; rw [nI_clamp (by omega), hρ]
            subst ev56
            refine lv_goto (tgt := 73) hx hb d_M_row_57 (by decide) ?_
            have hq := e1.mp c48
            exact W.iret (v := nI p) hx hb hr (fun t ht hW => ⟨⟨_, (0, σ, tk), rfl, (by unfold spRow; simp only [hrk, hρ]; rw [if_neg (fun h8 => h8 hR), if_neg (fun h8 => h8 hz2), if_neg (show ¬ (nI q).toInt = 0 by rw [hqi]; omega), if_pos (show (nI q).toInt = 1 by rw [hqi]; omega)]), by rw [ht]; exact hP, va_K.moved hW.alike hK, hD⟩, hS.F ht⟩) hS.2.2 d_M_row_73
        · refine lv_aload_n hx hb d_M_row_37 rfl (lv_at hl 0 rfl) ?_
          refine va_get (D := D) (ci := 2) (v := .ref sa) (C := R_M) (T := F_M) (N := 6) hx hb hA i_M hown hK hP 0 rfl rfl 3 (by decide) (hA _ k2_215) (fun _ h9 => h9) rfl d_M_row_38 ?_
          refine lv_iload_n hx hb d_M_row_41 rfl (lv_at hl 1 rfl) ?_
          refine va_iald hx hb hK hP 2 1 rfl rfl (vp_in_nI hk (by decide)) d_M_row_42 ?_
          refine lv_topi (fun v42 ev42 => ?_)
          have ev42 : v42 = nI n := by rw [ev42]; show nI ((σ) (nI k).toNatClampNeg).2.1 = _; rw [nI_clamp (by omega), hρ]
          subst ev42
          refine lv_goto (tgt := 73) hx hb d_M_row_43 (by decide) ?_
          have hq := e0.mp c34
          exact W.iret (v := nI n) hx hb hr (fun t ht hW => ⟨⟨_, (0, σ, tk), rfl, (by unfold spRow; simp only [hrk, hρ]; rw [if_neg (fun h8 => h8 hR), if_neg (fun h8 => h8 hz2), if_pos (show (nI q).toInt = 0 by rw [hqi]; omega)]), by rw [ht]; exact hP, va_K.moved hW.alike hK, hD⟩, hS.F ht⟩) hS.2.2 d_M_row_73
      · have hz2 : ¬ (0 ≤ z.toInt ∧ z.toInt ≤ 2) := by simp only [Int32.lt_iff_toInt_lt, Int32.le_iff_toInt_le, li_0, li_1, li_2, li_3, li_4, li_8, li_10, li_16, li_63, li_127, li_128, li_191, li_192, li_194, li_224, li_240, li_244, li_255, li_2048, li_55296, li_57343, li_65536, li_1114111, li_m1, li_m2] at *; omega
        refine lv_aload_n hx hb d_M_row_27 rfl (lv_at hl 0 rfl) ?_
        refine lv_iconst (v := 2) hx hb d_M_row_28 (by decide) ?_
        have hPc := hP
        have hFc := va_free (wc := [(h, .inr (2, [.int 0, .int (nI M), .ref cl, .ref sa, .ref pa, .int tk])), (cl, .inl (cL, 32768, .inr (.inl (pkF (σ))))), (sa, .inl (cI, 4, .inl (fun i9 => nI ((σ) i9).2.1))), (pa, .inl (cI, 4, .inl (fun i9 => nI ((σ) i9).2.2)))]) hD hS hAq [0, 1, 2, 3] rfl
        have hKc := hK.sub (tys' := [(cL, .long), (cI, .int)]) [0, 1] rfl
        refine va_calli (va_runV (As := [.int 2]) (rest := []) ⟨hx, hb, hml, hown, hA⟩ (c_M_fail l D cL cI h cl sa pa M 0 tk (σ) H.size 2) (q_M_fail hA k3_4 rfl rfl ⟨(Nat.le_of_ble_eq_true rfl), (Nat.le_of_ble_eq_true rfl)⟩) (ox_V (va_recv hKc hPc (ci := 2) (q0 := 0) rfl rfl) (oxw_S hPc hKc hD)) rfl rfl hl.1 rfl (lv_room (Nat.le_of_ble_eq_true rfl)) d_M_row_29 ⟨(Nat.le_of_ble_eq_true rfl), (Nat.le_of_ble_eq_true rfl)⟩) hS (fun q _ h => hFc q h) hFc (fun r29 u9 t9 H1 locs ht9 hvm9 hw9 hB9 hz1 hk1 hS => ?_)
        obtain ⟨hP, hK1, hD1⟩ := hB9
        rw [ht9] at hP
        obtain ⟨hP, hD⟩ := va_join (wr := []) (w1 := rfW cL cI h cl sa pa M 2 tk (σ)) hPc hD [0, 1, 2, 3] [] rfl rfl (by decide) (by decide) hk1 hFc hP hD1
        generalize H1 = H at hP hS ⊢
        have hP : va_P D vCl [(h, .inr (2, [.int 2, .int (nI M), .ref cl, .ref sa, .ref pa, .int tk])), (cl, .inl (cL, 32768, .inr (.inl (pkF (σ))))), (sa, .inl (cI, 4, .inl (fun i9 => nI ((σ) i9).2.1))), (pa, .inl (cI, 4, .inl (fun i9 => nI ((σ) i9).2.2)))] H := hP
        have hD : va_D A [(h, .inr (2, [.int 2, .int (nI M), .ref cl, .ref sa, .ref pa, .int tk])), (cl, .inl (cL, 32768, .inr (.inl (pkF (σ))))), (sa, .inl (cI, 4, .inl (fun i9 => nI ((σ) i9).2.1))), (pa, .inl (cI, 4, .inl (fun i9 => nI ((σ) i9).2.2)))] := hD
        subst hw9
        exact W.iret (v := 0) hx hb hr (fun t ht hW => ⟨⟨_, (2, σ, tk), rfl, (by unfold spRow; simp only [hrk, hρ]; rw [if_neg (fun h8 => h8 hR), if_pos hz2]), by rw [ht]; exact hP, va_K.moved hW.alike hK, hD⟩, hS.F ht⟩) hS.2.2 d_M_row_32
  · refine lv_if_ne (tgt := 18) hx hb d_M_row_9 (by decide) (fun q9 => absurd (by decide) q9) (fun _ => ?_)
    refine lv_aload_n hx hb d_M_row_12 rfl (lv_at hl 0 rfl) ?_
    refine lv_iconst (v := 1) hx hb d_M_row_13 (by decide) ?_
    have hPc := hP
    have hFc := va_free (wc := [(h, .inr (2, [.int 0, .int (nI M), .ref cl, .ref sa, .ref pa, .int tk])), (cl, .inl (cL, 32768, .inr (.inl (pkF (σ))))), (sa, .inl (cI, 4, .inl (fun i9 => nI ((σ) i9).2.1))), (pa, .inl (cI, 4, .inl (fun i9 => nI ((σ) i9).2.2)))]) hD hS hAq [0, 1, 2, 3] rfl
    have hKc := hK.sub (tys' := [(cL, .long), (cI, .int)]) [0, 1] rfl
    refine va_calli (va_runV (As := [.int 1]) (rest := []) ⟨hx, hb, hml, hown, hA⟩ (c_M_fail l D cL cI h cl sa pa M 0 tk (σ) H.size 1) (q_M_fail hA k3_4 rfl rfl ⟨(Nat.le_of_ble_eq_true rfl), (Nat.le_of_ble_eq_true rfl)⟩) (ox_V (va_recv hKc hPc (ci := 2) (q0 := 0) rfl rfl) (oxw_S hPc hKc hD)) rfl rfl hl.1 rfl (lv_room (Nat.le_of_ble_eq_true rfl)) d_M_row_14 ⟨(Nat.le_of_ble_eq_true rfl), (Nat.le_of_ble_eq_true rfl)⟩) hS (fun q _ h => hFc q h) hFc (fun r14 u9 t9 H1 locs ht9 hvm9 hw9 hB9 hz1 hk1 hS => ?_)
    obtain ⟨hP, hK1, hD1⟩ := hB9
    rw [ht9] at hP
    obtain ⟨hP, hD⟩ := va_join (wr := []) (w1 := rfW cL cI h cl sa pa M 1 tk (σ)) hPc hD [0, 1, 2, 3] [] rfl rfl (by decide) (by decide) hk1 hFc hP hD1
    generalize H1 = H at hP hS ⊢
    have hP : va_P D vCl [(h, .inr (2, [.int 1, .int (nI M), .ref cl, .ref sa, .ref pa, .int tk])), (cl, .inl (cL, 32768, .inr (.inl (pkF (σ))))), (sa, .inl (cI, 4, .inl (fun i9 => nI ((σ) i9).2.1))), (pa, .inl (cI, 4, .inl (fun i9 => nI ((σ) i9).2.2)))] H := hP
    have hD : va_D A [(h, .inr (2, [.int 1, .int (nI M), .ref cl, .ref sa, .ref pa, .int tk])), (cl, .inl (cL, 32768, .inr (.inl (pkF (σ))))), (sa, .inl (cI, 4, .inl (fun i9 => nI ((σ) i9).2.1))), (pa, .inl (cI, 4, .inl (fun i9 => nI ((σ) i9).2.2)))] := hD
    subst hw9
    exact W.iret (v := 0) hx hb hr (fun t ht hW => ⟨⟨_, (1, σ, tk), rfl, (by unfold spRow; rw [if_pos hR]), by rw [ht]; exact hP, va_K.moved hW.alike hK, hD⟩, hS.F ht⟩) hS.2.2 d_M_row_17
set_option maxHeartbeats 600000 in
set_option maxRecDepth 100000 in
/-- byteAt -/
theorem c_M_byteAt (l : Launch) (D : va_G) (cL cI : ClassId) (h cl sa pa M : Nat) (th tk : Int32) (σ : dkS) (sz : Nat) (x z : Int32) (hσ : dkok M σ) : Met l y_M_byteAt w_M_byteAt ({ frames := 1, cells := 0, slots := 0, locals := 22 }) (va_Pc [.ref h, .int x, .int z] (oxw sz D [(cL, .long), (cI, .int)] [(h, .inr (2, [.int th, .int (nI M), .ref cl, .ref sa, .ref pa, .int tk])), (cl, .inl (cL, 32768, .inr (.inl (pkF (σ))))), (sa, .inl (cI, 4, .inl (fun i9 => nI ((σ) i9).2.1))), (pa, .inl (cI, 4, .inl (fun i9 => nI ((σ) i9).2.2)))])) (va_Qi (fun (r : Int32) (uu : Nat × dkS × Int32) => spByteAt σ x z = (uu.1, r, uu.2.1)) (fun uu => ow D [(cL, .long), (cI, .int)] (va_A [(h, .inr (2, [.int th, .int (nI M), .ref cl, .ref sa, .ref pa, .int tk])), (cl, .inl (cL, 32768, .inr (.inl (pkF (σ))))), (sa, .inl (cI, 4, .inl (fun i9 => nI ((σ) i9).2.1))), (pa, .inl (cI, 4, .inl (fun i9 => nI ((σ) i9).2.2)))] sz) (rfW cL cI h cl sa pa M (nI uu.1) uu.2.2 uu.2.1)) (va_A [(h, .inr (2, [.int th, .int (nI M), .ref cl, .ref sa, .ref pa, .int tk])), (cl, .inl (cL, 32768, .inr (.inl (pkF (σ))))), (sa, .inl (cI, 4, .inl (fun i9 => nI ((σ) i9).2.1))), (pa, .inl (cI, 4, .inl (fun i9 => nI ((σ) i9).2.2)))] sz)) 0 0 (va_A [(h, .inr (2, [.int th, .int (nI M), .ref cl, .ref sa, .ref pa, .int tk])), (cl, .inl (cL, 32768, .inr (.inl (pkF (σ))))), (sa, .inl (cI, 4, .inl (fun i9 => nI ((σ) i9).2.1))), (pa, .inl (cI, 4, .inl (fun i9 => nI ((σ) i9).2.2)))] sz) := by
  refine Met.ofW (cc := b_M_byteAt) (maxL := 3) (ret := (some .int)) (by decide) rfl ?_
  intro p9 e9 s m args below meth c9 s₁ BL hml hv
  obtain ⟨rfl, hsz, hP, hK, hD0⟩ := hv
  have hx := BL.exec
  have hb := BL.bytes
  have hr := BL.returns
  have hts := atoms_spec (ws := w_M_byteAt) BL.pre
  have hA : ∀ w ∈ wsA, w.before _ s = true := fun w h => hts w (List.mem_cons_of_mem _ h)
  have hown : s.vm.findClass R_M = some m.cls := findClass_of_methodNamed BL.named
  have hlocks := BL.notSynchronized
  subst hsz
  have hD := hD0.self (sz := s.heap.size)
  generalize hAe : va_A [(h, .inr (2, [.int th, .int (nI M), .ref cl, .ref sa, .ref pa, .int tk])), (cl, .inl (cL, 32768, .inr (.inl (pkF (σ))))), (sa, .inl (cI, 4, .inl (fun i9 => nI ((σ) i9).2.1))), (pa, .inl (cI, 4, .inl (fun i9 => nI ((σ) i9).2.2)))] s.heap.size = A at hD ⊢
  have hAq : ∀ q : Nat, s.heap.size ≤ q → A q := fun q h => by rw [← hAe]; exact Or.inr h
  have hS : va_S A s.heap s.heap [] := va_S.rf
  have hP : va_P D vCl [(h, .inr (2, [.int th, .int (nI M), .ref cl, .ref sa, .ref pa, .int tk])), (cl, .inl (cL, 32768, .inr (.inl (pkF (σ))))), (sa, .inl (cI, 4, .inl (fun i9 => nI ((σ) i9).2.1))), (pa, .inl (cI, 4, .inl (fun i9 => nI ((σ) i9).2.2)))] s.heap := hP
  have hl := lv_entry ([.ref h, .int x, .int z]) (n := 3) (Nat.le_of_ble_eq_true rfl)
  rw [lg_entry_eq]
  generalize (lg_sl ([.ref h, .int x, .int z]) ++ List.replicate (3 - (lg_sl ([.ref h, .int x, .int z])).length) Slot.unset).toArray = ls at hl ⊢
  have hl : lv_has ls 3 [(0, .ref h), (1, .int x), (2, .int z)] := hl
  refine lv_aload_n hx hb d_M_byteAt_0 rfl (lv_at hl 0 rfl) ?_
  refine lv_iconst (v := 0) hx hb d_M_byteAt_1 (by decide) ?_
  refine va_put (D := D) (ci := 2) (v := .int 0) (ty := .int) (C := R_M) (T := F_M) (N := 6) hx hb hA i_M t_M t_M_ok n_M hown hK hP hD hS 0 rfl rfl 0 (by decide) (hA _ k2_212) (fun _ h9 => h9) rfl (by decide +kernel) rfl rfl (Nat.le_of_ble_eq_true rfl) d_M_byteAt_2 (fun H locs hP hD hS => ?_)
  have hP : va_P D vCl [(h, .inr (2, [.int 0, .int (nI M), .ref cl, .ref sa, .ref pa, .int tk])), (cl, .inl (cL, 32768, .inr (.inl (pkF (σ))))), (sa, .inl (cI, 4, .inl (fun i9 => nI ((σ) i9).2.1))), (pa, .inl (cI, 4, .inl (fun i9 => nI ((σ) i9).2.2)))] H := hP
  have hD : va_D A [(h, .inr (2, [.int 0, .int (nI M), .ref cl, .ref sa, .ref pa, .int tk])), (cl, .inl (cL, 32768, .inr (.inl (pkF (σ))))), (sa, .inl (cI, 4, .inl (fun i9 => nI ((σ) i9).2.1))), (pa, .inl (cI, 4, .inl (fun i9 => nI ((σ) i9).2.2)))] := hD
  refine lv_iload_n hx hb d_M_byteAt_5 rfl (lv_at hl 1 rfl) ?_
  refine vp_callSi (W.runS (As := [.int x]) (rest := []) ⟨hx, hb, hml, hown, hA⟩ (c_M_isRow l x) (q_M_isRow hA k3_1 rfl rfl ⟨(Nat.le_of_ble_eq_true rfl), (Nat.le_of_ble_eq_true rfl)⟩) (⟨fun a U g mk q => q, fun U hU hW => ⟨rfl, trivial⟩⟩) rfl rfl hl.1 rfl (lv_room (Nat.le_of_ble_eq_true rfl)) d_M_byteAt_6 ⟨(Nat.le_of_ble_eq_true rfl), (Nat.le_of_ble_eq_true rfl)⟩) (fun r6 hr6 => ?_)
  rcases hr6 with ⟨hR, rfl⟩ | ⟨hR, rfl⟩
  · refine lv_if_ne (tgt := 18) hx hb d_M_byteAt_9 (by decide) (fun _ => ?_) (fun q9 => absurd q9 (by decide))
    obtain ⟨k, hk0, rfl⟩ := nI_of (show ¬ x < 0 by rw [Int32.lt_iff_toInt_lt, li_0]; exact Int.not_lt.mpr hR.1)
    have hk : k < 4 := by have h9 := hR.2; rw [nI_toInt hk0] at h9; omega
    have hrk : rj (nI k) = k := rj_n hk
    obtain ⟨⟨B, n, p⟩, hρ⟩ : ∃ ρ, σ k = ρ := ⟨_, rfl⟩
    have hk9 := hσ.2 k hk
    have hBσ : ∀ j, (σ k).1 j < 256 := hk9.2.2
    have hnσ : (σ k).2.1 ≤ 65536 := Nat.le_trans hk9.2.1 hσ.1
    rw [hρ] at hk9
    obtain ⟨hp, hn, hB⟩ := hk9
    have hp : p ≤ n := hp
    have hn : n ≤ M := hn
    have hB : ∀ j, B j < 256 := hB
    have hM := hσ.1
    refine lv_iload_n hx hb d_M_byteAt_18 rfl (lv_at hl 2 rfl) ?_
    refine lv_if_lt (tgt := 41) hx hb d_M_byteAt_19 (by decide) (fun c19 => ?_) (fun c19 => ?_)
    · have hni : (nI n).toInt = (n : Int) := nI_toInt (by omega)
      have hz2 : ¬ (0 ≤ z.toInt ∧ z.toInt < (n : Int)) := by simp only [Int32.lt_iff_toInt_lt, Int32.le_iff_toInt_le, li_0, li_1, li_2, li_3, li_4, li_8, li_10, li_16, li_63, li_127, li_128, li_191, li_192, li_194, li_224, li_240, li_244, li_255, li_2048, li_55296, li_57343, li_65536, li_1114111, li_m1, li_m2] at *; omega
      refine lv_aload_n hx hb d_M_byteAt_41 rfl (lv_at hl 0 rfl) ?_
      refine lv_iconst (v := 2) hx hb d_M_byteAt_42 (by decide) ?_
      have hPc := hP
      have hFc := va_free (wc := [(h, .inr (2, [.int 0, .int (nI M), .ref cl, .ref sa, .ref pa, .int tk])), (cl, .inl (cL, 32768, .inr (.inl (pkF (σ))))), (sa, .inl (cI, 4, .inl (fun i9 => nI ((σ) i9).2.1))), (pa, .inl (cI, 4, .inl (fun i9 => nI ((σ) i9).2.2)))]) hD hS hAq [0, 1, 2, 3] rfl
      have hKc := hK.sub (tys' := [(cL, .long), (cI, .int)]) [0, 1] rfl
      refine va_calli (va_runV (As := [.int 2]) (rest := []) ⟨hx, hb, hml, hown, hA⟩ (c_M_fail l D cL cI h cl sa pa M 0 tk (σ) H.size 2) (q_M_fail hA k3_4 rfl rfl ⟨(Nat.le_of_ble_eq_true rfl), (Nat.le_of_ble_eq_true rfl)⟩) (ox_V (va_recv hKc hPc (ci := 2) (q0 := 0) rfl rfl) (oxw_S hPc hKc hD)) rfl rfl hl.1 rfl (lv_room (Nat.le_of_ble_eq_true rfl)) d_M_byteAt_43 ⟨(Nat.le_of_ble_eq_true rfl), (Nat.le_of_ble_eq_true rfl)⟩) hS (fun q _ h => hFc q h) hFc (fun r43 u9 t9 H1 locs ht9 hvm9 hw9 hB9 hz1 hk1 hS => ?_)
      obtain ⟨hP, hK1, hD1⟩ := hB9
      rw [ht9] at hP
      obtain ⟨hP, hD⟩ := va_join (wr := []) (w1 := rfW cL cI h cl sa pa M 2 tk (σ)) hPc hD [0, 1, 2, 3] [] rfl rfl (by decide) (by decide) hk1 hFc hP hD1
      generalize H1 = H at hP hS ⊢
      have hP : va_P D vCl [(h, .inr (2, [.int 2, .int (nI M), .ref cl, .ref sa, .ref pa, .int tk])), (cl, .inl (cL, 32768, .inr (.inl (pkF (σ))))), (sa, .inl (cI, 4, .inl (fun i9 => nI ((σ) i9).2.1))), (pa, .inl (cI, 4, .inl (fun i9 => nI ((σ) i9).2.2)))] H := hP
      have hD : va_D A [(h, .inr (2, [.int 2, .int (nI M), .ref cl, .ref sa, .ref pa, .int tk])), (cl, .inl (cL, 32768, .inr (.inl (pkF (σ))))), (sa, .inl (cI, 4, .inl (fun i9 => nI ((σ) i9).2.1))), (pa, .inl (cI, 4, .inl (fun i9 => nI ((σ) i9).2.2)))] := hD
      subst hw9
      exact W.iret (v := 0) hx hb hr (fun t ht hW => ⟨⟨_, (2, σ, tk), rfl, (by unfold spByteAt; simp only [hrk, hρ]; rw [if_neg (fun h8 => h8 hR), if_pos hz2]), by rw [ht]; exact hP, va_K.moved hW.alike hK, hD⟩, hS.F ht⟩) hS.2.2 d_M_byteAt_46
    · refine lv_iload_n hx hb d_M_byteAt_22 rfl (lv_at hl 2 rfl) ?_
      refine lv_aload_n hx hb d_M_byteAt_23 rfl (lv_at hl 0 rfl) ?_
      refine va_get (D := D) (ci := 2) (v := .ref sa) (C := R_M) (T := F_M) (N := 6) hx hb hA i_M hown hK hP 0 rfl rfl 3 (by decide) (hA _ k2_215) (fun _ h9 => h9) rfl d_M_byteAt_24 ?_
      refine lv_iload_n hx hb d_M_byteAt_27 rfl (lv_at hl 1 rfl) ?_
      refine va_iald hx hb hK hP 2 1 rfl rfl (vp_in_nI hk (by decide)) d_M_byteAt_28 ?_
      refine lv_topi (fun v28 ev28 => ?_)
      have ev28 : v28 = nI n := by rw [ev28]; show nI ((σ) (nI k).toNatClampNeg).2.1 = _; rw [nI_clamp (by omega), hρ]
      subst ev28
      refine lv_icmp_ge (tgt := 41) hx hb d_M_byteAt_29 (by decide) (fun c29 => ?_) (fun c29 => ?_)
      · have hni : (nI n).toInt = (n : Int) := nI_toInt (by omega)
        have hz2 : ¬ (0 ≤ z.toInt ∧ z.toInt < (n : Int)) := by simp only [Int32.lt_iff_toInt_lt, Int32.le_iff_toInt_le, li_0, li_1, li_2, li_3, li_4, li_8, li_10, li_16, li_63, li_127, li_128, li_191, li_192, li_194, li_224, li_240, li_244, li_255, li_2048, li_55296, li_57343, li_65536, li_1114111, li_m1, li_m2] at *; omega
        refine lv_aload_n hx hb d_M_byteAt_41 rfl (lv_at hl 0 rfl) ?_
        refine lv_iconst (v := 2) hx hb d_M_byteAt_42 (by decide) ?_
        have hPc := hP
        have hFc := va_free (wc := [(h, .inr (2, [.int 0, .int (nI M), .ref cl, .ref sa, .ref pa, .int tk])), (cl, .inl (cL, 32768, .inr (.inl (pkF (σ))))), (sa, .inl (cI, 4, .inl (fun i9 => nI ((σ) i9).2.1))), (pa, .inl (cI, 4, .inl (fun i9 => nI ((σ) i9).2.2)))]) hD hS hAq [0, 1, 2, 3] rfl
        have hKc := hK.sub (tys' := [(cL, .long), (cI, .int)]) [0, 1] rfl
        refine va_calli (va_runV (As := [.int 2]) (rest := []) ⟨hx, hb, hml, hown, hA⟩ (c_M_fail l D cL cI h cl sa pa M 0 tk (σ) H.size 2) (q_M_fail hA k3_4 rfl rfl ⟨(Nat.le_of_ble_eq_true rfl), (Nat.le_of_ble_eq_true rfl)⟩) (ox_V (va_recv hKc hPc (ci := 2) (q0 := 0) rfl rfl) (oxw_S hPc hKc hD)) rfl rfl hl.1 rfl (lv_room (Nat.le_of_ble_eq_true rfl)) d_M_byteAt_43 ⟨(Nat.le_of_ble_eq_true rfl), (Nat.le_of_ble_eq_true rfl)⟩) hS (fun q _ h => hFc q h) hFc (fun r43 u9 t9 H1 locs ht9 hvm9 hw9 hB9 hz1 hk1 hS => ?_)
        obtain ⟨hP, hK1, hD1⟩ := hB9
        rw [ht9] at hP
        obtain ⟨hP, hD⟩ := va_join (wr := []) (w1 := rfW cL cI h cl sa pa M 2 tk (σ)) hPc hD [0, 1, 2, 3] [] rfl rfl (by decide) (by decide) hk1 hFc hP hD1
        generalize H1 = H at hP hS ⊢
        have hP : va_P D vCl [(h, .inr (2, [.int 2, .int (nI M), .ref cl, .ref sa, .ref pa, .int tk])), (cl, .inl (cL, 32768, .inr (.inl (pkF (σ))))), (sa, .inl (cI, 4, .inl (fun i9 => nI ((σ) i9).2.1))), (pa, .inl (cI, 4, .inl (fun i9 => nI ((σ) i9).2.2)))] H := hP
        have hD : va_D A [(h, .inr (2, [.int 2, .int (nI M), .ref cl, .ref sa, .ref pa, .int tk])), (cl, .inl (cL, 32768, .inr (.inl (pkF (σ))))), (sa, .inl (cI, 4, .inl (fun i9 => nI ((σ) i9).2.1))), (pa, .inl (cI, 4, .inl (fun i9 => nI ((σ) i9).2.2)))] := hD
        subst hw9
        exact W.iret (v := 0) hx hb hr (fun t ht hW => ⟨⟨_, (2, σ, tk), rfl, (by unfold spByteAt; simp only [hrk, hρ]; rw [if_neg (fun h8 => h8 hR), if_pos hz2]), by rw [ht]; exact hP, va_K.moved hW.alike hK, hD⟩, hS.F ht⟩) hS.2.2 d_M_byteAt_46
      · have hni : (nI n).toInt = (n : Int) := nI_toInt (by omega)
        have hz2 : 0 ≤ z.toInt ∧ z.toInt < (n : Int) := by simp only [Int32.lt_iff_toInt_lt, Int32.le_iff_toInt_le, li_0, li_1, li_2, li_3, li_4, li_8, li_10, li_16, li_63, li_127, li_128, li_191, li_192, li_194, li_224, li_240, li_244, li_255, li_2048, li_55296, li_57343, li_65536, li_1114111, li_m1, li_m2] at *; omega
        obtain ⟨q, hq0, rfl⟩ := nI_of c19
        have hqi : (nI q).toInt = (q : Int) := nI_toInt hq0
        have hqn : (nI q).toInt.toNat = q := by rw [hqi]; rfl
        refine lv_aload_n hx hb d_M_byteAt_32 rfl (lv_at hl 0 rfl) ?_
        refine lv_iload_n hx hb d_M_byteAt_33 rfl (lv_at hl 1 rfl) ?_
        refine lv_iload_n hx hb d_M_byteAt_34 rfl (lv_at hl 2 rfl) ?_
        have hPc := hP.sub (ws' := [(h, .inr (2, [.int 0, .int (nI M), .ref cl, .ref sa, .ref pa, .int tk])), (cl, .inl (cL, 32768, .inr (.inl (pkF (σ))))), (sa, .inl (cI, 4, .inl (fun i9 => nI ((σ) i9).2.1))), (pa, .inl (cI, 4, .inl (fun i9 => nI ((σ) i9).2.2)))]) [0, 1, 2, 3] rfl
        have hKc := hK.sub (tys' := [(cL, .long), (cI, .int)]) [0, 1] rfl
        refine vp_callSi (W.runV (As := [.int (nI k), .int (nI q)]) (rest := []) ⟨hx, hb, hml, hown, hA⟩ (c_M_at l D cL cI h cl sa pa M 0 tk σ k q hk (by omega) hBσ) (q_M_at hA k3_66 rfl rfl ⟨(Nat.le_of_ble_eq_true rfl), (Nat.le_of_ble_eq_true rfl)⟩) (ox_V (va_recv hKc hPc (ci := 2) (q0 := 0) rfl rfl) (ox_S hPc hKc)) rfl rfl hl.1 rfl (lv_room (Nat.le_of_ble_eq_true rfl)) d_M_byteAt_35 ⟨(Nat.le_of_ble_eq_true rfl), (Nat.le_of_ble_eq_true rfl)⟩) (fun r35 hr35 => ?_)
        have er35 : r35 = nI (B q) := by rw [hr35, hρ]
        subst er35
        refine lv_goto (tgt := 46) hx hb d_M_byteAt_38 (by decide) ?_
        exact W.iret (v := nI (B q)) hx hb hr (fun t ht hW => ⟨⟨_, (0, σ, tk), rfl, (by unfold spByteAt; simp only [hrk, hρ]; rw [if_neg (fun h8 => h8 hR), if_neg (fun h8 => h8 hz2), hqn]), by rw [ht]; exact hP, va_K.moved hW.alike hK, hD⟩, hS.F ht⟩) hS.2.2 d_M_byteAt_46
  · refine lv_if_ne (tgt := 18) hx hb d_M_byteAt_9 (by decide) (fun q9 => absurd (by decide) q9) (fun _ => ?_)
    refine lv_aload_n hx hb d_M_byteAt_12 rfl (lv_at hl 0 rfl) ?_
    refine lv_iconst (v := 1) hx hb d_M_byteAt_13 (by decide) ?_
    have hPc := hP
    have hFc := va_free (wc := [(h, .inr (2, [.int 0, .int (nI M), .ref cl, .ref sa, .ref pa, .int tk])), (cl, .inl (cL, 32768, .inr (.inl (pkF (σ))))), (sa, .inl (cI, 4, .inl (fun i9 => nI ((σ) i9).2.1))), (pa, .inl (cI, 4, .inl (fun i9 => nI ((σ) i9).2.2)))]) hD hS hAq [0, 1, 2, 3] rfl
    have hKc := hK.sub (tys' := [(cL, .long), (cI, .int)]) [0, 1] rfl
    refine va_calli (va_runV (As := [.int 1]) (rest := []) ⟨hx, hb, hml, hown, hA⟩ (c_M_fail l D cL cI h cl sa pa M 0 tk (σ) H.size 1) (q_M_fail hA k3_4 rfl rfl ⟨(Nat.le_of_ble_eq_true rfl), (Nat.le_of_ble_eq_true rfl)⟩) (ox_V (va_recv hKc hPc (ci := 2) (q0 := 0) rfl rfl) (oxw_S hPc hKc hD)) rfl rfl hl.1 rfl (lv_room (Nat.le_of_ble_eq_true rfl)) d_M_byteAt_14 ⟨(Nat.le_of_ble_eq_true rfl), (Nat.le_of_ble_eq_true rfl)⟩) hS (fun q _ h => hFc q h) hFc (fun r14 u9 t9 H1 locs ht9 hvm9 hw9 hB9 hz1 hk1 hS => ?_)
    obtain ⟨hP, hK1, hD1⟩ := hB9
    rw [ht9] at hP
    obtain ⟨hP, hD⟩ := va_join (wr := []) (w1 := rfW cL cI h cl sa pa M 1 tk (σ)) hPc hD [0, 1, 2, 3] [] rfl rfl (by decide) (by decide) hk1 hFc hP hD1
    generalize H1 = H at hP hS ⊢
    have hP : va_P D vCl [(h, .inr (2, [.int 1, .int (nI M), .ref cl, .ref sa, .ref pa, .int tk])), (cl, .inl (cL, 32768, .inr (.inl (pkF (σ))))), (sa, .inl (cI, 4, .inl (fun i9 => nI ((σ) i9).2.1))), (pa, .inl (cI, 4, .inl (fun i9 => nI ((σ) i9).2.2)))] H := hP
    have hD : va_D A [(h, .inr (2, [.int 1, .int (nI M), .ref cl, .ref sa, .ref pa, .int tk])), (cl, .inl (cL, 32768, .inr (.inl (pkF (σ))))), (sa, .inl (cI, 4, .inl (fun i9 => nI ((σ) i9).2.1))), (pa, .inl (cI, 4, .inl (fun i9 => nI ((σ) i9).2.2)))] := hD
    subst hw9
    exact W.iret (v := 0) hx hb hr (fun t ht hW => ⟨⟨_, (1, σ, tk), rfl, (by unfold spByteAt; rw [if_pos hR]), by rw [ht]; exact hP, va_K.moved hW.alike hK, hD⟩, hS.F ht⟩) hS.2.2 d_M_byteAt_17
set_option maxHeartbeats 600000 in
set_option maxRecDepth 100000 in
/-- sum -/
theorem c_M_sum (l : Launch) (D : va_G) (cL cI : ClassId) (h cl sa pa M : Nat) (th tk : Int32) (σ : dkS) (sz : Nat) (x a m2 : Int32) (hσ : dkok M σ) : Met l y_M_sum w_M_sum ({ frames := 2, cells := 0, slots := 0, locals := 50 }) (va_Pc [.ref h, .int x, .int a, .int m2] (oxw sz D [(cL, .long), (cI, .int)] [(h, .inr (2, [.int th, .int (nI M), .ref cl, .ref sa, .ref pa, .int tk])), (cl, .inl (cL, 32768, .inr (.inl (pkF (σ))))), (sa, .inl (cI, 4, .inl (fun i9 => nI ((σ) i9).2.1))), (pa, .inl (cI, 4, .inl (fun i9 => nI ((σ) i9).2.2)))])) (va_Qi (fun (r : Int32) (uu : Nat × dkS × Int32) => spSum σ x a m2 = (uu.1, r, uu.2.1)) (fun uu => ow D [(cL, .long), (cI, .int)] (va_A [(h, .inr (2, [.int th, .int (nI M), .ref cl, .ref sa, .ref pa, .int tk])), (cl, .inl (cL, 32768, .inr (.inl (pkF (σ))))), (sa, .inl (cI, 4, .inl (fun i9 => nI ((σ) i9).2.1))), (pa, .inl (cI, 4, .inl (fun i9 => nI ((σ) i9).2.2)))] sz) (rfW cL cI h cl sa pa M (nI uu.1) uu.2.2 uu.2.1)) (va_A [(h, .inr (2, [.int th, .int (nI M), .ref cl, .ref sa, .ref pa, .int tk])), (cl, .inl (cL, 32768, .inr (.inl (pkF (σ))))), (sa, .inl (cI, 4, .inl (fun i9 => nI ((σ) i9).2.1))), (pa, .inl (cI, 4, .inl (fun i9 => nI ((σ) i9).2.2)))] sz)) 0 0 (va_A [(h, .inr (2, [.int th, .int (nI M), .ref cl, .ref sa, .ref pa, .int tk])), (cl, .inl (cL, 32768, .inr (.inl (pkF (σ))))), (sa, .inl (cI, 4, .inl (fun i9 => nI ((σ) i9).2.1))), (pa, .inl (cI, 4, .inl (fun i9 => nI ((σ) i9).2.2)))] sz) := by
  refine Met.ofW (cc := b_M_sum) (maxL := 4) (ret := (some .int)) (by decide) rfl ?_
  intro p9 e9 s m args below meth c9 s₁ BL hml hv
  obtain ⟨rfl, hsz, hP, hK, hD0⟩ := hv
  have hx := BL.exec
  have hb := BL.bytes
  have hr := BL.returns
  have hts := atoms_spec (ws := w_M_sum) BL.pre
  have hA : ∀ w ∈ wsA, w.before _ s = true := fun w h => hts w (List.mem_cons_of_mem _ h)
  have hown : s.vm.findClass R_M = some m.cls := findClass_of_methodNamed BL.named
  have hlocks := BL.notSynchronized
  subst hsz
  have hD := hD0.self (sz := s.heap.size)
  generalize hAe : va_A [(h, .inr (2, [.int th, .int (nI M), .ref cl, .ref sa, .ref pa, .int tk])), (cl, .inl (cL, 32768, .inr (.inl (pkF (σ))))), (sa, .inl (cI, 4, .inl (fun i9 => nI ((σ) i9).2.1))), (pa, .inl (cI, 4, .inl (fun i9 => nI ((σ) i9).2.2)))] s.heap.size = A at hD ⊢
  have hAq : ∀ q : Nat, s.heap.size ≤ q → A q := fun q h => by rw [← hAe]; exact Or.inr h
  have hS : va_S A s.heap s.heap [] := va_S.rf
  have hP : va_P D vCl [(h, .inr (2, [.int th, .int (nI M), .ref cl, .ref sa, .ref pa, .int tk])), (cl, .inl (cL, 32768, .inr (.inl (pkF (σ))))), (sa, .inl (cI, 4, .inl (fun i9 => nI ((σ) i9).2.1))), (pa, .inl (cI, 4, .inl (fun i9 => nI ((σ) i9).2.2)))] s.heap := hP
  have hl := lv_entry ([.ref h, .int x, .int a, .int m2]) (n := 4) (Nat.le_of_ble_eq_true rfl)
  rw [lg_entry_eq]
  generalize (lg_sl ([.ref h, .int x, .int a, .int m2]) ++ List.replicate (4 - (lg_sl ([.ref h, .int x, .int a, .int m2])).length) Slot.unset).toArray = ls at hl ⊢
  have hl : lv_has ls 4 [(0, .ref h), (1, .int x), (2, .int a), (3, .int m2)] := hl
  refine lv_aload_n hx hb d_M_sum_0 rfl (lv_at hl 0 rfl) ?_
  refine lv_iconst (v := 0) hx hb d_M_sum_1 (by decide) ?_
  refine va_put (D := D) (ci := 2) (v := .int 0) (ty := .int) (C := R_M) (T := F_M) (N := 6) hx hb hA i_M t_M t_M_ok n_M hown hK hP hD hS 0 rfl rfl 0 (by decide) (hA _ k2_212) (fun _ h9 => h9) rfl (by decide +kernel) rfl rfl (Nat.le_of_ble_eq_true rfl) d_M_sum_2 (fun H locs hP hD hS => ?_)
  have hP : va_P D vCl [(h, .inr (2, [.int 0, .int (nI M), .ref cl, .ref sa, .ref pa, .int tk])), (cl, .inl (cL, 32768, .inr (.inl (pkF (σ))))), (sa, .inl (cI, 4, .inl (fun i9 => nI ((σ) i9).2.1))), (pa, .inl (cI, 4, .inl (fun i9 => nI ((σ) i9).2.2)))] H := hP
  have hD : va_D A [(h, .inr (2, [.int 0, .int (nI M), .ref cl, .ref sa, .ref pa, .int tk])), (cl, .inl (cL, 32768, .inr (.inl (pkF (σ))))), (sa, .inl (cI, 4, .inl (fun i9 => nI ((σ) i9).2.1))), (pa, .inl (cI, 4, .inl (fun i9 => nI ((σ) i9).2.2)))] := hD
  refine lv_iload_n hx hb d_M_sum_5 rfl (lv_at hl 1 rfl) ?_
  refine vp_callSi (W.runS (As := [.int x]) (rest := []) ⟨hx, hb, hml, hown, hA⟩ (c_M_isRow l x) (q_M_isRow hA k3_1 rfl rfl ⟨(Nat.le_of_ble_eq_true rfl), (Nat.le_of_ble_eq_true rfl)⟩) (⟨fun a U g mk q => q, fun U hU hW => ⟨rfl, trivial⟩⟩) rfl rfl hl.1 rfl (lv_room (Nat.le_of_ble_eq_true rfl)) d_M_sum_6 ⟨(Nat.le_of_ble_eq_true rfl), (Nat.le_of_ble_eq_true rfl)⟩) (fun r6 hr6 => ?_)
  rcases hr6 with ⟨hR, rfl⟩ | ⟨hR, rfl⟩
  · refine lv_if_ne (tgt := 18) hx hb d_M_sum_9 (by decide) (fun _ => ?_) (fun q9 => absurd q9 (by decide))
    obtain ⟨k, hk0, rfl⟩ := nI_of (show ¬ x < 0 by rw [Int32.lt_iff_toInt_lt, li_0]; exact Int.not_lt.mpr hR.1)
    have hk : k < 4 := by have h9 := hR.2; rw [nI_toInt hk0] at h9; omega
    have hrk : rj (nI k) = k := rj_n hk
    obtain ⟨⟨B, n, p⟩, hρ⟩ : ∃ ρ, σ k = ρ := ⟨_, rfl⟩
    have hk9 := hσ.2 k hk
    have hBσ : ∀ j, (σ k).1 j < 256 := hk9.2.2
    have hnσ : (σ k).2.1 ≤ 65536 := Nat.le_trans hk9.2.1 hσ.1
    rw [hρ] at hk9
    obtain ⟨hp, hn, hB⟩ := hk9
    have hp : p ≤ n := hp
    have hn : n ≤ M := hn
    have hB : ∀ j, B j < 256 := hB
    have hM := hσ.1
    refine lv_aload_n hx hb d_M_sum_18 rfl (lv_at hl 0 rfl) ?_
    refine lv_iload_n hx hb d_M_sum_19 rfl (lv_at hl 1 rfl) ?_
    refine lv_iload_n hx hb d_M_sum_20 rfl (lv_at hl 2 rfl) ?_
    refine lv_iload_n hx hb d_M_sum_21 rfl (lv_at hl 3 rfl) ?_
    have hPc := hP.sub (ws' := [(h, .inr (2, [.int 0, .int (nI M), .ref cl, .ref sa, .ref pa, .int tk])), (cl, .inl (cL, 32768, .inr (.inl (pkF (σ))))), (sa, .inl (cI, 4, .inl (fun i9 => nI ((σ) i9).2.1))), (pa, .inl (cI, 4, .inl (fun i9 => nI ((σ) i9).2.2)))]) [0, 1, 2, 3] rfl
    have hKc := hK.sub (tys' := [(cL, .long), (cI, .int)]) [0, 1] rfl
    refine vp_callSi (W.runV (As := [.int (nI k), .int a, .int m2]) (rest := []) ⟨hx, hb, hml, hown, hA⟩ (c_M_has l D cL cI h cl sa pa M 0 tk σ k hk hnσ a m2) (q_M_has hA k3_62 rfl rfl ⟨(Nat.le_of_ble_eq_true rfl), (Nat.le_of_ble_eq_true rfl)⟩) (ox_V (va_recv hKc hPc (ci := 2) (q0 := 0) rfl rfl) (ox_S hPc hKc)) rfl rfl hl.1 rfl (lv_room (Nat.le_of_ble_eq_true rfl)) d_M_sum_22 ⟨(Nat.le_of_ble_eq_true rfl), (Nat.le_of_ble_eq_true rfl)⟩) (fun r22 hr22 => ?_)
    rcases hr22 with ⟨hH, rfl⟩ | ⟨hH, rfl⟩
    · refine lv_if_eq (tgt := 38) hx hb d_M_sum_25 (by decide) (fun q9 => absurd q9 (by decide)) (fun _ => ?_)
      rw [hρ] at hH
      have hin : inr n a m2 := hH
      obtain ⟨a1, ha10, rfl⟩ := nI_of (show ¬ a < 0 by rw [Int32.lt_iff_toInt_lt, li_0]; omega)
      have ha1i : (nI a1).toInt = (a1 : Int) := nI_toInt ha10
      have ha1n : (nI a1).toInt.toNat = a1 := by rw [ha1i]; rfl
      obtain ⟨k1, hk10, rfl⟩ := nI_of (show ¬ m2 < 0 by rw [Int32.lt_iff_toInt_lt, li_0]; omega)
      have hk1i : (nI k1).toInt = (k1 : Int) := nI_toInt hk10
      have hk1n : (nI k1).toInt.toNat = k1 := by rw [hk1i]; rfl
      refine lv_aload_n hx hb d_M_sum_28 rfl (lv_at hl 0 rfl) ?_
      refine lv_iload_n hx hb d_M_sum_29 rfl (lv_at hl 1 rfl) ?_
      refine lv_iload_n hx hb d_M_sum_30 rfl (lv_at hl 2 rfl) ?_
      refine lv_iload_n hx hb d_M_sum_31 rfl (lv_at hl 3 rfl) ?_
      have hPc := hP.sub (ws' := [(h, .inr (2, [.int 0, .int (nI M), .ref cl, .ref sa, .ref pa, .int tk])), (cl, .inl (cL, 32768, .inr (.inl (pkF (σ))))), (sa, .inl (cI, 4, .inl (fun i9 => nI ((σ) i9).2.1))), (pa, .inl (cI, 4, .inl (fun i9 => nI ((σ) i9).2.2)))]) [0, 1, 2, 3] rfl
      have hKc := hK.sub (tys' := [(cL, .long), (cI, .int)]) [0, 1] rfl
      refine vp_callSi (W.runV (As := [.int (nI k), .int (nI a1), .int (nI k1)]) (rest := []) ⟨hx, hb, hml, hown, hA⟩ (c_M_sumOf l D cL cI h cl sa pa M 0 tk σ k hk hBσ a1 k1 (by omega)) (q_M_sumOf hA k3_78 rfl rfl ⟨(Nat.le_of_ble_eq_true rfl), (Nat.le_of_ble_eq_true rfl)⟩) (ox_V (va_recv hKc hPc (ci := 2) (q0 := 0) rfl rfl) (ox_S hPc hKc)) rfl rfl hl.1 rfl (lv_room (Nat.le_of_ble_eq_true rfl)) d_M_sum_32 ⟨(Nat.le_of_ble_eq_true rfl), (Nat.le_of_ble_eq_true rfl)⟩) (fun r32 hr32 => ?_)
      have er32 : r32 = smb B a1 k1 := by rw [hr32, hρ]
      subst er32
      refine lv_goto (tgt := 43) hx hb d_M_sum_35 (by decide) ?_
      exact W.iret (v := smb B a1 k1) hx hb hr (fun t ht hW => ⟨⟨_, (0, σ, tk), rfl, (by unfold spSum; simp only [hrk, hρ]; rw [if_neg (fun h8 => h8 hR), if_neg (fun h8 => h8 hin), ha1n, hk1n]; rfl), by rw [ht]; exact hP, va_K.moved hW.alike hK, hD⟩, hS.F ht⟩) hS.2.2 d_M_sum_43
    · refine lv_if_eq (tgt := 38) hx hb d_M_sum_25 (by decide) (fun _ => ?_) (fun q9 => absurd (by decide) q9)
      rw [hρ] at hH
      refine lv_aload_n hx hb d_M_sum_38 rfl (lv_at hl 0 rfl) ?_
      refine lv_iconst (v := 2) hx hb d_M_sum_39 (by decide) ?_
      have hPc := hP
      have hFc := va_free (wc := [(h, .inr (2, [.int 0, .int (nI M), .ref cl, .ref sa, .ref pa, .int tk])), (cl, .inl (cL, 32768, .inr (.inl (pkF (σ))))), (sa, .inl (cI, 4, .inl (fun i9 => nI ((σ) i9).2.1))), (pa, .inl (cI, 4, .inl (fun i9 => nI ((σ) i9).2.2)))]) hD hS hAq [0, 1, 2, 3] rfl
      have hKc := hK.sub (tys' := [(cL, .long), (cI, .int)]) [0, 1] rfl
      refine va_calli (va_runV (As := [.int 2]) (rest := []) ⟨hx, hb, hml, hown, hA⟩ (c_M_fail l D cL cI h cl sa pa M 0 tk (σ) H.size 2) (q_M_fail hA k3_4 rfl rfl ⟨(Nat.le_of_ble_eq_true rfl), (Nat.le_of_ble_eq_true rfl)⟩) (ox_V (va_recv hKc hPc (ci := 2) (q0 := 0) rfl rfl) (oxw_S hPc hKc hD)) rfl rfl hl.1 rfl (lv_room (Nat.le_of_ble_eq_true rfl)) d_M_sum_40 ⟨(Nat.le_of_ble_eq_true rfl), (Nat.le_of_ble_eq_true rfl)⟩) hS (fun q _ h => hFc q h) hFc (fun r40 u9 t9 H1 locs ht9 hvm9 hw9 hB9 hz1 hk1 hS => ?_)
      obtain ⟨hP, hK1, hD1⟩ := hB9
      rw [ht9] at hP
      obtain ⟨hP, hD⟩ := va_join (wr := []) (w1 := rfW cL cI h cl sa pa M 2 tk (σ)) hPc hD [0, 1, 2, 3] [] rfl rfl (by decide) (by decide) hk1 hFc hP hD1
      generalize H1 = H at hP hS ⊢
      have hP : va_P D vCl [(h, .inr (2, [.int 2, .int (nI M), .ref cl, .ref sa, .ref pa, .int tk])), (cl, .inl (cL, 32768, .inr (.inl (pkF (σ))))), (sa, .inl (cI, 4, .inl (fun i9 => nI ((σ) i9).2.1))), (pa, .inl (cI, 4, .inl (fun i9 => nI ((σ) i9).2.2)))] H := hP
      have hD : va_D A [(h, .inr (2, [.int 2, .int (nI M), .ref cl, .ref sa, .ref pa, .int tk])), (cl, .inl (cL, 32768, .inr (.inl (pkF (σ))))), (sa, .inl (cI, 4, .inl (fun i9 => nI ((σ) i9).2.1))), (pa, .inl (cI, 4, .inl (fun i9 => nI ((σ) i9).2.2)))] := hD
      subst hw9
      exact W.iret (v := 0) hx hb hr (fun t ht hW => ⟨⟨_, (2, σ, tk), rfl, (by unfold spSum; simp only [hrk, hρ]; rw [if_neg (fun h8 => h8 hR), if_pos hH]), by rw [ht]; exact hP, va_K.moved hW.alike hK, hD⟩, hS.F ht⟩) hS.2.2 d_M_sum_43
  · refine lv_if_ne (tgt := 18) hx hb d_M_sum_9 (by decide) (fun q9 => absurd (by decide) q9) (fun _ => ?_)
    refine lv_aload_n hx hb d_M_sum_12 rfl (lv_at hl 0 rfl) ?_
    refine lv_iconst (v := 1) hx hb d_M_sum_13 (by decide) ?_
    have hPc := hP
    have hFc := va_free (wc := [(h, .inr (2, [.int 0, .int (nI M), .ref cl, .ref sa, .ref pa, .int tk])), (cl, .inl (cL, 32768, .inr (.inl (pkF (σ))))), (sa, .inl (cI, 4, .inl (fun i9 => nI ((σ) i9).2.1))), (pa, .inl (cI, 4, .inl (fun i9 => nI ((σ) i9).2.2)))]) hD hS hAq [0, 1, 2, 3] rfl
    have hKc := hK.sub (tys' := [(cL, .long), (cI, .int)]) [0, 1] rfl
    refine va_calli (va_runV (As := [.int 1]) (rest := []) ⟨hx, hb, hml, hown, hA⟩ (c_M_fail l D cL cI h cl sa pa M 0 tk (σ) H.size 1) (q_M_fail hA k3_4 rfl rfl ⟨(Nat.le_of_ble_eq_true rfl), (Nat.le_of_ble_eq_true rfl)⟩) (ox_V (va_recv hKc hPc (ci := 2) (q0 := 0) rfl rfl) (oxw_S hPc hKc hD)) rfl rfl hl.1 rfl (lv_room (Nat.le_of_ble_eq_true rfl)) d_M_sum_14 ⟨(Nat.le_of_ble_eq_true rfl), (Nat.le_of_ble_eq_true rfl)⟩) hS (fun q _ h => hFc q h) hFc (fun r14 u9 t9 H1 locs ht9 hvm9 hw9 hB9 hz1 hk1 hS => ?_)
    obtain ⟨hP, hK1, hD1⟩ := hB9
    rw [ht9] at hP
    obtain ⟨hP, hD⟩ := va_join (wr := []) (w1 := rfW cL cI h cl sa pa M 1 tk (σ)) hPc hD [0, 1, 2, 3] [] rfl rfl (by decide) (by decide) hk1 hFc hP hD1
    generalize H1 = H at hP hS ⊢
    have hP : va_P D vCl [(h, .inr (2, [.int 1, .int (nI M), .ref cl, .ref sa, .ref pa, .int tk])), (cl, .inl (cL, 32768, .inr (.inl (pkF (σ))))), (sa, .inl (cI, 4, .inl (fun i9 => nI ((σ) i9).2.1))), (pa, .inl (cI, 4, .inl (fun i9 => nI ((σ) i9).2.2)))] H := hP
    have hD : va_D A [(h, .inr (2, [.int 1, .int (nI M), .ref cl, .ref sa, .ref pa, .int tk])), (cl, .inl (cL, 32768, .inr (.inl (pkF (σ))))), (sa, .inl (cI, 4, .inl (fun i9 => nI ((σ) i9).2.1))), (pa, .inl (cI, 4, .inl (fun i9 => nI ((σ) i9).2.2)))] := hD
    subst hw9
    exact W.iret (v := 0) hx hb hr (fun t ht hW => ⟨⟨_, (1, σ, tk), rfl, (by unfold spSum; rw [if_pos hR]), by rw [ht]; exact hP, va_K.moved hW.alike hK, hD⟩, hS.F ht⟩) hS.2.2 d_M_sum_17
