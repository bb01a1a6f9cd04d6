/-! THE REFERENCE: LETTERS, SAME -/
set_option maxHeartbeats 600000 in
set_option maxRecDepth 100000 in
/-- letters -/
theorem c_M_letters (l : Launch) (D : va_G) (cL cI : ClassId) (h cl sa pa M : Nat) (th tk : Int32) (σ : dkS) (sz : Nat) (x a m2 : Int32) (hσ : dkok M σ) : Met l y_M_letters w_M_letters ({ frames := 2, cells := 0, slots := 0, locals := 51 }) (va_Pc [.ref h, .int x, .int a, .int m2] (oxw sz D [(cL, .long), (cI, .int)] [(h, .inr (2, [.int th, .int (nI M), .ref cl, .ref sa, .ref pa, .int tk])), (cl, .inl (cL, 32768, .inr (.inl (pkF (σ))))), (sa, .inl (cI, 4, .inl (fun i9 => nI ((σ) i9).2.1))), (pa, .inl (cI, 4, .inl (fun i9 => nI ((σ) i9).2.2)))])) (va_Qi (fun (r : Int32) (uu : Nat × dkS × Int32) => spLetters σ x a m2 = (uu.1, r, uu.2.1)) (fun uu => ow D [(cL, .long), (cI, .int)] (va_A [(h, .inr (2, [.int th, .int (nI M), .ref cl, .ref sa, .ref pa, .int tk])), (cl, .inl (cL, 32768, .inr (.inl (pkF (σ))))), (sa, .inl (cI, 4, .inl (fun i9 => nI ((σ) i9).2.1))), (pa, .inl (cI, 4, .inl (fun i9 => nI ((σ) i9).2.2)))] sz) (rfW cL cI h cl sa pa M (nI uu.1) uu.2.2 uu.2.1)) (va_A [(h, .inr (2, [.int th, .int (nI M), .ref cl, .ref sa, .ref pa, .int tk])), (cl, .inl (cL, 32768, .inr (.inl (pkF (σ))))), (sa, .inl (cI, 4, .inl (fun i9 => nI ((σ) i9).2.1))), (pa, .inl (cI, 4, .inl (fun i9 => nI ((σ) i9).2.2)))] sz)) 0 0 (va_A [(h, .inr (2, [.int th, .int (nI M), .ref cl, .ref sa, .ref pa, .int tk])), (cl, .inl (cL, 32768, .inr (.inl (pkF (σ))))), (sa, .inl (cI, 4, .inl (fun i9 => nI ((σ) i9).2.1))), (pa, .inl (cI, 4, .inl (fun i9 => nI ((σ) i9).2.2)))] sz) := by
  refine Met.ofW (cc := b_M_letters) (maxL := 6) (ret := (some .int)) (by decide) rfl ?_
  intro p9 e9 s m args below meth c9 s₁ BL hml hv
  obtain ⟨rfl, hsz, hP, hK, hD0⟩ := hv
  have hx := BL.exec
  have hb := BL.bytes
  have hr := BL.returns
  have hts := atoms_spec (ws := w_M_letters) BL.pre
  have hA : ∀ w ∈ wsA, w.before _ s = true := fun w h => hts w (List.mem_cons_of_mem _ h)
  have hown : s.vm.findClass R_M = some m.cls := findClass_of_methodNamed BL.named
  have hlocks := BL.notSynchronized
  subst hsz
  have hD := hD0.self (sz := s.heap.size)
  generalize hAe : va_A [(h, .inr (2, [.int th, .int (nI M), .ref cl, .ref sa, .ref pa, .int tk])), (cl, .inl (cL, 32768, .inr (.inl (pkF (σ))))), (sa, .inl (cI, 4, .inl (fun i9 => nI ((σ) i9).2.1))), (pa, .inl (cI, 4, .inl (fun i9 => nI ((σ) i9).2.2)))] s.heap.size = A at hD ⊢
  have hAq : ∀ q : Nat, s.heap.size ≤ q → A q := fun q h => by rw [← hAe]; exact Or.inr h
  have hS : va_S A s.heap s.heap [] := va_S.rf
  have hP : va_P D vCl [(h, .inr (2, [.int th, .int (nI M), .ref cl, .ref sa, .ref pa, .int tk])), (cl, .inl (cL, 32768, .inr (.inl (pkF (σ))))), (sa, .inl (cI, 4, .inl (fun i9 => nI ((σ) i9).2.1))), (pa, .inl (cI, 4, .inl (fun i9 => nI ((σ) i9).2.2)))] s.heap := hP
  have hl := lv_entry ([.ref h, .int x, .int a, .int m2]) (n := 6) (Nat.le_of_ble_eq_true rfl)
  rw [lg_entry_eq]
  generalize (lg_sl ([.ref h, .int x, .int a, .int m2]) ++ List.replicate (6 - (lg_sl ([.ref h, .int x, .int a, .int m2])).length) Slot.unset).toArray = ls at hl ⊢
  have hl : lv_has ls 6 [(0, .ref h), (1, .int x), (2, .int a), (3, .int m2)] := hl
  refine lv_aload_n hx hb d_M_letters_0 rfl (lv_at hl 0 rfl) ?_
  refine lv_iconst (v := 0) hx hb d_M_letters_1 (by decide) ?_
  refine va_put (D := D) (ci := 2) (v := .int 0) (ty := .int) (C := R_M) (T := F_M) (N := 6) hx hb hA i_M t_M t_M_ok n_M hown hK hP hD hS 0 rfl rfl 0 (by decide) (hA _ k2_212) (fun _ h9 => h9) rfl (by decide +kernel) rfl rfl (Nat.le_of_ble_eq_true rfl) d_M_letters_2 (fun H locs hP hD hS => ?_)
  have hP : va_P D vCl [(h, .inr (2, [.int 0, .int (nI M), .ref cl, .ref sa, .ref pa, .int tk])), (cl, .inl (cL, 32768, .inr (.inl (pkF (σ))))), (sa, .inl (cI, 4, .inl (fun i9 => nI ((σ) i9).2.1))), (pa, .inl (cI, 4, .inl (fun i9 => nI ((σ) i9).2.2)))] H := hP
  have hD : va_D A [(h, .inr (2, [.int 0, .int (nI M), .ref cl, .ref sa, .ref pa, .int tk])), (cl, .inl (cL, 32768, .inr (.inl (pkF (σ))))), (sa, .inl (cI, 4, .inl (fun i9 => nI ((σ) i9).2.1))), (pa, .inl (cI, 4, .inl (fun i9 => nI ((σ) i9).2.2)))] := hD
  refine lv_iload_n hx hb d_M_letters_5 rfl (lv_at hl 1 rfl) ?_
  refine vp_callSi (W.runS (As := [.int x]) (rest := []) ⟨hx, hb, hml, hown, hA⟩ (c_M_isRow l x) (q_M_isRow hA k3_1 rfl rfl ⟨(Nat.le_of_ble_eq_true rfl), (Nat.le_of_ble_eq_true rfl)⟩) (⟨fun a U g mk q => q, fun U hU hW => ⟨rfl, trivial⟩⟩) rfl rfl hl.1 rfl (lv_room (Nat.le_of_ble_eq_true rfl)) d_M_letters_6 ⟨(Nat.le_of_ble_eq_true rfl), (Nat.le_of_ble_eq_true rfl)⟩) (fun r6 hr6 => ?_)
  rcases hr6 with ⟨hR, rfl⟩ | ⟨hR, rfl⟩
  · refine lv_if_ne (tgt := 18) hx hb d_M_letters_9 (by decide) (fun _ => ?_) (fun q9 => absurd q9 (by decide))
    obtain ⟨k, hk0, rfl⟩ := nI_of (show ¬ x < 0 by rw [Int32.lt_iff_toInt_lt, li_0]; exact Int.not_lt.mpr hR.1)
    have hk : k < 4 := by have h9 := hR.2; rw [nI_toInt hk0] at h9; omega
    have hrk : rj (nI k) = k := rj_n hk
    obtain ⟨⟨B, n, p⟩, hρ⟩ : ∃ ρ, σ k = ρ := ⟨_, rfl⟩
    have hk9 := hσ.2 k hk
    have hBσ : ∀ j, (σ k).1 j < 256 := hk9.2.2
    have hnσ : (σ k).2.1 ≤ 65536 := Nat.le_trans hk9.2.1 hσ.1
    rw [hρ] at hk9
    obtain ⟨hp, hn, hB⟩ := hk9
    have hp : p ≤ n := hp
    have hn : n ≤ M := hn
    have hB : ∀ j, B j < 256 := hB
    have hM := hσ.1
    refine lv_aload_n hx hb d_M_letters_18 rfl (lv_at hl 0 rfl) ?_
    refine lv_iload_n hx hb d_M_letters_19 rfl (lv_at hl 1 rfl) ?_
    refine lv_iload_n hx hb d_M_letters_20 rfl (lv_at hl 2 rfl) ?_
    refine lv_iload_n hx hb d_M_letters_21 rfl (lv_at hl 3 rfl) ?_
    have hPc := hP.sub (ws' := [(h, .inr (2, [.int 0, .int (nI M), .ref cl, .ref sa, .ref pa, .int tk])), (cl, .inl (cL, 32768, .inr (.inl (pkF (σ))))), (sa, .inl (cI, 4, .inl (fun i9 => nI ((σ) i9).2.1))), (pa, .inl (cI, 4, .inl (fun i9 => nI ((σ) i9).2.2)))]) [0, 1, 2, 3] rfl
    have hKc := hK.sub (tys' := [(cL, .long), (cI, .int)]) [0, 1] rfl
    refine vp_callSi (W.runV (As := [.int (nI k), .int a, .int m2]) (rest := []) ⟨hx, hb, hml, hown, hA⟩ (c_M_has l D cL cI h cl sa pa M 0 tk σ k hk hnσ a m2) (q_M_has hA k3_62 rfl rfl ⟨(Nat.le_of_ble_eq_true rfl), (Nat.le_of_ble_eq_true rfl)⟩) (ox_V (va_recv hKc hPc (ci := 2) (q0 := 0) rfl rfl) (ox_S hPc hKc)) rfl rfl hl.1 rfl (lv_room (Nat.le_of_ble_eq_true rfl)) d_M_letters_22 ⟨(Nat.le_of_ble_eq_true rfl), (Nat.le_of_ble_eq_true rfl)⟩) (fun r22 hr22 => ?_)
    rcases hr22 with ⟨hH, rfl⟩ | ⟨hH, rfl⟩
    · refine lv_if_ne (tgt := 34) hx hb d_M_letters_25 (by decide) (fun _ => ?_) (fun q9 => absurd q9 (by decide))
      rw [hρ] at hH
      have hin : inr n a m2 := hH
      obtain ⟨a1, ha10, rfl⟩ := nI_of (show ¬ a < 0 by rw [Int32.lt_iff_toInt_lt, li_0]; omega)
      have ha1i : (nI a1).toInt = (a1 : Int) := nI_toInt ha10
      have ha1n : (nI a1).toInt.toNat = a1 := by rw [ha1i]; rfl
      obtain ⟨k1, hk10, rfl⟩ := nI_of (show ¬ m2 < 0 by rw [Int32.lt_iff_toInt_lt, li_0]; omega)
      have hk1i : (nI k1).toInt = (k1 : Int) := nI_toInt hk10
      have hk1n : (nI k1).toInt.toNat = k1 := by rw [hk1i]; rfl
      have hsn : lcs B (a1 + k1) (k1 + 1) a1 0 = none → spLetters σ (nI k) (nI a1) (nI k1) = (2, 0, σ) := fun h9 => by unfold spLetters; simp only [hrk, hρ]; rw [if_neg (fun h8 => h8 hR), if_neg (fun h8 => h8 hin), ha1n, hk1n, h9]
      have hss : ∀ m, lcs B (a1 + k1) (k1 + 1) a1 0 = some m → spLetters σ (nI k) (nI a1) (nI k1) = (0, nI m, σ) := fun m h9 => by unfold spLetters; simp only [hrk, hρ]; rw [if_neg (fun h8 => h8 hR), if_neg (fun h8 => h8 hin), ha1n, hk1n, h9]
      refine lv_iconst (v := 0) hx hb d_M_letters_34 (by decide) ?_
      refine lv_topi (fun v34 ev34 => ?_)
      have ev34 : v34 = nI 0 := by rw [ev34]; rfl
      subst ev34
      refine lv_istore (lv' := [(4, .int (nI 0)), (0, .ref h), (1, .int (nI k)), (2, .int (nI a1)), (3, .int (nI k1))]) hx hb d_M_letters_35 hl (by decide) rfl (fun ls hl => ?_)
      refine lv_iload_n hx hb d_M_letters_37 rfl (lv_at hl 3 rfl) ?_
      refine lv_istore (lv' := [(5, .int (nI a1)), (4, .int (nI 0)), (0, .ref h), (1, .int (nI k)), (2, .int (nI a1)), (3, .int (nI k1))]) hx hb d_M_letters_38 hl (by decide) rfl (fun ls hl => ?_)
      have loop : ∀ (q t m3 : Nat) (tk2 : Int32), a1 + k1 < t + q → t ≤ a1 + k1 → lcs B (a1 + k1) q t m3 = lcs B (a1 + k1) (k1 + 1) a1 0 → ∀ (H : Heap) (locs : List Loc), va_P D vCl [(h, .inr (2, [.int 0, .int (nI M), .ref cl, .ref sa, .ref pa, .int tk2])), (cl, .inl (cL, 32768, .inr (.inl (pkF (σ))))), (sa, .inl (cI, 4, .inl (fun i9 => nI ((σ) i9).2.1))), (pa, .inl (cI, 4, .inl (fun i9 => nI ((σ) i9).2.2)))] H → va_D A [(h, .inr (2, [.int 0, .int (nI M), .ref cl, .ref sa, .ref pa, .int tk2])), (cl, .inl (cL, 32768, .inr (.inl (pkF (σ))))), (sa, .inl (cI, 4, .inl (fun i9 => nI ((σ) i9).2.1))), (pa, .inl (cI, 4, .inl (fun i9 => nI ((σ) i9).2.2)))] → va_S A s.heap H locs → ∀ (ls : Array Slot), lv_has ls 6 [(4, .int (nI m3)), (5, .int (nI t)), (0, .ref h), (1, .int (nI k)), (2, .int (nI a1)), (3, .int (nI k1))] → W p9 l e9 (headSpec w_M_letters ({ frames := 2, cells := 0, slots := 0, locals := 51 })).room s m [.ref h, .int (nI k), .int (nI a1), .int (nI k1)].toArray below meth c9 H locs 0 0 (MQ below (va_Qi (fun (r : Int32) (uu : Nat × dkS × Int32) => spLetters σ (nI k) (nI a1) (nI k1) = (uu.1, r, uu.2.1)) (fun uu => ow D [(cL, .long), (cI, .int)] A (rfW cL cI h cl sa pa M (nI uu.1) uu.2.2 uu.2.1)) A) [.ref h, .int (nI k), .int (nI a1), .int (nI k1)].toArray s 0 0 A) (F0 m 40 ls []) := by
        intro q
        induction q with
        | zero =>
          intro t m3 tk2 hq ht2 hinv H locs hP hD hS ls hl
          exact absurd hq (by omega)
        | succ q ih_loop =>
          intro t m3 tk2 hq ht2 hinv H locs hP hD hS ls hl
          refine lv_iload hx hb d_M_letters_40 (lv_at hl 1 rfl) ?_
          refine lv_iload_n hx hb d_M_letters_42 rfl (lv_at hl 4 rfl) ?_
          refine lv_iload_n hx hb d_M_letters_43 rfl (lv_at hl 5 rfl) ?_
          refine lv_iadd hx hb d_M_letters_44 ?_
          refine lv_topi (fun v44 ev44 => ?_)
          have ev44 : v44 = nI (a1 + k1) := by rw [ev44]; exact nI_add _ _
          subst ev44
          refine lv_icmp_ge (tgt := 87) hx hb d_M_letters_45 (by decide) (fun c45 => ?_) (fun c45 => ?_)
          · have hge : a1 + k1 ≤ t := (nI_leI (a := a1 + k1) (b := t) (by omega) (by omega)).mp c45
            refine lv_iload hx hb d_M_letters_87 (lv_at hl 0 rfl) ?_
            exact W.iret (v := nI m3) hx hb hr (fun t ht hW => ⟨⟨_, (0, σ, tk2), rfl, (hss m3 (by rw [← hinv]; show (if _ then _ else _) = _; rw [if_pos hge])), by rw [ht]; exact hP, va_K.moved hW.alike hK, hD⟩, hS.F ht⟩) hS.2.2 d_M_letters_89
          · have hne : t < a1 + k1 := by have := mt (nI_leI (a := a1 + k1) (b := t) (by omega) (by omega)).mpr c45; omega
            have hst : lcs B (a1 + k1) (q + 1) t m3 = if la B t (a1 + k1) < 0 then none else lcs B (a1 + k1) q (t + lwI (la B t (a1 + k1))) (m3 + 1) := by show (if _ then _ else _) = _; rw [if_neg (by omega)]
            refine lv_aload_n hx hb d_M_letters_48 rfl (lv_at hl 2 rfl) ?_
            refine lv_iload_n hx hb d_M_letters_49 rfl (lv_at hl 3 rfl) ?_
            refine lv_iload hx hb d_M_letters_50 (lv_at hl 1 rfl) ?_
            refine lv_iload_n hx hb d_M_letters_52 rfl (lv_at hl 4 rfl) ?_
            refine lv_iload_n hx hb d_M_letters_53 rfl (lv_at hl 5 rfl) ?_
            refine lv_iadd hx hb d_M_letters_54 ?_
            refine lv_topi (fun v54 ev54 => ?_)
            have ev54 : v54 = nI (a1 + k1) := by rw [ev54]; exact nI_add _ _
            subst ev54
            have hPc := hP
            have hFc := va_free (wc := [(h, .inr (2, [.int 0, .int (nI M), .ref cl, .ref sa, .ref pa, .int tk2])), (cl, .inl (cL, 32768, .inr (.inl (pkF (σ))))), (sa, .inl (cI, 4, .inl (fun i9 => nI ((σ) i9).2.1))), (pa, .inl (cI, 4, .inl (fun i9 => nI ((σ) i9).2.2)))]) hD hS hAq [0, 1, 2, 3] rfl
            have hKc := hK.sub (tys' := [(cL, .long), (cI, .int)]) [0, 1] rfl
            refine va_calli (va_runV (As := [.int (nI k), .int (nI t), .int (nI (a1 + k1))]) (rest := []) ⟨hx, hb, hml, hown, hA⟩ (c_M_lettered l D cL cI h cl sa pa M 0 tk2 σ H.size k hk hBσ t (a1 + k1) (by omega) (by omega)) (q_M_lettered hA k3_128 rfl rfl ⟨(Nat.le_of_ble_eq_true rfl), (Nat.le_of_ble_eq_true rfl)⟩) (ox_V (va_recv hKc hPc (ci := 2) (q0 := 0) rfl rfl) (oxw_S hPc hKc hD)) rfl rfl hl.1 rfl (lv_room (Nat.le_of_ble_eq_true rfl)) d_M_letters_55 ⟨(Nat.le_of_ble_eq_true rfl), (Nat.le_of_ble_eq_true rfl)⟩) hS (fun q _ h => hFc q h) hFc (fun r55 u9 t9 H1 locs ht9 hvm9 hw9 hB9 hz1 hk1 hS => ?_)
            obtain ⟨hP, hK1, hD1⟩ := hB9
            rw [ht9] at hP
            obtain ⟨hP, hD⟩ := va_join (wr := []) (w1 := rfW cL cI h cl sa pa M 0 u9 (σ)) hPc hD [0, 1, 2, 3] [] rfl rfl (by decide) (by decide) hk1 hFc hP hD1
            generalize H1 = H at hP hS ⊢
            have hP : va_P D vCl [(h, .inr (2, [.int 0, .int (nI M), .ref cl, .ref sa, .ref pa, .int u9])), (cl, .inl (cL, 32768, .inr (.inl (pkF (σ))))), (sa, .inl (cI, 4, .inl (fun i9 => nI ((σ) i9).2.1))), (pa, .inl (cI, 4, .inl (fun i9 => nI ((σ) i9).2.2)))] H := hP
            have hD : va_D A [(h, .inr (2, [.int 0, .int (nI M), .ref cl, .ref sa, .ref pa, .int u9])), (cl, .inl (cL, 32768, .inr (.inl (pkF (σ))))), (sa, .inl (cI, 4, .inl (fun i9 => nI ((σ) i9).2.1))), (pa, .inl (cI, 4, .inl (fun i9 => nI ((σ) i9).2.2)))] := hD
            rcases hw9 with ⟨hg, rfl, rfl⟩ | ⟨hg, rfl, rfl⟩ | ⟨hg, hu9, hr9⟩
            · rw [hρ] at hg
              have hg : la B t (a1 + k1) = -1 := hg
              refine lv_pop hx hb d_M_letters_58 rfl ?_
              refine lv_aload_n hx hb d_M_letters_59 rfl (lv_at hl 2 rfl) ?_
              refine va_get (D := D) (ci := 2) (v := .int (-2)) (C := R_M) (T := F_M) (N := 6) hx hb hA i_M hown hK hP 0 rfl rfl 5 (by decide) (hA _ k2_217) (fun _ h9 => h9) rfl d_M_letters_60 ?_
              refine lv_if_ge (tgt := 72) hx hb d_M_letters_63 (by decide) (fun q9 => absurd q9 (by decide)) (fun _ => ?_)
              refine lv_aload_n hx hb d_M_letters_66 rfl (lv_at hl 2 rfl) ?_
              refine lv_iconst (v := 2) hx hb d_M_letters_67 (by decide) ?_
              have hPc := hP
              have hFc := va_free (wc := [(h, .inr (2, [.int 0, .int (nI M), .ref cl, .ref sa, .ref pa, .int (-2)])), (cl, .inl (cL, 32768, .inr (.inl (pkF (σ))))), (sa, .inl (cI, 4, .inl (fun i9 => nI ((σ) i9).2.1))), (pa, .inl (cI, 4, .inl (fun i9 => nI ((σ) i9).2.2)))]) hD hS hAq [0, 1, 2, 3] rfl
              have hKc := hK.sub (tys' := [(cL, .long), (cI, .int)]) [0, 1] rfl
              refine va_calli (va_runV (As := [.int 2]) (rest := []) ⟨hx, hb, hml, hown, hA⟩ (c_M_fail l D cL cI h cl sa pa M 0 (-2) (σ) H.size 2) (q_M_fail hA k3_4 rfl rfl ⟨(Nat.le_of_ble_eq_true rfl), (Nat.le_of_ble_eq_true rfl)⟩) (ox_V (va_recv hKc hPc (ci := 2) (q0 := 0) rfl rfl) (oxw_S hPc hKc hD)) rfl rfl hl.1 rfl (lv_room (Nat.le_of_ble_eq_true rfl)) d_M_letters_68 ⟨(Nat.le_of_ble_eq_true rfl), (Nat.le_of_ble_eq_true rfl)⟩) hS (fun q _ h => hFc q h) hFc (fun r68 u9 t9 H1 locs ht9 hvm9 hw9 hB9 hz1 hk1 hS => ?_)
              obtain ⟨hP, hK1, hD1⟩ := hB9
              rw [ht9] at hP
              obtain ⟨hP, hD⟩ := va_join (wr := []) (w1 := rfW cL cI h cl sa pa M 2 (-2) (σ)) hPc hD [0, 1, 2, 3] [] rfl rfl (by decide) (by decide) hk1 hFc hP hD1
              generalize H1 = H at hP hS ⊢
              have hP : va_P D vCl [(h, .inr (2, [.int 2, .int (nI M), .ref cl, .ref sa, .ref pa, .int (-2)])), (cl, .inl (cL, 32768, .inr (.inl (pkF (σ))))), (sa, .inl (cI, 4, .inl (fun i9 => nI ((σ) i9).2.1))), (pa, .inl (cI, 4, .inl (fun i9 => nI ((σ) i9).2.2)))] H := hP
              have hD : va_D A [(h, .inr (2, [.int 2, .int (nI M), .ref cl, .ref sa, .ref pa, .int (-2)])), (cl, .inl (cL, 32768, .inr (.inl (pkF (σ))))), (sa, .inl (cI, 4, .inl (fun i9 => nI ((σ) i9).2.1))), (pa, .inl (cI, 4, .inl (fun i9 => nI ((σ) i9).2.2)))] := hD
              subst hw9
              exact W.iret (v := 0) hx hb hr (fun t ht hW => ⟨⟨_, (2, σ, (-2)), rfl, (hsn (by rw [← hinv, hst, if_pos (by omega)])), by rw [ht]; exact hP, va_K.moved hW.alike hK, hD⟩, hS.F ht⟩) hS.2.2 d_M_letters_71
            · rw [hρ] at hg
              have hg : la B t (a1 + k1) = -2 := hg
              refine lv_pop hx hb d_M_letters_58 rfl ?_
              refine lv_aload_n hx hb d_M_letters_59 rfl (lv_at hl 2 rfl) ?_
              refine va_get (D := D) (ci := 2) (v := .int (-3)) (C := R_M) (T := F_M) (N := 6) hx hb hA i_M hown hK hP 0 rfl rfl 5 (by decide) (hA _ k2_217) (fun _ h9 => h9) rfl d_M_letters_60 ?_
              refine lv_if_ge (tgt := 72) hx hb d_M_letters_63 (by decide) (fun q9 => absurd q9 (by decide)) (fun _ => ?_)
              refine lv_aload_n hx hb d_M_letters_66 rfl (lv_at hl 2 rfl) ?_
              refine lv_iconst (v := 2) hx hb d_M_letters_67 (by decide) ?_
              have hPc := hP
              have hFc := va_free (wc := [(h, .inr (2, [.int 0, .int (nI M), .ref cl, .ref sa, .ref pa, .int (-3)])), (cl, .inl (cL, 32768, .inr (.inl (pkF (σ))))), (sa, .inl (cI, 4, .inl (fun i9 => nI ((σ) i9).2.1))), (pa, .inl (cI, 4, .inl (fun i9 => nI ((σ) i9).2.2)))]) hD hS hAq [0, 1, 2, 3] rfl
              have hKc := hK.sub (tys' := [(cL, .long), (cI, .int)]) [0, 1] rfl
              refine va_calli (va_runV (As := [.int 2]) (rest := []) ⟨hx, hb, hml, hown, hA⟩ (c_M_fail l D cL cI h cl sa pa M 0 (-3) (σ) H.size 2) (q_M_fail hA k3_4 rfl rfl ⟨(Nat.le_of_ble_eq_true rfl), (Nat.le_of_ble_eq_true rfl)⟩) (ox_V (va_recv hKc hPc (ci := 2) (q0 := 0) rfl rfl) (oxw_S hPc hKc hD)) rfl rfl hl.1 rfl (lv_room (Nat.le_of_ble_eq_true rfl)) d_M_letters_68 ⟨(Nat.le_of_ble_eq_true rfl), (Nat.le_of_ble_eq_true rfl)⟩) hS (fun q _ h => hFc q h) hFc (fun r68 u9 t9 H1 locs ht9 hvm9 hw9 hB9 hz1 hk1 hS => ?_)
              obtain ⟨hP, hK1, hD1⟩ := hB9
              rw [ht9] at hP
              obtain ⟨hP, hD⟩ := va_join (wr := []) (w1 := rfW cL cI h cl sa pa M 2 (-3) (σ)) hPc hD [0, 1, 2, 3] [] rfl rfl (by decide) (by decide) hk1 hFc hP hD1
              generalize H1 = H at hP hS ⊢
              have hP : va_P D vCl [(h, .inr (2, [.int 2, .int (nI M), .ref cl, .ref sa, .ref pa, .int (-3)])), (cl, .inl (cL, 32768, .inr (.inl (pkF (σ))))), (sa, .inl (cI, 4, .inl (fun i9 => nI ((σ) i9).2.1))), (pa, .inl (cI, 4, .inl (fun i9 => nI ((σ) i9).2.2)))] H := hP
              have hD : va_D A [(h, .inr (2, [.int 2, .int (nI M), .ref cl, .ref sa, .ref pa, .int (-3)])), (cl, .inl (cL, 32768, .inr (.inl (pkF (σ))))), (sa, .inl (cI, 4, .inl (fun i9 => nI ((σ) i9).2.1))), (pa, .inl (cI, 4, .inl (fun i9 => nI ((σ) i9).2.2)))] := hD
              subst hw9
              exact W.iret (v := 0) hx hb hr (fun t ht hW => ⟨⟨_, (2, σ, (-3)), rfl, (hsn (by rw [← hinv, hst, if_pos (by omega)])), by rw [ht]; exact hP, va_K.moved hW.alike hK, hD⟩, hS.F ht⟩) hS.2.2 d_M_letters_71
            · rw [hρ] at hg hu9 hr9
              have hg : 0 ≤ la B t (a1 + k1) := hg
              have hu9 : u9 = nI (lwI (la B t (a1 + k1))) := hu9
              have hr9 : r55 = nI (la B t (a1 + k1)).toNat := hr9
              subst hu9
              subst hr9
              have h4 := lwI_le (la B t (a1 + k1))
              obtain ⟨hw1, hw2⟩ := la_len hB hg
              refine lv_pop hx hb d_M_letters_58 rfl ?_
              refine lv_aload_n hx hb d_M_letters_59 rfl (lv_at hl 2 rfl) ?_
              refine va_get (D := D) (ci := 2) (v := .int (nI (lwI (la B t (a1 + k1))))) (C := R_M) (T := F_M) (N := 6) hx hb hA i_M hown hK hP 0 rfl rfl 5 (by decide) (hA _ k2_217) (fun _ h9 => h9) rfl d_M_letters_60 ?_
              refine lv_if_ge (tgt := 72) hx hb d_M_letters_63 (by decide) (fun c63 => ?_) (fun c63 => ?_)
              · refine lv_iload hx hb d_M_letters_72 (lv_at hl 1 rfl) ?_
                refine lv_aload_n hx hb d_M_letters_74 rfl (lv_at hl 2 rfl) ?_
                refine va_get (D := D) (ci := 2) (v := .int (nI (lwI (la B t (a1 + k1))))) (C := R_M) (T := F_M) (N := 6) hx hb hA i_M hown hK hP 0 rfl rfl 5 (by decide) (hA _ k2_217) (fun _ h9 => h9) rfl d_M_letters_75 ?_
                refine lv_iadd hx hb d_M_letters_78 ?_
                refine lv_topi (fun v78 ev78 => ?_)
                have ev78 : v78 = nI (t + lwI (la B t (a1 + k1))) := by rw [ev78]; exact nI_add _ _
                subst ev78
                refine lv_istore (lv' := [(5, .int (nI (t + lwI (la B t (a1 + k1))))), (4, .int (nI m3)), (0, .ref h), (1, .int (nI k)), (2, .int (nI a1)), (3, .int (nI k1))]) hx hb d_M_letters_79 hl (by decide) rfl (fun ls hl => ?_)
                obtain ⟨v81, ev81⟩ : ∃ y : Int32, y = nI m3 + 1 := ⟨_, rfl⟩
                refine lv_iinc (v := v81) (lv' := [(4, .int v81), (5, .int (nI (t + lwI (la B t (a1 + k1))))), (0, .ref h), (1, .int (nI k)), (2, .int (nI a1)), (3, .int (nI k1))]) hx hb d_M_letters_81 hl (k := 1) rfl (by rw [ev81]; rfl) (by decide) rfl (fun ls hl => ?_)
                have ev81 : v81 = nI (m3 + 1) := by rw [ev81]; exact nI_1 m3
                subst ev81
                refine lv_goto (tgt := 40) hx hb d_M_letters_84 (by decide) ?_
                exact ih_loop (t + lwI (la B t (a1 + k1))) (m3 + 1) _ (by omega) (by omega) (by rw [← hinv, hst, if_neg (by omega)]) _ _ (hP.sub [0, 1, 2, 3] rfl) (hD.sub [0, 1, 2, 3] (by decide) rfl) hS ls (lv_sub hl [0, 1, 2, 3, 4, 5] rfl)
              · exact absurd (nI_pos' (by omega)) c63
      exact loop (k1 + 1) a1 0 tk (by omega) (by omega) rfl _ _ (hP.sub [0, 1, 2, 3] rfl) (hD.sub [0, 1, 2, 3] (by decide) rfl) hS ls (lv_sub hl [1, 0, 2, 3, 4, 5] rfl)
    · refine lv_if_ne (tgt := 34) hx hb d_M_letters_25 (by decide) (fun q9 => absurd (by decide) q9) (fun _ => ?_)
      rw [hρ] at hH
      refine lv_aload_n hx hb d_M_letters_28 rfl (lv_at hl 0 rfl) ?_
      refine lv_iconst (v := 2) hx hb d_M_letters_29 (by decide) ?_
      have hPc := hP
      have hFc := va_free (wc := [(h, .inr (2, [.int 0, .int (nI M), .ref cl, .ref sa, .ref pa, .int tk])), (cl, .inl (cL, 32768, .inr (.inl (pkF (σ))))), (sa, .inl (cI, 4, .inl (fun i9 => nI ((σ) i9).2.1))), (pa, .inl (cI, 4, .inl (fun i9 => nI ((σ) i9).2.2)))]) hD hS hAq [0, 1, 2, 3] rfl
      have hKc := hK.sub (tys' := [(cL, .long), (cI, .int)]) [0, 1] rfl
      refine va_calli (va_runV (As := [.int 2]) (rest := []) ⟨hx, hb, hml, hown, hA⟩ (c_M_fail l D cL cI h cl sa pa M 0 tk (σ) H.size 2) (q_M_fail hA k3_4 rfl rfl ⟨(Nat.le_of_ble_eq_true rfl), (Nat.le_of_ble_eq_true rfl)⟩) (ox_V (va_recv hKc hPc (ci := 2) (q0 := 0) rfl rfl) (oxw_S hPc hKc hD)) rfl rfl hl.1 rfl (lv_room (Nat.le_of_ble_eq_true rfl)) d_M_letters_30 ⟨(Nat.le_of_ble_eq_true rfl), (Nat.le_of_ble_eq_true rfl)⟩) hS (fun q _ h => hFc q h) hFc (fun r30 u9 t9 H1 locs ht9 hvm9 hw9 hB9 hz1 hk1 hS => ?_)
      obtain ⟨hP, hK1, hD1⟩ := hB9
      rw [ht9] at hP
      obtain ⟨hP, hD⟩ := va_join (wr := []) (w1 := rfW cL cI h cl sa pa M 2 tk (σ)) hPc hD [0, 1, 2, 3] [] rfl rfl (by decide) (by decide) hk1 hFc hP hD1
      generalize H1 = H at hP hS ⊢
      have hP : va_P D vCl [(h, .inr (2, [.int 2, .int (nI M), .ref cl, .ref sa, .ref pa, .int tk])), (cl, .inl (cL, 32768, .inr (.inl (pkF (σ))))), (sa, .inl (cI, 4, .inl (fun i9 => nI ((σ) i9).2.1))), (pa, .inl (cI, 4, .inl (fun i9 => nI ((σ) i9).2.2)))] H := hP
      have hD : va_D A [(h, .inr (2, [.int 2, .int (nI M), .ref cl, .ref sa, .ref pa, .int tk])), (cl, .inl (cL, 32768, .inr (.inl (pkF (σ))))), (sa, .inl (cI, 4, .inl (fun i9 => nI ((σ) i9).2.1))), (pa, .inl (cI, 4, .inl (fun i9 => nI ((σ) i9).2.2)))] := hD
      subst hw9
      exact W.iret (v := 0) hx hb hr (fun t ht hW => ⟨⟨_, (2, σ, tk), rfl, (by unfold spLetters; simp only [hrk, hρ]; rw [if_neg (fun h8 => h8 hR), if_pos hH]), by rw [ht]; exact hP, va_K.moved hW.alike hK, hD⟩, hS.F ht⟩) hS.2.2 d_M_letters_33
  · refine lv_if_ne (tgt := 18) hx hb d_M_letters_9 (by decide) (fun q9 => absurd (by decide) q9) (fun _ => ?_)
    refine lv_aload_n hx hb d_M_letters_12 rfl (lv_at hl 0 rfl) ?_
    refine lv_iconst (v := 1) hx hb d_M_letters_13 (by decide) ?_
    have hPc := hP
    have hFc := va_free (wc := [(h, .inr (2, [.int 0, .int (nI M), .ref cl, .ref sa, .ref pa, .int tk])), (cl, .inl (cL, 32768, .inr (.inl (pkF (σ))))), (sa, .inl (cI, 4, .inl (fun i9 => nI ((σ) i9).2.1))), (pa, .inl (cI, 4, .inl (fun i9 => nI ((σ) i9).2.2)))]) hD hS hAq [0, 1, 2, 3] rfl
    have hKc := hK.sub (tys' := [(cL, .long), (cI, .int)]) [0, 1] rfl
    refine va_calli (va_runV (As := [.int 1]) (rest := []) ⟨hx, hb, hml, hown, hA⟩ (c_M_fail l D cL cI h cl sa pa M 0 tk (σ) H.size 1) (q_M_fail hA k3_4 rfl rfl ⟨(Nat.le_of_ble_eq_true rfl), (Nat.le_of_ble_eq_true rfl)⟩) (ox_V (va_recv hKc hPc (ci := 2) (q0 := 0) rfl rfl) (oxw_S hPc hKc hD)) rfl rfl hl.1 rfl (lv_room (Nat.le_of_ble_eq_true rfl)) d_M_letters_14 ⟨(Nat.le_of_ble_eq_true rfl), (Nat.le_of_ble_eq_true rfl)⟩) hS (fun q _ h => hFc q h) hFc (fun r14 u9 t9 H1 locs ht9 hvm9 hw9 hB9 hz1 hk1 hS => ?_)
    obtain ⟨hP, hK1, hD1⟩ := hB9
    rw [ht9] at hP
    obtain ⟨hP, hD⟩ := va_join (wr := []) (w1 := rfW cL cI h cl sa pa M 1 tk (σ)) hPc hD [0, 1, 2, 3] [] rfl rfl (by decide) (by decide) hk1 hFc hP hD1
    generalize H1 = H at hP hS ⊢
    have hP : va_P D vCl [(h, .inr (2, [.int 1, .int (nI M), .ref cl, .ref sa, .ref pa, .int tk])), (cl, .inl (cL, 32768, .inr (.inl (pkF (σ))))), (sa, .inl (cI, 4, .inl (fun i9 => nI ((σ) i9).2.1))), (pa, .inl (cI, 4, .inl (fun i9 => nI ((σ) i9).2.2)))] H := hP
    have hD : va_D A [(h, .inr (2, [.int 1, .int (nI M), .ref cl, .ref sa, .ref pa, .int tk])), (cl, .inl (cL, 32768, .inr (.inl (pkF (σ))))), (sa, .inl (cI, 4, .inl (fun i9 => nI ((σ) i9).2.1))), (pa, .inl (cI, 4, .inl (fun i9 => nI ((σ) i9).2.2)))] := hD
    subst hw9
    exact W.iret (v := 0) hx hb hr (fun t ht hW => ⟨⟨_, (1, σ, tk), rfl, (by unfold spLetters; rw [if_pos hR]), by rw [ht]; exact hP, va_K.moved hW.alike hK, hD⟩, hS.F ht⟩) hS.2.2 d_M_letters_17
set_option maxHeartbeats 600000 in
set_option maxRecDepth 100000 in
/-- same -/
theorem c_M_same (l : Launch) (D : va_G) (cL cI : ClassId) (h cl sa pa M : Nat) (th tk : Int32) (σ : dkS) (sz : Nat) (x f : Int32) (hσ : dkok M σ) : Met l y_M_same w_M_same ({ frames := 1, cells := 0, slots := 0, locals := 22 }) (va_Pc [.ref h, .int x, .int f] (oxw sz D [(cL, .long), (cI, .int)] [(h, .inr (2, [.int th, .int (nI M), .ref cl, .ref sa, .ref pa, .int tk])), (cl, .inl (cL, 32768, .inr (.inl (pkF (σ))))), (sa, .inl (cI, 4, .inl (fun i9 => nI ((σ) i9).2.1))), (pa, .inl (cI, 4, .inl (fun i9 => nI ((σ) i9).2.2)))])) (va_Qi (fun (r : Int32) (uu : Nat × dkS × Int32) => spSame σ x f = (uu.1, r, uu.2.1)) (fun uu => ow D [(cL, .long), (cI, .int)] (va_A [(h, .inr (2, [.int th, .int (nI M), .ref cl, .ref sa, .ref pa, .int tk])), (cl, .inl (cL, 32768, .inr (.inl (pkF (σ))))), (sa, .inl (cI, 4, .inl (fun i9 => nI ((σ) i9).2.1))), (pa, .inl (cI, 4, .inl (fun i9 => nI ((σ) i9).2.2)))] sz) (rfW cL cI h cl sa pa M (nI uu.1) uu.2.2 uu.2.1)) (va_A [(h, .inr (2, [.int th, .int (nI M), .ref cl, .ref sa, .ref pa, .int tk])), (cl, .inl (cL, 32768, .inr (.inl (pkF (σ))))), (sa, .inl (cI, 4, .inl (fun i9 => nI ((σ) i9).2.1))), (pa, .inl (cI, 4, .inl (fun i9 => nI ((σ) i9).2.2)))] sz)) 0 0 (va_A [(h, .inr (2, [.int th, .int (nI M), .ref cl, .ref sa, .ref pa, .int tk])), (cl, .inl (cL, 32768, .inr (.inl (pkF (σ))))), (sa, .inl (cI, 4, .inl (fun i9 => nI ((σ) i9).2.1))), (pa, .inl (cI, 4, .inl (fun i9 => nI ((σ) i9).2.2)))] sz) := by
  refine Met.ofW (cc := b_M_same) (maxL := 5) (ret := (some .boolean)) (by decide) rfl ?_
  intro p9 e9 s m args below meth c9 s₁ BL hml hv
  obtain ⟨rfl, hsz, hP, hK, hD0⟩ := hv
  have hx := BL.exec
  have hb := BL.bytes
  have hr := BL.returns
  have hts := atoms_spec (ws := w_M_same) BL.pre
  have hA : ∀ w ∈ wsA, w.before _ s = true := fun w h => hts w (List.mem_cons_of_mem _ h)
  have hown : s.vm.findClass R_M = some m.cls := findClass_of_methodNamed BL.named
  have hlocks := BL.notSynchronized
  subst hsz
  have hD := hD0.self (sz := s.heap.size)
  generalize hAe : va_A [(h, .inr (2, [.int th, .int (nI M), .ref cl, .ref sa, .ref pa, .int tk])), (cl, .inl (cL, 32768, .inr (.inl (pkF (σ))))), (sa, .inl (cI, 4, .inl (fun i9 => nI ((σ) i9).2.1))), (pa, .inl (cI, 4, .inl (fun i9 => nI ((σ) i9).2.2)))] s.heap.size = A at hD ⊢
  have hAq : ∀ q : Nat, s.heap.size ≤ q → A q := fun q h => by rw [← hAe]; exact Or.inr h
  have hS : va_S A s.heap s.heap [] := va_S.rf
  have hP : va_P D vCl [(h, .inr (2, [.int th, .int (nI M), .ref cl, .ref sa, .ref pa, .int tk])), (cl, .inl (cL, 32768, .inr (.inl (pkF (σ))))), (sa, .inl (cI, 4, .inl (fun i9 => nI ((σ) i9).2.1))), (pa, .inl (cI, 4, .inl (fun i9 => nI ((σ) i9).2.2)))] s.heap := hP
  have hl := lv_entry ([.ref h, .int x, .int f]) (n := 5) (Nat.le_of_ble_eq_true rfl)
  rw [lg_entry_eq]
  generalize (lg_sl ([.ref h, .int x, .int f]) ++ List.replicate (5 - (lg_sl ([.ref h, .int x, .int f])).length) Slot.unset).toArray = ls at hl ⊢
  have hl : lv_has ls 5 [(0, .ref h), (1, .int x), (2, .int f)] := hl
  refine lv_aload_n hx hb d_M_same_0 rfl (lv_at hl 0 rfl) ?_
  refine lv_iconst (v := 0) hx hb d_M_same_1 (by decide) ?_
  refine va_put (D := D) (ci := 2) (v := .int 0) (ty := .int) (C := R_M) (T := F_M) (N := 6) hx hb hA i_M t_M t_M_ok n_M hown hK hP hD hS 0 rfl rfl 0 (by decide) (hA _ k2_212) (fun _ h9 => h9) rfl (by decide +kernel) rfl rfl (Nat.le_of_ble_eq_true rfl) d_M_same_2 (fun H locs hP hD hS => ?_)
  have hP : va_P D vCl [(h, .inr (2, [.int 0, .int (nI M), .ref cl, .ref sa, .ref pa, .int tk])), (cl, .inl (cL, 32768, .inr (.inl (pkF (σ))))), (sa, .inl (cI, 4, .inl (fun i9 => nI ((σ) i9).2.1))), (pa, .inl (cI, 4, .inl (fun i9 => nI ((σ) i9).2.2)))] H := hP
  have hD : va_D A [(h, .inr (2, [.int 0, .int (nI M), .ref cl, .ref sa, .ref pa, .int tk])), (cl, .inl (cL, 32768, .inr (.inl (pkF (σ))))), (sa, .inl (cI, 4, .inl (fun i9 => nI ((σ) i9).2.1))), (pa, .inl (cI, 4, .inl (fun i9 => nI ((σ) i9).2.2)))] := hD
  refine lv_iload_n hx hb d_M_same_5 rfl (lv_at hl 1 rfl) ?_
  refine vp_callSi (W.runS (As := [.int x]) (rest := []) ⟨hx, hb, hml, hown, hA⟩ (c_M_isRow l x) (q_M_isRow hA k3_1 rfl rfl ⟨(Nat.le_of_ble_eq_true rfl), (Nat.le_of_ble_eq_true rfl)⟩) (⟨fun a U g mk q => q, fun U hU hW => ⟨rfl, trivial⟩⟩) rfl rfl hl.1 rfl (lv_room (Nat.le_of_ble_eq_true rfl)) d_M_same_6 ⟨(Nat.le_of_ble_eq_true rfl), (Nat.le_of_ble_eq_true rfl)⟩) (fun r6 hr6 => ?_)
  rcases hr6 with ⟨hR, rfl⟩ | ⟨hR, rfl⟩
  · refine lv_if_eq (tgt := 19) hx hb d_M_same_9 (by decide) (fun q9 => absurd q9 (by decide)) (fun _ => ?_)
    refine lv_iload_n hx hb d_M_same_12 rfl (lv_at hl 2 rfl) ?_
    refine vp_callSi (W.runS (As := [.int f]) (rest := []) ⟨hx, hb, hml, hown, hA⟩ (c_M_isRow l f) (q_M_isRow hA k3_1 rfl rfl ⟨(Nat.le_of_ble_eq_true rfl), (Nat.le_of_ble_eq_true rfl)⟩) (⟨fun a U g mk q => q, fun U hU hW => ⟨rfl, trivial⟩⟩) rfl rfl hl.1 rfl (lv_room (Nat.le_of_ble_eq_true rfl)) d_M_same_13 ⟨(Nat.le_of_ble_eq_true rfl), (Nat.le_of_ble_eq_true rfl)⟩) (fun r13 hr13 => ?_)
    rcases hr13 with ⟨hR2, rfl⟩ | ⟨hR2, rfl⟩
    · refine lv_if_ne (tgt := 26) hx hb d_M_same_16 (by decide) (fun _ => ?_) (fun q9 => absurd q9 (by decide))
      obtain ⟨k, hk0, rfl⟩ := nI_of (show ¬ x < 0 by rw [Int32.lt_iff_toInt_lt, li_0]; exact Int.not_lt.mpr hR.1)
      have hk : k < 4 := by have h9 := hR.2; rw [nI_toInt hk0] at h9; omega
      have hrk : rj (nI k) = k := rj_n hk
      obtain ⟨⟨B, n, p⟩, hρ⟩ : ∃ ρ, σ k = ρ := ⟨_, rfl⟩
      have hk9 := hσ.2 k hk
      have hBσ : ∀ j, (σ k).1 j < 256 := hk9.2.2
      have hnσ : (σ k).2.1 ≤ 65536 := Nat.le_trans hk9.2.1 hσ.1
      rw [hρ] at hk9
      obtain ⟨hp, hn, hB⟩ := hk9
      have hp : p ≤ n := hp
      have hn : n ≤ M := hn
      have hB : ∀ j, B j < 256 := hB
      have hM := hσ.1
      obtain ⟨f1, hf10, rfl⟩ := nI_of (show ¬ f < 0 by rw [Int32.lt_iff_toInt_lt, li_0]; exact Int.not_lt.mpr hR2.1)
      have hf1 : f1 < 4 := by have h9 := hR2.2; rw [nI_toInt hf10] at h9; omega
      have hrf1 : rj (nI f1) = f1 := rj_n hf1
      obtain ⟨⟨C, n2, p2⟩, hρ2⟩ : ∃ ρ, σ f1 = ρ := ⟨_, rfl⟩
      have hk9 := hσ.2 f1 hf1
      have hBσ2 : ∀ j, (σ f1).1 j < 256 := hk9.2.2
      have hnσ2 : (σ f1).2.1 ≤ 65536 := Nat.le_trans hk9.2.1 hσ.1
      rw [hρ2] at hk9
      obtain ⟨hp2, hn2, hB2⟩ := hk9
      have hp2 : p2 ≤ n2 := hp2
      have hn2 : n2 ≤ M := hn2
      have hB2 : ∀ j, C j < 256 := hB2
      refine lv_aload_n hx hb d_M_same_26 rfl (lv_at hl 0 rfl) ?_
      refine va_get (D := D) (ci := 2) (v := .ref sa) (C := R_M) (T := F_M) (N := 6) hx hb hA i_M hown hK hP 0 rfl rfl 3 (by decide) (hA _ k2_215) (fun _ h9 => h9) rfl d_M_same_27 ?_
      refine lv_iload_n hx hb d_M_same_30 rfl (lv_at hl 1 rfl) ?_
      refine va_iald hx hb hK hP 2 1 rfl rfl (vp_in_nI hk (by decide)) d_M_same_31 ?_
      refine lv_topi (fun v31 ev31 => ?_)
      have ev31 : v31 = nI n := by rw [ev31]; show nI ((σ) (nI k).toNatClampNeg).2.1 = _; rw [nI_clamp (by omega), hρ]
      subst ev31
      refine lv_aload_n hx hb d_M_same_32 rfl (lv_at hl 0 rfl) ?_
      refine va_get (D := D) (ci := 2) (v := .ref sa) (C := R_M) (T := F_M) (N := 6) hx hb hA i_M hown hK hP 0 rfl rfl 3 (by decide) (hA _ k2_215) (fun _ h9 => h9) rfl d_M_same_33 ?_
      refine lv_iload_n hx hb d_M_same_36 rfl (lv_at hl 2 rfl) ?_
      refine va_iald hx hb hK hP 2 1 rfl rfl (vp_in_nI hf1 (by decide)) d_M_same_37 ?_
      refine lv_topi (fun v37 ev37 => ?_)
      have ev37 : v37 = nI n2 := by rw [ev37]; show nI ((σ) (nI f1).toNatClampNeg).2.1 = _; rw [nI_clamp (by omega), hρ2]
      subst ev37
      refine lv_icmp_ne (tgt := 45) hx hb d_M_same_38 (by decide) (fun c38 => ?_) (fun c38 => ?_)
      · refine lv_iconst (v := 0) hx hb d_M_same_45 (by decide) ?_
        refine lv_istore_n (lv' := [(3, .int 0), (0, .ref h), (1, .int (nI k)), (2, .int (nI f1))]) hx hb d_M_same_46 rfl hl (by decide) rfl (fun ls hl => ?_)
        refine lv_iconst (v := 0) hx hb d_M_same_47 (by decide) ?_
        refine lv_topi (fun v47 ev47 => ?_)
        have ev47 : v47 = nI 0 := by rw [ev47]; rfl
        subst ev47
        refine lv_istore (lv' := [(4, .int (nI 0)), (3, .int 0), (0, .ref h), (1, .int (nI k)), (2, .int (nI f1))]) hx hb d_M_same_48 hl (by decide) rfl (fun ls hl => ?_)
        refine lv_iload hx hb d_M_same_50 (lv_at hl 0 rfl) ?_
        refine lv_aload_n hx hb d_M_same_52 rfl (lv_at hl 2 rfl) ?_
        refine va_get (D := D) (ci := 2) (v := .ref sa) (C := R_M) (T := F_M) (N := 6) hx hb hA i_M hown hK hP 0 rfl rfl 3 (by decide) (hA _ k2_215) (fun _ h9 => h9) rfl d_M_same_53 ?_
        refine lv_iload_n hx hb d_M_same_56 rfl (lv_at hl 3 rfl) ?_
        refine va_iald hx hb hK hP 2 1 rfl rfl (vp_in_nI hk (by decide)) d_M_same_57 ?_
        refine lv_topi (fun v57 ev57 => ?_)
        have ev57 : v57 = nI n := by rw [ev57]; show nI ((σ) (nI k).toNatClampNeg).2.1 = _; rw [nI_clamp (by omega), hρ]
        subst ev57
        refine lv_icmp_ge (tgt := 94) hx hb d_M_same_58 (by decide) (fun c58 => ?_) (fun c58 => ?_)
        · refine lv_iload_n hx hb d_M_same_94 rfl (lv_at hl 1 rfl) ?_
          exact W.zret (v := 0) (ty := .boolean) hx hb hr (by decide) (fun t ht hW => ⟨⟨_, (0, σ, tk), rfl, (by unfold spSame; simp only [hrk, hrf1, hρ, hρ2]; rw [if_neg (fun h8 => h8 ⟨hR, hR2⟩), if_neg (fun h8 => by first | exact c38 (congrArg nI h8.1) | exact hne ((eqb_iff _ _ _).mp h8.2 i2 hi3))]), by rw [ht]; exact hP, va_K.moved hW.alike hK, hD⟩, hS.F ht⟩) hS.2.2 d_M_same_95
        · refine lv_iload_n hx hb d_M_same_61 rfl (lv_at hl 1 rfl) ?_
          refine lv_if_eq (tgt := 94) hx hb d_M_same_62 (by decide) (fun _ => ?_) (fun q9 => absurd (by decide) q9)
          refine lv_iload_n hx hb d_M_same_94 rfl (lv_at hl 1 rfl) ?_
          exact W.zret (v := 0) (ty := .boolean) hx hb hr (by decide) (fun t ht hW => ⟨⟨_, (0, σ, tk), rfl, (by unfold spSame; simp only [hrk, hrf1, hρ, hρ2]; rw [if_neg (fun h8 => h8 ⟨hR, hR2⟩), if_neg (fun h8 => by first | exact c38 (congrArg nI h8.1) | exact hne ((eqb_iff _ _ _).mp h8.2 i2 hi3))]), by rw [ht]; exact hP, va_K.moved hW.alike hK, hD⟩, hS.F ht⟩) hS.2.2 d_M_same_95
      · refine lv_iconst (v := 1) hx hb d_M_same_41 (by decide) ?_
        refine lv_goto (tgt := 46) hx hb d_M_same_42 (by decide) ?_
        refine lv_istore_n (lv' := [(3, .int 1), (0, .ref h), (1, .int (nI k)), (2, .int (nI f1))]) hx hb d_M_same_46 rfl hl (by decide) rfl (fun ls hl => ?_)
        refine lv_iconst (v := 0) hx hb d_M_same_47 (by decide) ?_
        refine lv_topi (fun v47 ev47 => ?_)
        have ev47 : v47 = nI 0 := by rw [ev47]; rfl
        subst ev47
        refine lv_istore (lv' := [(4, .int (nI 0)), (3, .int 1), (0, .ref h), (1, .int (nI k)), (2, .int (nI f1))]) hx hb d_M_same_48 hl (by decide) rfl (fun ls hl => ?_)
        have hnn : n = n2 := (nI_eq (by omega) (by omega)).mp c38
        have loop : ∀ (q i2 : Nat), i2 + q = n + 1 → i2 ≤ n → (∀ i9, i9 < i2 → B i9 = C i9) → ∀ (H : Heap) (locs : List Loc), va_P D vCl [(h, .inr (2, [.int 0, .int (nI M), .ref cl, .ref sa, .ref pa, .int tk])), (cl, .inl (cL, 32768, .inr (.inl (pkF (σ))))), (sa, .inl (cI, 4, .inl (fun i9 => nI ((σ) i9).2.1))), (pa, .inl (cI, 4, .inl (fun i9 => nI ((σ) i9).2.2)))] H → va_D A [(h, .inr (2, [.int 0, .int (nI M), .ref cl, .ref sa, .ref pa, .int tk])), (cl, .inl (cL, 32768, .inr (.inl (pkF (σ))))), (sa, .inl (cI, 4, .inl (fun i9 => nI ((σ) i9).2.1))), (pa, .inl (cI, 4, .inl (fun i9 => nI ((σ) i9).2.2)))] → va_S A s.heap H locs → ∀ (ls : Array Slot), lv_has ls 5 [(4, .int (nI i2)), (3, .int 1), (0, .ref h), (1, .int (nI k)), (2, .int (nI f1))] → W p9 l e9 (headSpec w_M_same ({ frames := 1, cells := 0, slots := 0, locals := 22 })).room s m [.ref h, .int (nI k), .int (nI f1)].toArray below meth c9 H locs 0 0 (MQ below (va_Qi (fun (r : Int32) (uu : Nat × dkS × Int32) => spSame σ (nI k) (nI f1) = (uu.1, r, uu.2.1)) (fun uu => ow D [(cL, .long), (cI, .int)] A (rfW cL cI h cl sa pa M (nI uu.1) uu.2.2 uu.2.1)) A) [.ref h, .int (nI k), .int (nI f1)].toArray s 0 0 A) (F0 m 50 ls []) := by
          intro q
          induction q with
          | zero =>
            intro i2 hq hi2 hinv H locs hP hD hS ls hl
            exact absurd hq (by omega)
          | succ q ih_loop =>
            intro i2 hq hi2 hinv H locs hP hD hS ls hl
            refine lv_iload hx hb d_M_same_50 (lv_at hl 0 rfl) ?_
            refine lv_aload_n hx hb d_M_same_52 rfl (lv_at hl 2 rfl) ?_
            refine va_get (D := D) (ci := 2) (v := .ref sa) (C := R_M) (T := F_M) (N := 6) hx hb hA i_M hown hK hP 0 rfl rfl 3 (by decide) (hA _ k2_215) (fun _ h9 => h9) rfl d_M_same_53 ?_
            refine lv_iload_n hx hb d_M_same_56 rfl (lv_at hl 3 rfl) ?_
            refine va_iald hx hb hK hP 2 1 rfl rfl (vp_in_nI hk (by decide)) d_M_same_57 ?_
            refine lv_topi (fun v57 ev57 => ?_)
            have ev57 : v57 = nI n := by rw [ev57]; show nI ((σ) (nI k).toNatClampNeg).2.1 = _; rw [nI_clamp (by omega), hρ]
            subst ev57
            refine lv_icmp_ge (tgt := 94) hx hb d_M_same_58 (by decide) (fun c58 => ?_) (fun c58 => ?_)
            · have hi4 : n ≤ i2 := (nI_leI (a := n) (b := i2) (by omega) (by omega)).mp c58
              refine lv_iload_n hx hb d_M_same_94 rfl (lv_at hl 1 rfl) ?_
              exact W.zret (v := 1) (ty := .boolean) hx hb hr (by decide) (fun t ht hW => ⟨⟨_, (0, σ, tk), rfl, (by unfold spSame; simp only [hrk, hrf1, hρ, hρ2]; rw [if_neg (fun h8 => h8 ⟨hR, hR2⟩), if_pos ⟨hnn, (eqb_iff _ _ _).mpr (fun i9 h9 => hinv i9 (by omega))⟩]), by rw [ht]; exact hP, va_K.moved hW.alike hK, hD⟩, hS.F ht⟩) hS.2.2 d_M_same_95
            · have hi3 : i2 < n := by have := mt (nI_leI (a := n) (b := i2) (by omega) (by omega)).mpr c58; omega
              refine lv_iload_n hx hb d_M_same_61 rfl (lv_at hl 1 rfl) ?_
              refine lv_if_eq (tgt := 94) hx hb d_M_same_62 (by decide) (fun q9 => absurd q9 (by decide)) (fun _ => ?_)
              refine lv_aload_n hx hb d_M_same_65 rfl (lv_at hl 2 rfl) ?_
              refine lv_iload_n hx hb d_M_same_66 rfl (lv_at hl 3 rfl) ?_
              refine lv_iload hx hb d_M_same_67 (lv_at hl 0 rfl) ?_
              have hPc := hP.sub (ws' := [(h, .inr (2, [.int 0, .int (nI M), .ref cl, .ref sa, .ref pa, .int tk])), (cl, .inl (cL, 32768, .inr (.inl (pkF (σ))))), (sa, .inl (cI, 4, .inl (fun i9 => nI ((σ) i9).2.1))), (pa, .inl (cI, 4, .inl (fun i9 => nI ((σ) i9).2.2)))]) [0, 1, 2, 3] rfl
              have hKc := hK.sub (tys' := [(cL, .long), (cI, .int)]) [0, 1] rfl
              refine vp_callSi (W.runV (As := [.int (nI k), .int (nI i2)]) (rest := []) ⟨hx, hb, hml, hown, hA⟩ (c_M_at l D cL cI h cl sa pa M 0 tk σ k i2 hk (by omega) hBσ) (q_M_at hA k3_66 rfl rfl ⟨(Nat.le_of_ble_eq_true rfl), (Nat.le_of_ble_eq_true rfl)⟩) (ox_V (va_recv hKc hPc (ci := 2) (q0 := 0) rfl rfl) (ox_S hPc hKc)) rfl rfl hl.1 rfl (lv_room (Nat.le_of_ble_eq_true rfl)) d_M_same_69 ⟨(Nat.le_of_ble_eq_true rfl), (Nat.le_of_ble_eq_true rfl)⟩) (fun r69 hr69 => ?_)
              have er69 : r69 = nI (B i2) := by rw [hr69, hρ]
              subst er69
              refine lv_aload_n hx hb d_M_same_72 rfl (lv_at hl 2 rfl) ?_
              refine lv_iload_n hx hb d_M_same_73 rfl (lv_at hl 4 rfl) ?_
              refine lv_iload hx hb d_M_same_74 (lv_at hl 0 rfl) ?_
              have hPc := hP.sub (ws' := [(h, .inr (2, [.int 0, .int (nI M), .ref cl, .ref sa, .ref pa, .int tk])), (cl, .inl (cL, 32768, .inr (.inl (pkF (σ))))), (sa, .inl (cI, 4, .inl (fun i9 => nI ((σ) i9).2.1))), (pa, .inl (cI, 4, .inl (fun i9 => nI ((σ) i9).2.2)))]) [0, 1, 2, 3] rfl
              have hKc := hK.sub (tys' := [(cL, .long), (cI, .int)]) [0, 1] rfl
              refine vp_callSi (W.runV (As := [.int (nI f1), .int (nI i2)]) (rest := [.int (nI (B i2))]) ⟨hx, hb, hml, hown, hA⟩ (c_M_at l D cL cI h cl sa pa M 0 tk σ f1 i2 hf1 (by omega) hBσ2) (q_M_at hA k3_66 rfl rfl ⟨(Nat.le_of_ble_eq_true rfl), (Nat.le_of_ble_eq_true rfl)⟩) (ox_V (va_recv hKc hPc (ci := 2) (q0 := 0) rfl rfl) (ox_S hPc hKc)) rfl rfl hl.1 rfl (lv_room (Nat.le_of_ble_eq_true rfl)) d_M_same_76 ⟨(Nat.le_of_ble_eq_true rfl), (Nat.le_of_ble_eq_true rfl)⟩) (fun r76 hr76 => ?_)
              have er76 : r76 = nI (C i2) := by rw [hr76, hρ2]
              subst er76
              refine lv_icmp_ne (tgt := 86) hx hb d_M_same_79 (by decide) (fun c79 => ?_) (fun c79 => ?_)
              · have hne : ¬ B i2 = C i2 := fun q9 => c79 (congrArg nI q9)
                refine lv_iconst (v := 0) hx hb d_M_same_86 (by decide) ?_
                refine lv_istore_n (lv' := [(3, .int 0), (4, .int (nI i2)), (0, .ref h), (1, .int (nI k)), (2, .int (nI f1))]) hx hb d_M_same_87 rfl hl (by decide) rfl (fun ls hl => ?_)
                obtain ⟨v88, ev88⟩ : ∃ y : Int32, y = nI i2 + 1 := ⟨_, rfl⟩
                refine lv_iinc (v := v88) (lv' := [(4, .int v88), (3, .int 0), (0, .ref h), (1, .int (nI k)), (2, .int (nI f1))]) hx hb d_M_same_88 hl (k := 1) rfl (by rw [ev88]; rfl) (by decide) rfl (fun ls hl => ?_)
                have ev88 : v88 = nI (i2 + 1) := by rw [ev88]; exact nI_1 i2
                subst ev88
                refine lv_goto (tgt := 50) hx hb d_M_same_91 (by decide) ?_
                refine lv_iload hx hb d_M_same_50 (lv_at hl 0 rfl) ?_
                refine lv_aload_n hx hb d_M_same_52 rfl (lv_at hl 2 rfl) ?_
                refine va_get (D := D) (ci := 2) (v := .ref sa) (C := R_M) (T := F_M) (N := 6) hx hb hA i_M hown hK hP 0 rfl rfl 3 (by decide) (hA _ k2_215) (fun _ h9 => h9) rfl d_M_same_53 ?_
                refine lv_iload_n hx hb d_M_same_56 rfl (lv_at hl 3 rfl) ?_
                refine va_iald hx hb hK hP 2 1 rfl rfl (vp_in_nI hk (by decide)) d_M_same_57 ?_
                refine lv_topi (fun v57 ev57 => ?_)
                have ev57 : v57 = nI n := by rw [ev57]; show nI ((σ) (nI k).toNatClampNeg).2.1 = _; rw [nI_clamp (by omega), hρ]
                subst ev57
                refine lv_icmp_ge (tgt := 94) hx hb d_M_same_58 (by decide) (fun c58 => ?_) (fun c58 => ?_)
                · refine lv_iload_n hx hb d_M_same_94 rfl (lv_at hl 1 rfl) ?_
                  exact W.zret (v := 0) (ty := .boolean) hx hb hr (by decide) (fun t ht hW => ⟨⟨_, (0, σ, tk), rfl, (by unfold spSame; simp only [hrk, hrf1, hρ, hρ2]; rw [if_neg (fun h8 => h8 ⟨hR, hR2⟩), if_neg (fun h8 => by first | exact c38 (congrArg nI h8.1) | exact hne ((eqb_iff _ _ _).mp h8.2 i2 hi3))]), by rw [ht]; exact hP, va_K.moved hW.alike hK, hD⟩, hS.F ht⟩) hS.2.2 d_M_same_95
                · refine lv_iload_n hx hb d_M_same_61 rfl (lv_at hl 1 rfl) ?_
                  refine lv_if_eq (tgt := 94) hx hb d_M_same_62 (by decide) (fun _ => ?_) (fun q9 => absurd (by decide) q9)
                  refine lv_iload_n hx hb d_M_same_94 rfl (lv_at hl 1 rfl) ?_
                  exact W.zret (v := 0) (ty := .boolean) hx hb hr (by decide) (fun t ht hW => ⟨⟨_, (0, σ, tk), rfl, (by unfold spSame; simp only [hrk, hrf1, hρ, hρ2]; rw [if_neg (fun h8 => h8 ⟨hR, hR2⟩), if_neg (fun h8 => by first | exact c38 (congrArg nI h8.1) | exact hne ((eqb_iff _ _ _).mp h8.2 i2 hi3))]), by rw [ht]; exact hP, va_K.moved hW.alike hK, hD⟩, hS.F ht⟩) hS.2.2 d_M_same_95
              · have hBC : B i2 = C i2 := by have g1 := hB i2; have g2 := hB2 i2; exact (nI_eq (by omega) (by omega)).mp c79
                refine lv_iconst (v := 1) hx hb d_M_same_82 (by decide) ?_
                refine lv_goto (tgt := 87) hx hb d_M_same_83 (by decide) ?_
                refine lv_istore_n (lv' := [(3, .int 1), (4, .int (nI i2)), (0, .ref h), (1, .int (nI k)), (2, .int (nI f1))]) hx hb d_M_same_87 rfl hl (by decide) rfl (fun ls hl => ?_)
                obtain ⟨v88, ev88⟩ : ∃ y : Int32, y = nI i2 + 1 := ⟨_, rfl⟩
                refine lv_iinc (v := v88) (lv' := [(4, .int v88), (3, .int 1), (0, .ref h), (1, .int (nI k)), (2, .int (nI f1))]) hx hb d_M_same_88 hl (k := 1) rfl (by rw [ev88]; rfl) (by decide) rfl (fun ls hl => ?_)
                have ev88 : v88 = nI (i2 + 1) := by rw [ev88]; exact nI_1 i2
                subst ev88
                refine lv_goto (tgt := 50) hx hb d_M_same_91 (by decide) ?_
                exact ih_loop (i2 + 1) (by omega) (by omega) (fun i9 h9 => by
                  rcases Nat.lt_or_ge i9 i2 with q9 | q9
                  · exact hinv i9 q9
                  · (obtain rfl : i9 = i2 := by omega); exact hBC) _ _ (hP.sub [0, 1, 2, 3] rfl) (hD.sub [0, 1, 2, 3] (by decide) rfl) hS ls (lv_sub hl [0, 1, 2, 3, 4] rfl)
        exact loop (n + 1) 0 (by omega) (by omega) (fun i9 h9 => absurd h9 (by omega)) _ _ (hP.sub [0, 1, 2, 3] rfl) (hD.sub [0, 1, 2, 3] (by decide) rfl) hS ls (lv_sub hl [0, 1, 2, 3, 4] rfl)
    · refine lv_if_ne (tgt := 26) hx hb d_M_same_16 (by decide) (fun q9 => absurd (by decide) q9) (fun _ => ?_)
      refine lv_aload_n hx hb d_M_same_19 rfl (lv_at hl 0 rfl) ?_
      refine lv_iconst (v := 1) hx hb d_M_same_20 (by decide) ?_
      refine va_put (D := D) (ci := 2) (v := .int 1) (ty := .int) (C := R_M) (T := F_M) (N := 6) hx hb hA i_M t_M t_M_ok n_M hown hK hP hD hS 0 rfl rfl 0 (by decide) (hA _ k2_212) (fun _ h9 => h9) rfl (by decide +kernel) rfl rfl (Nat.le_of_ble_eq_true rfl) d_M_same_21 (fun H locs hP hD hS => ?_)
      have hP : va_P D vCl [(h, .inr (2, [.int 1, .int (nI M), .ref cl, .ref sa, .ref pa, .int tk])), (cl, .inl (cL, 32768, .inr (.inl (pkF (σ))))), (sa, .inl (cI, 4, .inl (fun i9 => nI ((σ) i9).2.1))), (pa, .inl (cI, 4, .inl (fun i9 => nI ((σ) i9).2.2)))] H := hP
      have hD : va_D A [(h, .inr (2, [.int 1, .int (nI M), .ref cl, .ref sa, .ref pa, .int tk])), (cl, .inl (cL, 32768, .inr (.inl (pkF (σ))))), (sa, .inl (cI, 4, .inl (fun i9 => nI ((σ) i9).2.1))), (pa, .inl (cI, 4, .inl (fun i9 => nI ((σ) i9).2.2)))] := hD
      refine lv_iconst (v := 0) hx hb d_M_same_24 (by decide) ?_
      exact W.zret (v := 0) (ty := .boolean) hx hb hr (by decide) (fun t ht hW => ⟨⟨_, (1, σ, tk), rfl, (by unfold spSame; rw [if_pos (fun h9 => by first | exact hR h9.1 | exact hR2 h9.2)]), by rw [ht]; exact hP, va_K.moved hW.alike hK, hD⟩, hS.F ht⟩) hS.2.2 d_M_same_25
  · refine lv_if_eq (tgt := 19) hx hb d_M_same_9 (by decide) (fun _ => ?_) (fun q9 => absurd (by decide) q9)
    refine lv_aload_n hx hb d_M_same_19 rfl (lv_at hl 0 rfl) ?_
    refine lv_iconst (v := 1) hx hb d_M_same_20 (by decide) ?_
    refine va_put (D := D) (ci := 2) (v := .int 1) (ty := .int) (C := R_M) (T := F_M) (N := 6) hx hb hA i_M t_M t_M_ok n_M hown hK hP hD hS 0 rfl rfl 0 (by decide) (hA _ k2_212) (fun _ h9 => h9) rfl (by decide +kernel) rfl rfl (Nat.le_of_ble_eq_true rfl) d_M_same_21 (fun H locs hP hD hS => ?_)
    have hP : va_P D vCl [(h, .inr (2, [.int 1, .int (nI M), .ref cl, .ref sa, .ref pa, .int tk])), (cl, .inl (cL, 32768, .inr (.inl (pkF (σ))))), (sa, .inl (cI, 4, .inl (fun i9 => nI ((σ) i9).2.1))), (pa, .inl (cI, 4, .inl (fun i9 => nI ((σ) i9).2.2)))] H := hP
    have hD : va_D A [(h, .inr (2, [.int 1, .int (nI M), .ref cl, .ref sa, .ref pa, .int tk])), (cl, .inl (cL, 32768, .inr (.inl (pkF (σ))))), (sa, .inl (cI, 4, .inl (fun i9 => nI ((σ) i9).2.1))), (pa, .inl (cI, 4, .inl (fun i9 => nI ((σ) i9).2.2)))] := hD
    refine lv_iconst (v := 0) hx hb d_M_same_24 (by decide) ?_
    exact W.zret (v := 0) (ty := .boolean) hx hb hr (by decide) (fun t ht hW => ⟨⟨_, (1, σ, tk), rfl, (by unfold spSame; rw [if_pos (fun h9 => by first | exact hR h9.1 | exact hR2 h9.2)]), by rw [ht]; exact hP, va_K.moved hW.alike hK, hD⟩, hS.F ht⟩) hS.2.2 d_M_same_25
