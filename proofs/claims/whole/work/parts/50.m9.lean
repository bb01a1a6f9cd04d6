/-! THE REFERENCE: READING -/
theorem unzz_0 : unzz 0 = 0 := by decide
theorem ev_div {V : Int64} (h : V &&& 1 = 0) : V - V / 2 * 2 = 0 := by
  have hu := uNl_lt V
  have h1 : uNl V % 2 = 0 := by
    rw [← lN_u V, wb_a1 hu] at h
    have h2 := congrArg (fun z : Int64 => z.toBitVec.toNat) h
    simp only [wb_tn (show uNl V % 2 < 2 ^ 64 by omega)] at h2
    exact h2
  have ht : V.toInt = if 2 * uNl V < 2 ^ 64 then (uNl V : Int) else (uNl V : Int) - 2 ^ 64 := by
    show V.toBitVec.toInt = _
    rw [BitVec.toInt_eq_toNat_cond]
    rfl
  obtain ⟨s, hs⟩ : ∃ s : Int, V.toInt = 2 * s := by
    rw [ht]
    split
    · exact ⟨(uNl V : Int) / 2, by omega⟩
    · exact ⟨((uNl V : Int) - 2 ^ 64) / 2, by omega⟩
  have hr : -2 ^ 63 ≤ V.toInt ∧ V.toInt < 2 ^ 63 := by
    rw [ht]
    split <;> omega
  have hq : (V / 2).toInt = s := by
    rw [Int64.toInt_div, hs, show (2 : Int64).toInt = 2 from by decide, Int.mul_tdiv_cancel_left s (by decide)]
    exact Int.bmod_eq_of_le (by omega) (by omega)
  have he : V / 2 * 2 = V := by
    apply Int64.toInt_inj.mp
    rw [Int64.toInt_mul, hq, hs, show (2 : Int64).toInt = 2 from by decide, Int.mul_comm]
    exact Int.bmod_eq_of_le (by omega) (by omega)
  rw [he, Int64.sub_self]
theorem and1l (a : Int64) : a &&& 1 = 0 ∨ a &&& 1 = 1 := by
  rw [← lN_u a, wb_a1 (uNl_lt a)]
  rcases (show uNl a % 2 = 0 ∨ uNl a % 2 = 1 by omega) with h | h
  · exact Or.inl (by rw [h]; rfl)
  · exact Or.inr (by rw [h]; rfl)
theorem rs_o {V : Int64} (h : ¬ lg_cmp (V - V / 2 * 2) 0 = 0) : (V.toUInt64 >>> ((1 : Int32).toInt64.toUInt64 &&& Int64.toUInt64 63)).toInt64 ^^^ (-1) = unzz V := by
  unfold unzz
  rcases and1l V with q | q
  · exact absurd ((lg_cmp_eq _ _).mpr (ev_div q)) h
  · rw [q]
theorem od_div {V : Int64} (h : V - V / 2 * 2 = 0) : V &&& 1 = 0 := by
  rcases and1l V with q | q
  · exact q
  · exfalso
    have he : V = V / 2 * 2 := by
      have h2 := congrArg (fun z => z + V / 2 * 2) h
      simpa using h2
    generalize V / 2 = w at he
    subst he
    have h3 := congrArg (fun z : Int64 => z.toBitVec.toNat) q
    simp only [Int64.toBitVec_and, Int64.toBitVec_mul, BitVec.toNat_and, BitVec.toNat_mul] at h3
    have h4 : (1 : Int64).toBitVec.toNat = 1 := by decide
    have h5 : (2 : Int64).toBitVec.toNat = 2 := by decide
    rw [h4, h5, Nat.and_one_is_mod] at h3
    omega
theorem rs_e {V : Int64} (h : lg_cmp (V - V / 2 * 2) 0 = 0) : (V.toUInt64 >>> ((1 : Int32).toInt64.toUInt64 &&& Int64.toUInt64 63)).toInt64 = unzz V := by
  unfold unzz
  rw [od_div ((lg_cmp_eq _ _).mp h)]
  apply wb_inj
  rw [Int64.toBitVec_xor, show (-(0 : Int64)).toBitVec = 0#64 from by decide, BitVec.xor_zero]
theorem arr_2 {D : va_G} {cl : List vw_C} {tys : List (ClassId × FieldType)} {U : State} {i j c1 c2 : Nat} (h : va_K D cl tys U) (h1 : tys[i]? = some (c1, .int)) (h2 : tys[j]? = some (c2, .int)) : c1 = c2 :=
  Option.some.inj ((show U.vm.findClass _ = some c1 from (h.2 i _ h1).2).symm.trans (h.2 j _ h2).2)
set_option maxHeartbeats 600000 in
set_option maxRecDepth 100000 in
/-- readFixed -/
theorem c_M_readFixed (l : Launch) (D : va_G) (cL cI : ClassId) (h cl sa pa M : Nat) (th tk : Int32) (σ : dkS) (sz : Nat) (x z : Int32) (hσ : dkok M σ) : Met l y_M_readFixed w_M_readFixed ({ frames := 2, cells := 0, slots := 0, locals := 48 }) (va_Pc [.ref h, .int x, .int z] (oxw sz D [(cL, .long), (cI, .int)] [(h, .inr (2, [.int th, .int (nI M), .ref cl, .ref sa, .ref pa, .int tk])), (cl, .inl (cL, 32768, .inr (.inl (pkF (σ))))), (sa, .inl (cI, 4, .inl (fun i9 => nI ((σ) i9).2.1))), (pa, .inl (cI, 4, .inl (fun i9 => nI ((σ) i9).2.2)))])) (va_Ql (fun (r : Int64) (uu : Nat × dkS × Int32) => spReadFixed σ x z = (uu.1, r, uu.2.1)) (fun uu => ow D [(cL, .long), (cI, .int)] (va_A [(h, .inr (2, [.int th, .int (nI M), .ref cl, .ref sa, .ref pa, .int tk])), (cl, .inl (cL, 32768, .inr (.inl (pkF (σ))))), (sa, .inl (cI, 4, .inl (fun i9 => nI ((σ) i9).2.1))), (pa, .inl (cI, 4, .inl (fun i9 => nI ((σ) i9).2.2)))] sz) (rfW cL cI h cl sa pa M (nI uu.1) uu.2.2 uu.2.1)) (va_A [(h, .inr (2, [.int th, .int (nI M), .ref cl, .ref sa, .ref pa, .int tk])), (cl, .inl (cL, 32768, .inr (.inl (pkF (σ))))), (sa, .inl (cI, 4, .inl (fun i9 => nI ((σ) i9).2.1))), (pa, .inl (cI, 4, .inl (fun i9 => nI ((σ) i9).2.2)))] sz)) 0 0 (va_A [(h, .inr (2, [.int th, .int (nI M), .ref cl, .ref sa, .ref pa, .int tk])), (cl, .inl (cL, 32768, .inr (.inl (pkF (σ))))), (sa, .inl (cI, 4, .inl (fun i9 => nI ((σ) i9).2.1))), (pa, .inl (cI, 4, .inl (fun i9 => nI ((σ) i9).2.2)))] sz) := by
  refine Met.ofW (cc := b_M_readFixed) (maxL := 5) (ret := (some .long)) (by decide) rfl ?_
  intro p9 e9 s m args below meth c9 s₁ BL hml hv
  obtain ⟨rfl, hsz, hP, hK, hD0⟩ := hv
  have hx := BL.exec
  have hb := BL.bytes
  have hr := BL.returns
  have hts := atoms_spec (ws := w_M_readFixed) BL.pre
  have hA : ∀ w ∈ wsA, w.before _ s = true := fun w h => hts w (List.mem_cons_of_mem _ h)
  have hown : s.vm.findClass R_M = some m.cls := findClass_of_methodNamed BL.named
  have hlocks := BL.notSynchronized
  subst hsz
  have hD := hD0.self (sz := s.heap.size)
  generalize hAe : va_A [(h, .inr (2, [.int th, .int (nI M), .ref cl, .ref sa, .ref pa, .int tk])), (cl, .inl (cL, 32768, .inr (.inl (pkF (σ))))), (sa, .inl (cI, 4, .inl (fun i9 => nI ((σ) i9).2.1))), (pa, .inl (cI, 4, .inl (fun i9 => nI ((σ) i9).2.2)))] s.heap.size = A at hD ⊢
  have hAq : ∀ q : Nat, s.heap.size ≤ q → A q := fun q h => by rw [← hAe]; exact Or.inr h
  have hS : va_S A s.heap s.heap [] := va_S.rf
  have hP : va_P D vCl [(h, .inr (2, [.int th, .int (nI M), .ref cl, .ref sa, .ref pa, .int tk])), (cl, .inl (cL, 32768, .inr (.inl (pkF (σ))))), (sa, .inl (cI, 4, .inl (fun i9 => nI ((σ) i9).2.1))), (pa, .inl (cI, 4, .inl (fun i9 => nI ((σ) i9).2.2)))] s.heap := hP
  have hl := lv_entry ([.ref h, .int x, .int z]) (n := 5) (Nat.le_of_ble_eq_true rfl)
  rw [lg_entry_eq]
  generalize (lg_sl ([.ref h, .int x, .int z]) ++ List.replicate (5 - (lg_sl ([.ref h, .int x, .int z])).length) Slot.unset).toArray = ls at hl ⊢
  have hl : lv_has ls 5 [(0, .ref h), (1, .int x), (2, .int z)] := hl
  refine lv_aload_n hx hb d_M_readFixed_0 rfl (lv_at hl 0 rfl) ?_
  refine lv_iconst (v := 0) hx hb d_M_readFixed_1 (by decide) ?_
  refine va_put (D := D) (ci := 2) (v := .int 0) (ty := .int) (C := R_M) (T := F_M) (N := 6) hx hb hA i_M t_M t_M_ok n_M hown hK hP hD hS 0 rfl rfl 0 (by decide) (hA _ k2_212) (fun _ h9 => h9) rfl (by decide +kernel) rfl rfl (Nat.le_of_ble_eq_true rfl) d_M_readFixed_2 (fun H locs hP hD hS => ?_)
  have hP : va_P D vCl [(h, .inr (2, [.int 0, .int (nI M), .ref cl, .ref sa, .ref pa, .int tk])), (cl, .inl (cL, 32768, .inr (.inl (pkF (σ))))), (sa, .inl (cI, 4, .inl (fun i9 => nI ((σ) i9).2.1))), (pa, .inl (cI, 4, .inl (fun i9 => nI ((σ) i9).2.2)))] H := hP
  have hD : va_D A [(h, .inr (2, [.int 0, .int (nI M), .ref cl, .ref sa, .ref pa, .int tk])), (cl, .inl (cL, 32768, .inr (.inl (pkF (σ))))), (sa, .inl (cI, 4, .inl (fun i9 => nI ((σ) i9).2.1))), (pa, .inl (cI, 4, .inl (fun i9 => nI ((σ) i9).2.2)))] := hD
  refine lv_iload_n hx hb d_M_readFixed_5 rfl (lv_at hl 1 rfl) ?_
  refine vp_callSi (W.runS (As := [.int x]) (rest := []) ⟨hx, hb, hml, hown, hA⟩ (c_M_isRow l x) (q_M_isRow hA k3_1 rfl rfl ⟨(Nat.le_of_ble_eq_true rfl), (Nat.le_of_ble_eq_true rfl)⟩) (⟨fun a U g mk q => q, fun U hU hW => ⟨rfl, trivial⟩⟩) rfl rfl hl.1 rfl (lv_room (Nat.le_of_ble_eq_true rfl)) d_M_readFixed_6 ⟨(Nat.le_of_ble_eq_true rfl), (Nat.le_of_ble_eq_true rfl)⟩) (fun r6 hr6 => ?_)
  rcases hr6 with ⟨hR, rfl⟩ | ⟨hR, rfl⟩
  · refine lv_if_ne (tgt := 19) hx hb d_M_readFixed_9 (by decide) (fun _ => ?_) (fun q9 => absurd q9 (by decide))
    obtain ⟨k, hk0, rfl⟩ := nI_of (show ¬ x < 0 by rw [Int32.lt_iff_toInt_lt, li_0]; exact Int.not_lt.mpr hR.1)
    have hk : k < 4 := by have h9 := hR.2; rw [nI_toInt hk0] at h9; omega
    have hrk : rj (nI k) = k := rj_n hk
    obtain ⟨⟨B, n, p⟩, hρ⟩ : ∃ ρ, σ k = ρ := ⟨_, rfl⟩
    have hk9 := hσ.2 k hk
    have hBσ : ∀ j, (σ k).1 j < 256 := hk9.2.2
    have hnσ : (σ k).2.1 ≤ 65536 := Nat.le_trans hk9.2.1 hσ.1
    rw [hρ] at hk9
    obtain ⟨hp, hn, hB⟩ := hk9
    have hp : p ≤ n := hp
    have hn : n ≤ M := hn
    have hB : ∀ j, B j < 256 := hB
    have hM := hσ.1
    refine lv_iload_n hx hb d_M_readFixed_19 rfl (lv_at hl 2 rfl) ?_
    refine lv_iconst (v := 1) hx hb d_M_readFixed_20 (by decide) ?_
    refine lv_icmp_lt (tgt := 30) hx hb d_M_readFixed_21 (by decide) (fun c21 => ?_) (fun c21 => ?_)
    · have hz2 : ¬ (1 ≤ z.toInt ∧ z.toInt ≤ 8) := by simp only [Int32.lt_iff_toInt_lt, Int32.le_iff_toInt_le, li_0, li_1, li_2, li_3, li_4, li_8, li_10, li_16, li_63, li_127, li_128, li_191, li_192, li_194, li_224, li_240, li_244, li_255, li_2048, li_55296, li_57343, li_65536, li_1114111, li_m1, li_m2] at *; omega
      refine lv_aload_n hx hb d_M_readFixed_30 rfl (lv_at hl 0 rfl) ?_
      refine lv_iconst (v := 2) hx hb d_M_readFixed_31 (by decide) ?_
      have hPc := hP
      have hFc := va_free (wc := [(h, .inr (2, [.int 0, .int (nI M), .ref cl, .ref sa, .ref pa, .int tk])), (cl, .inl (cL, 32768, .inr (.inl (pkF (σ))))), (sa, .inl (cI, 4, .inl (fun i9 => nI ((σ) i9).2.1))), (pa, .inl (cI, 4, .inl (fun i9 => nI ((σ) i9).2.2)))]) hD hS hAq [0, 1, 2, 3] rfl
      have hKc := hK.sub (tys' := [(cL, .long), (cI, .int)]) [0, 1] rfl
      refine va_calli (va_runV (As := [.int 2]) (rest := []) ⟨hx, hb, hml, hown, hA⟩ (c_M_fail l D cL cI h cl sa pa M 0 tk (σ) H.size 2) (q_M_fail hA k3_4 rfl rfl ⟨(Nat.le_of_ble_eq_true rfl), (Nat.le_of_ble_eq_true rfl)⟩) (ox_V (va_recv hKc hPc (ci := 2) (q0 := 0) rfl rfl) (oxw_S hPc hKc hD)) rfl rfl hl.1 rfl (lv_room (Nat.le_of_ble_eq_true rfl)) d_M_readFixed_32 ⟨(Nat.le_of_ble_eq_true rfl), (Nat.le_of_ble_eq_true rfl)⟩) hS (fun q _ h => hFc q h) hFc (fun r32 u9 t9 H1 locs ht9 hvm9 hw9 hB9 hz1 hk1 hS => ?_)
      obtain ⟨hP, hK1, hD1⟩ := hB9
      rw [ht9] at hP
      obtain ⟨hP, hD⟩ := va_join (wr := []) (w1 := rfW cL cI h cl sa pa M 2 tk (σ)) hPc hD [0, 1, 2, 3] [] rfl rfl (by decide) (by decide) hk1 hFc hP hD1
      generalize H1 = H at hP hS ⊢
      have hP : va_P D vCl [(h, .inr (2, [.int 2, .int (nI M), .ref cl, .ref sa, .ref pa, .int tk])), (cl, .inl (cL, 32768, .inr (.inl (pkF (σ))))), (sa, .inl (cI, 4, .inl (fun i9 => nI ((σ) i9).2.1))), (pa, .inl (cI, 4, .inl (fun i9 => nI ((σ) i9).2.2)))] H := hP
      have hD : va_D A [(h, .inr (2, [.int 2, .int (nI M), .ref cl, .ref sa, .ref pa, .int tk])), (cl, .inl (cL, 32768, .inr (.inl (pkF (σ))))), (sa, .inl (cI, 4, .inl (fun i9 => nI ((σ) i9).2.1))), (pa, .inl (cI, 4, .inl (fun i9 => nI ((σ) i9).2.2)))] := hD
      subst hw9
      refine lv_i2l hx hb d_M_readFixed_35 rfl ?_
      refine lv_topl (fun v35 ev35 => ?_)
      have ev35 : v35 = 0 := by rw [ev35]; decide
      subst ev35
      exact W.lret (v := 0) hx hb hr (fun t ht hW => ⟨⟨_, (2, σ, tk), rfl, (by unfold spReadFixed; simp only [hrk, hρ]; rw [if_neg (fun h8 => h8 hR), if_pos hz2]), by rw [ht]; exact hP, va_K.moved hW.alike hK, hD⟩, hS.F ht⟩) hS.2.2 d_M_readFixed_36
    · refine lv_iload_n hx hb d_M_readFixed_24 rfl (lv_at hl 2 rfl) ?_
      refine lv_bipush (v := 8) hx hb d_M_readFixed_25 (by decide) ?_
      refine lv_icmp_le (tgt := 37) hx hb d_M_readFixed_27 (by decide) (fun c27 => ?_) (fun c27 => ?_)
      · have hz2 : 1 ≤ z.toInt ∧ z.toInt ≤ 8 := by simp only [Int32.lt_iff_toInt_lt, Int32.le_iff_toInt_le, li_0, li_1, li_2, li_3, li_4, li_8, li_10, li_16, li_63, li_127, li_128, li_191, li_192, li_194, li_224, li_240, li_244, li_255, li_2048, li_55296, li_57343, li_65536, li_1114111, li_m1, li_m2] at *; omega
        obtain ⟨m2, hm20, rfl⟩ := nI_of (show ¬ z < 0 by rw [Int32.lt_iff_toInt_lt, li_0]; omega)
        have hm2i : (nI m2).toInt = (m2 : Int) := nI_toInt hm20
        have hm2n : (nI m2).toInt.toNat = m2 := by rw [hm2i]; rfl
        have hpi : (nI p).toInt = (p : Int) := nI_toInt (by omega)
        refine lv_aload_n hx hb d_M_readFixed_37 rfl (lv_at hl 0 rfl) ?_
        refine lv_iload_n hx hb d_M_readFixed_38 rfl (lv_at hl 1 rfl) ?_
        refine lv_aload_n hx hb d_M_readFixed_39 rfl (lv_at hl 0 rfl) ?_
        refine va_get (D := D) (ci := 2) (v := .ref pa) (C := R_M) (T := F_M) (N := 6) hx hb hA i_M hown hK hP 0 rfl rfl 4 (by decide) (hA _ k2_216) (fun _ h9 => h9) rfl d_M_readFixed_40 ?_
        refine lv_iload_n hx hb d_M_readFixed_43 rfl (lv_at hl 1 rfl) ?_
        refine va_iald hx hb hK hP 3 1 rfl rfl (vp_in_nI hk (by decide)) d_M_readFixed_44 ?_
        refine lv_topi (fun v44 ev44 => ?_)
        have ev44 : v44 = nI p := by rw [ev44]; show nI ((σ) (nI k).toNatClampNeg).2.2 = _; rw [nI_clamp (by omega), hρ]
        subst ev44
        refine lv_iload_n hx hb d_M_readFixed_45 rfl (lv_at hl 2 rfl) ?_
        have hPc := hP.sub (ws' := [(h, .inr (2, [.int 0, .int (nI M), .ref cl, .ref sa, .ref pa, .int tk])), (cl, .inl (cL, 32768, .inr (.inl (pkF (σ))))), (sa, .inl (cI, 4, .inl (fun i9 => nI ((σ) i9).2.1))), (pa, .inl (cI, 4, .inl (fun i9 => nI ((σ) i9).2.2)))]) [0, 1, 2, 3] rfl
        have hKc := hK.sub (tys' := [(cL, .long), (cI, .int)]) [0, 1] rfl
        refine vp_callSi (W.runV (As := [.int (nI k), .int (nI p), .int (nI m2)]) (rest := []) ⟨hx, hb, hml, hown, hA⟩ (c_M_has l D cL cI h cl sa pa M 0 tk σ k hk hnσ (nI p) (nI m2)) (q_M_has hA k3_62 rfl rfl ⟨(Nat.le_of_ble_eq_true rfl), (Nat.le_of_ble_eq_true rfl)⟩) (ox_V (va_recv hKc hPc (ci := 2) (q0 := 0) rfl rfl) (ox_S hPc hKc)) rfl rfl hl.1 rfl (lv_room (Nat.le_of_ble_eq_true rfl)) d_M_readFixed_46 ⟨(Nat.le_of_ble_eq_true rfl), (Nat.le_of_ble_eq_true rfl)⟩) (fun r46 hr46 => ?_)
        rcases hr46 with ⟨hH, rfl⟩ | ⟨hH, rfl⟩
        · refine lv_if_ne (tgt := 59) hx hb d_M_readFixed_49 (by decide) (fun _ => ?_) (fun q9 => absurd q9 (by decide))
          rw [hρ] at hH
          have hH2 : p + m2 ≤ n := by unfold inr at hH; rw [hpi, hm2i] at hH; have h9 : (0 ≤ (p : Int) ∧ 0 ≤ (m2 : Int) ∧ (p : Int) + m2 ≤ (n : Int)) := hH; omega
          refine lv_aload_n hx hb d_M_readFixed_59 rfl (lv_at hl 0 rfl) ?_
          refine lv_iload_n hx hb d_M_readFixed_60 rfl (lv_at hl 1 rfl) ?_
          refine lv_aload_n hx hb d_M_readFixed_61 rfl (lv_at hl 0 rfl) ?_
          refine va_get (D := D) (ci := 2) (v := .ref pa) (C := R_M) (T := F_M) (N := 6) hx hb hA i_M hown hK hP 0 rfl rfl 4 (by decide) (hA _ k2_216) (fun _ h9 => h9) rfl d_M_readFixed_62 ?_
          refine lv_iload_n hx hb d_M_readFixed_65 rfl (lv_at hl 1 rfl) ?_
          refine va_iald hx hb hK hP 3 1 rfl rfl (vp_in_nI hk (by decide)) d_M_readFixed_66 ?_
          refine lv_topi (fun v66 ev66 => ?_)
          have ev66 : v66 = nI p := by rw [ev66]; show nI ((σ) (nI k).toNatClampNeg).2.2 = _; rw [nI_clamp (by omega), hρ]
          subst ev66
          refine lv_iload_n hx hb d_M_readFixed_67 rfl (lv_at hl 2 rfl) ?_
          have hPc := hP.sub (ws' := [(h, .inr (2, [.int 0, .int (nI M), .ref cl, .ref sa, .ref pa, .int tk])), (cl, .inl (cL, 32768, .inr (.inl (pkF (σ))))), (sa, .inl (cI, 4, .inl (fun i9 => nI ((σ) i9).2.1))), (pa, .inl (cI, 4, .inl (fun i9 => nI ((σ) i9).2.2)))]) [0, 1, 2, 3] rfl
          have hKc := hK.sub (tys' := [(cL, .long), (cI, .int)]) [0, 1] rfl
          refine vp_callSl (W.runV (As := [.int (nI k), .int (nI p), .int (nI m2)]) (rest := []) ⟨hx, hb, hml, hown, hA⟩ (c_M_number l D cL cI h cl sa pa M 0 tk σ k hk hBσ p m2 (by omega) (by omega)) (q_M_number hA k3_103 rfl rfl ⟨(Nat.le_of_ble_eq_true rfl), (Nat.le_of_ble_eq_true rfl)⟩) (ox_V (va_recv hKc hPc (ci := 2) (q0 := 0) rfl rfl) (ox_S hPc hKc)) rfl rfl hl.1 rfl (lv_room (Nat.le_of_ble_eq_true rfl)) d_M_readFixed_68 ⟨(Nat.le_of_ble_eq_true rfl), (Nat.le_of_ble_eq_true rfl)⟩) (fun r68 hr68 => ?_)
          have er68 : r68 = lN (fx B p m2) := by rw [hr68, hρ]
          subst er68
          refine lv_lstore_n (lv' := [(3, .long (lN (fx B p m2))), (0, .ref h), (1, .int (nI k)), (2, .int (nI m2))]) hx hb d_M_readFixed_71 rfl hl (by decide) rfl (fun ls hl => ?_)
          rw [up_id hρ] at hP hD
          have hP : va_P D vCl [(h, .inr (2, [.int 0, .int (nI M), .ref cl, .ref sa, .ref pa, .int tk])), (cl, .inl (cL, 32768, .inr (.inl (pkF (va_up σ k (B, n, p)))))), (sa, .inl (cI, 4, .inl (fun i9 => nI ((va_up σ k (B, n, p)) i9).2.1))), (pa, .inl (cI, 4, .inl (fun i9 => nI ((va_up σ k (B, n, p)) i9).2.2)))] H := hP
          have hD : va_D A [(h, .inr (2, [.int 0, .int (nI M), .ref cl, .ref sa, .ref pa, .int tk])), (cl, .inl (cL, 32768, .inr (.inl (pkF (va_up σ k (B, n, p)))))), (sa, .inl (cI, 4, .inl (fun i9 => nI ((va_up σ k (B, n, p)) i9).2.1))), (pa, .inl (cI, 4, .inl (fun i9 => nI ((va_up σ k (B, n, p)) i9).2.2)))] := hD
          refine lv_aload_n hx hb d_M_readFixed_72 rfl (lv_at hl 1 rfl) ?_
          refine va_get (D := D) (ci := 2) (v := .ref pa) (C := R_M) (T := F_M) (N := 6) hx hb hA i_M hown hK hP 0 rfl rfl 4 (by decide) (hA _ k2_216) (fun _ h9 => h9) rfl d_M_readFixed_73 ?_
          refine lv_iload_n hx hb d_M_readFixed_76 rfl (lv_at hl 2 rfl) ?_
          refine lv_dup2_11 hx hb d_M_readFixed_77 rfl rfl ?_
          refine va_iald hx hb hK hP 3 1 rfl rfl (vp_in_nI hk (by decide)) d_M_readFixed_78 ?_
          refine lv_topi (fun v78 ev78 => ?_)
          have ev78 : v78 = nI p := by rw [ev78]; show nI ((va_up σ k (B, n, p)) (nI k).toNatClampNeg).2.2 = _; rw [nI_clamp (by omega), up_s]
          subst ev78
          refine lv_iload_n hx hb d_M_readFixed_79 rfl (lv_at hl 3 rfl) ?_
          refine lv_iadd hx hb d_M_readFixed_80 ?_
          refine lv_topi (fun v80 ev80 => ?_)
          have ev80 : v80 = nI (p + m2) := by rw [ev80]; exact nI_add _ _
          subst ev80
          refine va_iast hx hb hK hP hD hS 3 1 rfl rfl (vp_in_nI hk (by decide)) d_M_readFixed_81 (fun H locs hP hD hS => ?_)
          have hP : va_P D vCl [(h, .inr (2, [.int 0, .int (nI M), .ref cl, .ref sa, .ref pa, .int tk])), (cl, .inl (cL, 32768, .inr (.inl (pkF (va_up σ k (B, n, p)))))), (sa, .inl (cI, 4, .inl (fun i9 => nI ((va_up σ k (B, n, p)) i9).2.1))), (pa, .inl (cI, 4, .inl (upd (fun i9 => nI ((va_up σ k (B, n, p)) i9).2.2) (nI k).toNatClampNeg (nI (p + m2)))))] H := hP
          have hD : va_D A [(h, .inr (2, [.int 0, .int (nI M), .ref cl, .ref sa, .ref pa, .int tk])), (cl, .inl (cL, 32768, .inr (.inl (pkF (va_up σ k (B, n, p)))))), (sa, .inl (cI, 4, .inl (fun i9 => nI ((va_up σ k (B, n, p)) i9).2.1))), (pa, .inl (cI, 4, .inl (upd (fun i9 => nI ((va_up σ k (B, n, p)) i9).2.2) (nI k).toNatClampNeg (nI (p + m2)))))] := hD
          rw [pl_up (σ) hk B B n p n (p + m2), pc_nc (σ) k B n p n (p + m2), sz_nc (σ) k B B n p (p + m2)] at hP hD
          have hP : va_P D vCl [(h, .inr (2, [.int 0, .int (nI M), .ref cl, .ref sa, .ref pa, .int tk])), (cl, .inl (cL, 32768, .inr (.inl (pkF (va_up (σ) k (B, n, p + m2)))))), (sa, .inl (cI, 4, .inl (fun i9 => nI ((va_up (σ) k (B, n, p + m2)) i9).2.1))), (pa, .inl (cI, 4, .inl (fun i9 => nI ((va_up (σ) k (B, n, p + m2)) i9).2.2)))] H := hP
          have hD : va_D A [(h, .inr (2, [.int 0, .int (nI M), .ref cl, .ref sa, .ref pa, .int tk])), (cl, .inl (cL, 32768, .inr (.inl (pkF (va_up (σ) k (B, n, p + m2)))))), (sa, .inl (cI, 4, .inl (fun i9 => nI ((va_up (σ) k (B, n, p + m2)) i9).2.1))), (pa, .inl (cI, 4, .inl (fun i9 => nI ((va_up (σ) k (B, n, p + m2)) i9).2.2)))] := hD
          refine lv_lload_n hx hb d_M_readFixed_82 rfl (lv_at hl 0 rfl) ?_
          exact W.lret (v := lN (fx B p m2)) hx hb hr (fun t ht hW => ⟨⟨_, (0, va_up σ k (B, n, p + m2), tk), rfl, (by unfold spReadFixed; simp only [hrk, hρ]; rw [if_neg (fun h8 => h8 hR), if_neg (fun h8 => h8 hz2), hm2n, if_neg (Nat.not_lt.mpr hH2)]), by rw [ht]; exact hP, va_K.moved hW.alike hK, hD⟩, hS.F ht⟩) hS.2.2 d_M_readFixed_83
        · refine lv_if_ne (tgt := 59) hx hb d_M_readFixed_49 (by decide) (fun q9 => absurd (by decide) q9) (fun _ => ?_)
          rw [hρ] at hH
          have hH2 : n < p + m2 := by unfold inr at hH; rw [hpi, hm2i] at hH; have h9 : ¬ (0 ≤ (p : Int) ∧ 0 ≤ (m2 : Int) ∧ (p : Int) + m2 ≤ (n : Int)) := hH; omega
          refine lv_aload_n hx hb d_M_readFixed_52 rfl (lv_at hl 0 rfl) ?_
          refine lv_iconst (v := 3) hx hb d_M_readFixed_53 (by decide) ?_
          have hPc := hP
          have hFc := va_free (wc := [(h, .inr (2, [.int 0, .int (nI M), .ref cl, .ref sa, .ref pa, .int tk])), (cl, .inl (cL, 32768, .inr (.inl (pkF (σ))))), (sa, .inl (cI, 4, .inl (fun i9 => nI ((σ) i9).2.1))), (pa, .inl (cI, 4, .inl (fun i9 => nI ((σ) i9).2.2)))]) hD hS hAq [0, 1, 2, 3] rfl
          have hKc := hK.sub (tys' := [(cL, .long), (cI, .int)]) [0, 1] rfl
          refine va_calli (va_runV (As := [.int 3]) (rest := []) ⟨hx, hb, hml, hown, hA⟩ (c_M_fail l D cL cI h cl sa pa M 0 tk (σ) H.size 3) (q_M_fail hA k3_4 rfl rfl ⟨(Nat.le_of_ble_eq_true rfl), (Nat.le_of_ble_eq_true rfl)⟩) (ox_V (va_recv hKc hPc (ci := 2) (q0 := 0) rfl rfl) (oxw_S hPc hKc hD)) rfl rfl hl.1 rfl (lv_room (Nat.le_of_ble_eq_true rfl)) d_M_readFixed_54 ⟨(Nat.le_of_ble_eq_true rfl), (Nat.le_of_ble_eq_true rfl)⟩) hS (fun q _ h => hFc q h) hFc (fun r54 u9 t9 H1 locs ht9 hvm9 hw9 hB9 hz1 hk1 hS => ?_)
          obtain ⟨hP, hK1, hD1⟩ := hB9
          rw [ht9] at hP
          obtain ⟨hP, hD⟩ := va_join (wr := []) (w1 := rfW cL cI h cl sa pa M 3 tk (σ)) hPc hD [0, 1, 2, 3] [] rfl rfl (by decide) (by decide) hk1 hFc hP hD1
          generalize H1 = H at hP hS ⊢
          have hP : va_P D vCl [(h, .inr (2, [.int 3, .int (nI M), .ref cl, .ref sa, .ref pa, .int tk])), (cl, .inl (cL, 32768, .inr (.inl (pkF (σ))))), (sa, .inl (cI, 4, .inl (fun i9 => nI ((σ) i9).2.1))), (pa, .inl (cI, 4, .inl (fun i9 => nI ((σ) i9).2.2)))] H := hP
          have hD : va_D A [(h, .inr (2, [.int 3, .int (nI M), .ref cl, .ref sa, .ref pa, .int tk])), (cl, .inl (cL, 32768, .inr (.inl (pkF (σ))))), (sa, .inl (cI, 4, .inl (fun i9 => nI ((σ) i9).2.1))), (pa, .inl (cI, 4, .inl (fun i9 => nI ((σ) i9).2.2)))] := hD
          subst hw9
          refine lv_i2l hx hb d_M_readFixed_57 rfl ?_
          refine lv_topl (fun v57 ev57 => ?_)
          have ev57 : v57 = 0 := by rw [ev57]; decide
          subst ev57
          exact W.lret (v := 0) hx hb hr (fun t ht hW => ⟨⟨_, (3, σ, tk), rfl, (by unfold spReadFixed; simp only [hrk, hρ]; rw [if_neg (fun h8 => h8 hR), if_neg (fun h8 => h8 hz2), hm2n, if_pos hH2]), by rw [ht]; exact hP, va_K.moved hW.alike hK, hD⟩, hS.F ht⟩) hS.2.2 d_M_readFixed_58
      · have hz2 : ¬ (1 ≤ z.toInt ∧ z.toInt ≤ 8) := by simp only [Int32.lt_iff_toInt_lt, Int32.le_iff_toInt_le, li_0, li_1, li_2, li_3, li_4, li_8, li_10, li_16, li_63, li_127, li_128, li_191, li_192, li_194, li_224, li_240, li_244, li_255, li_2048, li_55296, li_57343, li_65536, li_1114111, li_m1, li_m2] at *; omega
        refine lv_aload_n hx hb d_M_readFixed_30 rfl (lv_at hl 0 rfl) ?_
        refine lv_iconst (v := 2) hx hb d_M_readFixed_31 (by decide) ?_
        have hPc := hP
        have hFc := va_free (wc := [(h, .inr (2, [.int 0, .int (nI M), .ref cl, .ref sa, .ref pa, .int tk])), (cl, .inl (cL, 32768, .inr (.inl (pkF (σ))))), (sa, .inl (cI, 4, .inl (fun i9 => nI ((σ) i9).2.1))), (pa, .inl (cI, 4, .inl (fun i9 => nI ((σ) i9).2.2)))]) hD hS hAq [0, 1, 2, 3] rfl
        have hKc := hK.sub (tys' := [(cL, .long), (cI, .int)]) [0, 1] rfl
        refine va_calli (va_runV (As := [.int 2]) (rest := []) ⟨hx, hb, hml, hown, hA⟩ (c_M_fail l D cL cI h cl sa pa M 0 tk (σ) H.size 2) (q_M_fail hA k3_4 rfl rfl ⟨(Nat.le_of_ble_eq_true rfl), (Nat.le_of_ble_eq_true rfl)⟩) (ox_V (va_recv hKc hPc (ci := 2) (q0 := 0) rfl rfl) (oxw_S hPc hKc hD)) rfl rfl hl.1 rfl (lv_room (Nat.le_of_ble_eq_true rfl)) d_M_readFixed_32 ⟨(Nat.le_of_ble_eq_true rfl), (Nat.le_of_ble_eq_true rfl)⟩) hS (fun q _ h => hFc q h) hFc (fun r32 u9 t9 H1 locs ht9 hvm9 hw9 hB9 hz1 hk1 hS => ?_)
        obtain ⟨hP, hK1, hD1⟩ := hB9
        rw [ht9] at hP
        obtain ⟨hP, hD⟩ := va_join (wr := []) (w1 := rfW cL cI h cl sa pa M 2 tk (σ)) hPc hD [0, 1, 2, 3] [] rfl rfl (by decide) (by decide) hk1 hFc hP hD1
        generalize H1 = H at hP hS ⊢
        have hP : va_P D vCl [(h, .inr (2, [.int 2, .int (nI M), .ref cl, .ref sa, .ref pa, .int tk])), (cl, .inl (cL, 32768, .inr (.inl (pkF (σ))))), (sa, .inl (cI, 4, .inl (fun i9 => nI ((σ) i9).2.1))), (pa, .inl (cI, 4, .inl (fun i9 => nI ((σ) i9).2.2)))] H := hP
        have hD : va_D A [(h, .inr (2, [.int 2, .int (nI M), .ref cl, .ref sa, .ref pa, .int tk])), (cl, .inl (cL, 32768, .inr (.inl (pkF (σ))))), (sa, .inl (cI, 4, .inl (fun i9 => nI ((σ) i9).2.1))), (pa, .inl (cI, 4, .inl (fun i9 => nI ((σ) i9).2.2)))] := hD
        subst hw9
        refine lv_i2l hx hb d_M_readFixed_35 rfl ?_
        refine lv_topl (fun v35 ev35 => ?_)
        have ev35 : v35 = 0 := by rw [ev35]; decide
        subst ev35
        exact W.lret (v := 0) hx hb hr (fun t ht hW => ⟨⟨_, (2, σ, tk), rfl, (by unfold spReadFixed; simp only [hrk, hρ]; rw [if_neg (fun h8 => h8 hR), if_pos hz2]), by rw [ht]; exact hP, va_K.moved hW.alike hK, hD⟩, hS.F ht⟩) hS.2.2 d_M_readFixed_36
  · refine lv_if_ne (tgt := 19) hx hb d_M_readFixed_9 (by decide) (fun q9 => absurd (by decide) q9) (fun _ => ?_)
    refine lv_aload_n hx hb d_M_readFixed_12 rfl (lv_at hl 0 rfl) ?_
    refine lv_iconst (v := 1) hx hb d_M_readFixed_13 (by decide) ?_
    have hPc := hP
    have hFc := va_free (wc := [(h, .inr (2, [.int 0, .int (nI M), .ref cl, .ref sa, .ref pa, .int tk])), (cl, .inl (cL, 32768, .inr (.inl (pkF (σ))))), (sa, .inl (cI, 4, .inl (fun i9 => nI ((σ) i9).2.1))), (pa, .inl (cI, 4, .inl (fun i9 => nI ((σ) i9).2.2)))]) hD hS hAq [0, 1, 2, 3] rfl
    have hKc := hK.sub (tys' := [(cL, .long), (cI, .int)]) [0, 1] rfl
    refine va_calli (va_runV (As := [.int 1]) (rest := []) ⟨hx, hb, hml, hown, hA⟩ (c_M_fail l D cL cI h cl sa pa M 0 tk (σ) H.size 1) (q_M_fail hA k3_4 rfl rfl ⟨(Nat.le_of_ble_eq_true rfl), (Nat.le_of_ble_eq_true rfl)⟩) (ox_V (va_recv hKc hPc (ci := 2) (q0 := 0) rfl rfl) (oxw_S hPc hKc hD)) rfl rfl hl.1 rfl (lv_room (Nat.le_of_ble_eq_true rfl)) d_M_readFixed_14 ⟨(Nat.le_of_ble_eq_true rfl), (Nat.le_of_ble_eq_true rfl)⟩) hS (fun q _ h => hFc q h) hFc (fun r14 u9 t9 H1 locs ht9 hvm9 hw9 hB9 hz1 hk1 hS => ?_)
    obtain ⟨hP, hK1, hD1⟩ := hB9
    rw [ht9] at hP
    obtain ⟨hP, hD⟩ := va_join (wr := []) (w1 := rfW cL cI h cl sa pa M 1 tk (σ)) hPc hD [0, 1, 2, 3] [] rfl rfl (by decide) (by decide) hk1 hFc hP hD1
    generalize H1 = H at hP hS ⊢
    have hP : va_P D vCl [(h, .inr (2, [.int 1, .int (nI M), .ref cl, .ref sa, .ref pa, .int tk])), (cl, .inl (cL, 32768, .inr (.inl (pkF (σ))))), (sa, .inl (cI, 4, .inl (fun i9 => nI ((σ) i9).2.1))), (pa, .inl (cI, 4, .inl (fun i9 => nI ((σ) i9).2.2)))] H := hP
    have hD : va_D A [(h, .inr (2, [.int 1, .int (nI M), .ref cl, .ref sa, .ref pa, .int tk])), (cl, .inl (cL, 32768, .inr (.inl (pkF (σ))))), (sa, .inl (cI, 4, .inl (fun i9 => nI ((σ) i9).2.1))), (pa, .inl (cI, 4, .inl (fun i9 => nI ((σ) i9).2.2)))] := hD
    subst hw9
    refine lv_i2l hx hb d_M_readFixed_17 rfl ?_
    refine lv_topl (fun v17 ev17 => ?_)
    have ev17 : v17 = 0 := by rw [ev17]; decide
    subst ev17
    exact W.lret (v := 0) hx hb hr (fun t ht hW => ⟨⟨_, (1, σ, tk), rfl, (by unfold spReadFixed; rw [if_pos hR]), by rw [ht]; exact hP, va_K.moved hW.alike hK, hD⟩, hS.F ht⟩) hS.2.2 d_M_readFixed_18
set_option maxHeartbeats 600000 in
set_option maxRecDepth 100000 in
/-- readSevens -/
theorem c_M_readSevens (l : Launch) (D : va_G) (cL cI : ClassId) (h cl sa pa M : Nat) (th tk : Int32) (σ : dkS) (sz : Nat) (x : Int32) (hσ : dkok M σ) : Met l y_M_readSevens w_M_readSevens ({ frames := 2, cells := 0, slots := 0, locals := 49 }) (va_Pc [.ref h, .int x] (oxw sz D [(cL, .long), (cI, .int)] [(h, .inr (2, [.int th, .int (nI M), .ref cl, .ref sa, .ref pa, .int tk])), (cl, .inl (cL, 32768, .inr (.inl (pkF (σ))))), (sa, .inl (cI, 4, .inl (fun i9 => nI ((σ) i9).2.1))), (pa, .inl (cI, 4, .inl (fun i9 => nI ((σ) i9).2.2)))])) (va_Ql (fun (r : Int64) (uu : Nat × dkS × Int32) => spReadSevens σ x = (uu.1, r, uu.2.1)) (fun uu => ow D [(cL, .long), (cI, .int)] (va_A [(h, .inr (2, [.int th, .int (nI M), .ref cl, .ref sa, .ref pa, .int tk])), (cl, .inl (cL, 32768, .inr (.inl (pkF (σ))))), (sa, .inl (cI, 4, .inl (fun i9 => nI ((σ) i9).2.1))), (pa, .inl (cI, 4, .inl (fun i9 => nI ((σ) i9).2.2)))] sz) (rfW cL cI h cl sa pa M (nI uu.1) uu.2.2 uu.2.1)) (va_A [(h, .inr (2, [.int th, .int (nI M), .ref cl, .ref sa, .ref pa, .int tk])), (cl, .inl (cL, 32768, .inr (.inl (pkF (σ))))), (sa, .inl (cI, 4, .inl (fun i9 => nI ((σ) i9).2.1))), (pa, .inl (cI, 4, .inl (fun i9 => nI ((σ) i9).2.2)))] sz)) 0 0 (va_A [(h, .inr (2, [.int th, .int (nI M), .ref cl, .ref sa, .ref pa, .int tk])), (cl, .inl (cL, 32768, .inr (.inl (pkF (σ))))), (sa, .inl (cI, 4, .inl (fun i9 => nI ((σ) i9).2.1))), (pa, .inl (cI, 4, .inl (fun i9 => nI ((σ) i9).2.2)))] sz) := by
  refine Met.ofW (cc := b_M_readSevens) (maxL := 4) (ret := (some .long)) (by decide) rfl ?_
  intro p9 e9 s m args below meth c9 s₁ BL hml hv
  obtain ⟨rfl, hsz, hP, hK, hD0⟩ := hv
  have hx := BL.exec
  have hb := BL.bytes
  have hr := BL.returns
  have hts := atoms_spec (ws := w_M_readSevens) BL.pre
  have hA : ∀ w ∈ wsA, w.before _ s = true := fun w h => hts w (List.mem_cons_of_mem _ h)
  have hown : s.vm.findClass R_M = some m.cls := findClass_of_methodNamed BL.named
  have hlocks := BL.notSynchronized
  subst hsz
  have hD := hD0.self (sz := s.heap.size)
  generalize hAe : va_A [(h, .inr (2, [.int th, .int (nI M), .ref cl, .ref sa, .ref pa, .int tk])), (cl, .inl (cL, 32768, .inr (.inl (pkF (σ))))), (sa, .inl (cI, 4, .inl (fun i9 => nI ((σ) i9).2.1))), (pa, .inl (cI, 4, .inl (fun i9 => nI ((σ) i9).2.2)))] s.heap.size = A at hD ⊢
  have hAq : ∀ q : Nat, s.heap.size ≤ q → A q := fun q h => by rw [← hAe]; exact Or.inr h
  have hS : va_S A s.heap s.heap [] := va_S.rf
  have hP : va_P D vCl [(h, .inr (2, [.int th, .int (nI M), .ref cl, .ref sa, .ref pa, .int tk])), (cl, .inl (cL, 32768, .inr (.inl (pkF (σ))))), (sa, .inl (cI, 4, .inl (fun i9 => nI ((σ) i9).2.1))), (pa, .inl (cI, 4, .inl (fun i9 => nI ((σ) i9).2.2)))] s.heap := hP
  have hl := lv_entry ([.ref h, .int x]) (n := 4) (Nat.le_of_ble_eq_true rfl)
  rw [lg_entry_eq]
  generalize (lg_sl ([.ref h, .int x]) ++ List.replicate (4 - (lg_sl ([.ref h, .int x])).length) Slot.unset).toArray = ls at hl ⊢
  have hl : lv_has ls 4 [(0, .ref h), (1, .int x)] := hl
  refine lv_aload_n hx hb d_M_readSevens_0 rfl (lv_at hl 0 rfl) ?_
  refine lv_iconst (v := 0) hx hb d_M_readSevens_1 (by decide) ?_
  refine va_put (D := D) (ci := 2) (v := .int 0) (ty := .int) (C := R_M) (T := F_M) (N := 6) hx hb hA i_M t_M t_M_ok n_M hown hK hP hD hS 0 rfl rfl 0 (by decide) (hA _ k2_212) (fun _ h9 => h9) rfl (by decide +kernel) rfl rfl (Nat.le_of_ble_eq_true rfl) d_M_readSevens_2 (fun H locs hP hD hS => ?_)
  have hP : va_P D vCl [(h, .inr (2, [.int 0, .int (nI M), .ref cl, .ref sa, .ref pa, .int tk])), (cl, .inl (cL, 32768, .inr (.inl (pkF (σ))))), (sa, .inl (cI, 4, .inl (fun i9 => nI ((σ) i9).2.1))), (pa, .inl (cI, 4, .inl (fun i9 => nI ((σ) i9).2.2)))] H := hP
  have hD : va_D A [(h, .inr (2, [.int 0, .int (nI M), .ref cl, .ref sa, .ref pa, .int tk])), (cl, .inl (cL, 32768, .inr (.inl (pkF (σ))))), (sa, .inl (cI, 4, .inl (fun i9 => nI ((σ) i9).2.1))), (pa, .inl (cI, 4, .inl (fun i9 => nI ((σ) i9).2.2)))] := hD
  refine lv_iload_n hx hb d_M_readSevens_5 rfl (lv_at hl 1 rfl) ?_
  refine vp_callSi (W.runS (As := [.int x]) (rest := []) ⟨hx, hb, hml, hown, hA⟩ (c_M_isRow l x) (q_M_isRow hA k3_1 rfl rfl ⟨(Nat.le_of_ble_eq_true rfl), (Nat.le_of_ble_eq_true rfl)⟩) (⟨fun a U g mk q => q, fun U hU hW => ⟨rfl, trivial⟩⟩) rfl rfl hl.1 rfl (lv_room (Nat.le_of_ble_eq_true rfl)) d_M_readSevens_6 ⟨(Nat.le_of_ble_eq_true rfl), (Nat.le_of_ble_eq_true rfl)⟩) (fun r6 hr6 => ?_)
  rcases hr6 with ⟨hR, rfl⟩ | ⟨hR, rfl⟩
  · refine lv_if_ne (tgt := 19) hx hb d_M_readSevens_9 (by decide) (fun _ => ?_) (fun q9 => absurd q9 (by decide))
    obtain ⟨k, hk0, rfl⟩ := nI_of (show ¬ x < 0 by rw [Int32.lt_iff_toInt_lt, li_0]; exact Int.not_lt.mpr hR.1)
    have hk : k < 4 := by have h9 := hR.2; rw [nI_toInt hk0] at h9; omega
    have hrk : rj (nI k) = k := rj_n hk
    obtain ⟨⟨B, n, p⟩, hρ⟩ : ∃ ρ, σ k = ρ := ⟨_, rfl⟩
    have hk9 := hσ.2 k hk
    have hBσ : ∀ j, (σ k).1 j < 256 := hk9.2.2
    have hnσ : (σ k).2.1 ≤ 65536 := Nat.le_trans hk9.2.1 hσ.1
    rw [hρ] at hk9
    obtain ⟨hp, hn, hB⟩ := hk9
    have hp : p ≤ n := hp
    have hn : n ≤ M := hn
    have hB : ∀ j, B j < 256 := hB
    have hM := hσ.1
    refine lv_aload_n hx hb d_M_readSevens_19 rfl (lv_at hl 0 rfl) ?_
    refine lv_iload_n hx hb d_M_readSevens_20 rfl (lv_at hl 1 rfl) ?_
    refine lv_aload_n hx hb d_M_readSevens_21 rfl (lv_at hl 0 rfl) ?_
    refine va_get (D := D) (ci := 2) (v := .ref pa) (C := R_M) (T := F_M) (N := 6) hx hb hA i_M hown hK hP 0 rfl rfl 4 (by decide) (hA _ k2_216) (fun _ h9 => h9) rfl d_M_readSevens_22 ?_
    refine lv_iload_n hx hb d_M_readSevens_25 rfl (lv_at hl 1 rfl) ?_
    refine va_iald hx hb hK hP 3 1 rfl rfl (vp_in_nI hk (by decide)) d_M_readSevens_26 ?_
    refine lv_topi (fun v26 ev26 => ?_)
    have ev26 : v26 = nI p := by rw [ev26]; show nI ((σ) (nI k).toNatClampNeg).2.2 = _; rw [nI_clamp (by omega), hρ]
    subst ev26
    have hPc := hP
    have hFc := va_free (wc := [(h, .inr (2, [.int 0, .int (nI M), .ref cl, .ref sa, .ref pa, .int tk])), (cl, .inl (cL, 32768, .inr (.inl (pkF (σ))))), (sa, .inl (cI, 4, .inl (fun i9 => nI ((σ) i9).2.1))), (pa, .inl (cI, 4, .inl (fun i9 => nI ((σ) i9).2.2)))]) hD hS hAq [0, 1, 2, 3] rfl
    have hKc := hK.sub (tys' := [(cL, .long), (cI, .int)]) [0, 1] rfl
    refine va_calll (va_runV (As := [.int (nI k), .int (nI p)]) (rest := []) ⟨hx, hb, hml, hown, hA⟩ (c_M_grouped l D cL cI h cl sa pa M 0 tk σ H.size k hk hBσ hnσ p (by rw [hρ]; exact hp)) (q_M_grouped hA k3_111 rfl rfl ⟨(Nat.le_of_ble_eq_true rfl), (Nat.le_of_ble_eq_true rfl)⟩) (ox_V (va_recv hKc hPc (ci := 2) (q0 := 0) rfl rfl) (oxw_S hPc hKc hD)) rfl rfl hl.1 rfl (lv_room (Nat.le_of_ble_eq_true rfl)) d_M_readSevens_27 ⟨(Nat.le_of_ble_eq_true rfl), (Nat.le_of_ble_eq_true rfl)⟩) hS (fun q _ h => hFc q h) hFc (fun r27 u9 t9 H1 locs ht9 hvm9 hw9 hB9 hz1 hk1 hS => ?_)
    obtain ⟨hP, hK1, hD1⟩ := hB9
    rw [ht9] at hP
    obtain ⟨hP, hD⟩ := va_join (wr := []) (w1 := rfW cL cI h cl sa pa M 0 u9 (σ)) hPc hD [0, 1, 2, 3] [] rfl rfl (by decide) (by decide) hk1 hFc hP hD1
    generalize H1 = H at hP hS ⊢
    have hP : va_P D vCl [(h, .inr (2, [.int 0, .int (nI M), .ref cl, .ref sa, .ref pa, .int u9])), (cl, .inl (cL, 32768, .inr (.inl (pkF (σ))))), (sa, .inl (cI, 4, .inl (fun i9 => nI ((σ) i9).2.1))), (pa, .inl (cI, 4, .inl (fun i9 => nI ((σ) i9).2.2)))] H := hP
    have hD : va_D A [(h, .inr (2, [.int 0, .int (nI M), .ref cl, .ref sa, .ref pa, .int u9])), (cl, .inl (cL, 32768, .inr (.inl (pkF (σ))))), (sa, .inl (cI, 4, .inl (fun i9 => nI ((σ) i9).2.1))), (pa, .inl (cI, 4, .inl (fun i9 => nI ((σ) i9).2.2)))] := hD
    rcases hw9 with ⟨hg, rfl, rfl⟩ | ⟨hg, rfl, rfl⟩ | ⟨w, hg, rfl, hr9⟩
    · rw [hρ] at hg
      have hg : gw B p n 10 = -2 := hg
      refine lv_lstore_n (lv' := [(2, .long 0), (0, .ref h), (1, .int (nI k))]) hx hb d_M_readSevens_30 rfl hl (by decide) rfl (fun ls hl => ?_)
      refine lv_aload_n hx hb d_M_readSevens_31 rfl (lv_at hl 1 rfl) ?_
      refine va_get (D := D) (ci := 2) (v := .int (-2)) (C := R_M) (T := F_M) (N := 6) hx hb hA i_M hown hK hP 0 rfl rfl 5 (by decide) (hA _ k2_217) (fun _ h9 => h9) rfl d_M_readSevens_32 ?_
      refine lv_if_ge (tgt := 44) hx hb d_M_readSevens_35 (by decide) (fun q9 => absurd q9 (by decide)) (fun _ => ?_)
      refine lv_aload_n hx hb d_M_readSevens_38 rfl (lv_at hl 1 rfl) ?_
      have hPc := hP
      have hFc := va_free (wc := [(h, .inr (2, [.int 0, .int (nI M), .ref cl, .ref sa, .ref pa, .int (-2)])), (cl, .inl (cL, 32768, .inr (.inl (pkF (σ))))), (sa, .inl (cI, 4, .inl (fun i9 => nI ((σ) i9).2.1))), (pa, .inl (cI, 4, .inl (fun i9 => nI ((σ) i9).2.2)))]) hD hS hAq [0, 1, 2, 3] rfl
      have hKc := hK.sub (tys' := [(cL, .long), (cI, .int)]) [0, 1] rfl
      refine va_calli (va_runV (As := []) (rest := []) ⟨hx, hb, hml, hown, hA⟩ (c_M_failed l D cL cI h cl sa pa M 0 (-2) (σ) H.size 2 (by decide)) (q_M_failed hA k3_115 rfl rfl ⟨(Nat.le_of_ble_eq_true rfl), (Nat.le_of_ble_eq_true rfl)⟩) (ox_V (va_recv hKc hPc (ci := 2) (q0 := 0) rfl rfl) (oxw_S hPc hKc hD)) rfl rfl hl.1 rfl (lv_room (Nat.le_of_ble_eq_true rfl)) d_M_readSevens_39 ⟨(Nat.le_of_ble_eq_true rfl), (Nat.le_of_ble_eq_true rfl)⟩) hS (fun q _ h => hFc q h) hFc (fun r39 u9 t9 H1 locs ht9 hvm9 hw9 hB9 hz1 hk1 hS => ?_)
      obtain ⟨hP, hK1, hD1⟩ := hB9
      rw [ht9] at hP
      obtain ⟨hP, hD⟩ := va_join (wr := []) (w1 := rfW cL cI h cl sa pa M 2 (-2) (σ)) hPc hD [0, 1, 2, 3] [] rfl rfl (by decide) (by decide) hk1 hFc hP hD1
      generalize H1 = H at hP hS ⊢
      have hP : va_P D vCl [(h, .inr (2, [.int 2, .int (nI M), .ref cl, .ref sa, .ref pa, .int (-2)])), (cl, .inl (cL, 32768, .inr (.inl (pkF (σ))))), (sa, .inl (cI, 4, .inl (fun i9 => nI ((σ) i9).2.1))), (pa, .inl (cI, 4, .inl (fun i9 => nI ((σ) i9).2.2)))] H := hP
      have hD : va_D A [(h, .inr (2, [.int 2, .int (nI M), .ref cl, .ref sa, .ref pa, .int (-2)])), (cl, .inl (cL, 32768, .inr (.inl (pkF (σ))))), (sa, .inl (cI, 4, .inl (fun i9 => nI ((σ) i9).2.1))), (pa, .inl (cI, 4, .inl (fun i9 => nI ((σ) i9).2.2)))] := hD
      subst hw9
      refine lv_i2l hx hb d_M_readSevens_42 rfl ?_
      refine lv_topl (fun v42 ev42 => ?_)
      have ev42 : v42 = 0 := by rw [ev42]; decide
      subst ev42
      exact W.lret (v := 0) hx hb hr (fun t ht hW => ⟨⟨_, (2, σ, (-2)), rfl, (by unfold spReadSevens gwσ; simp only [hrk, hρ]; rw [if_neg (fun h8 => h8 hR), if_pos hg]), by rw [ht]; exact hP, va_K.moved hW.alike hK, hD⟩, hS.F ht⟩) hS.2.2 d_M_readSevens_43
    · rw [hρ] at hg
      have hg : gw B p n 10 = -3 := hg
      refine lv_lstore_n (lv' := [(2, .long 0), (0, .ref h), (1, .int (nI k))]) hx hb d_M_readSevens_30 rfl hl (by decide) rfl (fun ls hl => ?_)
      refine lv_aload_n hx hb d_M_readSevens_31 rfl (lv_at hl 1 rfl) ?_
      refine va_get (D := D) (ci := 2) (v := .int (-3)) (C := R_M) (T := F_M) (N := 6) hx hb hA i_M hown hK hP 0 rfl rfl 5 (by decide) (hA _ k2_217) (fun _ h9 => h9) rfl d_M_readSevens_32 ?_
      refine lv_if_ge (tgt := 44) hx hb d_M_readSevens_35 (by decide) (fun q9 => absurd q9 (by decide)) (fun _ => ?_)
      refine lv_aload_n hx hb d_M_readSevens_38 rfl (lv_at hl 1 rfl) ?_
      have hPc := hP
      have hFc := va_free (wc := [(h, .inr (2, [.int 0, .int (nI M), .ref cl, .ref sa, .ref pa, .int (-3)])), (cl, .inl (cL, 32768, .inr (.inl (pkF (σ))))), (sa, .inl (cI, 4, .inl (fun i9 => nI ((σ) i9).2.1))), (pa, .inl (cI, 4, .inl (fun i9 => nI ((σ) i9).2.2)))]) hD hS hAq [0, 1, 2, 3] rfl
      have hKc := hK.sub (tys' := [(cL, .long), (cI, .int)]) [0, 1] rfl
      refine va_calli (va_runV (As := []) (rest := []) ⟨hx, hb, hml, hown, hA⟩ (c_M_failed l D cL cI h cl sa pa M 0 (-3) (σ) H.size 3 (by decide)) (q_M_failed hA k3_115 rfl rfl ⟨(Nat.le_of_ble_eq_true rfl), (Nat.le_of_ble_eq_true rfl)⟩) (ox_V (va_recv hKc hPc (ci := 2) (q0 := 0) rfl rfl) (oxw_S hPc hKc hD)) rfl rfl hl.1 rfl (lv_room (Nat.le_of_ble_eq_true rfl)) d_M_readSevens_39 ⟨(Nat.le_of_ble_eq_true rfl), (Nat.le_of_ble_eq_true rfl)⟩) hS (fun q _ h => hFc q h) hFc (fun r39 u9 t9 H1 locs ht9 hvm9 hw9 hB9 hz1 hk1 hS => ?_)
      obtain ⟨hP, hK1, hD1⟩ := hB9
      rw [ht9] at hP
      obtain ⟨hP, hD⟩ := va_join (wr := []) (w1 := rfW cL cI h cl sa pa M 3 (-3) (σ)) hPc hD [0, 1, 2, 3] [] rfl rfl (by decide) (by decide) hk1 hFc hP hD1
      generalize H1 = H at hP hS ⊢
      have hP : va_P D vCl [(h, .inr (2, [.int 3, .int (nI M), .ref cl, .ref sa, .ref pa, .int (-3)])), (cl, .inl (cL, 32768, .inr (.inl (pkF (σ))))), (sa, .inl (cI, 4, .inl (fun i9 => nI ((σ) i9).2.1))), (pa, .inl (cI, 4, .inl (fun i9 => nI ((σ) i9).2.2)))] H := hP
      have hD : va_D A [(h, .inr (2, [.int 3, .int (nI M), .ref cl, .ref sa, .ref pa, .int (-3)])), (cl, .inl (cL, 32768, .inr (.inl (pkF (σ))))), (sa, .inl (cI, 4, .inl (fun i9 => nI ((σ) i9).2.1))), (pa, .inl (cI, 4, .inl (fun i9 => nI ((σ) i9).2.2)))] := hD
      subst hw9
      refine lv_i2l hx hb d_M_readSevens_42 rfl ?_
      refine lv_topl (fun v42 ev42 => ?_)
      have ev42 : v42 = 0 := by rw [ev42]; decide
      subst ev42
      exact W.lret (v := 0) hx hb hr (fun t ht hW => ⟨⟨_, (3, σ, (-3)), rfl, (by unfold spReadSevens gwσ; simp only [hrk, hρ]; rw [if_neg (fun h8 => h8 hR), if_neg (by rw [hg]; decide), if_pos hg]), by rw [ht]; exact hP, va_K.moved hW.alike hK, hD⟩, hS.F ht⟩) hS.2.2 d_M_readSevens_43
    · rw [hρ] at hg hr9
      have hg : gw B p n 10 = (w : Int) := hg
      have hr9 : r27 = lN (gs B p w) := hr9
      subst hr9
      obtain ⟨hw1, hw2, hw3, hw4⟩ := gw_ok 10 w (Nat.le_refl _) hg
      refine lv_lstore_n (lv' := [(2, .long (lN (gs B p w))), (0, .ref h), (1, .int (nI k))]) hx hb d_M_readSevens_30 rfl hl (by decide) rfl (fun ls hl => ?_)
      refine lv_aload_n hx hb d_M_readSevens_31 rfl (lv_at hl 1 rfl) ?_
      refine va_get (D := D) (ci := 2) (v := .int (nI w)) (C := R_M) (T := F_M) (N := 6) hx hb hA i_M hown hK hP 0 rfl rfl 5 (by decide) (hA _ k2_217) (fun _ h9 => h9) rfl d_M_readSevens_32 ?_
      refine lv_if_ge (tgt := 44) hx hb d_M_readSevens_35 (by decide) (fun c35 => ?_) (fun c35 => ?_)
      · have hs0 : spReadSevens σ (nI k) = (0, lN (gs B p w), va_up σ k (B, n, p + w)) := by unfold spReadSevens gwσ; simp only [hrk, hρ]; rw [if_neg (fun h8 => h8 hR), if_neg (by rw [hg]; omega), if_neg (by rw [hg]; omega), hg]; rfl
        rw [up_id hρ] at hP hD
        have hP : va_P D vCl [(h, .inr (2, [.int 0, .int (nI M), .ref cl, .ref sa, .ref pa, .int (nI w)])), (cl, .inl (cL, 32768, .inr (.inl (pkF (va_up σ k (B, n, p)))))), (sa, .inl (cI, 4, .inl (fun i9 => nI ((va_up σ k (B, n, p)) i9).2.1))), (pa, .inl (cI, 4, .inl (fun i9 => nI ((va_up σ k (B, n, p)) i9).2.2)))] H := hP
        have hD : va_D A [(h, .inr (2, [.int 0, .int (nI M), .ref cl, .ref sa, .ref pa, .int (nI w)])), (cl, .inl (cL, 32768, .inr (.inl (pkF (va_up σ k (B, n, p)))))), (sa, .inl (cI, 4, .inl (fun i9 => nI ((va_up σ k (B, n, p)) i9).2.1))), (pa, .inl (cI, 4, .inl (fun i9 => nI ((va_up σ k (B, n, p)) i9).2.2)))] := hD
        refine lv_aload_n hx hb d_M_readSevens_44 rfl (lv_at hl 1 rfl) ?_
        refine va_get (D := D) (ci := 2) (v := .ref pa) (C := R_M) (T := F_M) (N := 6) hx hb hA i_M hown hK hP 0 rfl rfl 4 (by decide) (hA _ k2_216) (fun _ h9 => h9) rfl d_M_readSevens_45 ?_
        refine lv_iload_n hx hb d_M_readSevens_48 rfl (lv_at hl 2 rfl) ?_
        refine lv_dup2_11 hx hb d_M_readSevens_49 rfl rfl ?_
        refine va_iald hx hb hK hP 3 1 rfl rfl (vp_in_nI hk (by decide)) d_M_readSevens_50 ?_
        refine lv_topi (fun v50 ev50 => ?_)
        have ev50 : v50 = nI p := by rw [ev50]; show nI ((va_up σ k (B, n, p)) (nI k).toNatClampNeg).2.2 = _; rw [nI_clamp (by omega), up_s]
        subst ev50
        refine lv_aload_n hx hb d_M_readSevens_51 rfl (lv_at hl 1 rfl) ?_
        refine va_get (D := D) (ci := 2) (v := .int (nI w)) (C := R_M) (T := F_M) (N := 6) hx hb hA i_M hown hK hP 0 rfl rfl 5 (by decide) (hA _ k2_217) (fun _ h9 => h9) rfl d_M_readSevens_52 ?_
        refine lv_iadd hx hb d_M_readSevens_55 ?_
        refine lv_topi (fun v55 ev55 => ?_)
        have ev55 : v55 = nI (p + w) := by rw [ev55]; exact nI_add _ _
        subst ev55
        refine va_iast hx hb hK hP hD hS 3 1 rfl rfl (vp_in_nI hk (by decide)) d_M_readSevens_56 (fun H locs hP hD hS => ?_)
        have hP : va_P D vCl [(h, .inr (2, [.int 0, .int (nI M), .ref cl, .ref sa, .ref pa, .int (nI w)])), (cl, .inl (cL, 32768, .inr (.inl (pkF (va_up σ k (B, n, p)))))), (sa, .inl (cI, 4, .inl (fun i9 => nI ((va_up σ k (B, n, p)) i9).2.1))), (pa, .inl (cI, 4, .inl (upd (fun i9 => nI ((va_up σ k (B, n, p)) i9).2.2) (nI k).toNatClampNeg (nI (p + w)))))] H := hP
        have hD : va_D A [(h, .inr (2, [.int 0, .int (nI M), .ref cl, .ref sa, .ref pa, .int (nI w)])), (cl, .inl (cL, 32768, .inr (.inl (pkF (va_up σ k (B, n, p)))))), (sa, .inl (cI, 4, .inl (fun i9 => nI ((va_up σ k (B, n, p)) i9).2.1))), (pa, .inl (cI, 4, .inl (upd (fun i9 => nI ((va_up σ k (B, n, p)) i9).2.2) (nI k).toNatClampNeg (nI (p + w)))))] := hD
        rw [pl_up (σ) hk B B n p n (p + w), pc_nc (σ) k B n p n (p + w), sz_nc (σ) k B B n p (p + w)] at hP hD
        have hP : va_P D vCl [(h, .inr (2, [.int 0, .int (nI M), .ref cl, .ref sa, .ref pa, .int (nI w)])), (cl, .inl (cL, 32768, .inr (.inl (pkF (va_up (σ) k (B, n, p + w)))))), (sa, .inl (cI, 4, .inl (fun i9 => nI ((va_up (σ) k (B, n, p + w)) i9).2.1))), (pa, .inl (cI, 4, .inl (fun i9 => nI ((va_up (σ) k (B, n, p + w)) i9).2.2)))] H := hP
        have hD : va_D A [(h, .inr (2, [.int 0, .int (nI M), .ref cl, .ref sa, .ref pa, .int (nI w)])), (cl, .inl (cL, 32768, .inr (.inl (pkF (va_up (σ) k (B, n, p + w)))))), (sa, .inl (cI, 4, .inl (fun i9 => nI ((va_up (σ) k (B, n, p + w)) i9).2.1))), (pa, .inl (cI, 4, .inl (fun i9 => nI ((va_up (σ) k (B, n, p + w)) i9).2.2)))] := hD
        refine lv_lload_n hx hb d_M_readSevens_57 rfl (lv_at hl 0 rfl) ?_
        exact W.lret (v := lN (gs B p w)) hx hb hr (fun t ht hW => ⟨⟨_, (0, va_up σ k (B, n, p + w), nI w), rfl, (hs0), by rw [ht]; exact hP, va_K.moved hW.alike hK, hD⟩, hS.F ht⟩) hS.2.2 d_M_readSevens_58
      · exact absurd (nI_pos' (by omega)) c35
  · refine lv_if_ne (tgt := 19) hx hb d_M_readSevens_9 (by decide) (fun q9 => absurd (by decide) q9) (fun _ => ?_)
    refine lv_aload_n hx hb d_M_readSevens_12 rfl (lv_at hl 0 rfl) ?_
    refine lv_iconst (v := 1) hx hb d_M_readSevens_13 (by decide) ?_
    have hPc := hP
    have hFc := va_free (wc := [(h, .inr (2, [.int 0, .int (nI M), .ref cl, .ref sa, .ref pa, .int tk])), (cl, .inl (cL, 32768, .inr (.inl (pkF (σ))))), (sa, .inl (cI, 4, .inl (fun i9 => nI ((σ) i9).2.1))), (pa, .inl (cI, 4, .inl (fun i9 => nI ((σ) i9).2.2)))]) hD hS hAq [0, 1, 2, 3] rfl
    have hKc := hK.sub (tys' := [(cL, .long), (cI, .int)]) [0, 1] rfl
    refine va_calli (va_runV (As := [.int 1]) (rest := []) ⟨hx, hb, hml, hown, hA⟩ (c_M_fail l D cL cI h cl sa pa M 0 tk (σ) H.size 1) (q_M_fail hA k3_4 rfl rfl ⟨(Nat.le_of_ble_eq_true rfl), (Nat.le_of_ble_eq_true rfl)⟩) (ox_V (va_recv hKc hPc (ci := 2) (q0 := 0) rfl rfl) (oxw_S hPc hKc hD)) rfl rfl hl.1 rfl (lv_room (Nat.le_of_ble_eq_true rfl)) d_M_readSevens_14 ⟨(Nat.le_of_ble_eq_true rfl), (Nat.le_of_ble_eq_true rfl)⟩) hS (fun q _ h => hFc q h) hFc (fun r14 u9 t9 H1 locs ht9 hvm9 hw9 hB9 hz1 hk1 hS => ?_)
    obtain ⟨hP, hK1, hD1⟩ := hB9
    rw [ht9] at hP
    obtain ⟨hP, hD⟩ := va_join (wr := []) (w1 := rfW cL cI h cl sa pa M 1 tk (σ)) hPc hD [0, 1, 2, 3] [] rfl rfl (by decide) (by decide) hk1 hFc hP hD1
    generalize H1 = H at hP hS ⊢
    have hP : va_P D vCl [(h, .inr (2, [.int 1, .int (nI M), .ref cl, .ref sa, .ref pa, .int tk])), (cl, .inl (cL, 32768, .inr (.inl (pkF (σ))))), (sa, .inl (cI, 4, .inl (fun i9 => nI ((σ) i9).2.1))), (pa, .inl (cI, 4, .inl (fun i9 => nI ((σ) i9).2.2)))] H := hP
    have hD : va_D A [(h, .inr (2, [.int 1, .int (nI M), .ref cl, .ref sa, .ref pa, .int tk])), (cl, .inl (cL, 32768, .inr (.inl (pkF (σ))))), (sa, .inl (cI, 4, .inl (fun i9 => nI ((σ) i9).2.1))), (pa, .inl (cI, 4, .inl (fun i9 => nI ((σ) i9).2.2)))] := hD
    subst hw9
    refine lv_i2l hx hb d_M_readSevens_17 rfl ?_
    refine lv_topl (fun v17 ev17 => ?_)
    have ev17 : v17 = 0 := by rw [ev17]; decide
    subst ev17
    exact W.lret (v := 0) hx hb hr (fun t ht hW => ⟨⟨_, (1, σ, tk), rfl, (by unfold spReadSevens; rw [if_pos hR]), by rw [ht]; exact hP, va_K.moved hW.alike hK, hD⟩, hS.F ht⟩) hS.2.2 d_M_readSevens_18
set_option maxHeartbeats 600000 in
set_option maxRecDepth 100000 in
/-- readSigned -/
theorem c_M_readSigned (l : Launch) (D : va_G) (cL cI : ClassId) (h cl sa pa M : Nat) (th tk : Int32) (σ : dkS) (sz : Nat) (x : Int32) (hσ : dkok M σ) : Met l y_M_readSigned w_M_readSigned ({ frames := 2, cells := 0, slots := 0, locals := 49 }) (va_Pc [.ref h, .int x] (oxw sz D [(cL, .long), (cI, .int)] [(h, .inr (2, [.int th, .int (nI M), .ref cl, .ref sa, .ref pa, .int tk])), (cl, .inl (cL, 32768, .inr (.inl (pkF (σ))))), (sa, .inl (cI, 4, .inl (fun i9 => nI ((σ) i9).2.1))), (pa, .inl (cI, 4, .inl (fun i9 => nI ((σ) i9).2.2)))])) (va_Ql (fun (r : Int64) (uu : Nat × dkS × Int32) => spReadSigned σ x = (uu.1, r, uu.2.1)) (fun uu => ow D [(cL, .long), (cI, .int)] (va_A [(h, .inr (2, [.int th, .int (nI M), .ref cl, .ref sa, .ref pa, .int tk])), (cl, .inl (cL, 32768, .inr (.inl (pkF (σ))))), (sa, .inl (cI, 4, .inl (fun i9 => nI ((σ) i9).2.1))), (pa, .inl (cI, 4, .inl (fun i9 => nI ((σ) i9).2.2)))] sz) (rfW cL cI h cl sa pa M (nI uu.1) uu.2.2 uu.2.1)) (va_A [(h, .inr (2, [.int th, .int (nI M), .ref cl, .ref sa, .ref pa, .int tk])), (cl, .inl (cL, 32768, .inr (.inl (pkF (σ))))), (sa, .inl (cI, 4, .inl (fun i9 => nI ((σ) i9).2.1))), (pa, .inl (cI, 4, .inl (fun i9 => nI ((σ) i9).2.2)))] sz)) 0 0 (va_A [(h, .inr (2, [.int th, .int (nI M), .ref cl, .ref sa, .ref pa, .int tk])), (cl, .inl (cL, 32768, .inr (.inl (pkF (σ))))), (sa, .inl (cI, 4, .inl (fun i9 => nI ((σ) i9).2.1))), (pa, .inl (cI, 4, .inl (fun i9 => nI ((σ) i9).2.2)))] sz) := by
  refine Met.ofW (cc := b_M_readSigned) (maxL := 4) (ret := (some .long)) (by decide) rfl ?_
  intro p9 e9 s m args below meth c9 s₁ BL hml hv
  obtain ⟨rfl, hsz, hP, hK, hD0⟩ := hv
  have hx := BL.exec
  have hb := BL.bytes
  have hr := BL.returns
  have hts := atoms_spec (ws := w_M_readSigned) BL.pre
  have hA : ∀ w ∈ wsA, w.before _ s = true := fun w h => hts w (List.mem_cons_of_mem _ h)
  have hown : s.vm.findClass R_M = some m.cls := findClass_of_methodNamed BL.named
  have hlocks := BL.notSynchronized
  subst hsz
  have hD := hD0.self (sz := s.heap.size)
  generalize hAe : va_A [(h, .inr (2, [.int th, .int (nI M), .ref cl, .ref sa, .ref pa, .int tk])), (cl, .inl (cL, 32768, .inr (.inl (pkF (σ))))), (sa, .inl (cI, 4, .inl (fun i9 => nI ((σ) i9).2.1))), (pa, .inl (cI, 4, .inl (fun i9 => nI ((σ) i9).2.2)))] s.heap.size = A at hD ⊢
  have hAq : ∀ q : Nat, s.heap.size ≤ q → A q := fun q h => by rw [← hAe]; exact Or.inr h
  have hS : va_S A s.heap s.heap [] := va_S.rf
  have hP : va_P D vCl [(h, .inr (2, [.int th, .int (nI M), .ref cl, .ref sa, .ref pa, .int tk])), (cl, .inl (cL, 32768, .inr (.inl (pkF (σ))))), (sa, .inl (cI, 4, .inl (fun i9 => nI ((σ) i9).2.1))), (pa, .inl (cI, 4, .inl (fun i9 => nI ((σ) i9).2.2)))] s.heap := hP
  have hl := lv_entry ([.ref h, .int x]) (n := 4) (Nat.le_of_ble_eq_true rfl)
  rw [lg_entry_eq]
  generalize (lg_sl ([.ref h, .int x]) ++ List.replicate (4 - (lg_sl ([.ref h, .int x])).length) Slot.unset).toArray = ls at hl ⊢
  have hl : lv_has ls 4 [(0, .ref h), (1, .int x)] := hl
  refine lv_aload_n hx hb d_M_readSigned_0 rfl (lv_at hl 0 rfl) ?_
  refine lv_iconst (v := 0) hx hb d_M_readSigned_1 (by decide) ?_
  refine va_put (D := D) (ci := 2) (v := .int 0) (ty := .int) (C := R_M) (T := F_M) (N := 6) hx hb hA i_M t_M t_M_ok n_M hown hK hP hD hS 0 rfl rfl 0 (by decide) (hA _ k2_212) (fun _ h9 => h9) rfl (by decide +kernel) rfl rfl (Nat.le_of_ble_eq_true rfl) d_M_readSigned_2 (fun H locs hP hD hS => ?_)
  have hP : va_P D vCl [(h, .inr (2, [.int 0, .int (nI M), .ref cl, .ref sa, .ref pa, .int tk])), (cl, .inl (cL, 32768, .inr (.inl (pkF (σ))))), (sa, .inl (cI, 4, .inl (fun i9 => nI ((σ) i9).2.1))), (pa, .inl (cI, 4, .inl (fun i9 => nI ((σ) i9).2.2)))] H := hP
  have hD : va_D A [(h, .inr (2, [.int 0, .int (nI M), .ref cl, .ref sa, .ref pa, .int tk])), (cl, .inl (cL, 32768, .inr (.inl (pkF (σ))))), (sa, .inl (cI, 4, .inl (fun i9 => nI ((σ) i9).2.1))), (pa, .inl (cI, 4, .inl (fun i9 => nI ((σ) i9).2.2)))] := hD
  refine lv_iload_n hx hb d_M_readSigned_5 rfl (lv_at hl 1 rfl) ?_
  refine vp_callSi (W.runS (As := [.int x]) (rest := []) ⟨hx, hb, hml, hown, hA⟩ (c_M_isRow l x) (q_M_isRow hA k3_1 rfl rfl ⟨(Nat.le_of_ble_eq_true rfl), (Nat.le_of_ble_eq_true rfl)⟩) (⟨fun a U g mk q => q, fun U hU hW => ⟨rfl, trivial⟩⟩) rfl rfl hl.1 rfl (lv_room (Nat.le_of_ble_eq_true rfl)) d_M_readSigned_6 ⟨(Nat.le_of_ble_eq_true rfl), (Nat.le_of_ble_eq_true rfl)⟩) (fun r6 hr6 => ?_)
  rcases hr6 with ⟨hR, rfl⟩ | ⟨hR, rfl⟩
  · refine lv_if_ne (tgt := 19) hx hb d_M_readSigned_9 (by decide) (fun _ => ?_) (fun q9 => absurd q9 (by decide))
    obtain ⟨k, hk0, rfl⟩ := nI_of (show ¬ x < 0 by rw [Int32.lt_iff_toInt_lt, li_0]; exact Int.not_lt.mpr hR.1)
    have hk : k < 4 := by have h9 := hR.2; rw [nI_toInt hk0] at h9; omega
    have hrk : rj (nI k) = k := rj_n hk
    obtain ⟨⟨B, n, p⟩, hρ⟩ : ∃ ρ, σ k = ρ := ⟨_, rfl⟩
    have hk9 := hσ.2 k hk
    have hBσ : ∀ j, (σ k).1 j < 256 := hk9.2.2
    have hnσ : (σ k).2.1 ≤ 65536 := Nat.le_trans hk9.2.1 hσ.1
    rw [hρ] at hk9
    obtain ⟨hp, hn, hB⟩ := hk9
    have hp : p ≤ n := hp
    have hn : n ≤ M := hn
    have hB : ∀ j, B j < 256 := hB
    have hM := hσ.1
    refine lv_aload_n hx hb d_M_readSigned_19 rfl (lv_at hl 0 rfl) ?_
    refine lv_iload_n hx hb d_M_readSigned_20 rfl (lv_at hl 1 rfl) ?_
    refine lv_aload_n hx hb d_M_readSigned_21 rfl (lv_at hl 0 rfl) ?_
    refine va_get (D := D) (ci := 2) (v := .ref pa) (C := R_M) (T := F_M) (N := 6) hx hb hA i_M hown hK hP 0 rfl rfl 4 (by decide) (hA _ k2_216) (fun _ h9 => h9) rfl d_M_readSigned_22 ?_
    refine lv_iload_n hx hb d_M_readSigned_25 rfl (lv_at hl 1 rfl) ?_
    refine va_iald hx hb hK hP 3 1 rfl rfl (vp_in_nI hk (by decide)) d_M_readSigned_26 ?_
    refine lv_topi (fun v26 ev26 => ?_)
    have ev26 : v26 = nI p := by rw [ev26]; show nI ((σ) (nI k).toNatClampNeg).2.2 = _; rw [nI_clamp (by omega), hρ]
    subst ev26
    have hPc := hP
    have hFc := va_free (wc := [(h, .inr (2, [.int 0, .int (nI M), .ref cl, .ref sa, .ref pa, .int tk])), (cl, .inl (cL, 32768, .inr (.inl (pkF (σ))))), (sa, .inl (cI, 4, .inl (fun i9 => nI ((σ) i9).2.1))), (pa, .inl (cI, 4, .inl (fun i9 => nI ((σ) i9).2.2)))]) hD hS hAq [0, 1, 2, 3] rfl
    have hKc := hK.sub (tys' := [(cL, .long), (cI, .int)]) [0, 1] rfl
    refine va_calll (va_runV (As := [.int (nI k), .int (nI p)]) (rest := []) ⟨hx, hb, hml, hown, hA⟩ (c_M_grouped l D cL cI h cl sa pa M 0 tk σ H.size k hk hBσ hnσ p (by rw [hρ]; exact hp)) (q_M_grouped hA k3_111 rfl rfl ⟨(Nat.le_of_ble_eq_true rfl), (Nat.le_of_ble_eq_true rfl)⟩) (ox_V (va_recv hKc hPc (ci := 2) (q0 := 0) rfl rfl) (oxw_S hPc hKc hD)) rfl rfl hl.1 rfl (lv_room (Nat.le_of_ble_eq_true rfl)) d_M_readSigned_27 ⟨(Nat.le_of_ble_eq_true rfl), (Nat.le_of_ble_eq_true rfl)⟩) hS (fun q _ h => hFc q h) hFc (fun r27 u9 t9 H1 locs ht9 hvm9 hw9 hB9 hz1 hk1 hS => ?_)
    obtain ⟨hP, hK1, hD1⟩ := hB9
    rw [ht9] at hP
    obtain ⟨hP, hD⟩ := va_join (wr := []) (w1 := rfW cL cI h cl sa pa M 0 u9 (σ)) hPc hD [0, 1, 2, 3] [] rfl rfl (by decide) (by decide) hk1 hFc hP hD1
    generalize H1 = H at hP hS ⊢
    have hP : va_P D vCl [(h, .inr (2, [.int 0, .int (nI M), .ref cl, .ref sa, .ref pa, .int u9])), (cl, .inl (cL, 32768, .inr (.inl (pkF (σ))))), (sa, .inl (cI, 4, .inl (fun i9 => nI ((σ) i9).2.1))), (pa, .inl (cI, 4, .inl (fun i9 => nI ((σ) i9).2.2)))] H := hP
    have hD : va_D A [(h, .inr (2, [.int 0, .int (nI M), .ref cl, .ref sa, .ref pa, .int u9])), (cl, .inl (cL, 32768, .inr (.inl (pkF (σ))))), (sa, .inl (cI, 4, .inl (fun i9 => nI ((σ) i9).2.1))), (pa, .inl (cI, 4, .inl (fun i9 => nI ((σ) i9).2.2)))] := hD
    rcases hw9 with ⟨hg, rfl, rfl⟩ | ⟨hg, rfl, rfl⟩ | ⟨w, hg, rfl, hr9⟩
    · rw [hρ] at hg
      have hg : gw B p n 10 = -2 := hg
      refine lv_lstore_n (lv' := [(2, .long 0), (0, .ref h), (1, .int (nI k))]) hx hb d_M_readSigned_30 rfl hl (by decide) rfl (fun ls hl => ?_)
      refine lv_aload_n hx hb d_M_readSigned_31 rfl (lv_at hl 1 rfl) ?_
      refine va_get (D := D) (ci := 2) (v := .int (-2)) (C := R_M) (T := F_M) (N := 6) hx hb hA i_M hown hK hP 0 rfl rfl 5 (by decide) (hA _ k2_217) (fun _ h9 => h9) rfl d_M_readSigned_32 ?_
      refine lv_if_ge (tgt := 44) hx hb d_M_readSigned_35 (by decide) (fun q9 => absurd q9 (by decide)) (fun _ => ?_)
      refine lv_aload_n hx hb d_M_readSigned_38 rfl (lv_at hl 1 rfl) ?_
      have hPc := hP
      have hFc := va_free (wc := [(h, .inr (2, [.int 0, .int (nI M), .ref cl, .ref sa, .ref pa, .int (-2)])), (cl, .inl (cL, 32768, .inr (.inl (pkF (σ))))), (sa, .inl (cI, 4, .inl (fun i9 => nI ((σ) i9).2.1))), (pa, .inl (cI, 4, .inl (fun i9 => nI ((σ) i9).2.2)))]) hD hS hAq [0, 1, 2, 3] rfl
      have hKc := hK.sub (tys' := [(cL, .long), (cI, .int)]) [0, 1] rfl
      refine va_calli (va_runV (As := []) (rest := []) ⟨hx, hb, hml, hown, hA⟩ (c_M_failed l D cL cI h cl sa pa M 0 (-2) (σ) H.size 2 (by decide)) (q_M_failed hA k3_115 rfl rfl ⟨(Nat.le_of_ble_eq_true rfl), (Nat.le_of_ble_eq_true rfl)⟩) (ox_V (va_recv hKc hPc (ci := 2) (q0 := 0) rfl rfl) (oxw_S hPc hKc hD)) rfl rfl hl.1 rfl (lv_room (Nat.le_of_ble_eq_true rfl)) d_M_readSigned_39 ⟨(Nat.le_of_ble_eq_true rfl), (Nat.le_of_ble_eq_true rfl)⟩) hS (fun q _ h => hFc q h) hFc (fun r39 u9 t9 H1 locs ht9 hvm9 hw9 hB9 hz1 hk1 hS => ?_)
      obtain ⟨hP, hK1, hD1⟩ := hB9
      rw [ht9] at hP
      obtain ⟨hP, hD⟩ := va_join (wr := []) (w1 := rfW cL cI h cl sa pa M 2 (-2) (σ)) hPc hD [0, 1, 2, 3] [] rfl rfl (by decide) (by decide) hk1 hFc hP hD1
      generalize H1 = H at hP hS ⊢
      have hP : va_P D vCl [(h, .inr (2, [.int 2, .int (nI M), .ref cl, .ref sa, .ref pa, .int (-2)])), (cl, .inl (cL, 32768, .inr (.inl (pkF (σ))))), (sa, .inl (cI, 4, .inl (fun i9 => nI ((σ) i9).2.1))), (pa, .inl (cI, 4, .inl (fun i9 => nI ((σ) i9).2.2)))] H := hP
      have hD : va_D A [(h, .inr (2, [.int 2, .int (nI M), .ref cl, .ref sa, .ref pa, .int (-2)])), (cl, .inl (cL, 32768, .inr (.inl (pkF (σ))))), (sa, .inl (cI, 4, .inl (fun i9 => nI ((σ) i9).2.1))), (pa, .inl (cI, 4, .inl (fun i9 => nI ((σ) i9).2.2)))] := hD
      subst hw9
      refine lv_i2l hx hb d_M_readSigned_42 rfl ?_
      refine lv_topl (fun v42 ev42 => ?_)
      have ev42 : v42 = 0 := by rw [ev42]; decide
      subst ev42
      exact W.lret (v := 0) hx hb hr (fun t ht hW => ⟨⟨_, (2, σ, (-2)), rfl, (by unfold spReadSigned; rw [show spReadSevens σ (nI k) = (2, 0, σ) from by unfold spReadSevens gwσ; simp only [hrk, hρ]; rw [if_neg (fun h8 => h8 hR), if_pos hg]]; show (2, unzz 0, σ) = (2, 0, σ); rw [unzz_0]), by rw [ht]; exact hP, va_K.moved hW.alike hK, hD⟩, hS.F ht⟩) hS.2.2 d_M_readSigned_43
    · rw [hρ] at hg
      have hg : gw B p n 10 = -3 := hg
      refine lv_lstore_n (lv' := [(2, .long 0), (0, .ref h), (1, .int (nI k))]) hx hb d_M_readSigned_30 rfl hl (by decide) rfl (fun ls hl => ?_)
      refine lv_aload_n hx hb d_M_readSigned_31 rfl (lv_at hl 1 rfl) ?_
      refine va_get (D := D) (ci := 2) (v := .int (-3)) (C := R_M) (T := F_M) (N := 6) hx hb hA i_M hown hK hP 0 rfl rfl 5 (by decide) (hA _ k2_217) (fun _ h9 => h9) rfl d_M_readSigned_32 ?_
      refine lv_if_ge (tgt := 44) hx hb d_M_readSigned_35 (by decide) (fun q9 => absurd q9 (by decide)) (fun _ => ?_)
      refine lv_aload_n hx hb d_M_readSigned_38 rfl (lv_at hl 1 rfl) ?_
      have hPc := hP
      have hFc := va_free (wc := [(h, .inr (2, [.int 0, .int (nI M), .ref cl, .ref sa, .ref pa, .int (-3)])), (cl, .inl (cL, 32768, .inr (.inl (pkF (σ))))), (sa, .inl (cI, 4, .inl (fun i9 => nI ((σ) i9).2.1))), (pa, .inl (cI, 4, .inl (fun i9 => nI ((σ) i9).2.2)))]) hD hS hAq [0, 1, 2, 3] rfl
      have hKc := hK.sub (tys' := [(cL, .long), (cI, .int)]) [0, 1] rfl
      refine va_calli (va_runV (As := []) (rest := []) ⟨hx, hb, hml, hown, hA⟩ (c_M_failed l D cL cI h cl sa pa M 0 (-3) (σ) H.size 3 (by decide)) (q_M_failed hA k3_115 rfl rfl ⟨(Nat.le_of_ble_eq_true rfl), (Nat.le_of_ble_eq_true rfl)⟩) (ox_V (va_recv hKc hPc (ci := 2) (q0 := 0) rfl rfl) (oxw_S hPc hKc hD)) rfl rfl hl.1 rfl (lv_room (Nat.le_of_ble_eq_true rfl)) d_M_readSigned_39 ⟨(Nat.le_of_ble_eq_true rfl), (Nat.le_of_ble_eq_true rfl)⟩) hS (fun q _ h => hFc q h) hFc (fun r39 u9 t9 H1 locs ht9 hvm9 hw9 hB9 hz1 hk1 hS => ?_)
      obtain ⟨hP, hK1, hD1⟩ := hB9
      rw [ht9] at hP
      obtain ⟨hP, hD⟩ := va_join (wr := []) (w1 := rfW cL cI h cl sa pa M 3 (-3) (σ)) hPc hD [0, 1, 2, 3] [] rfl rfl (by decide) (by decide) hk1 hFc hP hD1
      generalize H1 = H at hP hS ⊢
      have hP : va_P D vCl [(h, .inr (2, [.int 3, .int (nI M), .ref cl, .ref sa, .ref pa, .int (-3)])), (cl, .inl (cL, 32768, .inr (.inl (pkF (σ))))), (sa, .inl (cI, 4, .inl (fun i9 => nI ((σ) i9).2.1))), (pa, .inl (cI, 4, .inl (fun i9 => nI ((σ) i9).2.2)))] H := hP
      have hD : va_D A [(h, .inr (2, [.int 3, .int (nI M), .ref cl, .ref sa, .ref pa, .int (-3)])), (cl, .inl (cL, 32768, .inr (.inl (pkF (σ))))), (sa, .inl (cI, 4, .inl (fun i9 => nI ((σ) i9).2.1))), (pa, .inl (cI, 4, .inl (fun i9 => nI ((σ) i9).2.2)))] := hD
      subst hw9
      refine lv_i2l hx hb d_M_readSigned_42 rfl ?_
      refine lv_topl (fun v42 ev42 => ?_)
      have ev42 : v42 = 0 := by rw [ev42]; decide
      subst ev42
      exact W.lret (v := 0) hx hb hr (fun t ht hW => ⟨⟨_, (3, σ, (-3)), rfl, (by unfold spReadSigned; rw [show spReadSevens σ (nI k) = (3, 0, σ) from by unfold spReadSevens gwσ; simp only [hrk, hρ]; rw [if_neg (fun h8 => h8 hR), if_neg (by rw [hg]; decide), if_pos hg]]; show (3, unzz 0, σ) = (3, 0, σ); rw [unzz_0]), by rw [ht]; exact hP, va_K.moved hW.alike hK, hD⟩, hS.F ht⟩) hS.2.2 d_M_readSigned_43
    · rw [hρ] at hg hr9
      have hg : gw B p n 10 = (w : Int) := hg
      have hr9 : r27 = lN (gs B p w) := hr9
      subst hr9
      obtain ⟨hw1, hw2, hw3, hw4⟩ := gw_ok 10 w (Nat.le_refl _) hg
      refine lv_lstore_n (lv' := [(2, .long (lN (gs B p w))), (0, .ref h), (1, .int (nI k))]) hx hb d_M_readSigned_30 rfl hl (by decide) rfl (fun ls hl => ?_)
      refine lv_aload_n hx hb d_M_readSigned_31 rfl (lv_at hl 1 rfl) ?_
      refine va_get (D := D) (ci := 2) (v := .int (nI w)) (C := R_M) (T := F_M) (N := 6) hx hb hA i_M hown hK hP 0 rfl rfl 5 (by decide) (hA _ k2_217) (fun _ h9 => h9) rfl d_M_readSigned_32 ?_
      refine lv_if_ge (tgt := 44) hx hb d_M_readSigned_35 (by decide) (fun c35 => ?_) (fun c35 => ?_)
      · have hs0 : spReadSevens σ (nI k) = (0, lN (gs B p w), va_up σ k (B, n, p + w)) := by unfold spReadSevens gwσ; simp only [hrk, hρ]; rw [if_neg (fun h8 => h8 hR), if_neg (by rw [hg]; omega), if_neg (by rw [hg]; omega), hg]; rfl
        rw [up_id hρ] at hP hD
        have hP : va_P D vCl [(h, .inr (2, [.int 0, .int (nI M), .ref cl, .ref sa, .ref pa, .int (nI w)])), (cl, .inl (cL, 32768, .inr (.inl (pkF (va_up σ k (B, n, p)))))), (sa, .inl (cI, 4, .inl (fun i9 => nI ((va_up σ k (B, n, p)) i9).2.1))), (pa, .inl (cI, 4, .inl (fun i9 => nI ((va_up σ k (B, n, p)) i9).2.2)))] H := hP
        have hD : va_D A [(h, .inr (2, [.int 0, .int (nI M), .ref cl, .ref sa, .ref pa, .int (nI w)])), (cl, .inl (cL, 32768, .inr (.inl (pkF (va_up σ k (B, n, p)))))), (sa, .inl (cI, 4, .inl (fun i9 => nI ((va_up σ k (B, n, p)) i9).2.1))), (pa, .inl (cI, 4, .inl (fun i9 => nI ((va_up σ k (B, n, p)) i9).2.2)))] := hD
        refine lv_aload_n hx hb d_M_readSigned_44 rfl (lv_at hl 1 rfl) ?_
        refine va_get (D := D) (ci := 2) (v := .ref pa) (C := R_M) (T := F_M) (N := 6) hx hb hA i_M hown hK hP 0 rfl rfl 4 (by decide) (hA _ k2_216) (fun _ h9 => h9) rfl d_M_readSigned_45 ?_
        refine lv_iload_n hx hb d_M_readSigned_48 rfl (lv_at hl 2 rfl) ?_
        refine lv_dup2_11 hx hb d_M_readSigned_49 rfl rfl ?_
        refine va_iald hx hb hK hP 3 1 rfl rfl (vp_in_nI hk (by decide)) d_M_readSigned_50 ?_
        refine lv_topi (fun v50 ev50 => ?_)
        have ev50 : v50 = nI p := by rw [ev50]; show nI ((va_up σ k (B, n, p)) (nI k).toNatClampNeg).2.2 = _; rw [nI_clamp (by omega), up_s]
        subst ev50
        refine lv_aload_n hx hb d_M_readSigned_51 rfl (lv_at hl 1 rfl) ?_
        refine va_get (D := D) (ci := 2) (v := .int (nI w)) (C := R_M) (T := F_M) (N := 6) hx hb hA i_M hown hK hP 0 rfl rfl 5 (by decide) (hA _ k2_217) (fun _ h9 => h9) rfl d_M_readSigned_52 ?_
        refine lv_iadd hx hb d_M_readSigned_55 ?_
        refine lv_topi (fun v55 ev55 => ?_)
        have ev55 : v55 = nI (p + w) := by rw [ev55]; exact nI_add _ _
        subst ev55
        refine va_iast hx hb hK hP hD hS 3 1 rfl rfl (vp_in_nI hk (by decide)) d_M_readSigned_56 (fun H locs hP hD hS => ?_)
        have hP : va_P D vCl [(h, .inr (2, [.int 0, .int (nI M), .ref cl, .ref sa, .ref pa, .int (nI w)])), (cl, .inl (cL, 32768, .inr (.inl (pkF (va_up σ k (B, n, p)))))), (sa, .inl (cI, 4, .inl (fun i9 => nI ((va_up σ k (B, n, p)) i9).2.1))), (pa, .inl (cI, 4, .inl (upd (fun i9 => nI ((va_up σ k (B, n, p)) i9).2.2) (nI k).toNatClampNeg (nI (p + w)))))] H := hP
        have hD : va_D A [(h, .inr (2, [.int 0, .int (nI M), .ref cl, .ref sa, .ref pa, .int (nI w)])), (cl, .inl (cL, 32768, .inr (.inl (pkF (va_up σ k (B, n, p)))))), (sa, .inl (cI, 4, .inl (fun i9 => nI ((va_up σ k (B, n, p)) i9).2.1))), (pa, .inl (cI, 4, .inl (upd (fun i9 => nI ((va_up σ k (B, n, p)) i9).2.2) (nI k).toNatClampNeg (nI (p + w)))))] := hD
        rw [pl_up (σ) hk B B n p n (p + w), pc_nc (σ) k B n p n (p + w), sz_nc (σ) k B B n p (p + w)] at hP hD
        have hP : va_P D vCl [(h, .inr (2, [.int 0, .int (nI M), .ref cl, .ref sa, .ref pa, .int (nI w)])), (cl, .inl (cL, 32768, .inr (.inl (pkF (va_up (σ) k (B, n, p + w)))))), (sa, .inl (cI, 4, .inl (fun i9 => nI ((va_up (σ) k (B, n, p + w)) i9).2.1))), (pa, .inl (cI, 4, .inl (fun i9 => nI ((va_up (σ) k (B, n, p + w)) i9).2.2)))] H := hP
        have hD : va_D A [(h, .inr (2, [.int 0, .int (nI M), .ref cl, .ref sa, .ref pa, .int (nI w)])), (cl, .inl (cL, 32768, .inr (.inl (pkF (va_up (σ) k (B, n, p + w)))))), (sa, .inl (cI, 4, .inl (fun i9 => nI ((va_up (σ) k (B, n, p + w)) i9).2.1))), (pa, .inl (cI, 4, .inl (fun i9 => nI ((va_up (σ) k (B, n, p + w)) i9).2.2)))] := hD
        refine lv_lload_n hx hb d_M_readSigned_57 rfl (lv_at hl 0 rfl) ?_
        refine lv_ldc2 (v := 2) hx hb hown (hA _ k3_123) d_M_readSigned_58 ?_
        refine lv_lrem hx hb d_M_readSigned_61 (by decide) ?_
        refine lv_topl (fun v61 ev61 => ?_)
        refine lv_lconst (v := 0) hx hb d_M_readSigned_62 (by decide) ?_
        refine W.lcmp hx hb d_M_readSigned_63 ?_
        refine lv_topi (fun v63 ev63 => ?_)
        refine lv_if_ne (tgt := 73) hx hb d_M_readSigned_64 (by decide) (fun c64 => ?_) (fun c64 => ?_)
        · refine lv_lload_n hx hb d_M_readSigned_73 rfl (lv_at hl 0 rfl) ?_
          refine lv_iconst (v := 1) hx hb d_M_readSigned_74 (by decide) ?_
          refine lv_lushr hx hb d_M_readSigned_75 rfl ?_
          refine lv_topl (fun v75 ev75 => ?_)
          refine lv_ldc2 (v := (-1)) hx hb hown (hA _ k3_21) d_M_readSigned_76 ?_
          refine lv_lxor hx hb d_M_readSigned_79 ?_
          refine lv_topl (fun v79 ev79 => ?_)
          exact W.lret (v := v79) hx hb hr (fun t ht hW => ⟨⟨_, (0, va_up σ k (B, n, p + w), nI w), rfl, (by unfold spReadSigned; rw [hs0, ev79, ev75, rs_o (fun q9 => c64 (by rw [ev63, ev61]; exact q9))]), by rw [ht]; exact hP, va_K.moved hW.alike hK, hD⟩, hS.F ht⟩) hS.2.2 d_M_readSigned_80
        · refine lv_lload_n hx hb d_M_readSigned_67 rfl (lv_at hl 0 rfl) ?_
          refine lv_iconst (v := 1) hx hb d_M_readSigned_68 (by decide) ?_
          refine lv_lushr hx hb d_M_readSigned_69 rfl ?_
          refine lv_topl (fun v69 ev69 => ?_)
          refine lv_goto (tgt := 80) hx hb d_M_readSigned_70 (by decide) ?_
          exact W.lret (v := v69) hx hb hr (fun t ht hW => ⟨⟨_, (0, va_up σ k (B, n, p + w), nI w), rfl, (by unfold spReadSigned; rw [hs0, ev69, rs_e (by rw [← ev61, ← ev63]; exact c64)]), by rw [ht]; exact hP, va_K.moved hW.alike hK, hD⟩, hS.F ht⟩) hS.2.2 d_M_readSigned_80
      · exact absurd (nI_pos' (by omega)) c35
  · refine lv_if_ne (tgt := 19) hx hb d_M_readSigned_9 (by decide) (fun q9 => absurd (by decide) q9) (fun _ => ?_)
    refine lv_aload_n hx hb d_M_readSigned_12 rfl (lv_at hl 0 rfl) ?_
    refine lv_iconst (v := 1) hx hb d_M_readSigned_13 (by decide) ?_
    have hPc := hP
    have hFc := va_free (wc := [(h, .inr (2, [.int 0, .int (nI M), .ref cl, .ref sa, .ref pa, .int tk])), (cl, .inl (cL, 32768, .inr (.inl (pkF (σ))))), (sa, .inl (cI, 4, .inl (fun i9 => nI ((σ) i9).2.1))), (pa, .inl (cI, 4, .inl (fun i9 => nI ((σ) i9).2.2)))]) hD hS hAq [0, 1, 2, 3] rfl
    have hKc := hK.sub (tys' := [(cL, .long), (cI, .int)]) [0, 1] rfl
    refine va_calli (va_runV (As := [.int 1]) (rest := []) ⟨hx, hb, hml, hown, hA⟩ (c_M_fail l D cL cI h cl sa pa M 0 tk (σ) H.size 1) (q_M_fail hA k3_4 rfl rfl ⟨(Nat.le_of_ble_eq_true rfl), (Nat.le_of_ble_eq_true rfl)⟩) (ox_V (va_recv hKc hPc (ci := 2) (q0 := 0) rfl rfl) (oxw_S hPc hKc hD)) rfl rfl hl.1 rfl (lv_room (Nat.le_of_ble_eq_true rfl)) d_M_readSigned_14 ⟨(Nat.le_of_ble_eq_true rfl), (Nat.le_of_ble_eq_true rfl)⟩) hS (fun q _ h => hFc q h) hFc (fun r14 u9 t9 H1 locs ht9 hvm9 hw9 hB9 hz1 hk1 hS => ?_)
    obtain ⟨hP, hK1, hD1⟩ := hB9
    rw [ht9] at hP
    obtain ⟨hP, hD⟩ := va_join (wr := []) (w1 := rfW cL cI h cl sa pa M 1 tk (σ)) hPc hD [0, 1, 2, 3] [] rfl rfl (by decide) (by decide) hk1 hFc hP hD1
    generalize H1 = H at hP hS ⊢
    have hP : va_P D vCl [(h, .inr (2, [.int 1, .int (nI M), .ref cl, .ref sa, .ref pa, .int tk])), (cl, .inl (cL, 32768, .inr (.inl (pkF (σ))))), (sa, .inl (cI, 4, .inl (fun i9 => nI ((σ) i9).2.1))), (pa, .inl (cI, 4, .inl (fun i9 => nI ((σ) i9).2.2)))] H := hP
    have hD : va_D A [(h, .inr (2, [.int 1, .int (nI M), .ref cl, .ref sa, .ref pa, .int tk])), (cl, .inl (cL, 32768, .inr (.inl (pkF (σ))))), (sa, .inl (cI, 4, .inl (fun i9 => nI ((σ) i9).2.1))), (pa, .inl (cI, 4, .inl (fun i9 => nI ((σ) i9).2.2)))] := hD
    subst hw9
    refine lv_i2l hx hb d_M_readSigned_17 rfl ?_
    refine lv_topl (fun v17 ev17 => ?_)
    have ev17 : v17 = 0 := by rw [ev17]; decide
    subst ev17
    exact W.lret (v := 0) hx hb hr (fun t ht hW => ⟨⟨_, (1, σ, tk), rfl, (by unfold spReadSigned; rw [show spReadSevens σ x = (1, 0, σ) from by unfold spReadSevens; rw [if_pos hR]]; show (1, unzz 0, σ) = (1, 0, σ); rw [unzz_0]), by rw [ht]; exact hP, va_K.moved hW.alike hK, hD⟩, hS.F ht⟩) hS.2.2 d_M_readSigned_18
set_option maxHeartbeats 600000 in
set_option maxRecDepth 100000 in
/-- readLetter -/
theorem c_M_readLetter (l : Launch) (D : va_G) (cL cI : ClassId) (h cl sa pa M : Nat) (th tk : Int32) (σ : dkS) (sz : Nat) (x : Int32) (hσ : dkok M σ) : Met l y_M_readLetter w_M_readLetter ({ frames := 2, cells := 0, slots := 0, locals := 51 }) (va_Pc [.ref h, .int x] (oxw sz D [(cL, .long), (cI, .int)] [(h, .inr (2, [.int th, .int (nI M), .ref cl, .ref sa, .ref pa, .int tk])), (cl, .inl (cL, 32768, .inr (.inl (pkF (σ))))), (sa, .inl (cI, 4, .inl (fun i9 => nI ((σ) i9).2.1))), (pa, .inl (cI, 4, .inl (fun i9 => nI ((σ) i9).2.2)))])) (va_Qi (fun (r : Int32) (uu : Nat × dkS × Int32) => spReadLetter σ x = (uu.1, r, uu.2.1)) (fun uu => ow D [(cL, .long), (cI, .int)] (va_A [(h, .inr (2, [.int th, .int (nI M), .ref cl, .ref sa, .ref pa, .int tk])), (cl, .inl (cL, 32768, .inr (.inl (pkF (σ))))), (sa, .inl (cI, 4, .inl (fun i9 => nI ((σ) i9).2.1))), (pa, .inl (cI, 4, .inl (fun i9 => nI ((σ) i9).2.2)))] sz) (rfW cL cI h cl sa pa M (nI uu.1) uu.2.2 uu.2.1)) (va_A [(h, .inr (2, [.int th, .int (nI M), .ref cl, .ref sa, .ref pa, .int tk])), (cl, .inl (cL, 32768, .inr (.inl (pkF (σ))))), (sa, .inl (cI, 4, .inl (fun i9 => nI ((σ) i9).2.1))), (pa, .inl (cI, 4, .inl (fun i9 => nI ((σ) i9).2.2)))] sz)) 0 0 (va_A [(h, .inr (2, [.int th, .int (nI M), .ref cl, .ref sa, .ref pa, .int tk])), (cl, .inl (cL, 32768, .inr (.inl (pkF (σ))))), (sa, .inl (cI, 4, .inl (fun i9 => nI ((σ) i9).2.1))), (pa, .inl (cI, 4, .inl (fun i9 => nI ((σ) i9).2.2)))] sz) := by
  refine Met.ofW (cc := b_M_readLetter) (maxL := 3) (ret := (some .int)) (by decide) rfl ?_
  intro p9 e9 s m args below meth c9 s₁ BL hml hv
  obtain ⟨rfl, hsz, hP, hK, hD0⟩ := hv
  have hx := BL.exec
  have hb := BL.bytes
  have hr := BL.returns
  have hts := atoms_spec (ws := w_M_readLetter) BL.pre
  have hA : ∀ w ∈ wsA, w.before _ s = true := fun w h => hts w (List.mem_cons_of_mem _ h)
  have hown : s.vm.findClass R_M = some m.cls := findClass_of_methodNamed BL.named
  have hlocks := BL.notSynchronized
  subst hsz
  have hD := hD0.self (sz := s.heap.size)
  generalize hAe : va_A [(h, .inr (2, [.int th, .int (nI M), .ref cl, .ref sa, .ref pa, .int tk])), (cl, .inl (cL, 32768, .inr (.inl (pkF (σ))))), (sa, .inl (cI, 4, .inl (fun i9 => nI ((σ) i9).2.1))), (pa, .inl (cI, 4, .inl (fun i9 => nI ((σ) i9).2.2)))] s.heap.size = A at hD ⊢
  have hAq : ∀ q : Nat, s.heap.size ≤ q → A q := fun q h => by rw [← hAe]; exact Or.inr h
  have hS : va_S A s.heap s.heap [] := va_S.rf
  have hP : va_P D vCl [(h, .inr (2, [.int th, .int (nI M), .ref cl, .ref sa, .ref pa, .int tk])), (cl, .inl (cL, 32768, .inr (.inl (pkF (σ))))), (sa, .inl (cI, 4, .inl (fun i9 => nI ((σ) i9).2.1))), (pa, .inl (cI, 4, .inl (fun i9 => nI ((σ) i9).2.2)))] s.heap := hP
  have hl := lv_entry ([.ref h, .int x]) (n := 3) (Nat.le_of_ble_eq_true rfl)
  rw [lg_entry_eq]
  generalize (lg_sl ([.ref h, .int x]) ++ List.replicate (3 - (lg_sl ([.ref h, .int x])).length) Slot.unset).toArray = ls at hl ⊢
  have hl : lv_has ls 3 [(0, .ref h), (1, .int x)] := hl
  refine lv_aload_n hx hb d_M_readLetter_0 rfl (lv_at hl 0 rfl) ?_
  refine lv_iconst (v := 0) hx hb d_M_readLetter_1 (by decide) ?_
  refine va_put (D := D) (ci := 2) (v := .int 0) (ty := .int) (C := R_M) (T := F_M) (N := 6) hx hb hA i_M t_M t_M_ok n_M hown hK hP hD hS 0 rfl rfl 0 (by decide) (hA _ k2_212) (fun _ h9 => h9) rfl (by decide +kernel) rfl rfl (Nat.le_of_ble_eq_true rfl) d_M_readLetter_2 (fun H locs hP hD hS => ?_)
  have hP : va_P D vCl [(h, .inr (2, [.int 0, .int (nI M), .ref cl, .ref sa, .ref pa, .int tk])), (cl, .inl (cL, 32768, .inr (.inl (pkF (σ))))), (sa, .inl (cI, 4, .inl (fun i9 => nI ((σ) i9).2.1))), (pa, .inl (cI, 4, .inl (fun i9 => nI ((σ) i9).2.2)))] H := hP
  have hD : va_D A [(h, .inr (2, [.int 0, .int (nI M), .ref cl, .ref sa, .ref pa, .int tk])), (cl, .inl (cL, 32768, .inr (.inl (pkF (σ))))), (sa, .inl (cI, 4, .inl (fun i9 => nI ((σ) i9).2.1))), (pa, .inl (cI, 4, .inl (fun i9 => nI ((σ) i9).2.2)))] := hD
  refine lv_iload_n hx hb d_M_readLetter_5 rfl (lv_at hl 1 rfl) ?_
  refine vp_callSi (W.runS (As := [.int x]) (rest := []) ⟨hx, hb, hml, hown, hA⟩ (c_M_isRow l x) (q_M_isRow hA k3_1 rfl rfl ⟨(Nat.le_of_ble_eq_true rfl), (Nat.le_of_ble_eq_true rfl)⟩) (⟨fun a U g mk q => q, fun U hU hW => ⟨rfl, trivial⟩⟩) rfl rfl hl.1 rfl (lv_room (Nat.le_of_ble_eq_true rfl)) d_M_readLetter_6 ⟨(Nat.le_of_ble_eq_true rfl), (Nat.le_of_ble_eq_true rfl)⟩) (fun r6 hr6 => ?_)
  rcases hr6 with ⟨hR, rfl⟩ | ⟨hR, rfl⟩
  · refine lv_if_ne (tgt := 18) hx hb d_M_readLetter_9 (by decide) (fun _ => ?_) (fun q9 => absurd q9 (by decide))
    obtain ⟨k, hk0, rfl⟩ := nI_of (show ¬ x < 0 by rw [Int32.lt_iff_toInt_lt, li_0]; exact Int.not_lt.mpr hR.1)
    have hk : k < 4 := by have h9 := hR.2; rw [nI_toInt hk0] at h9; omega
    have hrk : rj (nI k) = k := rj_n hk
    obtain ⟨⟨B, n, p⟩, hρ⟩ : ∃ ρ, σ k = ρ := ⟨_, rfl⟩
    have hk9 := hσ.2 k hk
    have hBσ : ∀ j, (σ k).1 j < 256 := hk9.2.2
    have hnσ : (σ k).2.1 ≤ 65536 := Nat.le_trans hk9.2.1 hσ.1
    rw [hρ] at hk9
    obtain ⟨hp, hn, hB⟩ := hk9
    have hp : p ≤ n := hp
    have hn : n ≤ M := hn
    have hB : ∀ j, B j < 256 := hB
    have hM := hσ.1
    refine lv_aload_n hx hb d_M_readLetter_18 rfl (lv_at hl 0 rfl) ?_
    refine lv_iload_n hx hb d_M_readLetter_19 rfl (lv_at hl 1 rfl) ?_
    refine lv_aload_n hx hb d_M_readLetter_20 rfl (lv_at hl 0 rfl) ?_
    refine va_get (D := D) (ci := 2) (v := .ref pa) (C := R_M) (T := F_M) (N := 6) hx hb hA i_M hown hK hP 0 rfl rfl 4 (by decide) (hA _ k2_216) (fun _ h9 => h9) rfl d_M_readLetter_21 ?_
    refine lv_iload_n hx hb d_M_readLetter_24 rfl (lv_at hl 1 rfl) ?_
    refine va_iald hx hb hK hP 3 1 rfl rfl (vp_in_nI hk (by decide)) d_M_readLetter_25 ?_
    refine lv_topi (fun v25 ev25 => ?_)
    have ev25 : v25 = nI p := by rw [ev25]; show nI ((σ) (nI k).toNatClampNeg).2.2 = _; rw [nI_clamp (by omega), hρ]
    subst ev25
    refine lv_aload_n hx hb d_M_readLetter_26 rfl (lv_at hl 0 rfl) ?_
    refine va_get (D := D) (ci := 2) (v := .ref sa) (C := R_M) (T := F_M) (N := 6) hx hb hA i_M hown hK hP 0 rfl rfl 3 (by decide) (hA _ k2_215) (fun _ h9 => h9) rfl d_M_readLetter_27 ?_
    refine lv_iload_n hx hb d_M_readLetter_30 rfl (lv_at hl 1 rfl) ?_
    refine va_iald hx hb hK hP 2 1 rfl rfl (vp_in_nI hk (by decide)) d_M_readLetter_31 ?_
    refine lv_topi (fun v31 ev31 => ?_)
    have ev31 : v31 = nI n := by rw [ev31]; show nI ((σ) (nI k).toNatClampNeg).2.1 = _; rw [nI_clamp (by omega), hρ]
    subst ev31
    have hPc := hP
    have hFc := va_free (wc := [(h, .inr (2, [.int 0, .int (nI M), .ref cl, .ref sa, .ref pa, .int tk])), (cl, .inl (cL, 32768, .inr (.inl (pkF (σ))))), (sa, .inl (cI, 4, .inl (fun i9 => nI ((σ) i9).2.1))), (pa, .inl (cI, 4, .inl (fun i9 => nI ((σ) i9).2.2)))]) hD hS hAq [0, 1, 2, 3] rfl
    have hKc := hK.sub (tys' := [(cL, .long), (cI, .int)]) [0, 1] rfl
    refine va_calli (va_runV (As := [.int (nI k), .int (nI p), .int (nI n)]) (rest := []) ⟨hx, hb, hml, hown, hA⟩ (c_M_lettered l D cL cI h cl sa pa M 0 tk σ H.size k hk hBσ p n (by omega) (by omega)) (q_M_lettered hA k3_128 rfl rfl ⟨(Nat.le_of_ble_eq_true rfl), (Nat.le_of_ble_eq_true rfl)⟩) (ox_V (va_recv hKc hPc (ci := 2) (q0 := 0) rfl rfl) (oxw_S hPc hKc hD)) rfl rfl hl.1 rfl (lv_room (Nat.le_of_ble_eq_true rfl)) d_M_readLetter_32 ⟨(Nat.le_of_ble_eq_true rfl), (Nat.le_of_ble_eq_true rfl)⟩) hS (fun q _ h => hFc q h) hFc (fun r32 u9 t9 H1 locs ht9 hvm9 hw9 hB9 hz1 hk1 hS => ?_)
    obtain ⟨hP, hK1, hD1⟩ := hB9
    rw [ht9] at hP
    obtain ⟨hP, hD⟩ := va_join (wr := []) (w1 := rfW cL cI h cl sa pa M 0 u9 (σ)) hPc hD [0, 1, 2, 3] [] rfl rfl (by decide) (by decide) hk1 hFc hP hD1
    generalize H1 = H at hP hS ⊢
    have hP : va_P D vCl [(h, .inr (2, [.int 0, .int (nI M), .ref cl, .ref sa, .ref pa, .int u9])), (cl, .inl (cL, 32768, .inr (.inl (pkF (σ))))), (sa, .inl (cI, 4, .inl (fun i9 => nI ((σ) i9).2.1))), (pa, .inl (cI, 4, .inl (fun i9 => nI ((σ) i9).2.2)))] H := hP
    have hD : va_D A [(h, .inr (2, [.int 0, .int (nI M), .ref cl, .ref sa, .ref pa, .int u9])), (cl, .inl (cL, 32768, .inr (.inl (pkF (σ))))), (sa, .inl (cI, 4, .inl (fun i9 => nI ((σ) i9).2.1))), (pa, .inl (cI, 4, .inl (fun i9 => nI ((σ) i9).2.2)))] := hD
    rcases hw9 with ⟨hg, rfl, rfl⟩ | ⟨hg, rfl, rfl⟩ | ⟨hg, hu9, hr9⟩
    · rw [hρ] at hg
      have hg : la B p n = -1 := hg
      refine lv_istore_n (lv' := [(2, .int 0), (0, .ref h), (1, .int (nI k))]) hx hb d_M_readLetter_35 rfl hl (by decide) rfl (fun ls hl => ?_)
      refine lv_aload_n hx hb d_M_readLetter_36 rfl (lv_at hl 1 rfl) ?_
      refine va_get (D := D) (ci := 2) (v := .int (-2)) (C := R_M) (T := F_M) (N := 6) hx hb hA i_M hown hK hP 0 rfl rfl 5 (by decide) (hA _ k2_217) (fun _ h9 => h9) rfl d_M_readLetter_37 ?_
      refine lv_if_ge (tgt := 48) hx hb d_M_readLetter_40 (by decide) (fun q9 => absurd q9 (by decide)) (fun _ => ?_)
      refine lv_aload_n hx hb d_M_readLetter_43 rfl (lv_at hl 1 rfl) ?_
      have hPc := hP
      have hFc := va_free (wc := [(h, .inr (2, [.int 0, .int (nI M), .ref cl, .ref sa, .ref pa, .int (-2)])), (cl, .inl (cL, 32768, .inr (.inl (pkF (σ))))), (sa, .inl (cI, 4, .inl (fun i9 => nI ((σ) i9).2.1))), (pa, .inl (cI, 4, .inl (fun i9 => nI ((σ) i9).2.2)))]) hD hS hAq [0, 1, 2, 3] rfl
      have hKc := hK.sub (tys' := [(cL, .long), (cI, .int)]) [0, 1] rfl
      refine va_calli (va_runV (As := []) (rest := []) ⟨hx, hb, hml, hown, hA⟩ (c_M_failed l D cL cI h cl sa pa M 0 (-2) (σ) H.size 2 (by decide)) (q_M_failed hA k3_115 rfl rfl ⟨(Nat.le_of_ble_eq_true rfl), (Nat.le_of_ble_eq_true rfl)⟩) (ox_V (va_recv hKc hPc (ci := 2) (q0 := 0) rfl rfl) (oxw_S hPc hKc hD)) rfl rfl hl.1 rfl (lv_room (Nat.le_of_ble_eq_true rfl)) d_M_readLetter_44 ⟨(Nat.le_of_ble_eq_true rfl), (Nat.le_of_ble_eq_true rfl)⟩) hS (fun q _ h => hFc q h) hFc (fun r44 u9 t9 H1 locs ht9 hvm9 hw9 hB9 hz1 hk1 hS => ?_)
      obtain ⟨hP, hK1, hD1⟩ := hB9
      rw [ht9] at hP
      obtain ⟨hP, hD⟩ := va_join (wr := []) (w1 := rfW cL cI h cl sa pa M 2 (-2) (σ)) hPc hD [0, 1, 2, 3] [] rfl rfl (by decide) (by decide) hk1 hFc hP hD1
      generalize H1 = H at hP hS ⊢
      have hP : va_P D vCl [(h, .inr (2, [.int 2, .int (nI M), .ref cl, .ref sa, .ref pa, .int (-2)])), (cl, .inl (cL, 32768, .inr (.inl (pkF (σ))))), (sa, .inl (cI, 4, .inl (fun i9 => nI ((σ) i9).2.1))), (pa, .inl (cI, 4, .inl (fun i9 => nI ((σ) i9).2.2)))] H := hP
      have hD : va_D A [(h, .inr (2, [.int 2, .int (nI M), .ref cl, .ref sa, .ref pa, .int (-2)])), (cl, .inl (cL, 32768, .inr (.inl (pkF (σ))))), (sa, .inl (cI, 4, .inl (fun i9 => nI ((σ) i9).2.1))), (pa, .inl (cI, 4, .inl (fun i9 => nI ((σ) i9).2.2)))] := hD
      subst hw9
      exact W.iret (v := 0) hx hb hr (fun t ht hW => ⟨⟨_, (2, σ, (-2)), rfl, (by unfold spReadLetter laσ; simp only [hrk, hρ]; rw [if_neg (fun h8 => h8 hR), if_pos hg]), by rw [ht]; exact hP, va_K.moved hW.alike hK, hD⟩, hS.F ht⟩) hS.2.2 d_M_readLetter_47
    · rw [hρ] at hg
      have hg : la B p n = -2 := hg
      refine lv_istore_n (lv' := [(2, .int 0), (0, .ref h), (1, .int (nI k))]) hx hb d_M_readLetter_35 rfl hl (by decide) rfl (fun ls hl => ?_)
      refine lv_aload_n hx hb d_M_readLetter_36 rfl (lv_at hl 1 rfl) ?_
      refine va_get (D := D) (ci := 2) (v := .int (-3)) (C := R_M) (T := F_M) (N := 6) hx hb hA i_M hown hK hP 0 rfl rfl 5 (by decide) (hA _ k2_217) (fun _ h9 => h9) rfl d_M_readLetter_37 ?_
      refine lv_if_ge (tgt := 48) hx hb d_M_readLetter_40 (by decide) (fun q9 => absurd q9 (by decide)) (fun _ => ?_)
      refine lv_aload_n hx hb d_M_readLetter_43 rfl (lv_at hl 1 rfl) ?_
      have hPc := hP
      have hFc := va_free (wc := [(h, .inr (2, [.int 0, .int (nI M), .ref cl, .ref sa, .ref pa, .int (-3)])), (cl, .inl (cL, 32768, .inr (.inl (pkF (σ))))), (sa, .inl (cI, 4, .inl (fun i9 => nI ((σ) i9).2.1))), (pa, .inl (cI, 4, .inl (fun i9 => nI ((σ) i9).2.2)))]) hD hS hAq [0, 1, 2, 3] rfl
      have hKc := hK.sub (tys' := [(cL, .long), (cI, .int)]) [0, 1] rfl
      refine va_calli (va_runV (As := []) (rest := []) ⟨hx, hb, hml, hown, hA⟩ (c_M_failed l D cL cI h cl sa pa M 0 (-3) (σ) H.size 3 (by decide)) (q_M_failed hA k3_115 rfl rfl ⟨(Nat.le_of_ble_eq_true rfl), (Nat.le_of_ble_eq_true rfl)⟩) (ox_V (va_recv hKc hPc (ci := 2) (q0 := 0) rfl rfl) (oxw_S hPc hKc hD)) rfl rfl hl.1 rfl (lv_room (Nat.le_of_ble_eq_true rfl)) d_M_readLetter_44 ⟨(Nat.le_of_ble_eq_true rfl), (Nat.le_of_ble_eq_true rfl)⟩) hS (fun q _ h => hFc q h) hFc (fun r44 u9 t9 H1 locs ht9 hvm9 hw9 hB9 hz1 hk1 hS => ?_)
      obtain ⟨hP, hK1, hD1⟩ := hB9
      rw [ht9] at hP
      obtain ⟨hP, hD⟩ := va_join (wr := []) (w1 := rfW cL cI h cl sa pa M 3 (-3) (σ)) hPc hD [0, 1, 2, 3] [] rfl rfl (by decide) (by decide) hk1 hFc hP hD1
      generalize H1 = H at hP hS ⊢
      have hP : va_P D vCl [(h, .inr (2, [.int 3, .int (nI M), .ref cl, .ref sa, .ref pa, .int (-3)])), (cl, .inl (cL, 32768, .inr (.inl (pkF (σ))))), (sa, .inl (cI, 4, .inl (fun i9 => nI ((σ) i9).2.1))), (pa, .inl (cI, 4, .inl (fun i9 => nI ((σ) i9).2.2)))] H := hP
      have hD : va_D A [(h, .inr (2, [.int 3, .int (nI M), .ref cl, .ref sa, .ref pa, .int (-3)])), (cl, .inl (cL, 32768, .inr (.inl (pkF (σ))))), (sa, .inl (cI, 4, .inl (fun i9 => nI ((σ) i9).2.1))), (pa, .inl (cI, 4, .inl (fun i9 => nI ((σ) i9).2.2)))] := hD
      subst hw9
      exact W.iret (v := 0) hx hb hr (fun t ht hW => ⟨⟨_, (3, σ, (-3)), rfl, (by unfold spReadLetter laσ; simp only [hrk, hρ]; rw [if_neg (fun h8 => h8 hR), if_neg (by rw [hg]; decide), if_pos hg]), by rw [ht]; exact hP, va_K.moved hW.alike hK, hD⟩, hS.F ht⟩) hS.2.2 d_M_readLetter_47
    · rw [hρ] at hg hu9 hr9
      have hg : 0 ≤ la B p n := hg
      have hu9 : u9 = nI (lwI (la B p n)) := hu9
      have hr9 : r32 = nI (la B p n).toNat := hr9
      subst hu9
      subst hr9
      have h4 := lwI_le (la B p n)
      obtain ⟨hw1, hw2⟩ := la_len hB hg
      refine lv_istore_n (lv' := [(2, .int (nI (la B p n).toNat)), (0, .ref h), (1, .int (nI k))]) hx hb d_M_readLetter_35 rfl hl (by decide) rfl (fun ls hl => ?_)
      refine lv_aload_n hx hb d_M_readLetter_36 rfl (lv_at hl 1 rfl) ?_
      refine va_get (D := D) (ci := 2) (v := .int (nI (lwI (la B p n)))) (C := R_M) (T := F_M) (N := 6) hx hb hA i_M hown hK hP 0 rfl rfl 5 (by decide) (hA _ k2_217) (fun _ h9 => h9) rfl d_M_readLetter_37 ?_
      refine lv_if_ge (tgt := 48) hx hb d_M_readLetter_40 (by decide) (fun c40 => ?_) (fun c40 => ?_)
      · rw [up_id hρ] at hP hD
        have hP : va_P D vCl [(h, .inr (2, [.int 0, .int (nI M), .ref cl, .ref sa, .ref pa, .int (nI (lwI (la B p n)))])), (cl, .inl (cL, 32768, .inr (.inl (pkF (va_up σ k (B, n, p)))))), (sa, .inl (cI, 4, .inl (fun i9 => nI ((va_up σ k (B, n, p)) i9).2.1))), (pa, .inl (cI, 4, .inl (fun i9 => nI ((va_up σ k (B, n, p)) i9).2.2)))] H := hP
        have hD : va_D A [(h, .inr (2, [.int 0, .int (nI M), .ref cl, .ref sa, .ref pa, .int (nI (lwI (la B p n)))])), (cl, .inl (cL, 32768, .inr (.inl (pkF (va_up σ k (B, n, p)))))), (sa, .inl (cI, 4, .inl (fun i9 => nI ((va_up σ k (B, n, p)) i9).2.1))), (pa, .inl (cI, 4, .inl (fun i9 => nI ((va_up σ k (B, n, p)) i9).2.2)))] := hD
        refine lv_aload_n hx hb d_M_readLetter_48 rfl (lv_at hl 1 rfl) ?_
        refine va_get (D := D) (ci := 2) (v := .ref pa) (C := R_M) (T := F_M) (N := 6) hx hb hA i_M hown hK hP 0 rfl rfl 4 (by decide) (hA _ k2_216) (fun _ h9 => h9) rfl d_M_readLetter_49 ?_
        refine lv_iload_n hx hb d_M_readLetter_52 rfl (lv_at hl 2 rfl) ?_
        refine lv_dup2_11 hx hb d_M_readLetter_53 rfl rfl ?_
        refine va_iald hx hb hK hP 3 1 rfl rfl (vp_in_nI hk (by decide)) d_M_readLetter_54 ?_
        refine lv_topi (fun v54 ev54 => ?_)
        have ev54 : v54 = nI p := by rw [ev54]; show nI ((va_up σ k (B, n, p)) (nI k).toNatClampNeg).2.2 = _; rw [nI_clamp (by omega), up_s]
        subst ev54
        refine lv_aload_n hx hb d_M_readLetter_55 rfl (lv_at hl 1 rfl) ?_
        refine va_get (D := D) (ci := 2) (v := .int (nI (lwI (la B p n)))) (C := R_M) (T := F_M) (N := 6) hx hb hA i_M hown hK hP 0 rfl rfl 5 (by decide) (hA _ k2_217) (fun _ h9 => h9) rfl d_M_readLetter_56 ?_
        refine lv_iadd hx hb d_M_readLetter_59 ?_
        refine lv_topi (fun v59 ev59 => ?_)
        have ev59 : v59 = nI (p + lwI (la B p n)) := by rw [ev59]; exact nI_add _ _
        subst ev59
        refine va_iast hx hb hK hP hD hS 3 1 rfl rfl (vp_in_nI hk (by decide)) d_M_readLetter_60 (fun H locs hP hD hS => ?_)
        have hP : va_P D vCl [(h, .inr (2, [.int 0, .int (nI M), .ref cl, .ref sa, .ref pa, .int (nI (lwI (la B p n)))])), (cl, .inl (cL, 32768, .inr (.inl (pkF (va_up σ k (B, n, p)))))), (sa, .inl (cI, 4, .inl (fun i9 => nI ((va_up σ k (B, n, p)) i9).2.1))), (pa, .inl (cI, 4, .inl (upd (fun i9 => nI ((va_up σ k (B, n, p)) i9).2.2) (nI k).toNatClampNeg (nI (p + lwI (la B p n))))))] H := hP
        have hD : va_D A [(h, .inr (2, [.int 0, .int (nI M), .ref cl, .ref sa, .ref pa, .int (nI (lwI (la B p n)))])), (cl, .inl (cL, 32768, .inr (.inl (pkF (va_up σ k (B, n, p)))))), (sa, .inl (cI, 4, .inl (fun i9 => nI ((va_up σ k (B, n, p)) i9).2.1))), (pa, .inl (cI, 4, .inl (upd (fun i9 => nI ((va_up σ k (B, n, p)) i9).2.2) (nI k).toNatClampNeg (nI (p + lwI (la B p n))))))] := hD
        rw [pl_up (σ) hk B B n p n (p + lwI (la B p n)), pc_nc (σ) k B n p n (p + lwI (la B p n)), sz_nc (σ) k B B n p (p + lwI (la B p n))] at hP hD
        have hP : va_P D vCl [(h, .inr (2, [.int 0, .int (nI M), .ref cl, .ref sa, .ref pa, .int (nI (lwI (la B p n)))])), (cl, .inl (cL, 32768, .inr (.inl (pkF (va_up (σ) k (B, n, p + lwI (la B p n))))))), (sa, .inl (cI, 4, .inl (fun i9 => nI ((va_up (σ) k (B, n, p + lwI (la B p n))) i9).2.1))), (pa, .inl (cI, 4, .inl (fun i9 => nI ((va_up (σ) k (B, n, p + lwI (la B p n))) i9).2.2)))] H := hP
        have hD : va_D A [(h, .inr (2, [.int 0, .int (nI M), .ref cl, .ref sa, .ref pa, .int (nI (lwI (la B p n)))])), (cl, .inl (cL, 32768, .inr (.inl (pkF (va_up (σ) k (B, n, p + lwI (la B p n))))))), (sa, .inl (cI, 4, .inl (fun i9 => nI ((va_up (σ) k (B, n, p + lwI (la B p n))) i9).2.1))), (pa, .inl (cI, 4, .inl (fun i9 => nI ((va_up (σ) k (B, n, p + lwI (la B p n))) i9).2.2)))] := hD
        refine lv_iload_n hx hb d_M_readLetter_61 rfl (lv_at hl 0 rfl) ?_
        exact W.iret (v := nI (la B p n).toNat) hx hb hr (fun t ht hW => ⟨⟨_, (0, va_up σ k (B, n, p + lwI (la B p n)), nI (lwI (la B p n))), rfl, (by unfold spReadLetter laσ; simp only [hrk, hρ]; rw [if_neg (fun h8 => h8 hR), if_neg (by omega), if_neg (by omega)]), by rw [ht]; exact hP, va_K.moved hW.alike hK, hD⟩, hS.F ht⟩) hS.2.2 d_M_readLetter_62
      · exact absurd (nI_pos' (by omega)) c40
  · refine lv_if_ne (tgt := 18) hx hb d_M_readLetter_9 (by decide) (fun q9 => absurd (by decide) q9) (fun _ => ?_)
    refine lv_aload_n hx hb d_M_readLetter_12 rfl (lv_at hl 0 rfl) ?_
    refine lv_iconst (v := 1) hx hb d_M_readLetter_13 (by decide) ?_
    have hPc := hP
    have hFc := va_free (wc := [(h, .inr (2, [.int 0, .int (nI M), .ref cl, .ref sa, .ref pa, .int tk])), (cl, .inl (cL, 32768, .inr (.inl (pkF (σ))))), (sa, .inl (cI, 4, .inl (fun i9 => nI ((σ) i9).2.1))), (pa, .inl (cI, 4, .inl (fun i9 => nI ((σ) i9).2.2)))]) hD hS hAq [0, 1, 2, 3] rfl
    have hKc := hK.sub (tys' := [(cL, .long), (cI, .int)]) [0, 1] rfl
    refine va_calli (va_runV (As := [.int 1]) (rest := []) ⟨hx, hb, hml, hown, hA⟩ (c_M_fail l D cL cI h cl sa pa M 0 tk (σ) H.size 1) (q_M_fail hA k3_4 rfl rfl ⟨(Nat.le_of_ble_eq_true rfl), (Nat.le_of_ble_eq_true rfl)⟩) (ox_V (va_recv hKc hPc (ci := 2) (q0 := 0) rfl rfl) (oxw_S hPc hKc hD)) rfl rfl hl.1 rfl (lv_room (Nat.le_of_ble_eq_true rfl)) d_M_readLetter_14 ⟨(Nat.le_of_ble_eq_true rfl), (Nat.le_of_ble_eq_true rfl)⟩) hS (fun q _ h => hFc q h) hFc (fun r14 u9 t9 H1 locs ht9 hvm9 hw9 hB9 hz1 hk1 hS => ?_)
    obtain ⟨hP, hK1, hD1⟩ := hB9
    rw [ht9] at hP
    obtain ⟨hP, hD⟩ := va_join (wr := []) (w1 := rfW cL cI h cl sa pa M 1 tk (σ)) hPc hD [0, 1, 2, 3] [] rfl rfl (by decide) (by decide) hk1 hFc hP hD1
    generalize H1 = H at hP hS ⊢
    have hP : va_P D vCl [(h, .inr (2, [.int 1, .int (nI M), .ref cl, .ref sa, .ref pa, .int tk])), (cl, .inl (cL, 32768, .inr (.inl (pkF (σ))))), (sa, .inl (cI, 4, .inl (fun i9 => nI ((σ) i9).2.1))), (pa, .inl (cI, 4, .inl (fun i9 => nI ((σ) i9).2.2)))] H := hP
    have hD : va_D A [(h, .inr (2, [.int 1, .int (nI M), .ref cl, .ref sa, .ref pa, .int tk])), (cl, .inl (cL, 32768, .inr (.inl (pkF (σ))))), (sa, .inl (cI, 4, .inl (fun i9 => nI ((σ) i9).2.1))), (pa, .inl (cI, 4, .inl (fun i9 => nI ((σ) i9).2.2)))] := hD
    subst hw9
    exact W.iret (v := 0) hx hb hr (fun t ht hW => ⟨⟨_, (1, σ, tk), rfl, (by unfold spReadLetter; rw [if_pos hR]), by rw [ht]; exact hP, va_K.moved hW.alike hK, hD⟩, hS.F ht⟩) hS.2.2 d_M_readLetter_17
