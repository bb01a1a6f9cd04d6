/-! THE REFERENCE: WRITING -/
theorem rd_g {σ : dkS} {k f : Nat} {B C : Nat → Nat} {n p : Nat} (hρ : σ k = (B, n, p)) (hC : ∀ j, j < n → C j = B j) {j : Nat} (n' p' : Nat) (h : j < (σ f).2.1) : (va_up σ k (C, n', p') f).1 j = (σ f).1 j := by
  by_cases q : f = k
  · subst q
    rw [up_s]
    rw [hρ] at h ⊢
    exact hC j h
  · rw [up_n _ q]
theorem bok_w {M : Nat} {σ : dkS} (hσ : dkok M σ) {k f : Nat} (hf : f < 4) {C : Nat → Nat} (hC : ∀ j, C j < 256) (n' p' : Nat) : ∀ j, (va_up σ k (C, n', p') f).1 j < 256 := by
  intro j
  by_cases q : f = k
  · subst q
    rw [up_s]
    exact hC j
  · rw [up_n _ q]
    exact (hσ.2 f hf).2.2 j
theorem sh_32 : ∀ b, b < 4 → ((nI (8 * b)) &&& 31).toBitVec.smod 32 = BitVec.ofNat 32 (8 * b) := by decide +kernel
/-- a byte of an int, as the reference takes it, is the byte of its long -/
theorem sb32 (S : Int32) {b : Nat} (hb : b < 4) : (S >>> (nI (8 * b) &&& 31)) &&& 255 = nI (fb (uNl S.toInt64) b) := by
  have e : (S >>> (nI (8 * b) &&& 31)).toBitVec = S.toBitVec.sshiftRight (8 * b) := by
    show S.toBitVec.sshiftRight' ((nI (8 * b) &&& 31).toBitVec.smod 32) = _
    rw [sh_32 b hb, BitVec.sshiftRight', BitVec.toNat_ofNat, Nat.mod_eq_of_lt (by omega)]
  rw [pk_and _ 8 (by decide), e]
  congr 1
  apply Nat.eq_of_testBit_eq
  intro i
  unfold fb uNl
  rw [show (256 : Nat) = 2 ^ 8 from rfl, Nat.testBit_mod_two_pow, Nat.testBit_mod_two_pow, Nat.testBit_div_two_pow, BitVec.testBit_toNat, BitVec.testBit_toNat, BitVec.getLsbD_sshiftRight]
  by_cases h : i < 8
  · rw [if_pos (by omega), show S.toInt64.toBitVec = S.toBitVec.signExtend 64 from rfl, BitVec.getLsbD_signExtend, if_pos (by omega), Nat.add_comm i]
    simp [h, show ¬ 32 ≤ i by omega, show 8 * b + i < 64 by omega]
  · simp [h]
set_option maxHeartbeats 600000 in
set_option maxRecDepth 100000 in
/-- fixed -/
theorem c_M_fixed (l : Launch) (D : va_G) (cL cI : ClassId) (h cl sa pa M : Nat) (th tk : Int32) (σ : dkS) (sz : Nat) (x : Int32) (u : Nat) (hu : u < 2 ^ 64) (z : Int32) (hσ : dkok M σ) : Met l y_M_fixed w_M_fixed ({ frames := 2, cells := 0, slots := 0, locals := 47 }) (va_Pc [.ref h, .int x, .long (lN u), .int z] (oxw sz D [(cL, .long), (cI, .int)] [(h, .inr (2, [.int th, .int (nI M), .ref cl, .ref sa, .ref pa, .int tk])), (cl, .inl (cL, 32768, .inr (.inl (pkF (σ))))), (sa, .inl (cI, 4, .inl (fun i9 => nI ((σ) i9).2.1))), (pa, .inl (cI, 4, .inl (fun i9 => nI ((σ) i9).2.2)))])) (va_Qi (fun (r : Int32) (uu : Nat × dkS × Int32) => spFixed M σ x u z = (uu.1, r, uu.2.1)) (fun uu => ow D [(cL, .long), (cI, .int)] (va_A [(h, .inr (2, [.int th, .int (nI M), .ref cl, .ref sa, .ref pa, .int tk])), (cl, .inl (cL, 32768, .inr (.inl (pkF (σ))))), (sa, .inl (cI, 4, .inl (fun i9 => nI ((σ) i9).2.1))), (pa, .inl (cI, 4, .inl (fun i9 => nI ((σ) i9).2.2)))] sz) (rfW cL cI h cl sa pa M (nI uu.1) uu.2.2 uu.2.1)) (va_A [(h, .inr (2, [.int th, .int (nI M), .ref cl, .ref sa, .ref pa, .int tk])), (cl, .inl (cL, 32768, .inr (.inl (pkF (σ))))), (sa, .inl (cI, 4, .inl (fun i9 => nI ((σ) i9).2.1))), (pa, .inl (cI, 4, .inl (fun i9 => nI ((σ) i9).2.2)))] sz)) 0 0 (va_A [(h, .inr (2, [.int th, .int (nI M), .ref cl, .ref sa, .ref pa, .int tk])), (cl, .inl (cL, 32768, .inr (.inl (pkF (σ))))), (sa, .inl (cI, 4, .inl (fun i9 => nI ((σ) i9).2.1))), (pa, .inl (cI, 4, .inl (fun i9 => nI ((σ) i9).2.2)))] sz) := by
  refine Met.ofW (cc := b_M_fixed) (maxL := 6) (ret := (some .int)) (by decide) rfl ?_
  intro p9 e9 s m args below meth c9 s₁ BL hml hv
  obtain ⟨rfl, hsz, hP, hK, hD0⟩ := hv
  have hx := BL.exec
  have hb := BL.bytes
  have hr := BL.returns
  have hts := atoms_spec (ws := w_M_fixed) BL.pre
  have hA : ∀ w ∈ wsA, w.before _ s = true := fun w h => hts w (List.mem_cons_of_mem _ h)
  have hown : s.vm.findClass R_M = some m.cls := findClass_of_methodNamed BL.named
  have hlocks := BL.notSynchronized
  subst hsz
  have hD := hD0.self (sz := s.heap.size)
  generalize hAe : va_A [(h, .inr (2, [.int th, .int (nI M), .ref cl, .ref sa, .ref pa, .int tk])), (cl, .inl (cL, 32768, .inr (.inl (pkF (σ))))), (sa, .inl (cI, 4, .inl (fun i9 => nI ((σ) i9).2.1))), (pa, .inl (cI, 4, .inl (fun i9 => nI ((σ) i9).2.2)))] s.heap.size = A at hD ⊢
  have hAq : ∀ q : Nat, s.heap.size ≤ q → A q := fun q h => by rw [← hAe]; exact Or.inr h
  have hS : va_S A s.heap s.heap [] := va_S.rf
  have hP : va_P D vCl [(h, .inr (2, [.int th, .int (nI M), .ref cl, .ref sa, .ref pa, .int tk])), (cl, .inl (cL, 32768, .inr (.inl (pkF (σ))))), (sa, .inl (cI, 4, .inl (fun i9 => nI ((σ) i9).2.1))), (pa, .inl (cI, 4, .inl (fun i9 => nI ((σ) i9).2.2)))] s.heap := hP
  have hl := lv_entry ([.ref h, .int x, .long (lN u), .int z]) (n := 6) (Nat.le_of_ble_eq_true rfl)
  rw [lg_entry_eq]
  generalize (lg_sl ([.ref h, .int x, .long (lN u), .int z]) ++ List.replicate (6 - (lg_sl ([.ref h, .int x, .long (lN u), .int z])).length) Slot.unset).toArray = ls at hl ⊢
  have hl : lv_has ls 6 [(0, .ref h), (1, .int x), (2, .long (lN u)), (4, .int z)] := hl
  refine lv_aload_n hx hb d_M_fixed_0 rfl (lv_at hl 0 rfl) ?_
  refine lv_iconst (v := 0) hx hb d_M_fixed_1 (by decide) ?_
  refine va_put (D := D) (ci := 2) (v := .int 0) (ty := .int) (C := R_M) (T := F_M) (N := 6) hx hb hA i_M t_M t_M_ok n_M hown hK hP hD hS 0 rfl rfl 0 (by decide) (hA _ k2_212) (fun _ h9 => h9) rfl (by decide +kernel) rfl rfl (Nat.le_of_ble_eq_true rfl) d_M_fixed_2 (fun H locs hP hD hS => ?_)
  have hP : va_P D vCl [(h, .inr (2, [.int 0, .int (nI M), .ref cl, .ref sa, .ref pa, .int tk])), (cl, .inl (cL, 32768, .inr (.inl (pkF (σ))))), (sa, .inl (cI, 4, .inl (fun i9 => nI ((σ) i9).2.1))), (pa, .inl (cI, 4, .inl (fun i9 => nI ((σ) i9).2.2)))] H := hP
  have hD : va_D A [(h, .inr (2, [.int 0, .int (nI M), .ref cl, .ref sa, .ref pa, .int tk])), (cl, .inl (cL, 32768, .inr (.inl (pkF (σ))))), (sa, .inl (cI, 4, .inl (fun i9 => nI ((σ) i9).2.1))), (pa, .inl (cI, 4, .inl (fun i9 => nI ((σ) i9).2.2)))] := hD
  refine lv_iload_n hx hb d_M_fixed_5 rfl (lv_at hl 1 rfl) ?_
  refine vp_callSi (W.runS (As := [.int x]) (rest := []) ⟨hx, hb, hml, hown, hA⟩ (c_M_isRow l x) (q_M_isRow hA k3_1 rfl rfl ⟨(Nat.le_of_ble_eq_true rfl), (Nat.le_of_ble_eq_true rfl)⟩) (⟨fun a U g mk q => q, fun U hU hW => ⟨rfl, trivial⟩⟩) rfl rfl hl.1 rfl (lv_room (Nat.le_of_ble_eq_true rfl)) d_M_fixed_6 ⟨(Nat.le_of_ble_eq_true rfl), (Nat.le_of_ble_eq_true rfl)⟩) (fun r6 hr6 => ?_)
  rcases hr6 with ⟨hR, rfl⟩ | ⟨hR, rfl⟩
  · refine lv_if_ne (tgt := 18) hx hb d_M_fixed_9 (by decide) (fun _ => ?_) (fun q9 => absurd q9 (by decide))
    obtain ⟨k, hk0, rfl⟩ := nI_of (show ¬ x < 0 by rw [Int32.lt_iff_toInt_lt, li_0]; exact Int.not_lt.mpr hR.1)
    have hk : k < 4 := by have h9 := hR.2; rw [nI_toInt hk0] at h9; omega
    have hrk : rj (nI k) = k := rj_n hk
    obtain ⟨⟨B, n, p⟩, hρ⟩ : ∃ ρ, σ k = ρ := ⟨_, rfl⟩
    have hk9 := hσ.2 k hk
    have hBσ : ∀ j, (σ k).1 j < 256 := hk9.2.2
    have hnσ : (σ k).2.1 ≤ 65536 := Nat.le_trans hk9.2.1 hσ.1
    rw [hρ] at hk9
    obtain ⟨hp, hn, hB⟩ := hk9
    have hp : p ≤ n := hp
    have hn : n ≤ M := hn
    have hB : ∀ j, B j < 256 := hB
    have hM := hσ.1
    refine lv_iload hx hb d_M_fixed_18 (lv_at hl 3 rfl) ?_
    refine lv_iconst (v := 1) hx hb d_M_fixed_20 (by decide) ?_
    refine lv_icmp_lt (tgt := 31) hx hb d_M_fixed_21 (by decide) (fun c21 => ?_) (fun c21 => ?_)
    · have hz2 : ¬ (1 ≤ z.toInt ∧ z.toInt ≤ 8) := by simp only [Int32.lt_iff_toInt_lt, Int32.le_iff_toInt_le, li_0, li_1, li_2, li_3, li_4, li_8, li_10, li_16, li_63, li_127, li_128, li_191, li_192, li_194, li_224, li_240, li_244, li_255, li_2048, li_55296, li_57343, li_65536, li_1114111, li_m1, li_m2] at *; omega
      refine lv_aload_n hx hb d_M_fixed_31 rfl (lv_at hl 0 rfl) ?_
      refine lv_iconst (v := 2) hx hb d_M_fixed_32 (by decide) ?_
      have hPc := hP
      have hFc := va_free (wc := [(h, .inr (2, [.int 0, .int (nI M), .ref cl, .ref sa, .ref pa, .int tk])), (cl, .inl (cL, 32768, .inr (.inl (pkF (σ))))), (sa, .inl (cI, 4, .inl (fun i9 => nI ((σ) i9).2.1))), (pa, .inl (cI, 4, .inl (fun i9 => nI ((σ) i9).2.2)))]) hD hS hAq [0, 1, 2, 3] rfl
      have hKc := hK.sub (tys' := [(cL, .long), (cI, .int)]) [0, 1] rfl
      refine va_calli (va_runV (As := [.int 2]) (rest := []) ⟨hx, hb, hml, hown, hA⟩ (c_M_fail l D cL cI h cl sa pa M 0 tk (σ) H.size 2) (q_M_fail hA k3_4 rfl rfl ⟨(Nat.le_of_ble_eq_true rfl), (Nat.le_of_ble_eq_true rfl)⟩) (ox_V (va_recv hKc hPc (ci := 2) (q0 := 0) rfl rfl) (oxw_S hPc hKc hD)) rfl rfl hl.1 rfl (lv_room (Nat.le_of_ble_eq_true rfl)) d_M_fixed_33 ⟨(Nat.le_of_ble_eq_true rfl), (Nat.le_of_ble_eq_true rfl)⟩) hS (fun q _ h => hFc q h) hFc (fun r33 u9 t9 H1 locs ht9 hvm9 hw9 hB9 hz1 hk1 hS => ?_)
      obtain ⟨hP, hK1, hD1⟩ := hB9
      rw [ht9] at hP
      obtain ⟨hP, hD⟩ := va_join (wr := []) (w1 := rfW cL cI h cl sa pa M 2 tk (σ)) hPc hD [0, 1, 2, 3] [] rfl rfl (by decide) (by decide) hk1 hFc hP hD1
      generalize H1 = H at hP hS ⊢
      have hP : va_P D vCl [(h, .inr (2, [.int 2, .int (nI M), .ref cl, .ref sa, .ref pa, .int tk])), (cl, .inl (cL, 32768, .inr (.inl (pkF (σ))))), (sa, .inl (cI, 4, .inl (fun i9 => nI ((σ) i9).2.1))), (pa, .inl (cI, 4, .inl (fun i9 => nI ((σ) i9).2.2)))] H := hP
      have hD : va_D A [(h, .inr (2, [.int 2, .int (nI M), .ref cl, .ref sa, .ref pa, .int tk])), (cl, .inl (cL, 32768, .inr (.inl (pkF (σ))))), (sa, .inl (cI, 4, .inl (fun i9 => nI ((σ) i9).2.1))), (pa, .inl (cI, 4, .inl (fun i9 => nI ((σ) i9).2.2)))] := hD
      subst hw9
      exact W.iret (v := 0) hx hb hr (fun t ht hW => ⟨⟨_, (2, σ, tk), rfl, (by unfold spFixed; simp only [hrk, hρ]; rw [if_neg (fun h8 => h8 hR), if_pos hz2]), by rw [ht]; exact hP, va_K.moved hW.alike hK, hD⟩, hS.F ht⟩) hS.2.2 d_M_fixed_36
    · refine lv_iload hx hb d_M_fixed_24 (lv_at hl 3 rfl) ?_
      refine lv_bipush (v := 8) hx hb d_M_fixed_26 (by decide) ?_
      refine lv_icmp_le (tgt := 37) hx hb d_M_fixed_28 (by decide) (fun c28 => ?_) (fun c28 => ?_)
      · have hz2 : 1 ≤ z.toInt ∧ z.toInt ≤ 8 := by simp only [Int32.lt_iff_toInt_lt, Int32.le_iff_toInt_le, li_0, li_1, li_2, li_3, li_4, li_8, li_10, li_16, li_63, li_127, li_128, li_191, li_192, li_194, li_224, li_240, li_244, li_255, li_2048, li_55296, li_57343, li_65536, li_1114111, li_m1, li_m2] at *; omega
        obtain ⟨m2, hm20, rfl⟩ := nI_of (show ¬ z < 0 by rw [Int32.lt_iff_toInt_lt, li_0]; omega)
        have hm2i : (nI m2).toInt = (m2 : Int) := nI_toInt hm20
        have hm2n : (nI m2).toInt.toNat = m2 := by rw [hm2i]; rfl
        refine lv_aload_n hx hb d_M_fixed_37 rfl (lv_at hl 0 rfl) ?_
        refine lv_iload_n hx hb d_M_fixed_38 rfl (lv_at hl 1 rfl) ?_
        refine lv_iload hx hb d_M_fixed_39 (lv_at hl 3 rfl) ?_
        have hPc := hP.sub (ws' := [(h, .inr (2, [.int 0, .int (nI M), .ref cl, .ref sa, .ref pa, .int tk])), (cl, .inl (cL, 32768, .inr (.inl (pkF (σ))))), (sa, .inl (cI, 4, .inl (fun i9 => nI ((σ) i9).2.1))), (pa, .inl (cI, 4, .inl (fun i9 => nI ((σ) i9).2.2)))]) [0, 1, 2, 3] rfl
        have hKc := hK.sub (tys' := [(cL, .long), (cI, .int)]) [0, 1] rfl
        refine vp_callSi (W.runV (As := [.int (nI k), .int (nI m2)]) (rest := []) ⟨hx, hb, hml, hown, hA⟩ (c_M_fits l D cL cI h cl sa pa M 0 tk σ k m2 hk hnσ (by omega) hM) (q_M_fits hA k3_8 rfl rfl ⟨(Nat.le_of_ble_eq_true rfl), (Nat.le_of_ble_eq_true rfl)⟩) (ox_V (va_recv hKc hPc (ci := 2) (q0 := 0) rfl rfl) (ox_S hPc hKc)) rfl rfl hl.1 rfl (lv_room (Nat.le_of_ble_eq_true rfl)) d_M_fixed_41 ⟨(Nat.le_of_ble_eq_true rfl), (Nat.le_of_ble_eq_true rfl)⟩) (fun r41 hr41 => ?_)
        rcases hr41 with ⟨hF, rfl⟩ | ⟨hF, rfl⟩
        · refine lv_if_ne (tgt := 53) hx hb d_M_fixed_44 (by decide) (fun _ => ?_) (fun q9 => absurd q9 (by decide))
          rw [hρ] at hF
          have hF2 : n + m2 ≤ M := hF
          rw [up_id hρ] at hP hD
          have hP : va_P D vCl [(h, .inr (2, [.int 0, .int (nI M), .ref cl, .ref sa, .ref pa, .int tk])), (cl, .inl (cL, 32768, .inr (.inl (pkF (va_up σ k (B, n, p)))))), (sa, .inl (cI, 4, .inl (fun i9 => nI ((va_up σ k (B, n, p)) i9).2.1))), (pa, .inl (cI, 4, .inl (fun i9 => nI ((va_up σ k (B, n, p)) i9).2.2)))] H := hP
          have hD : va_D A [(h, .inr (2, [.int 0, .int (nI M), .ref cl, .ref sa, .ref pa, .int tk])), (cl, .inl (cL, 32768, .inr (.inl (pkF (va_up σ k (B, n, p)))))), (sa, .inl (cI, 4, .inl (fun i9 => nI ((va_up σ k (B, n, p)) i9).2.1))), (pa, .inl (cI, 4, .inl (fun i9 => nI ((va_up σ k (B, n, p)) i9).2.2)))] := hD
          rw [show va_up (σ) k (B, n, p) = va_up (σ) k (wr B n 0 (fb u), n + 0, p) from by rw [wr_0, Nat.add_zero]] at hP hD
          have hP : va_P D vCl [(h, .inr (2, [.int 0, .int (nI M), .ref cl, .ref sa, .ref pa, .int tk])), (cl, .inl (cL, 32768, .inr (.inl (pkF (va_up (σ) k (wr B n 0 (fb u), n + 0, p)))))), (sa, .inl (cI, 4, .inl (fun i9 => nI ((va_up (σ) k (wr B n 0 (fb u), n + 0, p)) i9).2.1))), (pa, .inl (cI, 4, .inl (fun i9 => nI ((va_up (σ) k (wr B n 0 (fb u), n + 0, p)) i9).2.2)))] H := hP
          have hD : va_D A [(h, .inr (2, [.int 0, .int (nI M), .ref cl, .ref sa, .ref pa, .int tk])), (cl, .inl (cL, 32768, .inr (.inl (pkF (va_up (σ) k (wr B n 0 (fb u), n + 0, p)))))), (sa, .inl (cI, 4, .inl (fun i9 => nI ((va_up (σ) k (wr B n 0 (fb u), n + 0, p)) i9).2.1))), (pa, .inl (cI, 4, .inl (fun i9 => nI ((va_up (σ) k (wr B n 0 (fb u), n + 0, p)) i9).2.2)))] := hD
          refine lv_iconst (v := 0) hx hb d_M_fixed_53 (by decide) ?_
          refine lv_topi (fun v53 ev53 => ?_)
          have ev53 : v53 = nI 0 := by rw [ev53]; rfl
          subst ev53
          refine lv_istore (lv' := [(5, .int (nI 0)), (0, .ref h), (1, .int (nI k)), (2, .long (lN u)), (4, .int (nI m2))]) hx hb d_M_fixed_54 hl (by decide) rfl (fun ls hl => ?_)
          have loop : ∀ (q i2 : Nat), i2 + q = m2 + 1 → i2 ≤ m2 → ∀ (H : Heap) (locs : List Loc), va_P D vCl [(h, .inr (2, [.int 0, .int (nI M), .ref cl, .ref sa, .ref pa, .int tk])), (cl, .inl (cL, 32768, .inr (.inl (pkF (va_up σ k (wr B n i2 (fb u), n + i2, p)))))), (sa, .inl (cI, 4, .inl (fun i9 => nI ((va_up σ k (wr B n i2 (fb u), n + i2, p)) i9).2.1))), (pa, .inl (cI, 4, .inl (fun i9 => nI ((va_up σ k (wr B n i2 (fb u), n + i2, p)) i9).2.2)))] H → va_D A [(h, .inr (2, [.int 0, .int (nI M), .ref cl, .ref sa, .ref pa, .int tk])), (cl, .inl (cL, 32768, .inr (.inl (pkF (va_up σ k (wr B n i2 (fb u), n + i2, p)))))), (sa, .inl (cI, 4, .inl (fun i9 => nI ((va_up σ k (wr B n i2 (fb u), n + i2, p)) i9).2.1))), (pa, .inl (cI, 4, .inl (fun i9 => nI ((va_up σ k (wr B n i2 (fb u), n + i2, p)) i9).2.2)))] → va_S A s.heap H locs → ∀ (ls : Array Slot), lv_has ls 6 [(5, .int (nI i2)), (0, .ref h), (1, .int (nI k)), (2, .long (lN u)), (4, .int (nI m2))] → W p9 l e9 (headSpec w_M_fixed ({ frames := 2, cells := 0, slots := 0, locals := 47 })).room s m [.ref h, .int (nI k), .long (lN u), .int (nI m2)].toArray below meth c9 H locs 0 0 (MQ below (va_Qi (fun (r : Int32) (uu : Nat × dkS × Int32) => spFixed M σ (nI k) u (nI m2) = (uu.1, r, uu.2.1)) (fun uu => ow D [(cL, .long), (cI, .int)] A (rfW cL cI h cl sa pa M (nI uu.1) uu.2.2 uu.2.1)) A) [.ref h, .int (nI k), .long (lN u), .int (nI m2)].toArray s 0 0 A) (F0 m 56 ls []) := by
            intro q
            induction q with
            | zero =>
              intro i2 hq hi2 H locs hP hD hS ls hl
              exact absurd hq (by omega)
            | succ q ih_loop =>
              intro i2 hq hi2 H locs hP hD hS ls hl
              refine lv_iload hx hb d_M_fixed_56 (lv_at hl 0 rfl) ?_
              refine lv_iload hx hb d_M_fixed_58 (lv_at hl 4 rfl) ?_
              refine lv_icmp_ge (tgt := 86) hx hb d_M_fixed_60 (by decide) (fun c60 => ?_) (fun c60 => ?_)
              · obtain rfl : i2 = m2 := by have := (nI_leI (a := m2) (b := i2) (by omega) (by omega)).mp c60; omega
                refine lv_aload_n hx hb d_M_fixed_86 rfl (lv_at hl 1 rfl) ?_
                refine va_get (D := D) (ci := 2) (v := .ref sa) (C := R_M) (T := F_M) (N := 6) hx hb hA i_M hown hK hP 0 rfl rfl 3 (by decide) (hA _ k2_215) (fun _ h9 => h9) rfl d_M_fixed_87 ?_
                refine lv_iload_n hx hb d_M_fixed_90 rfl (lv_at hl 2 rfl) ?_
                refine va_iald hx hb hK hP 2 1 rfl rfl (vp_in_nI hk (by decide)) d_M_fixed_91 ?_
                refine lv_topi (fun v91 ev91 => ?_)
                have ev91 : v91 = nI (n + i2) := by rw [ev91]; show nI ((va_up σ k (wr B n i2 (fb u), n + i2, p)) (nI k).toNatClampNeg).2.1 = _; rw [nI_clamp (by omega), up_s]
                subst ev91
                exact W.iret (v := nI (n + i2)) hx hb hr (fun t ht hW => ⟨⟨_, (0, va_up σ k (wr B n i2 (fb u), n + i2, p), tk), rfl, (by unfold spFixed; simp only [hrk, hρ]; rw [if_neg (fun h8 => h8 hR), if_neg (fun h8 => h8 hz2), hm2n, if_neg (Nat.not_lt.mpr hF2)]), by rw [ht]; exact hP, va_K.moved hW.alike hK, hD⟩, hS.F ht⟩) hS.2.2 d_M_fixed_92
              · have hi3 : i2 < m2 := by have := mt (nI_leI (a := m2) (b := i2) (by omega) (by omega)).mpr c60; omega
                refine lv_aload_n hx hb d_M_fixed_63 rfl (lv_at hl 1 rfl) ?_
                refine lv_iload_n hx hb d_M_fixed_64 rfl (lv_at hl 2 rfl) ?_
                refine lv_lload_n hx hb d_M_fixed_65 rfl (lv_at hl 3 rfl) ?_
                refine lv_bipush (v := 8) hx hb d_M_fixed_66 (by decide) ?_
                refine lv_iload hx hb d_M_fixed_68 (lv_at hl 0 rfl) ?_
                refine lv_imul hx hb d_M_fixed_70 ?_
                refine lv_topi (fun v70 ev70 => ?_)
                have ev70 : v70 = nI (8 * i2) := by rw [ev70]; exact pk_mul 8 i2
                subst ev70
                refine lv_lshr hx hb d_M_fixed_71 rfl ?_
                refine lv_topl (fun v71 ev71 => ?_)
                refine lv_ldc2 (v := 255) hx hb hown (hA _ k3_12) d_M_fixed_72 ?_
                refine lv_land hx hb d_M_fixed_75 ?_
                refine lv_topl (fun v75 ev75 => ?_)
                have ev75 : v75 = lN (fb u i2) := by rw [ev75, ev71]; exact sh8 u (by omega)
                subst ev75
                refine lv_l2i hx hb d_M_fixed_76 rfl ?_
                refine lv_topi (fun v76 ev76 => ?_)
                have ev76 : v76 = nI (fb u i2) := by rw [ev76]; exact lN_i _
                subst ev76
                have hPc := hP
                have hFc := va_free (wc := [(h, .inr (2, [.int 0, .int (nI M), .ref cl, .ref sa, .ref pa, .int tk])), (cl, .inl (cL, 32768, .inr (.inl (pkF (va_up σ k (wr B n i2 (fb u), n + i2, p)))))), (sa, .inl (cI, 4, .inl (fun i9 => nI ((va_up σ k (wr B n i2 (fb u), n + i2, p)) i9).2.1))), (pa, .inl (cI, 4, .inl (fun i9 => nI ((va_up σ k (wr B n i2 (fb u), n + i2, p)) i9).2.2)))]) hD hS hAq [0, 1, 2, 3] rfl
                have hKc := hK.sub (tys' := [(cL, .long), (cI, .int)]) [0, 1] rfl
                refine va_callv (va_runV (As := [.int (nI k), .int (nI (fb u i2))]) (rest := []) ⟨hx, hb, hml, hown, hA⟩ (c_M_add l D cL cI h cl sa pa M 0 tk (σ) H.size k hk (wr B n i2 (fb u)) (n + i2) p (wr_lt hB (fun i9 _ => fb_lt u i9)) (fb u i2) (by omega) (fb_lt u i2)) (q_M_add hA k3_13 rfl rfl ⟨(Nat.le_of_ble_eq_true rfl), (Nat.le_of_ble_eq_true rfl)⟩) (ox_V (va_recv hKc hPc (ci := 2) (q0 := 0) rfl rfl) (oxw_S hPc hKc hD)) rfl rfl hl.1 rfl (lv_room (Nat.le_of_ble_eq_true rfl)) d_M_fixed_77 ⟨(Nat.le_of_ble_eq_true rfl), (Nat.le_of_ble_eq_true rfl)⟩) hS (fun q _ h => hFc q h) hFc (fun u9 t9 H1 locs ht9 hvm9 hw9 hB9 hz1 hk1 hS => ?_)
                obtain ⟨hP, hK1, hD1⟩ := hB9
                rw [ht9] at hP
                obtain ⟨hP, hD⟩ := va_join (wr := []) (w1 := rfW cL cI h cl sa pa M 0 tk (va_up (σ) k (va_up (wr B n i2 (fb u)) (n + i2) (fb u i2), n + i2 + 1, p))) hPc hD [0, 1, 2, 3] [] rfl rfl (by decide) (by decide) hk1 hFc hP hD1
                generalize H1 = H at hP hS ⊢
                have hP : va_P D vCl [(h, .inr (2, [.int 0, .int (nI M), .ref cl, .ref sa, .ref pa, .int tk])), (cl, .inl (cL, 32768, .inr (.inl (pkF (va_up (σ) k (va_up (wr B n i2 (fb u)) (n + i2) (fb u i2), n + i2 + 1, p)))))), (sa, .inl (cI, 4, .inl (fun i9 => nI ((va_up (σ) k (va_up (wr B n i2 (fb u)) (n + i2) (fb u i2), n + i2 + 1, p)) i9).2.1))), (pa, .inl (cI, 4, .inl (fun i9 => nI ((va_up (σ) k (va_up (wr B n i2 (fb u)) (n + i2) (fb u i2), n + i2 + 1, p)) i9).2.2)))] H := hP
                have hD : va_D A [(h, .inr (2, [.int 0, .int (nI M), .ref cl, .ref sa, .ref pa, .int tk])), (cl, .inl (cL, 32768, .inr (.inl (pkF (va_up (σ) k (va_up (wr B n i2 (fb u)) (n + i2) (fb u i2), n + i2 + 1, p)))))), (sa, .inl (cI, 4, .inl (fun i9 => nI ((va_up (σ) k (va_up (wr B n i2 (fb u)) (n + i2) (fb u i2), n + i2 + 1, p)) i9).2.1))), (pa, .inl (cI, 4, .inl (fun i9 => nI ((va_up (σ) k (va_up (wr B n i2 (fb u)) (n + i2) (fb u i2), n + i2 + 1, p)) i9).2.2)))] := hD
                rw [wr_s, Nat.add_assoc n i2 1] at hP hD
                have hP : va_P D vCl [(h, .inr (2, [.int 0, .int (nI M), .ref cl, .ref sa, .ref pa, .int tk])), (cl, .inl (cL, 32768, .inr (.inl (pkF (va_up (σ) k (wr B n (i2 + 1) (fb u), n + (i2 + 1), p)))))), (sa, .inl (cI, 4, .inl (fun i9 => nI ((va_up (σ) k (wr B n (i2 + 1) (fb u), n + (i2 + 1), p)) i9).2.1))), (pa, .inl (cI, 4, .inl (fun i9 => nI ((va_up (σ) k (wr B n (i2 + 1) (fb u), n + (i2 + 1), p)) i9).2.2)))] H := hP
                have hD : va_D A [(h, .inr (2, [.int 0, .int (nI M), .ref cl, .ref sa, .ref pa, .int tk])), (cl, .inl (cL, 32768, .inr (.inl (pkF (va_up (σ) k (wr B n (i2 + 1) (fb u), n + (i2 + 1), p)))))), (sa, .inl (cI, 4, .inl (fun i9 => nI ((va_up (σ) k (wr B n (i2 + 1) (fb u), n + (i2 + 1), p)) i9).2.1))), (pa, .inl (cI, 4, .inl (fun i9 => nI ((va_up (σ) k (wr B n (i2 + 1) (fb u), n + (i2 + 1), p)) i9).2.2)))] := hD
                obtain ⟨v80, ev80⟩ : ∃ y : Int32, y = nI i2 + 1 := ⟨_, rfl⟩
                refine lv_iinc (v := v80) (lv' := [(5, .int v80), (0, .ref h), (1, .int (nI k)), (2, .long (lN u)), (4, .int (nI m2))]) hx hb d_M_fixed_80 hl (k := 0) rfl (by rw [ev80]; rfl) (by decide) rfl (fun ls hl => ?_)
                have ev80 : v80 = nI (i2 + 1) := by rw [ev80]; exact nI_1 i2
                subst ev80
                refine lv_goto (tgt := 56) hx hb d_M_fixed_83 (by decide) ?_
                exact ih_loop (i2 + 1) (by omega) (by omega) _ _ (hP.sub [0, 1, 2, 3] rfl) (hD.sub [0, 1, 2, 3] (by decide) rfl) hS ls (lv_sub hl [0, 1, 2, 3, 4] rfl)
          exact loop (m2 + 1) 0 (by omega) (by omega) _ _ (hP.sub [0, 1, 2, 3] rfl) (hD.sub [0, 1, 2, 3] (by decide) rfl) hS ls (lv_sub hl [0, 1, 2, 3, 4] rfl)
        · refine lv_if_ne (tgt := 53) hx hb d_M_fixed_44 (by decide) (fun q9 => absurd (by decide) q9) (fun _ => ?_)
          rw [hρ] at hF
          have hF2 : M < n + m2 := Nat.not_le.mp hF
          refine lv_aload_n hx hb d_M_fixed_47 rfl (lv_at hl 0 rfl) ?_
          refine lv_iconst (v := 3) hx hb d_M_fixed_48 (by decide) ?_
          have hPc := hP
          have hFc := va_free (wc := [(h, .inr (2, [.int 0, .int (nI M), .ref cl, .ref sa, .ref pa, .int tk])), (cl, .inl (cL, 32768, .inr (.inl (pkF (σ))))), (sa, .inl (cI, 4, .inl (fun i9 => nI ((σ) i9).2.1))), (pa, .inl (cI, 4, .inl (fun i9 => nI ((σ) i9).2.2)))]) hD hS hAq [0, 1, 2, 3] rfl
          have hKc := hK.sub (tys' := [(cL, .long), (cI, .int)]) [0, 1] rfl
          refine va_calli (va_runV (As := [.int 3]) (rest := []) ⟨hx, hb, hml, hown, hA⟩ (c_M_fail l D cL cI h cl sa pa M 0 tk (σ) H.size 3) (q_M_fail hA k3_4 rfl rfl ⟨(Nat.le_of_ble_eq_true rfl), (Nat.le_of_ble_eq_true rfl)⟩) (ox_V (va_recv hKc hPc (ci := 2) (q0 := 0) rfl rfl) (oxw_S hPc hKc hD)) rfl rfl hl.1 rfl (lv_room (Nat.le_of_ble_eq_true rfl)) d_M_fixed_49 ⟨(Nat.le_of_ble_eq_true rfl), (Nat.le_of_ble_eq_true rfl)⟩) hS (fun q _ h => hFc q h) hFc (fun r49 u9 t9 H1 locs ht9 hvm9 hw9 hB9 hz1 hk1 hS => ?_)
          obtain ⟨hP, hK1, hD1⟩ := hB9
          rw [ht9] at hP
          obtain ⟨hP, hD⟩ := va_join (wr := []) (w1 := rfW cL cI h cl sa pa M 3 tk (σ)) hPc hD [0, 1, 2, 3] [] rfl rfl (by decide) (by decide) hk1 hFc hP hD1
          generalize H1 = H at hP hS ⊢
          have hP : va_P D vCl [(h, .inr (2, [.int 3, .int (nI M), .ref cl, .ref sa, .ref pa, .int tk])), (cl, .inl (cL, 32768, .inr (.inl (pkF (σ))))), (sa, .inl (cI, 4, .inl (fun i9 => nI ((σ) i9).2.1))), (pa, .inl (cI, 4, .inl (fun i9 => nI ((σ) i9).2.2)))] H := hP
          have hD : va_D A [(h, .inr (2, [.int 3, .int (nI M), .ref cl, .ref sa, .ref pa, .int tk])), (cl, .inl (cL, 32768, .inr (.inl (pkF (σ))))), (sa, .inl (cI, 4, .inl (fun i9 => nI ((σ) i9).2.1))), (pa, .inl (cI, 4, .inl (fun i9 => nI ((σ) i9).2.2)))] := hD
          subst hw9
          exact W.iret (v := 0) hx hb hr (fun t ht hW => ⟨⟨_, (3, σ, tk), rfl, (by unfold spFixed; simp only [hrk, hρ]; rw [if_neg (fun h8 => h8 hR), if_neg (fun h8 => h8 hz2), hm2n, if_pos hF2]), by rw [ht]; exact hP, va_K.moved hW.alike hK, hD⟩, hS.F ht⟩) hS.2.2 d_M_fixed_52
      · have hz2 : ¬ (1 ≤ z.toInt ∧ z.toInt ≤ 8) := by simp only [Int32.lt_iff_toInt_lt, Int32.le_iff_toInt_le, li_0, li_1, li_2, li_3, li_4, li_8, li_10, li_16, li_63, li_127, li_128, li_191, li_192, li_194, li_224, li_240, li_244, li_255, li_2048, li_55296, li_57343, li_65536, li_1114111, li_m1, li_m2] at *; omega
        refine lv_aload_n hx hb d_M_fixed_31 rfl (lv_at hl 0 rfl) ?_
        refine lv_iconst (v := 2) hx hb d_M_fixed_32 (by decide) ?_
        have hPc := hP
        have hFc := va_free (wc := [(h, .inr (2, [.int 0, .int (nI M), .ref cl, .ref sa, .ref pa, .int tk])), (cl, .inl (cL, 32768, .inr (.inl (pkF (σ))))), (sa, .inl (cI, 4, .inl (fun i9 => nI ((σ) i9).2.1))), (pa, .inl (cI, 4, .inl (fun i9 => nI ((σ) i9).2.2)))]) hD hS hAq [0, 1, 2, 3] rfl
        have hKc := hK.sub (tys' := [(cL, .long), (cI, .int)]) [0, 1] rfl
        refine va_calli (va_runV (As := [.int 2]) (rest := []) ⟨hx, hb, hml, hown, hA⟩ (c_M_fail l D cL cI h cl sa pa M 0 tk (σ) H.size 2) (q_M_fail hA k3_4 rfl rfl ⟨(Nat.le_of_ble_eq_true rfl), (Nat.le_of_ble_eq_true rfl)⟩) (ox_V (va_recv hKc hPc (ci := 2) (q0 := 0) rfl rfl) (oxw_S hPc hKc hD)) rfl rfl hl.1 rfl (lv_room (Nat.le_of_ble_eq_true rfl)) d_M_fixed_33 ⟨(Nat.le_of_ble_eq_true rfl), (Nat.le_of_ble_eq_true rfl)⟩) hS (fun q _ h => hFc q h) hFc (fun r33 u9 t9 H1 locs ht9 hvm9 hw9 hB9 hz1 hk1 hS => ?_)
        obtain ⟨hP, hK1, hD1⟩ := hB9
        rw [ht9] at hP
        obtain ⟨hP, hD⟩ := va_join (wr := []) (w1 := rfW cL cI h cl sa pa M 2 tk (σ)) hPc hD [0, 1, 2, 3] [] rfl rfl (by decide) (by decide) hk1 hFc hP hD1
        generalize H1 = H at hP hS ⊢
        have hP : va_P D vCl [(h, .inr (2, [.int 2, .int (nI M), .ref cl, .ref sa, .ref pa, .int tk])), (cl, .inl (cL, 32768, .inr (.inl (pkF (σ))))), (sa, .inl (cI, 4, .inl (fun i9 => nI ((σ) i9).2.1))), (pa, .inl (cI, 4, .inl (fun i9 => nI ((σ) i9).2.2)))] H := hP
        have hD : va_D A [(h, .inr (2, [.int 2, .int (nI M), .ref cl, .ref sa, .ref pa, .int tk])), (cl, .inl (cL, 32768, .inr (.inl (pkF (σ))))), (sa, .inl (cI, 4, .inl (fun i9 => nI ((σ) i9).2.1))), (pa, .inl (cI, 4, .inl (fun i9 => nI ((σ) i9).2.2)))] := hD
        subst hw9
        exact W.iret (v := 0) hx hb hr (fun t ht hW => ⟨⟨_, (2, σ, tk), rfl, (by unfold spFixed; simp only [hrk, hρ]; rw [if_neg (fun h8 => h8 hR), if_pos hz2]), by rw [ht]; exact hP, va_K.moved hW.alike hK, hD⟩, hS.F ht⟩) hS.2.2 d_M_fixed_36
  · refine lv_if_ne (tgt := 18) hx hb d_M_fixed_9 (by decide) (fun q9 => absurd (by decide) q9) (fun _ => ?_)
    refine lv_aload_n hx hb d_M_fixed_12 rfl (lv_at hl 0 rfl) ?_
    refine lv_iconst (v := 1) hx hb d_M_fixed_13 (by decide) ?_
    have hPc := hP
    have hFc := va_free (wc := [(h, .inr (2, [.int 0, .int (nI M), .ref cl, .ref sa, .ref pa, .int tk])), (cl, .inl (cL, 32768, .inr (.inl (pkF (σ))))), (sa, .inl (cI, 4, .inl (fun i9 => nI ((σ) i9).2.1))), (pa, .inl (cI, 4, .inl (fun i9 => nI ((σ) i9).2.2)))]) hD hS hAq [0, 1, 2, 3] rfl
    have hKc := hK.sub (tys' := [(cL, .long), (cI, .int)]) [0, 1] rfl
    refine va_calli (va_runV (As := [.int 1]) (rest := []) ⟨hx, hb, hml, hown, hA⟩ (c_M_fail l D cL cI h cl sa pa M 0 tk (σ) H.size 1) (q_M_fail hA k3_4 rfl rfl ⟨(Nat.le_of_ble_eq_true rfl), (Nat.le_of_ble_eq_true rfl)⟩) (ox_V (va_recv hKc hPc (ci := 2) (q0 := 0) rfl rfl) (oxw_S hPc hKc hD)) rfl rfl hl.1 rfl (lv_room (Nat.le_of_ble_eq_true rfl)) d_M_fixed_14 ⟨(Nat.le_of_ble_eq_true rfl), (Nat.le_of_ble_eq_true rfl)⟩) hS (fun q _ h => hFc q h) hFc (fun r14 u9 t9 H1 locs ht9 hvm9 hw9 hB9 hz1 hk1 hS => ?_)
    obtain ⟨hP, hK1, hD1⟩ := hB9
    rw [ht9] at hP
    obtain ⟨hP, hD⟩ := va_join (wr := []) (w1 := rfW cL cI h cl sa pa M 1 tk (σ)) hPc hD [0, 1, 2, 3] [] rfl rfl (by decide) (by decide) hk1 hFc hP hD1
    generalize H1 = H at hP hS ⊢
    have hP : va_P D vCl [(h, .inr (2, [.int 1, .int (nI M), .ref cl, .ref sa, .ref pa, .int tk])), (cl, .inl (cL, 32768, .inr (.inl (pkF (σ))))), (sa, .inl (cI, 4, .inl (fun i9 => nI ((σ) i9).2.1))), (pa, .inl (cI, 4, .inl (fun i9 => nI ((σ) i9).2.2)))] H := hP
    have hD : va_D A [(h, .inr (2, [.int 1, .int (nI M), .ref cl, .ref sa, .ref pa, .int tk])), (cl, .inl (cL, 32768, .inr (.inl (pkF (σ))))), (sa, .inl (cI, 4, .inl (fun i9 => nI ((σ) i9).2.1))), (pa, .inl (cI, 4, .inl (fun i9 => nI ((σ) i9).2.2)))] := hD
    subst hw9
    exact W.iret (v := 0) hx hb hr (fun t ht hW => ⟨⟨_, (1, σ, tk), rfl, (by unfold spFixed; rw [if_pos hR]), by rw [ht]; exact hP, va_K.moved hW.alike hK, hD⟩, hS.F ht⟩) hS.2.2 d_M_fixed_17
set_option maxHeartbeats 600000 in
set_option maxRecDepth 100000 in
/-- putGroups -/
theorem c_M_putGroups (l : Launch) (D : va_G) (cL cI : ClassId) (h cl sa pa M : Nat) (th tk : Int32) (σ : dkS) (sz : Nat) (x : Int32) (u : Nat) (hu : u < 2 ^ 64) (hσ : dkok M σ) : Met l y_M_putGroups w_M_putGroups ({ frames := 3, cells := 0, slots := 0, locals := 73 }) (va_Pc [.ref h, .int x, .long (lN u)] (oxw sz D [(cL, .long), (cI, .int)] [(h, .inr (2, [.int 0, .int (nI M), .ref cl, .ref sa, .ref pa, .int tk])), (cl, .inl (cL, 32768, .inr (.inl (pkF (σ))))), (sa, .inl (cI, 4, .inl (fun i9 => nI ((σ) i9).2.1))), (pa, .inl (cI, 4, .inl (fun i9 => nI ((σ) i9).2.2)))])) (va_Qi (fun (r : Int32) (uu : Nat × dkS × Int32) => spSevens M σ x u = (uu.1, r, uu.2.1)) (fun uu => ow D [(cL, .long), (cI, .int)] (va_A [(h, .inr (2, [.int 0, .int (nI M), .ref cl, .ref sa, .ref pa, .int tk])), (cl, .inl (cL, 32768, .inr (.inl (pkF (σ))))), (sa, .inl (cI, 4, .inl (fun i9 => nI ((σ) i9).2.1))), (pa, .inl (cI, 4, .inl (fun i9 => nI ((σ) i9).2.2)))] sz) (rfW cL cI h cl sa pa M (nI uu.1) uu.2.2 uu.2.1)) (va_A [(h, .inr (2, [.int 0, .int (nI M), .ref cl, .ref sa, .ref pa, .int tk])), (cl, .inl (cL, 32768, .inr (.inl (pkF (σ))))), (sa, .inl (cI, 4, .inl (fun i9 => nI ((σ) i9).2.1))), (pa, .inl (cI, 4, .inl (fun i9 => nI ((σ) i9).2.2)))] sz)) 0 0 (va_A [(h, .inr (2, [.int 0, .int (nI M), .ref cl, .ref sa, .ref pa, .int tk])), (cl, .inl (cL, 32768, .inr (.inl (pkF (σ))))), (sa, .inl (cI, 4, .inl (fun i9 => nI ((σ) i9).2.1))), (pa, .inl (cI, 4, .inl (fun i9 => nI ((σ) i9).2.2)))] sz) := by
  refine Met.ofW (cc := b_M_putGroups) (maxL := 5) (ret := (some .int)) (by decide) rfl ?_
  intro p9 e9 s m args below meth c9 s₁ BL hml hv
  obtain ⟨rfl, hsz, hP, hK, hD0⟩ := hv
  have hx := BL.exec
  have hb := BL.bytes
  have hr := BL.returns
  have hts := atoms_spec (ws := w_M_putGroups) BL.pre
  have hA : ∀ w ∈ wsA, w.before _ s = true := fun w h => hts w (List.mem_cons_of_mem _ h)
  have hown : s.vm.findClass R_M = some m.cls := findClass_of_methodNamed BL.named
  have hlocks := BL.notSynchronized
  subst hsz
  have hD := hD0.self (sz := s.heap.size)
  generalize hAe : va_A [(h, .inr (2, [.int 0, .int (nI M), .ref cl, .ref sa, .ref pa, .int tk])), (cl, .inl (cL, 32768, .inr (.inl (pkF (σ))))), (sa, .inl (cI, 4, .inl (fun i9 => nI ((σ) i9).2.1))), (pa, .inl (cI, 4, .inl (fun i9 => nI ((σ) i9).2.2)))] s.heap.size = A at hD ⊢
  have hAq : ∀ q : Nat, s.heap.size ≤ q → A q := fun q h => by rw [← hAe]; exact Or.inr h
  have hS : va_S A s.heap s.heap [] := va_S.rf
  have hP : va_P D vCl [(h, .inr (2, [.int 0, .int (nI M), .ref cl, .ref sa, .ref pa, .int tk])), (cl, .inl (cL, 32768, .inr (.inl (pkF (σ))))), (sa, .inl (cI, 4, .inl (fun i9 => nI ((σ) i9).2.1))), (pa, .inl (cI, 4, .inl (fun i9 => nI ((σ) i9).2.2)))] s.heap := hP
  have hl := lv_entry ([.ref h, .int x, .long (lN u)]) (n := 5) (Nat.le_of_ble_eq_true rfl)
  rw [lg_entry_eq]
  generalize (lg_sl ([.ref h, .int x, .long (lN u)]) ++ List.replicate (5 - (lg_sl ([.ref h, .int x, .long (lN u)])).length) Slot.unset).toArray = ls at hl ⊢
  have hl : lv_has ls 5 [(0, .ref h), (1, .int x), (2, .long (lN u))] := hl
  refine lv_iload_n hx hb d_M_putGroups_0 rfl (lv_at hl 1 rfl) ?_
  refine vp_callSi (W.runS (As := [.int x]) (rest := []) ⟨hx, hb, hml, hown, hA⟩ (c_M_isRow l x) (q_M_isRow hA k3_1 rfl rfl ⟨(Nat.le_of_ble_eq_true rfl), (Nat.le_of_ble_eq_true rfl)⟩) (⟨fun a U g mk q => q, fun U hU hW => ⟨rfl, trivial⟩⟩) rfl rfl hl.1 rfl (lv_room (Nat.le_of_ble_eq_true rfl)) d_M_putGroups_1 ⟨(Nat.le_of_ble_eq_true rfl), (Nat.le_of_ble_eq_true rfl)⟩) (fun r1 hr1 => ?_)
  rcases hr1 with ⟨hR, rfl⟩ | ⟨hR, rfl⟩
  · refine lv_if_ne (tgt := 13) hx hb d_M_putGroups_4 (by decide) (fun _ => ?_) (fun q9 => absurd q9 (by decide))
    obtain ⟨k, hk0, rfl⟩ := nI_of (show ¬ x < 0 by rw [Int32.lt_iff_toInt_lt, li_0]; exact Int.not_lt.mpr hR.1)
    have hk : k < 4 := by have h9 := hR.2; rw [nI_toInt hk0] at h9; omega
    have hrk : rj (nI k) = k := rj_n hk
    obtain ⟨⟨B, n, p⟩, hρ⟩ : ∃ ρ, σ k = ρ := ⟨_, rfl⟩
    have hk9 := hσ.2 k hk
    have hBσ : ∀ j, (σ k).1 j < 256 := hk9.2.2
    have hnσ : (σ k).2.1 ≤ 65536 := Nat.le_trans hk9.2.1 hσ.1
    rw [hρ] at hk9
    obtain ⟨hp, hn, hB⟩ := hk9
    have hp : p ≤ n := hp
    have hn : n ≤ M := hn
    have hB : ∀ j, B j < 256 := hB
    have hM := hσ.1
    refine lv_lload_n hx hb d_M_putGroups_13 rfl (lv_at hl 2 rfl) ?_
    refine vp_callSi (W.runS (As := [.long (lN u)]) (rest := []) ⟨hx, hb, hml, hown, hA⟩ (c_M_groups l u hu) (q_M_groups hA k3_30 rfl rfl ⟨(Nat.le_of_ble_eq_true rfl), (Nat.le_of_ble_eq_true rfl)⟩) (⟨fun a U g mk q => q, fun U hU hW => ⟨rfl, trivial⟩⟩) rfl rfl hl.1 rfl (lv_room (Nat.le_of_ble_eq_true rfl)) d_M_putGroups_14 ⟨(Nat.le_of_ble_eq_true rfl), (Nat.le_of_ble_eq_true rfl)⟩) (fun r14 hr14 => ?_)
    have er14 : r14 = nI (sw u) := hr14
    subst er14
    have hsw := sw_in u
    refine lv_istore (lv' := [(4, .int (nI (sw u))), (0, .ref h), (1, .int (nI k)), (2, .long (lN u))]) hx hb d_M_putGroups_17 hl (by decide) rfl (fun ls hl => ?_)
    refine lv_aload_n hx hb d_M_putGroups_19 rfl (lv_at hl 1 rfl) ?_
    refine lv_iload_n hx hb d_M_putGroups_20 rfl (lv_at hl 2 rfl) ?_
    refine lv_iload hx hb d_M_putGroups_21 (lv_at hl 0 rfl) ?_
    have hPc := hP.sub (ws' := [(h, .inr (2, [.int 0, .int (nI M), .ref cl, .ref sa, .ref pa, .int tk])), (cl, .inl (cL, 32768, .inr (.inl (pkF (σ))))), (sa, .inl (cI, 4, .inl (fun i9 => nI ((σ) i9).2.1))), (pa, .inl (cI, 4, .inl (fun i9 => nI ((σ) i9).2.2)))]) [0, 1, 2, 3] rfl
    have hKc := hK.sub (tys' := [(cL, .long), (cI, .int)]) [0, 1] rfl
    refine vp_callSi (W.runV (As := [.int (nI k), .int (nI (sw u))]) (rest := []) ⟨hx, hb, hml, hown, hA⟩ (c_M_fits l D cL cI h cl sa pa M 0 tk σ k (sw u) hk hnσ (by omega) hM) (q_M_fits hA k3_8 rfl rfl ⟨(Nat.le_of_ble_eq_true rfl), (Nat.le_of_ble_eq_true rfl)⟩) (ox_V (va_recv hKc hPc (ci := 2) (q0 := 0) rfl rfl) (ox_S hPc hKc)) rfl rfl hl.1 rfl (lv_room (Nat.le_of_ble_eq_true rfl)) d_M_putGroups_23 ⟨(Nat.le_of_ble_eq_true rfl), (Nat.le_of_ble_eq_true rfl)⟩) (fun r23 hr23 => ?_)
    rcases hr23 with ⟨hF, rfl⟩ | ⟨hF, rfl⟩
    · refine lv_if_ne (tgt := 35) hx hb d_M_putGroups_26 (by decide) (fun _ => ?_) (fun q9 => absurd q9 (by decide))
      rw [hρ] at hF
      have hF2 : n + sw u ≤ M := hF
      rw [up_id hρ] at hP hD
      have hP : va_P D vCl [(h, .inr (2, [.int 0, .int (nI M), .ref cl, .ref sa, .ref pa, .int tk])), (cl, .inl (cL, 32768, .inr (.inl (pkF (va_up σ k (B, n, p)))))), (sa, .inl (cI, 4, .inl (fun i9 => nI ((va_up σ k (B, n, p)) i9).2.1))), (pa, .inl (cI, 4, .inl (fun i9 => nI ((va_up σ k (B, n, p)) i9).2.2)))] s.heap := hP
      have hD : va_D A [(h, .inr (2, [.int 0, .int (nI M), .ref cl, .ref sa, .ref pa, .int tk])), (cl, .inl (cL, 32768, .inr (.inl (pkF (va_up σ k (B, n, p)))))), (sa, .inl (cI, 4, .inl (fun i9 => nI ((va_up σ k (B, n, p)) i9).2.1))), (pa, .inl (cI, 4, .inl (fun i9 => nI ((va_up σ k (B, n, p)) i9).2.2)))] := hD
      refine lv_aload_n hx hb d_M_putGroups_35 rfl (lv_at hl 1 rfl) ?_
      refine lv_iload_n hx hb d_M_putGroups_36 rfl (lv_at hl 2 rfl) ?_
      refine lv_lload_n hx hb d_M_putGroups_37 rfl (lv_at hl 3 rfl) ?_
      have hPc := hP
      have hFc := va_free (wc := [(h, .inr (2, [.int 0, .int (nI M), .ref cl, .ref sa, .ref pa, .int tk])), (cl, .inl (cL, 32768, .inr (.inl (pkF (va_up σ k (B, n, p)))))), (sa, .inl (cI, 4, .inl (fun i9 => nI ((va_up σ k (B, n, p)) i9).2.1))), (pa, .inl (cI, 4, .inl (fun i9 => nI ((va_up σ k (B, n, p)) i9).2.2)))]) hD hS hAq [0, 1, 2, 3] rfl
      have hKc := hK.sub (tys' := [(cL, .long), (cI, .int)]) [0, 1] rfl
      refine va_callv (va_runV (As := [.int (nI k), .long (lN u)]) (rest := []) ⟨hx, hb, hml, hown, hA⟩ (c_M_addGroups l D cL cI h cl sa pa M 0 tk σ s.heap.size k hk B n p hB u hu (by omega)) (q_M_addGroups hA k3_33 rfl rfl ⟨(Nat.le_of_ble_eq_true rfl), (Nat.le_of_ble_eq_true rfl)⟩) (ox_V (va_recv hKc hPc (ci := 2) (q0 := 0) rfl rfl) (oxw_S hPc hKc hD)) rfl rfl hl.1 rfl (lv_room (Nat.le_of_ble_eq_true rfl)) d_M_putGroups_38 ⟨(Nat.le_of_ble_eq_true rfl), (Nat.le_of_ble_eq_true rfl)⟩) hS (fun q _ h => hFc q h) hFc (fun u9 t9 H1 locs ht9 hvm9 hw9 hB9 hz1 hk1 hS => ?_)
      obtain ⟨hP, hK1, hD1⟩ := hB9
      rw [ht9] at hP
      obtain ⟨hP, hD⟩ := va_join (wr := []) (w1 := rfW cL cI h cl sa pa M 0 tk (va_up σ k (wr B n (sw u) (sv u), n + sw u, p))) hPc hD [0, 1, 2, 3] [] rfl rfl (by decide) (by decide) hk1 hFc hP hD1
      generalize H1 = H at hP hS ⊢
      have hP : va_P D vCl [(h, .inr (2, [.int 0, .int (nI M), .ref cl, .ref sa, .ref pa, .int tk])), (cl, .inl (cL, 32768, .inr (.inl (pkF (va_up σ k (wr B n (sw u) (sv u), n + sw u, p)))))), (sa, .inl (cI, 4, .inl (fun i9 => nI ((va_up σ k (wr B n (sw u) (sv u), n + sw u, p)) i9).2.1))), (pa, .inl (cI, 4, .inl (fun i9 => nI ((va_up σ k (wr B n (sw u) (sv u), n + sw u, p)) i9).2.2)))] H := hP
      have hD : va_D A [(h, .inr (2, [.int 0, .int (nI M), .ref cl, .ref sa, .ref pa, .int tk])), (cl, .inl (cL, 32768, .inr (.inl (pkF (va_up σ k (wr B n (sw u) (sv u), n + sw u, p)))))), (sa, .inl (cI, 4, .inl (fun i9 => nI ((va_up σ k (wr B n (sw u) (sv u), n + sw u, p)) i9).2.1))), (pa, .inl (cI, 4, .inl (fun i9 => nI ((va_up σ k (wr B n (sw u) (sv u), n + sw u, p)) i9).2.2)))] := hD
      refine lv_iload hx hb d_M_putGroups_41 (lv_at hl 0 rfl) ?_
      exact W.iret (v := nI (sw u)) hx hb hr (fun t ht hW => ⟨⟨_, (0, va_up σ k (wr B n (sw u) (sv u), n + sw u, p), tk), rfl, (by unfold spSevens; simp only [hrk, hρ]; rw [if_neg (fun h8 => h8 hR), if_neg (Nat.not_lt.mpr hF2)]), by rw [ht]; exact hP, va_K.moved hW.alike hK, hD⟩, hS.F ht⟩) hS.2.2 d_M_putGroups_43
    · refine lv_if_ne (tgt := 35) hx hb d_M_putGroups_26 (by decide) (fun q9 => absurd (by decide) q9) (fun _ => ?_)
      rw [hρ] at hF
      have hF2 : M < n + sw u := Nat.not_le.mp hF
      refine lv_aload_n hx hb d_M_putGroups_29 rfl (lv_at hl 1 rfl) ?_
      refine lv_iconst (v := 2) hx hb d_M_putGroups_30 (by decide) ?_
      have hPc := hP
      have hFc := va_free (wc := [(h, .inr (2, [.int 0, .int (nI M), .ref cl, .ref sa, .ref pa, .int tk])), (cl, .inl (cL, 32768, .inr (.inl (pkF (σ))))), (sa, .inl (cI, 4, .inl (fun i9 => nI ((σ) i9).2.1))), (pa, .inl (cI, 4, .inl (fun i9 => nI ((σ) i9).2.2)))]) hD hS hAq [0, 1, 2, 3] rfl
      have hKc := hK.sub (tys' := [(cL, .long), (cI, .int)]) [0, 1] rfl
      refine va_calli (va_runV (As := [.int 2]) (rest := []) ⟨hx, hb, hml, hown, hA⟩ (c_M_fail l D cL cI h cl sa pa M 0 tk (σ) s.heap.size 2) (q_M_fail hA k3_4 rfl rfl ⟨(Nat.le_of_ble_eq_true rfl), (Nat.le_of_ble_eq_true rfl)⟩) (ox_V (va_recv hKc hPc (ci := 2) (q0 := 0) rfl rfl) (oxw_S hPc hKc hD)) rfl rfl hl.1 rfl (lv_room (Nat.le_of_ble_eq_true rfl)) d_M_putGroups_31 ⟨(Nat.le_of_ble_eq_true rfl), (Nat.le_of_ble_eq_true rfl)⟩) hS (fun q _ h => hFc q h) hFc (fun r31 u9 t9 H1 locs ht9 hvm9 hw9 hB9 hz1 hk1 hS => ?_)
      obtain ⟨hP, hK1, hD1⟩ := hB9
      rw [ht9] at hP
      obtain ⟨hP, hD⟩ := va_join (wr := []) (w1 := rfW cL cI h cl sa pa M 2 tk (σ)) hPc hD [0, 1, 2, 3] [] rfl rfl (by decide) (by decide) hk1 hFc hP hD1
      generalize H1 = H at hP hS ⊢
      have hP : va_P D vCl [(h, .inr (2, [.int 2, .int (nI M), .ref cl, .ref sa, .ref pa, .int tk])), (cl, .inl (cL, 32768, .inr (.inl (pkF (σ))))), (sa, .inl (cI, 4, .inl (fun i9 => nI ((σ) i9).2.1))), (pa, .inl (cI, 4, .inl (fun i9 => nI ((σ) i9).2.2)))] H := hP
      have hD : va_D A [(h, .inr (2, [.int 2, .int (nI M), .ref cl, .ref sa, .ref pa, .int tk])), (cl, .inl (cL, 32768, .inr (.inl (pkF (σ))))), (sa, .inl (cI, 4, .inl (fun i9 => nI ((σ) i9).2.1))), (pa, .inl (cI, 4, .inl (fun i9 => nI ((σ) i9).2.2)))] := hD
      subst hw9
      exact W.iret (v := 0) hx hb hr (fun t ht hW => ⟨⟨_, (2, σ, tk), rfl, (by unfold spSevens; simp only [hrk, hρ]; rw [if_neg (fun h8 => h8 hR), if_pos hF2]), by rw [ht]; exact hP, va_K.moved hW.alike hK, hD⟩, hS.F ht⟩) hS.2.2 d_M_putGroups_34
  · refine lv_if_ne (tgt := 13) hx hb d_M_putGroups_4 (by decide) (fun q9 => absurd (by decide) q9) (fun _ => ?_)
    refine lv_aload_n hx hb d_M_putGroups_7 rfl (lv_at hl 0 rfl) ?_
    refine lv_iconst (v := 1) hx hb d_M_putGroups_8 (by decide) ?_
    have hPc := hP
    have hFc := va_free (wc := [(h, .inr (2, [.int 0, .int (nI M), .ref cl, .ref sa, .ref pa, .int tk])), (cl, .inl (cL, 32768, .inr (.inl (pkF (σ))))), (sa, .inl (cI, 4, .inl (fun i9 => nI ((σ) i9).2.1))), (pa, .inl (cI, 4, .inl (fun i9 => nI ((σ) i9).2.2)))]) hD hS hAq [0, 1, 2, 3] rfl
    have hKc := hK.sub (tys' := [(cL, .long), (cI, .int)]) [0, 1] rfl
    refine va_calli (va_runV (As := [.int 1]) (rest := []) ⟨hx, hb, hml, hown, hA⟩ (c_M_fail l D cL cI h cl sa pa M 0 tk (σ) s.heap.size 1) (q_M_fail hA k3_4 rfl rfl ⟨(Nat.le_of_ble_eq_true rfl), (Nat.le_of_ble_eq_true rfl)⟩) (ox_V (va_recv hKc hPc (ci := 2) (q0 := 0) rfl rfl) (oxw_S hPc hKc hD)) rfl rfl hl.1 rfl (lv_room (Nat.le_of_ble_eq_true rfl)) d_M_putGroups_9 ⟨(Nat.le_of_ble_eq_true rfl), (Nat.le_of_ble_eq_true rfl)⟩) hS (fun q _ h => hFc q h) hFc (fun r9 u9 t9 H1 locs ht9 hvm9 hw9 hB9 hz1 hk1 hS => ?_)
    obtain ⟨hP, hK1, hD1⟩ := hB9
    rw [ht9] at hP
    obtain ⟨hP, hD⟩ := va_join (wr := []) (w1 := rfW cL cI h cl sa pa M 1 tk (σ)) hPc hD [0, 1, 2, 3] [] rfl rfl (by decide) (by decide) hk1 hFc hP hD1
    generalize H1 = H at hP hS ⊢
    have hP : va_P D vCl [(h, .inr (2, [.int 1, .int (nI M), .ref cl, .ref sa, .ref pa, .int tk])), (cl, .inl (cL, 32768, .inr (.inl (pkF (σ))))), (sa, .inl (cI, 4, .inl (fun i9 => nI ((σ) i9).2.1))), (pa, .inl (cI, 4, .inl (fun i9 => nI ((σ) i9).2.2)))] H := hP
    have hD : va_D A [(h, .inr (2, [.int 1, .int (nI M), .ref cl, .ref sa, .ref pa, .int tk])), (cl, .inl (cL, 32768, .inr (.inl (pkF (σ))))), (sa, .inl (cI, 4, .inl (fun i9 => nI ((σ) i9).2.1))), (pa, .inl (cI, 4, .inl (fun i9 => nI ((σ) i9).2.2)))] := hD
    subst hw9
    exact W.iret (v := 0) hx hb hr (fun t ht hW => ⟨⟨_, (1, σ, tk), rfl, (by unfold spSevens; rw [if_pos hR]), by rw [ht]; exact hP, va_K.moved hW.alike hK, hD⟩, hS.F ht⟩) hS.2.2 d_M_putGroups_12
set_option maxHeartbeats 600000 in
set_option maxRecDepth 100000 in
/-- sevens -/
theorem c_M_sevens (l : Launch) (D : va_G) (cL cI : ClassId) (h cl sa pa M : Nat) (th tk : Int32) (σ : dkS) (sz : Nat) (x : Int32) (u : Nat) (hu : u < 2 ^ 64) (hσ : dkok M σ) : Met l y_M_sevens w_M_sevens ({ frames := 4, cells := 0, slots := 0, locals := 97 }) (va_Pc [.ref h, .int x, .long (lN u)] (oxw sz D [(cL, .long), (cI, .int)] [(h, .inr (2, [.int th, .int (nI M), .ref cl, .ref sa, .ref pa, .int tk])), (cl, .inl (cL, 32768, .inr (.inl (pkF (σ))))), (sa, .inl (cI, 4, .inl (fun i9 => nI ((σ) i9).2.1))), (pa, .inl (cI, 4, .inl (fun i9 => nI ((σ) i9).2.2)))])) (va_Qi (fun (r : Int32) (uu : Nat × dkS × Int32) => spSevens M σ x u = (uu.1, r, uu.2.1)) (fun uu => ow D [(cL, .long), (cI, .int)] (va_A [(h, .inr (2, [.int th, .int (nI M), .ref cl, .ref sa, .ref pa, .int tk])), (cl, .inl (cL, 32768, .inr (.inl (pkF (σ))))), (sa, .inl (cI, 4, .inl (fun i9 => nI ((σ) i9).2.1))), (pa, .inl (cI, 4, .inl (fun i9 => nI ((σ) i9).2.2)))] sz) (rfW cL cI h cl sa pa M (nI uu.1) uu.2.2 uu.2.1)) (va_A [(h, .inr (2, [.int th, .int (nI M), .ref cl, .ref sa, .ref pa, .int tk])), (cl, .inl (cL, 32768, .inr (.inl (pkF (σ))))), (sa, .inl (cI, 4, .inl (fun i9 => nI ((σ) i9).2.1))), (pa, .inl (cI, 4, .inl (fun i9 => nI ((σ) i9).2.2)))] sz)) 0 0 (va_A [(h, .inr (2, [.int th, .int (nI M), .ref cl, .ref sa, .ref pa, .int tk])), (cl, .inl (cL, 32768, .inr (.inl (pkF (σ))))), (sa, .inl (cI, 4, .inl (fun i9 => nI ((σ) i9).2.1))), (pa, .inl (cI, 4, .inl (fun i9 => nI ((σ) i9).2.2)))] sz) := by
  refine Met.ofW (cc := b_M_sevens) (maxL := 4) (ret := (some .int)) (by decide) rfl ?_
  intro p9 e9 s m args below meth c9 s₁ BL hml hv
  obtain ⟨rfl, hsz, hP, hK, hD0⟩ := hv
  have hx := BL.exec
  have hb := BL.bytes
  have hr := BL.returns
  have hts := atoms_spec (ws := w_M_sevens) BL.pre
  have hA : ∀ w ∈ wsA, w.before _ s = true := fun w h => hts w (List.mem_cons_of_mem _ h)
  have hown : s.vm.findClass R_M = some m.cls := findClass_of_methodNamed BL.named
  have hlocks := BL.notSynchronized
  subst hsz
  have hD := hD0.self (sz := s.heap.size)
  generalize hAe : va_A [(h, .inr (2, [.int th, .int (nI M), .ref cl, .ref sa, .ref pa, .int tk])), (cl, .inl (cL, 32768, .inr (.inl (pkF (σ))))), (sa, .inl (cI, 4, .inl (fun i9 => nI ((σ) i9).2.1))), (pa, .inl (cI, 4, .inl (fun i9 => nI ((σ) i9).2.2)))] s.heap.size = A at hD ⊢
  have hAq : ∀ q : Nat, s.heap.size ≤ q → A q := fun q h => by rw [← hAe]; exact Or.inr h
  have hS : va_S A s.heap s.heap [] := va_S.rf
  have hP : va_P D vCl [(h, .inr (2, [.int th, .int (nI M), .ref cl, .ref sa, .ref pa, .int tk])), (cl, .inl (cL, 32768, .inr (.inl (pkF (σ))))), (sa, .inl (cI, 4, .inl (fun i9 => nI ((σ) i9).2.1))), (pa, .inl (cI, 4, .inl (fun i9 => nI ((σ) i9).2.2)))] s.heap := hP
  have hl := lv_entry ([.ref h, .int x, .long (lN u)]) (n := 4) (Nat.le_of_ble_eq_true rfl)
  rw [lg_entry_eq]
  generalize (lg_sl ([.ref h, .int x, .long (lN u)]) ++ List.replicate (4 - (lg_sl ([.ref h, .int x, .long (lN u)])).length) Slot.unset).toArray = ls at hl ⊢
  have hl : lv_has ls 4 [(0, .ref h), (1, .int x), (2, .long (lN u))] := hl
  refine lv_aload_n hx hb d_M_sevens_0 rfl (lv_at hl 0 rfl) ?_
  refine lv_iconst (v := 0) hx hb d_M_sevens_1 (by decide) ?_
  refine va_put (D := D) (ci := 2) (v := .int 0) (ty := .int) (C := R_M) (T := F_M) (N := 6) hx hb hA i_M t_M t_M_ok n_M hown hK hP hD hS 0 rfl rfl 0 (by decide) (hA _ k2_212) (fun _ h9 => h9) rfl (by decide +kernel) rfl rfl (Nat.le_of_ble_eq_true rfl) d_M_sevens_2 (fun H locs hP hD hS => ?_)
  have hP : va_P D vCl [(h, .inr (2, [.int 0, .int (nI M), .ref cl, .ref sa, .ref pa, .int tk])), (cl, .inl (cL, 32768, .inr (.inl (pkF (σ))))), (sa, .inl (cI, 4, .inl (fun i9 => nI ((σ) i9).2.1))), (pa, .inl (cI, 4, .inl (fun i9 => nI ((σ) i9).2.2)))] H := hP
  have hD : va_D A [(h, .inr (2, [.int 0, .int (nI M), .ref cl, .ref sa, .ref pa, .int tk])), (cl, .inl (cL, 32768, .inr (.inl (pkF (σ))))), (sa, .inl (cI, 4, .inl (fun i9 => nI ((σ) i9).2.1))), (pa, .inl (cI, 4, .inl (fun i9 => nI ((σ) i9).2.2)))] := hD
  refine lv_aload_n hx hb d_M_sevens_5 rfl (lv_at hl 0 rfl) ?_
  refine lv_iload_n hx hb d_M_sevens_6 rfl (lv_at hl 1 rfl) ?_
  refine lv_lload_n hx hb d_M_sevens_7 rfl (lv_at hl 2 rfl) ?_
  have hPc := hP
  have hFc := va_free (wc := [(h, .inr (2, [.int 0, .int (nI M), .ref cl, .ref sa, .ref pa, .int tk])), (cl, .inl (cL, 32768, .inr (.inl (pkF (σ))))), (sa, .inl (cI, 4, .inl (fun i9 => nI ((σ) i9).2.1))), (pa, .inl (cI, 4, .inl (fun i9 => nI ((σ) i9).2.2)))]) hD hS hAq [0, 1, 2, 3] rfl
  have hKc := hK.sub (tys' := [(cL, .long), (cI, .int)]) [0, 1] rfl
  refine va_calli (va_runV (As := [.int x, .long (lN u)]) (rest := []) ⟨hx, hb, hml, hown, hA⟩ (c_M_putGroups l D cL cI h cl sa pa M 0 tk σ H.size x u hu hσ) (q_M_putGroups hA k3_26 rfl rfl ⟨(Nat.le_of_ble_eq_true rfl), (Nat.le_of_ble_eq_true rfl)⟩) (ox_V (va_recv hKc hPc (ci := 2) (q0 := 0) rfl rfl) (oxw_S hPc hKc hD)) rfl rfl hl.1 rfl (lv_room (Nat.le_of_ble_eq_true rfl)) d_M_sevens_8 ⟨(Nat.le_of_ble_eq_true rfl), (Nat.le_of_ble_eq_true rfl)⟩) hS (fun q _ h => hFc q h) hFc (fun r8 u9 t9 H1 locs ht9 hvm9 hw9 hB9 hz1 hk1 hS => ?_)
  obtain ⟨hP, hK1, hD1⟩ := hB9
  rw [ht9] at hP
  obtain ⟨hP, hD⟩ := va_join (wr := []) (w1 := rfW cL cI h cl sa pa M (nI u9.1) u9.2.2 u9.2.1) hPc hD [0, 1, 2, 3] [] rfl rfl (by decide) (by decide) hk1 hFc hP hD1
  generalize H1 = H at hP hS ⊢
  have hP : va_P D vCl [(h, .inr (2, [.int (nI u9.1), .int (nI M), .ref cl, .ref sa, .ref pa, .int u9.2.2])), (cl, .inl (cL, 32768, .inr (.inl (pkF u9.2.1)))), (sa, .inl (cI, 4, .inl (fun i9 => nI (u9.2.1 i9).2.1))), (pa, .inl (cI, 4, .inl (fun i9 => nI (u9.2.1 i9).2.2)))] H := hP
  have hD : va_D A [(h, .inr (2, [.int (nI u9.1), .int (nI M), .ref cl, .ref sa, .ref pa, .int u9.2.2])), (cl, .inl (cL, 32768, .inr (.inl (pkF u9.2.1)))), (sa, .inl (cI, 4, .inl (fun i9 => nI (u9.2.1 i9).2.1))), (pa, .inl (cI, 4, .inl (fun i9 => nI (u9.2.1 i9).2.2)))] := hD
  exact W.iret (v := r8) hx hb hr (fun t ht hW => ⟨⟨_, u9, rfl, (hw9), by rw [ht]; exact hP, va_K.moved hW.alike hK, hD⟩, hS.F ht⟩) hS.2.2 d_M_sevens_11
set_option maxHeartbeats 600000 in
set_option maxRecDepth 100000 in
/-- signed -/
theorem c_M_signed (l : Launch) (D : va_G) (cL cI : ClassId) (h cl sa pa M : Nat) (th tk : Int32) (σ : dkS) (sz : Nat) (x : Int32) (v : Int64) (hσ : dkok M σ) : Met l y_M_signed w_M_signed ({ frames := 4, cells := 0, slots := 0, locals := 97 }) (va_Pc [.ref h, .int x, .long v] (oxw sz D [(cL, .long), (cI, .int)] [(h, .inr (2, [.int th, .int (nI M), .ref cl, .ref sa, .ref pa, .int tk])), (cl, .inl (cL, 32768, .inr (.inl (pkF (σ))))), (sa, .inl (cI, 4, .inl (fun i9 => nI ((σ) i9).2.1))), (pa, .inl (cI, 4, .inl (fun i9 => nI ((σ) i9).2.2)))])) (va_Qi (fun (r : Int32) (uu : Nat × dkS × Int32) => spSevens M σ x (uNl (zz v)) = (uu.1, r, uu.2.1)) (fun uu => ow D [(cL, .long), (cI, .int)] (va_A [(h, .inr (2, [.int th, .int (nI M), .ref cl, .ref sa, .ref pa, .int tk])), (cl, .inl (cL, 32768, .inr (.inl (pkF (σ))))), (sa, .inl (cI, 4, .inl (fun i9 => nI ((σ) i9).2.1))), (pa, .inl (cI, 4, .inl (fun i9 => nI ((σ) i9).2.2)))] sz) (rfW cL cI h cl sa pa M (nI uu.1) uu.2.2 uu.2.1)) (va_A [(h, .inr (2, [.int th, .int (nI M), .ref cl, .ref sa, .ref pa, .int tk])), (cl, .inl (cL, 32768, .inr (.inl (pkF (σ))))), (sa, .inl (cI, 4, .inl (fun i9 => nI ((σ) i9).2.1))), (pa, .inl (cI, 4, .inl (fun i9 => nI ((σ) i9).2.2)))] sz)) 0 0 (va_A [(h, .inr (2, [.int th, .int (nI M), .ref cl, .ref sa, .ref pa, .int tk])), (cl, .inl (cL, 32768, .inr (.inl (pkF (σ))))), (sa, .inl (cI, 4, .inl (fun i9 => nI ((σ) i9).2.1))), (pa, .inl (cI, 4, .inl (fun i9 => nI ((σ) i9).2.2)))] sz) := by
  refine Met.ofW (cc := b_M_signed) (maxL := 4) (ret := (some .int)) (by decide) rfl ?_
  intro p9 e9 s m args below meth c9 s₁ BL hml hv
  obtain ⟨rfl, hsz, hP, hK, hD0⟩ := hv
  have hx := BL.exec
  have hb := BL.bytes
  have hr := BL.returns
  have hts := atoms_spec (ws := w_M_signed) BL.pre
  have hA : ∀ w ∈ wsA, w.before _ s = true := fun w h => hts w (List.mem_cons_of_mem _ h)
  have hown : s.vm.findClass R_M = some m.cls := findClass_of_methodNamed BL.named
  have hlocks := BL.notSynchronized
  subst hsz
  have hD := hD0.self (sz := s.heap.size)
  generalize hAe : va_A [(h, .inr (2, [.int th, .int (nI M), .ref cl, .ref sa, .ref pa, .int tk])), (cl, .inl (cL, 32768, .inr (.inl (pkF (σ))))), (sa, .inl (cI, 4, .inl (fun i9 => nI ((σ) i9).2.1))), (pa, .inl (cI, 4, .inl (fun i9 => nI ((σ) i9).2.2)))] s.heap.size = A at hD ⊢
  have hAq : ∀ q : Nat, s.heap.size ≤ q → A q := fun q h => by rw [← hAe]; exact Or.inr h
  have hS : va_S A s.heap s.heap [] := va_S.rf
  have hP : va_P D vCl [(h, .inr (2, [.int th, .int (nI M), .ref cl, .ref sa, .ref pa, .int tk])), (cl, .inl (cL, 32768, .inr (.inl (pkF (σ))))), (sa, .inl (cI, 4, .inl (fun i9 => nI ((σ) i9).2.1))), (pa, .inl (cI, 4, .inl (fun i9 => nI ((σ) i9).2.2)))] s.heap := hP
  have hl := lv_entry ([.ref h, .int x, .long v]) (n := 4) (Nat.le_of_ble_eq_true rfl)
  rw [lg_entry_eq]
  generalize (lg_sl ([.ref h, .int x, .long v]) ++ List.replicate (4 - (lg_sl ([.ref h, .int x, .long v])).length) Slot.unset).toArray = ls at hl ⊢
  have hl : lv_has ls 4 [(0, .ref h), (1, .int x), (2, .long v)] := hl
  refine lv_aload_n hx hb d_M_signed_0 rfl (lv_at hl 0 rfl) ?_
  refine lv_iconst (v := 0) hx hb d_M_signed_1 (by decide) ?_
  refine va_put (D := D) (ci := 2) (v := .int 0) (ty := .int) (C := R_M) (T := F_M) (N := 6) hx hb hA i_M t_M t_M_ok n_M hown hK hP hD hS 0 rfl rfl 0 (by decide) (hA _ k2_212) (fun _ h9 => h9) rfl (by decide +kernel) rfl rfl (Nat.le_of_ble_eq_true rfl) d_M_signed_2 (fun H locs hP hD hS => ?_)
  have hP : va_P D vCl [(h, .inr (2, [.int 0, .int (nI M), .ref cl, .ref sa, .ref pa, .int tk])), (cl, .inl (cL, 32768, .inr (.inl (pkF (σ))))), (sa, .inl (cI, 4, .inl (fun i9 => nI ((σ) i9).2.1))), (pa, .inl (cI, 4, .inl (fun i9 => nI ((σ) i9).2.2)))] H := hP
  have hD : va_D A [(h, .inr (2, [.int 0, .int (nI M), .ref cl, .ref sa, .ref pa, .int tk])), (cl, .inl (cL, 32768, .inr (.inl (pkF (σ))))), (sa, .inl (cI, 4, .inl (fun i9 => nI ((σ) i9).2.1))), (pa, .inl (cI, 4, .inl (fun i9 => nI ((σ) i9).2.2)))] := hD
  refine lv_aload_n hx hb d_M_signed_5 rfl (lv_at hl 0 rfl) ?_
  refine lv_iload_n hx hb d_M_signed_6 rfl (lv_at hl 1 rfl) ?_
  refine lv_lload_n hx hb d_M_signed_7 rfl (lv_at hl 2 rfl) ?_
  refine vp_callSl (W.runS (As := [.long v]) (rest := [.int x, .ref h]) ⟨hx, hb, hml, hown, hA⟩ (c_M_folded l v) (q_M_folded hA k3_42 rfl rfl ⟨(Nat.le_of_ble_eq_true rfl), (Nat.le_of_ble_eq_true rfl)⟩) (⟨fun a U g mk q => q, fun U hU hW => ⟨rfl, trivial⟩⟩) rfl rfl hl.1 rfl (lv_room (Nat.le_of_ble_eq_true rfl)) d_M_signed_8 ⟨(Nat.le_of_ble_eq_true rfl), (Nat.le_of_ble_eq_true rfl)⟩) (fun r8 hr8 => ?_)
  have er8 : r8 = lN (uNl (zz v)) := by rw [hr8, lN_u]
  subst er8
  have hPc := hP
  have hFc := va_free (wc := [(h, .inr (2, [.int 0, .int (nI M), .ref cl, .ref sa, .ref pa, .int tk])), (cl, .inl (cL, 32768, .inr (.inl (pkF (σ))))), (sa, .inl (cI, 4, .inl (fun i9 => nI ((σ) i9).2.1))), (pa, .inl (cI, 4, .inl (fun i9 => nI ((σ) i9).2.2)))]) hD hS hAq [0, 1, 2, 3] rfl
  have hKc := hK.sub (tys' := [(cL, .long), (cI, .int)]) [0, 1] rfl
  refine va_calli (va_runV (As := [.int x, .long (lN (uNl (zz v)))]) (rest := []) ⟨hx, hb, hml, hown, hA⟩ (c_M_putGroups l D cL cI h cl sa pa M 0 tk σ H.size x (uNl (zz v)) (uNl_lt _) hσ) (q_M_putGroups hA k3_26 rfl rfl ⟨(Nat.le_of_ble_eq_true rfl), (Nat.le_of_ble_eq_true rfl)⟩) (ox_V (va_recv hKc hPc (ci := 2) (q0 := 0) rfl rfl) (oxw_S hPc hKc hD)) rfl rfl hl.1 rfl (lv_room (Nat.le_of_ble_eq_true rfl)) d_M_signed_11 ⟨(Nat.le_of_ble_eq_true rfl), (Nat.le_of_ble_eq_true rfl)⟩) hS (fun q _ h => hFc q h) hFc (fun r11 u9 t9 H1 locs ht9 hvm9 hw9 hB9 hz1 hk1 hS => ?_)
  obtain ⟨hP, hK1, hD1⟩ := hB9
  rw [ht9] at hP
  obtain ⟨hP, hD⟩ := va_join (wr := []) (w1 := rfW cL cI h cl sa pa M (nI u9.1) u9.2.2 u9.2.1) hPc hD [0, 1, 2, 3] [] rfl rfl (by decide) (by decide) hk1 hFc hP hD1
  generalize H1 = H at hP hS ⊢
  have hP : va_P D vCl [(h, .inr (2, [.int (nI u9.1), .int (nI M), .ref cl, .ref sa, .ref pa, .int u9.2.2])), (cl, .inl (cL, 32768, .inr (.inl (pkF u9.2.1)))), (sa, .inl (cI, 4, .inl (fun i9 => nI (u9.2.1 i9).2.1))), (pa, .inl (cI, 4, .inl (fun i9 => nI (u9.2.1 i9).2.2)))] H := hP
  have hD : va_D A [(h, .inr (2, [.int (nI u9.1), .int (nI M), .ref cl, .ref sa, .ref pa, .int u9.2.2])), (cl, .inl (cL, 32768, .inr (.inl (pkF u9.2.1)))), (sa, .inl (cI, 4, .inl (fun i9 => nI (u9.2.1 i9).2.1))), (pa, .inl (cI, 4, .inl (fun i9 => nI (u9.2.1 i9).2.2)))] := hD
  exact W.iret (v := r11) hx hb hr (fun t ht hW => ⟨⟨_, u9, rfl, (hw9), by rw [ht]; exact hP, va_K.moved hW.alike hK, hD⟩, hS.F ht⟩) hS.2.2 d_M_signed_14
set_option maxHeartbeats 4000000 in
set_option maxRecDepth 100000 in
/-- letter -/
theorem c_M_letter (l : Launch) (D : va_G) (cL cI : ClassId) (h cl sa pa M : Nat) (th tk : Int32) (σ : dkS) (sz : Nat) (x c : Int32) (hσ : dkok M σ) : Met l y_M_letter w_M_letter ({ frames := 2, cells := 0, slots := 0, locals := 47 }) (va_Pc [.ref h, .int x, .int c] (oxw sz D [(cL, .long), (cI, .int)] [(h, .inr (2, [.int th, .int (nI M), .ref cl, .ref sa, .ref pa, .int tk])), (cl, .inl (cL, 32768, .inr (.inl (pkF (σ))))), (sa, .inl (cI, 4, .inl (fun i9 => nI ((σ) i9).2.1))), (pa, .inl (cI, 4, .inl (fun i9 => nI ((σ) i9).2.2)))])) (va_Qi (fun (r : Int32) (uu : Nat × dkS × Int32) => spLetter M σ x c = (uu.1, r, uu.2.1)) (fun uu => ow D [(cL, .long), (cI, .int)] (va_A [(h, .inr (2, [.int th, .int (nI M), .ref cl, .ref sa, .ref pa, .int tk])), (cl, .inl (cL, 32768, .inr (.inl (pkF (σ))))), (sa, .inl (cI, 4, .inl (fun i9 => nI ((σ) i9).2.1))), (pa, .inl (cI, 4, .inl (fun i9 => nI ((σ) i9).2.2)))] sz) (rfW cL cI h cl sa pa M (nI uu.1) uu.2.2 uu.2.1)) (va_A [(h, .inr (2, [.int th, .int (nI M), .ref cl, .ref sa, .ref pa, .int tk])), (cl, .inl (cL, 32768, .inr (.inl (pkF (σ))))), (sa, .inl (cI, 4, .inl (fun i9 => nI ((σ) i9).2.1))), (pa, .inl (cI, 4, .inl (fun i9 => nI ((σ) i9).2.2)))] sz)) 0 0 (va_A [(h, .inr (2, [.int th, .int (nI M), .ref cl, .ref sa, .ref pa, .int tk])), (cl, .inl (cL, 32768, .inr (.inl (pkF (σ))))), (sa, .inl (cI, 4, .inl (fun i9 => nI ((σ) i9).2.1))), (pa, .inl (cI, 4, .inl (fun i9 => nI ((σ) i9).2.2)))] sz) := by
  refine Met.ofW (cc := b_M_letter) (maxL := 7) (ret := (some .int)) (by decide) rfl ?_
  intro p9 e9 s m args below meth c9 s₁ BL hml hv
  obtain ⟨rfl, hsz, hP, hK, hD0⟩ := hv
  have hx := BL.exec
  have hb := BL.bytes
  have hr := BL.returns
  have hts := atoms_spec (ws := w_M_letter) BL.pre
  have hA : ∀ w ∈ wsA, w.before _ s = true := fun w h => hts w (List.mem_cons_of_mem _ h)
  have hown : s.vm.findClass R_M = some m.cls := findClass_of_methodNamed BL.named
  have hlocks := BL.notSynchronized
  subst hsz
  have hD := hD0.self (sz := s.heap.size)
  generalize hAe : va_A [(h, .inr (2, [.int th, .int (nI M), .ref cl, .ref sa, .ref pa, .int tk])), (cl, .inl (cL, 32768, .inr (.inl (pkF (σ))))), (sa, .inl (cI, 4, .inl (fun i9 => nI ((σ) i9).2.1))), (pa, .inl (cI, 4, .inl (fun i9 => nI ((σ) i9).2.2)))] s.heap.size = A at hD ⊢
  have hAq : ∀ q : Nat, s.heap.size ≤ q → A q := fun q h => by rw [← hAe]; exact Or.inr h
  have hS : va_S A s.heap s.heap [] := va_S.rf
  have hP : va_P D vCl [(h, .inr (2, [.int th, .int (nI M), .ref cl, .ref sa, .ref pa, .int tk])), (cl, .inl (cL, 32768, .inr (.inl (pkF (σ))))), (sa, .inl (cI, 4, .inl (fun i9 => nI ((σ) i9).2.1))), (pa, .inl (cI, 4, .inl (fun i9 => nI ((σ) i9).2.2)))] s.heap := hP
  have hl := lv_entry ([.ref h, .int x, .int c]) (n := 7) (Nat.le_of_ble_eq_true rfl)
  rw [lg_entry_eq]
  generalize (lg_sl ([.ref h, .int x, .int c]) ++ List.replicate (7 - (lg_sl ([.ref h, .int x, .int c])).length) Slot.unset).toArray = ls at hl ⊢
  have hl : lv_has ls 7 [(0, .ref h), (1, .int x), (2, .int c)] := hl
  refine lv_aload_n hx hb d_M_letter_0 rfl (lv_at hl 0 rfl) ?_
  refine lv_iconst (v := 0) hx hb d_M_letter_1 (by decide) ?_
  refine va_put (D := D) (ci := 2) (v := .int 0) (ty := .int) (C := R_M) (T := F_M) (N := 6) hx hb hA i_M t_M t_M_ok n_M hown hK hP hD hS 0 rfl rfl 0 (by decide) (hA _ k2_212) (fun _ h9 => h9) rfl (by decide +kernel) rfl rfl (Nat.le_of_ble_eq_true rfl) d_M_letter_2 (fun H locs hP hD hS => ?_)
  have hP : va_P D vCl [(h, .inr (2, [.int 0, .int (nI M), .ref cl, .ref sa, .ref pa, .int tk])), (cl, .inl (cL, 32768, .inr (.inl (pkF (σ))))), (sa, .inl (cI, 4, .inl (fun i9 => nI ((σ) i9).2.1))), (pa, .inl (cI, 4, .inl (fun i9 => nI ((σ) i9).2.2)))] H := hP
  have hD : va_D A [(h, .inr (2, [.int 0, .int (nI M), .ref cl, .ref sa, .ref pa, .int tk])), (cl, .inl (cL, 32768, .inr (.inl (pkF (σ))))), (sa, .inl (cI, 4, .inl (fun i9 => nI ((σ) i9).2.1))), (pa, .inl (cI, 4, .inl (fun i9 => nI ((σ) i9).2.2)))] := hD
  refine lv_iload_n hx hb d_M_letter_5 rfl (lv_at hl 1 rfl) ?_
  refine vp_callSi (W.runS (As := [.int x]) (rest := []) ⟨hx, hb, hml, hown, hA⟩ (c_M_isRow l x) (q_M_isRow hA k3_1 rfl rfl ⟨(Nat.le_of_ble_eq_true rfl), (Nat.le_of_ble_eq_true rfl)⟩) (⟨fun a U g mk q => q, fun U hU hW => ⟨rfl, trivial⟩⟩) rfl rfl hl.1 rfl (lv_room (Nat.le_of_ble_eq_true rfl)) d_M_letter_6 ⟨(Nat.le_of_ble_eq_true rfl), (Nat.le_of_ble_eq_true rfl)⟩) (fun r6 hr6 => ?_)
  rcases hr6 with ⟨hR, rfl⟩ | ⟨hR, rfl⟩
  · refine lv_if_ne (tgt := 18) hx hb d_M_letter_9 (by decide) (fun _ => ?_) (fun q9 => absurd q9 (by decide))
    obtain ⟨k, hk0, rfl⟩ := nI_of (show ¬ x < 0 by rw [Int32.lt_iff_toInt_lt, li_0]; exact Int.not_lt.mpr hR.1)
    have hk : k < 4 := by have h9 := hR.2; rw [nI_toInt hk0] at h9; omega
    have hrk : rj (nI k) = k := rj_n hk
    obtain ⟨⟨B, n, p⟩, hρ⟩ : ∃ ρ, σ k = ρ := ⟨_, rfl⟩
    have hk9 := hσ.2 k hk
    have hBσ : ∀ j, (σ k).1 j < 256 := hk9.2.2
    have hnσ : (σ k).2.1 ≤ 65536 := Nat.le_trans hk9.2.1 hσ.1
    rw [hρ] at hk9
    obtain ⟨hp, hn, hB⟩ := hk9
    have hp : p ≤ n := hp
    have hn : n ≤ M := hn
    have hB : ∀ j, B j < 256 := hB
    have hM := hσ.1
    refine lv_iload_n hx hb d_M_letter_18 rfl (lv_at hl 2 rfl) ?_
    refine vp_callSi (W.runS (As := [.int c]) (rest := []) ⟨hx, hb, hml, hown, hA⟩ (c_M_isLetter l c) (q_M_isLetter hA k3_49 rfl rfl ⟨(Nat.le_of_ble_eq_true rfl), (Nat.le_of_ble_eq_true rfl)⟩) (⟨fun a U g mk q => q, fun U hU hW => ⟨rfl, trivial⟩⟩) rfl rfl hl.1 rfl (lv_room (Nat.le_of_ble_eq_true rfl)) d_M_letter_19 ⟨(Nat.le_of_ble_eq_true rfl), (Nat.le_of_ble_eq_true rfl)⟩) (fun r19 hr19 => ?_)
    rcases hr19 with ⟨hL, rfl⟩ | ⟨hL, rfl⟩
    · refine lv_if_ne (tgt := 31) hx hb d_M_letter_22 (by decide) (fun _ => ?_) (fun q9 => absurd q9 (by decide))
      have hw0 := hL
      have hc0 : 0 ≤ c.toInt ∧ c.toInt ≤ 1114111 := by unfold lwI at hw0; split at hw0 <;> omega
      obtain ⟨z, hz0, rfl⟩ := nI_of (show ¬ c < 0 by rw [Int32.lt_iff_toInt_lt, li_0]; omega)
      have hzi : (nI z).toInt = (z : Int) := nI_toInt hz0
      have hzn : (nI z).toInt.toNat = z := by rw [hzi]; rfl
      have h4 := lwI_le (nI z).toInt
      have hlz : lz (lwI (nI z).toInt) z := by
        rw [hzi] at hw0 h4 ⊢
        have h1 := lwI_1 z
        have h2 := lwI_2 z
        have h3 := lwI_3 z
        have h5 := lwI_4 z
        unfold lz
        omega
      refine lv_iload_n hx hb d_M_letter_31 rfl (lv_at hl 2 rfl) ?_
      refine vp_callSi (W.runS (As := [.int (nI z)]) (rest := []) ⟨hx, hb, hml, hown, hA⟩ (c_M_lengthOf l (nI z) hw0) (q_M_lengthOf hA k3_55 rfl rfl ⟨(Nat.le_of_ble_eq_true rfl), (Nat.le_of_ble_eq_true rfl)⟩) (⟨fun a U g mk q => q, fun U hU hW => ⟨rfl, trivial⟩⟩) rfl rfl hl.1 rfl (lv_room (Nat.le_of_ble_eq_true rfl)) d_M_letter_32 ⟨(Nat.le_of_ble_eq_true rfl), (Nat.le_of_ble_eq_true rfl)⟩) (fun r32 hr32 => ?_)
      have er32 : r32 = nI (lwI (nI z).toInt) := hr32
      subst er32
      refine lv_istore_n (lv' := [(3, .int (nI (lwI (nI z).toInt))), (0, .ref h), (1, .int (nI k)), (2, .int (nI z))]) hx hb d_M_letter_35 rfl hl (by decide) rfl (fun ls hl => ?_)
      refine lv_aload_n hx hb d_M_letter_36 rfl (lv_at hl 1 rfl) ?_
      refine lv_iload_n hx hb d_M_letter_37 rfl (lv_at hl 2 rfl) ?_
      refine lv_iload_n hx hb d_M_letter_38 rfl (lv_at hl 0 rfl) ?_
      have hPc := hP.sub (ws' := [(h, .inr (2, [.int 0, .int (nI M), .ref cl, .ref sa, .ref pa, .int tk])), (cl, .inl (cL, 32768, .inr (.inl (pkF (σ))))), (sa, .inl (cI, 4, .inl (fun i9 => nI ((σ) i9).2.1))), (pa, .inl (cI, 4, .inl (fun i9 => nI ((σ) i9).2.2)))]) [0, 1, 2, 3] rfl
      have hKc := hK.sub (tys' := [(cL, .long), (cI, .int)]) [0, 1] rfl
      refine vp_callSi (W.runV (As := [.int (nI k), .int (nI (lwI (nI z).toInt))]) (rest := []) ⟨hx, hb, hml, hown, hA⟩ (c_M_fits l D cL cI h cl sa pa M 0 tk σ k (lwI (nI z).toInt) hk hnσ (by omega) hM) (q_M_fits hA k3_8 rfl rfl ⟨(Nat.le_of_ble_eq_true rfl), (Nat.le_of_ble_eq_true rfl)⟩) (ox_V (va_recv hKc hPc (ci := 2) (q0 := 0) rfl rfl) (ox_S hPc hKc)) rfl rfl hl.1 rfl (lv_room (Nat.le_of_ble_eq_true rfl)) d_M_letter_39 ⟨(Nat.le_of_ble_eq_true rfl), (Nat.le_of_ble_eq_true rfl)⟩) (fun r39 hr39 => ?_)
      rcases hr39 with ⟨hF, rfl⟩ | ⟨hF, rfl⟩
      · refine lv_if_ne (tgt := 51) hx hb d_M_letter_42 (by decide) (fun _ => ?_) (fun q9 => absurd q9 (by decide))
        rw [hρ] at hF
        have hF2 : n + (lwI (nI z).toInt) ≤ M := hF
        obtain ⟨wd, hwd⟩ : ∃ wd, (lwI (nI z).toInt) = wd := ⟨_, rfl⟩
        have hlz2 := hlz
        have hF3 := hF2
        rw [hwd] at hl hlz2 hF3
        rcases (show wd = 1 ∨ wd = 2 ∨ wd = 3 ∨ wd = 4 by omega) with rfl | rfl | rfl | rfl
        · have hz8 : z < 2 ^ 31 := hz0
          rw [up_id hρ] at hP hD
          have hP : va_P D vCl [(h, .inr (2, [.int 0, .int (nI M), .ref cl, .ref sa, .ref pa, .int tk])), (cl, .inl (cL, 32768, .inr (.inl (pkF (va_up σ k (B, n, p)))))), (sa, .inl (cI, 4, .inl (fun i9 => nI ((va_up σ k (B, n, p)) i9).2.1))), (pa, .inl (cI, 4, .inl (fun i9 => nI ((va_up σ k (B, n, p)) i9).2.2)))] H := hP
          have hD : va_D A [(h, .inr (2, [.int 0, .int (nI M), .ref cl, .ref sa, .ref pa, .int tk])), (cl, .inl (cL, 32768, .inr (.inl (pkF (va_up σ k (B, n, p)))))), (sa, .inl (cI, 4, .inl (fun i9 => nI ((va_up σ k (B, n, p)) i9).2.1))), (pa, .inl (cI, 4, .inl (fun i9 => nI ((va_up σ k (B, n, p)) i9).2.2)))] := hD
          rw [show va_up (σ) k (B, n, p) = va_up (σ) k (wr B n 0 (ltb z 1), n + 0, p) from by rw [wr_0, Nat.add_zero]] at hP hD
          have hP : va_P D vCl [(h, .inr (2, [.int 0, .int (nI M), .ref cl, .ref sa, .ref pa, .int tk])), (cl, .inl (cL, 32768, .inr (.inl (pkF (va_up (σ) k (wr B n 0 (ltb z 1), n + 0, p)))))), (sa, .inl (cI, 4, .inl (fun i9 => nI ((va_up (σ) k (wr B n 0 (ltb z 1), n + 0, p)) i9).2.1))), (pa, .inl (cI, 4, .inl (fun i9 => nI ((va_up (σ) k (wr B n 0 (ltb z 1), n + 0, p)) i9).2.2)))] H := hP
          have hD : va_D A [(h, .inr (2, [.int 0, .int (nI M), .ref cl, .ref sa, .ref pa, .int tk])), (cl, .inl (cL, 32768, .inr (.inl (pkF (va_up (σ) k (wr B n 0 (ltb z 1), n + 0, p)))))), (sa, .inl (cI, 4, .inl (fun i9 => nI ((va_up (σ) k (wr B n 0 (ltb z 1), n + 0, p)) i9).2.1))), (pa, .inl (cI, 4, .inl (fun i9 => nI ((va_up (σ) k (wr B n 0 (ltb z 1), n + 0, p)) i9).2.2)))] := hD
          refine lv_iload_n hx hb d_M_letter_51 rfl (lv_at hl 0 rfl) ?_
          refine lv_iconst (v := 1) hx hb d_M_letter_52 (by decide) ?_
          refine lv_icmp_ne (tgt := 60) hx hb d_M_letter_53 (by decide) (fun q9 => absurd (by decide) q9) (fun _ => ?_)
          refine lv_iconst (v := 0) hx hb d_M_letter_56 (by decide) ?_
          refine lv_goto (tgt := 85) hx hb d_M_letter_57 (by decide) ?_
          refine lv_istore (lv' := [(4, .int 0), (3, .int (nI 1)), (0, .ref h), (1, .int (nI k)), (2, .int (nI z))]) hx hb d_M_letter_85 hl (by decide) rfl (fun ls hl => ?_)
          refine lv_iload_n hx hb d_M_letter_87 rfl (lv_at hl 1 rfl) ?_
          refine lv_iconst (v := 1) hx hb d_M_letter_88 (by decide) ?_
          refine lv_isub hx hb d_M_letter_89 ?_
          refine lv_topi (fun v89 ev89 => ?_)
          have ev89 : v89 = 0 := by rw [ev89]; decide
          subst ev89
          refine lv_istore (lv' := [(5, .int 0), (4, .int 0), (3, .int (nI 1)), (0, .ref h), (1, .int (nI k)), (2, .int (nI z))]) hx hb d_M_letter_90 hl (by decide) rfl (fun ls hl => ?_)
          refine lv_iload hx hb d_M_letter_92 (lv_at hl 0 rfl) ?_
          refine lv_if_lt (tgt := 142) hx hb d_M_letter_94 (by decide) (fun q9 => absurd q9 (by decide)) (fun _ => ?_)
          refine lv_iload_n hx hb d_M_letter_97 rfl (lv_at hl 5 rfl) ?_
          refine lv_bipush (v := 6) hx hb d_M_letter_98 (by decide) ?_
          refine lv_iload hx hb d_M_letter_100 (lv_at hl 0 rfl) ?_
          refine lv_imul hx hb d_M_letter_102 ?_
          refine lv_topi (fun v102 ev102 => ?_)
          have ev102 : v102 = 0 := by rw [ev102]; decide
          subst ev102
          refine lv_ishr hx hb d_M_letter_103 ?_
          refine lv_topi (fun v103 ev103 => ?_)
          have ev103 : v103 = nI (z / 2 ^ 0) := by rw [ev103]; exact pk_shrN hz0 _ 0 (by decide)
          subst ev103
          refine lv_istore (lv' := [(6, .int (nI (z / 2 ^ 0))), (5, .int 0), (4, .int 0), (3, .int (nI 1)), (0, .ref h), (1, .int (nI k)), (2, .int (nI z))]) hx hb d_M_letter_104 hl (by decide) rfl (fun ls hl => ?_)
          refine lv_aload_n hx hb d_M_letter_106 rfl (lv_at hl 4 rfl) ?_
          refine lv_iload_n hx hb d_M_letter_107 rfl (lv_at hl 5 rfl) ?_
          refine lv_iload hx hb d_M_letter_108 (lv_at hl 1 rfl) ?_
          refine lv_iload_n hx hb d_M_letter_110 rfl (lv_at hl 3 rfl) ?_
          refine lv_iconst (v := 1) hx hb d_M_letter_111 (by decide) ?_
          refine lv_isub hx hb d_M_letter_112 ?_
          refine lv_topi (fun v112 ev112 => ?_)
          have ev112 : v112 = 0 := by rw [ev112]; decide
          subst ev112
          refine lv_icmp_ne (tgt := 124) hx hb d_M_letter_113 (by decide) (fun q9 => absurd (by decide) q9) (fun _ => ?_)
          refine lv_iload hx hb d_M_letter_116 (lv_at hl 2 rfl) ?_
          refine lv_iload hx hb d_M_letter_118 (lv_at hl 0 rfl) ?_
          refine lv_iadd hx hb d_M_letter_120 ?_
          refine lv_topi (fun v120 ev120 => ?_)
          have ev120 : v120 = nI (ltb z 1 0) := by rw [ev120]; exact (nI_add 0 _).trans rfl
          subst ev120
          refine lv_goto (tgt := 133) hx hb d_M_letter_121 (by decide) ?_
          have hPc := hP
          have hFc := va_free (wc := [(h, .inr (2, [.int 0, .int (nI M), .ref cl, .ref sa, .ref pa, .int tk])), (cl, .inl (cL, 32768, .inr (.inl (pkF (va_up (σ) k (wr B n 0 (ltb z 1), n + 0, p)))))), (sa, .inl (cI, 4, .inl (fun i9 => nI ((va_up (σ) k (wr B n 0 (ltb z 1), n + 0, p)) i9).2.1))), (pa, .inl (cI, 4, .inl (fun i9 => nI ((va_up (σ) k (wr B n 0 (ltb z 1), n + 0, p)) i9).2.2)))]) hD hS hAq [0, 1, 2, 3] rfl
          have hKc := hK.sub (tys' := [(cL, .long), (cI, .int)]) [0, 1] rfl
          refine va_callv (va_runV (As := [.int (nI k), .int (nI (ltb z 1 0))]) (rest := []) ⟨hx, hb, hml, hown, hA⟩ (c_M_add l D cL cI h cl sa pa M 0 tk (σ) H.size k hk (wr B n 0 (ltb z 1)) (n + 0) p (wr_lt hB (fun i9 _ => ltb_lt hlz2 i9)) (ltb z 1 0) (by omega) (ltb_lt hlz2 0)) (q_M_add hA k3_13 rfl rfl ⟨(Nat.le_of_ble_eq_true rfl), (Nat.le_of_ble_eq_true rfl)⟩) (ox_V (va_recv hKc hPc (ci := 2) (q0 := 0) rfl rfl) (oxw_S hPc hKc hD)) rfl rfl hl.1 rfl (lv_room (Nat.le_of_ble_eq_true rfl)) d_M_letter_133 ⟨(Nat.le_of_ble_eq_true rfl), (Nat.le_of_ble_eq_true rfl)⟩) hS (fun q _ h => hFc q h) hFc (fun u9 t9 H1 locs ht9 hvm9 hw9 hB9 hz1 hk1 hS => ?_)
          obtain ⟨hP, hK1, hD1⟩ := hB9
          rw [ht9] at hP
          obtain ⟨hP, hD⟩ := va_join (wr := []) (w1 := rfW cL cI h cl sa pa M 0 tk (va_up (σ) k (va_up (wr B n 0 (ltb z 1)) (n + 0) (ltb z 1 0), n + 0 + 1, p))) hPc hD [0, 1, 2, 3] [] rfl rfl (by decide) (by decide) hk1 hFc hP hD1
          generalize H1 = H at hP hS ⊢
          have hP : va_P D vCl [(h, .inr (2, [.int 0, .int (nI M), .ref cl, .ref sa, .ref pa, .int tk])), (cl, .inl (cL, 32768, .inr (.inl (pkF (va_up (σ) k (va_up (wr B n 0 (ltb z 1)) (n + 0) (ltb z 1 0), n + 0 + 1, p)))))), (sa, .inl (cI, 4, .inl (fun i9 => nI ((va_up (σ) k (va_up (wr B n 0 (ltb z 1)) (n + 0) (ltb z 1 0), n + 0 + 1, p)) i9).2.1))), (pa, .inl (cI, 4, .inl (fun i9 => nI ((va_up (σ) k (va_up (wr B n 0 (ltb z 1)) (n + 0) (ltb z 1 0), n + 0 + 1, p)) i9).2.2)))] H := hP
          have hD : va_D A [(h, .inr (2, [.int 0, .int (nI M), .ref cl, .ref sa, .ref pa, .int tk])), (cl, .inl (cL, 32768, .inr (.inl (pkF (va_up (σ) k (va_up (wr B n 0 (ltb z 1)) (n + 0) (ltb z 1 0), n + 0 + 1, p)))))), (sa, .inl (cI, 4, .inl (fun i9 => nI ((va_up (σ) k (va_up (wr B n 0 (ltb z 1)) (n + 0) (ltb z 1 0), n + 0 + 1, p)) i9).2.1))), (pa, .inl (cI, 4, .inl (fun i9 => nI ((va_up (σ) k (va_up (wr B n 0 (ltb z 1)) (n + 0) (ltb z 1 0), n + 0 + 1, p)) i9).2.2)))] := hD
          rw [wr_s, Nat.add_assoc n 0 1] at hP hD
          have hP : va_P D vCl [(h, .inr (2, [.int 0, .int (nI M), .ref cl, .ref sa, .ref pa, .int tk])), (cl, .inl (cL, 32768, .inr (.inl (pkF (va_up (σ) k (wr B n (0 + 1) (ltb z 1), n + (0 + 1), p)))))), (sa, .inl (cI, 4, .inl (fun i9 => nI ((va_up (σ) k (wr B n (0 + 1) (ltb z 1), n + (0 + 1), p)) i9).2.1))), (pa, .inl (cI, 4, .inl (fun i9 => nI ((va_up (σ) k (wr B n (0 + 1) (ltb z 1), n + (0 + 1), p)) i9).2.2)))] H := hP
          have hD : va_D A [(h, .inr (2, [.int 0, .int (nI M), .ref cl, .ref sa, .ref pa, .int tk])), (cl, .inl (cL, 32768, .inr (.inl (pkF (va_up (σ) k (wr B n (0 + 1) (ltb z 1), n + (0 + 1), p)))))), (sa, .inl (cI, 4, .inl (fun i9 => nI ((va_up (σ) k (wr B n (0 + 1) (ltb z 1), n + (0 + 1), p)) i9).2.1))), (pa, .inl (cI, 4, .inl (fun i9 => nI ((va_up (σ) k (wr B n (0 + 1) (ltb z 1), n + (0 + 1), p)) i9).2.2)))] := hD
          obtain ⟨v136, ev136⟩ : ∃ y : Int32, y = 0 + (-1) := ⟨_, rfl⟩
          refine lv_iinc (v := v136) (lv' := [(5, .int v136), (6, .int (nI (z / 2 ^ 0))), (4, .int 0), (3, .int (nI 1)), (0, .ref h), (1, .int (nI k)), (2, .int (nI z))]) hx hb d_M_letter_136 hl (k := 1) rfl (by rw [ev136]; rfl) (by decide) rfl (fun ls hl => ?_)
          have ev136 : v136 = (-1) := by rw [ev136]; decide
          subst ev136
          have hP : va_P D vCl [(h, .inr (2, [.int 0, .int (nI M), .ref cl, .ref sa, .ref pa, .int tk])), (cl, .inl (cL, 32768, .inr (.inl (pkF (va_up σ k (wr B n 1 (ltb z 1), n + 1, p)))))), (sa, .inl (cI, 4, .inl (fun i9 => nI ((va_up σ k (wr B n 1 (ltb z 1), n + 1, p)) i9).2.1))), (pa, .inl (cI, 4, .inl (fun i9 => nI ((va_up σ k (wr B n 1 (ltb z 1), n + 1, p)) i9).2.2)))] H := hP
          have hD : va_D A [(h, .inr (2, [.int 0, .int (nI M), .ref cl, .ref sa, .ref pa, .int tk])), (cl, .inl (cL, 32768, .inr (.inl (pkF (va_up σ k (wr B n 1 (ltb z 1), n + 1, p)))))), (sa, .inl (cI, 4, .inl (fun i9 => nI ((va_up σ k (wr B n 1 (ltb z 1), n + 1, p)) i9).2.1))), (pa, .inl (cI, 4, .inl (fun i9 => nI ((va_up σ k (wr B n 1 (ltb z 1), n + 1, p)) i9).2.2)))] := hD
          refine lv_goto (tgt := 92) hx hb d_M_letter_139 (by decide) ?_
          refine lv_iload hx hb d_M_letter_92 (lv_at hl 0 rfl) ?_
          refine lv_if_lt (tgt := 142) hx hb d_M_letter_94 (by decide) (fun _ => ?_) (fun q9 => absurd (by decide) q9)
          refine lv_iload_n hx hb d_M_letter_142 rfl (lv_at hl 3 rfl) ?_
          exact W.iret (v := nI 1) hx hb hr (fun t ht hW => ⟨⟨_, (0, va_up σ k (wr B n 1 (ltb z 1), n + 1, p), tk), rfl, (by unfold spLetter; simp only [hrk, hρ]; rw [if_neg (fun h8 => h8 hR), if_neg hw0, if_neg (Nat.not_lt.mpr hF2), hzn, hwd]), by rw [ht]; exact hP, va_K.moved hW.alike hK, hD⟩, hS.F ht⟩) hS.2.2 d_M_letter_143
        · have hz8 : z < 2 ^ 31 := hz0
          rw [up_id hρ] at hP hD
          have hP : va_P D vCl [(h, .inr (2, [.int 0, .int (nI M), .ref cl, .ref sa, .ref pa, .int tk])), (cl, .inl (cL, 32768, .inr (.inl (pkF (va_up σ k (B, n, p)))))), (sa, .inl (cI, 4, .inl (fun i9 => nI ((va_up σ k (B, n, p)) i9).2.1))), (pa, .inl (cI, 4, .inl (fun i9 => nI ((va_up σ k (B, n, p)) i9).2.2)))] H := hP
          have hD : va_D A [(h, .inr (2, [.int 0, .int (nI M), .ref cl, .ref sa, .ref pa, .int tk])), (cl, .inl (cL, 32768, .inr (.inl (pkF (va_up σ k (B, n, p)))))), (sa, .inl (cI, 4, .inl (fun i9 => nI ((va_up σ k (B, n, p)) i9).2.1))), (pa, .inl (cI, 4, .inl (fun i9 => nI ((va_up σ k (B, n, p)) i9).2.2)))] := hD
          rw [show va_up (σ) k (B, n, p) = va_up (σ) k (wr B n 0 (ltb z 2), n + 0, p) from by rw [wr_0, Nat.add_zero]] at hP hD
          have hP : va_P D vCl [(h, .inr (2, [.int 0, .int (nI M), .ref cl, .ref sa, .ref pa, .int tk])), (cl, .inl (cL, 32768, .inr (.inl (pkF (va_up (σ) k (wr B n 0 (ltb z 2), n + 0, p)))))), (sa, .inl (cI, 4, .inl (fun i9 => nI ((va_up (σ) k (wr B n 0 (ltb z 2), n + 0, p)) i9).2.1))), (pa, .inl (cI, 4, .inl (fun i9 => nI ((va_up (σ) k (wr B n 0 (ltb z 2), n + 0, p)) i9).2.2)))] H := hP
          have hD : va_D A [(h, .inr (2, [.int 0, .int (nI M), .ref cl, .ref sa, .ref pa, .int tk])), (cl, .inl (cL, 32768, .inr (.inl (pkF (va_up (σ) k (wr B n 0 (ltb z 2), n + 0, p)))))), (sa, .inl (cI, 4, .inl (fun i9 => nI ((va_up (σ) k (wr B n 0 (ltb z 2), n + 0, p)) i9).2.1))), (pa, .inl (cI, 4, .inl (fun i9 => nI ((va_up (σ) k (wr B n 0 (ltb z 2), n + 0, p)) i9).2.2)))] := hD
          refine lv_iload_n hx hb d_M_letter_51 rfl (lv_at hl 0 rfl) ?_
          refine lv_iconst (v := 1) hx hb d_M_letter_52 (by decide) ?_
          refine lv_icmp_ne (tgt := 60) hx hb d_M_letter_53 (by decide) (fun _ => ?_) (fun q9 => absurd q9 (by decide))
          refine lv_iload_n hx hb d_M_letter_60 rfl (lv_at hl 0 rfl) ?_
          refine lv_iconst (v := 2) hx hb d_M_letter_61 (by decide) ?_
          refine lv_icmp_ne (tgt := 71) hx hb d_M_letter_62 (by decide) (fun q9 => absurd (by decide) q9) (fun _ => ?_)
          refine lv_sipush (v := 192) hx hb d_M_letter_65 (by decide) ?_
          refine lv_goto (tgt := 85) hx hb d_M_letter_68 (by decide) ?_
          refine lv_istore (lv' := [(4, .int 192), (3, .int (nI 2)), (0, .ref h), (1, .int (nI k)), (2, .int (nI z))]) hx hb d_M_letter_85 hl (by decide) rfl (fun ls hl => ?_)
          refine lv_iload_n hx hb d_M_letter_87 rfl (lv_at hl 1 rfl) ?_
          refine lv_iconst (v := 1) hx hb d_M_letter_88 (by decide) ?_
          refine lv_isub hx hb d_M_letter_89 ?_
          refine lv_topi (fun v89 ev89 => ?_)
          have ev89 : v89 = 1 := by rw [ev89]; decide
          subst ev89
          refine lv_istore (lv' := [(5, .int 1), (4, .int 192), (3, .int (nI 2)), (0, .ref h), (1, .int (nI k)), (2, .int (nI z))]) hx hb d_M_letter_90 hl (by decide) rfl (fun ls hl => ?_)
          refine lv_iload hx hb d_M_letter_92 (lv_at hl 0 rfl) ?_
          refine lv_if_lt (tgt := 142) hx hb d_M_letter_94 (by decide) (fun q9 => absurd q9 (by decide)) (fun _ => ?_)
          refine lv_iload_n hx hb d_M_letter_97 rfl (lv_at hl 5 rfl) ?_
          refine lv_bipush (v := 6) hx hb d_M_letter_98 (by decide) ?_
          refine lv_iload hx hb d_M_letter_100 (lv_at hl 0 rfl) ?_
          refine lv_imul hx hb d_M_letter_102 ?_
          refine lv_topi (fun v102 ev102 => ?_)
          have ev102 : v102 = 6 := by rw [ev102]; decide
          subst ev102
          refine lv_ishr hx hb d_M_letter_103 ?_
          refine lv_topi (fun v103 ev103 => ?_)
          have ev103 : v103 = nI (z / 2 ^ 6) := by rw [ev103]; exact pk_shrN hz0 _ 6 (by decide)
          subst ev103
          refine lv_istore (lv' := [(6, .int (nI (z / 2 ^ 6))), (5, .int 1), (4, .int 192), (3, .int (nI 2)), (0, .ref h), (1, .int (nI k)), (2, .int (nI z))]) hx hb d_M_letter_104 hl (by decide) rfl (fun ls hl => ?_)
          refine lv_aload_n hx hb d_M_letter_106 rfl (lv_at hl 4 rfl) ?_
          refine lv_iload_n hx hb d_M_letter_107 rfl (lv_at hl 5 rfl) ?_
          refine lv_iload hx hb d_M_letter_108 (lv_at hl 1 rfl) ?_
          refine lv_iload_n hx hb d_M_letter_110 rfl (lv_at hl 3 rfl) ?_
          refine lv_iconst (v := 1) hx hb d_M_letter_111 (by decide) ?_
          refine lv_isub hx hb d_M_letter_112 ?_
          refine lv_topi (fun v112 ev112 => ?_)
          have ev112 : v112 = 1 := by rw [ev112]; decide
          subst ev112
          refine lv_icmp_ne (tgt := 124) hx hb d_M_letter_113 (by decide) (fun q9 => absurd (by decide) q9) (fun _ => ?_)
          refine lv_iload hx hb d_M_letter_116 (lv_at hl 2 rfl) ?_
          refine lv_iload hx hb d_M_letter_118 (lv_at hl 0 rfl) ?_
          refine lv_iadd hx hb d_M_letter_120 ?_
          refine lv_topi (fun v120 ev120 => ?_)
          have ev120 : v120 = nI (ltb z 2 0) := by rw [ev120]; exact (nI_add 192 _).trans rfl
          subst ev120
          refine lv_goto (tgt := 133) hx hb d_M_letter_121 (by decide) ?_
          have hPc := hP
          have hFc := va_free (wc := [(h, .inr (2, [.int 0, .int (nI M), .ref cl, .ref sa, .ref pa, .int tk])), (cl, .inl (cL, 32768, .inr (.inl (pkF (va_up (σ) k (wr B n 0 (ltb z 2), n + 0, p)))))), (sa, .inl (cI, 4, .inl (fun i9 => nI ((va_up (σ) k (wr B n 0 (ltb z 2), n + 0, p)) i9).2.1))), (pa, .inl (cI, 4, .inl (fun i9 => nI ((va_up (σ) k (wr B n 0 (ltb z 2), n + 0, p)) i9).2.2)))]) hD hS hAq [0, 1, 2, 3] rfl
          have hKc := hK.sub (tys' := [(cL, .long), (cI, .int)]) [0, 1] rfl
          refine va_callv (va_runV (As := [.int (nI k), .int (nI (ltb z 2 0))]) (rest := []) ⟨hx, hb, hml, hown, hA⟩ (c_M_add l D cL cI h cl sa pa M 0 tk (σ) H.size k hk (wr B n 0 (ltb z 2)) (n + 0) p (wr_lt hB (fun i9 _ => ltb_lt hlz2 i9)) (ltb z 2 0) (by omega) (ltb_lt hlz2 0)) (q_M_add hA k3_13 rfl rfl ⟨(Nat.le_of_ble_eq_true rfl), (Nat.le_of_ble_eq_true rfl)⟩) (ox_V (va_recv hKc hPc (ci := 2) (q0 := 0) rfl rfl) (oxw_S hPc hKc hD)) rfl rfl hl.1 rfl (lv_room (Nat.le_of_ble_eq_true rfl)) d_M_letter_133 ⟨(Nat.le_of_ble_eq_true rfl), (Nat.le_of_ble_eq_true rfl)⟩) hS (fun q _ h => hFc q h) hFc (fun u9 t9 H1 locs ht9 hvm9 hw9 hB9 hz1 hk1 hS => ?_)
          obtain ⟨hP, hK1, hD1⟩ := hB9
          rw [ht9] at hP
          obtain ⟨hP, hD⟩ := va_join (wr := []) (w1 := rfW cL cI h cl sa pa M 0 tk (va_up (σ) k (va_up (wr B n 0 (ltb z 2)) (n + 0) (ltb z 2 0), n + 0 + 1, p))) hPc hD [0, 1, 2, 3] [] rfl rfl (by decide) (by decide) hk1 hFc hP hD1
          generalize H1 = H at hP hS ⊢
          have hP : va_P D vCl [(h, .inr (2, [.int 0, .int (nI M), .ref cl, .ref sa, .ref pa, .int tk])), (cl, .inl (cL, 32768, .inr (.inl (pkF (va_up (σ) k (va_up (wr B n 0 (ltb z 2)) (n + 0) (ltb z 2 0), n + 0 + 1, p)))))), (sa, .inl (cI, 4, .inl (fun i9 => nI ((va_up (σ) k (va_up (wr B n 0 (ltb z 2)) (n + 0) (ltb z 2 0), n + 0 + 1, p)) i9).2.1))), (pa, .inl (cI, 4, .inl (fun i9 => nI ((va_up (σ) k (va_up (wr B n 0 (ltb z 2)) (n + 0) (ltb z 2 0), n + 0 + 1, p)) i9).2.2)))] H := hP
          have hD : va_D A [(h, .inr (2, [.int 0, .int (nI M), .ref cl, .ref sa, .ref pa, .int tk])), (cl, .inl (cL, 32768, .inr (.inl (pkF (va_up (σ) k (va_up (wr B n 0 (ltb z 2)) (n + 0) (ltb z 2 0), n + 0 + 1, p)))))), (sa, .inl (cI, 4, .inl (fun i9 => nI ((va_up (σ) k (va_up (wr B n 0 (ltb z 2)) (n + 0) (ltb z 2 0), n + 0 + 1, p)) i9).2.1))), (pa, .inl (cI, 4, .inl (fun i9 => nI ((va_up (σ) k (va_up (wr B n 0 (ltb z 2)) (n + 0) (ltb z 2 0), n + 0 + 1, p)) i9).2.2)))] := hD
          rw [wr_s, Nat.add_assoc n 0 1] at hP hD
          have hP : va_P D vCl [(h, .inr (2, [.int 0, .int (nI M), .ref cl, .ref sa, .ref pa, .int tk])), (cl, .inl (cL, 32768, .inr (.inl (pkF (va_up (σ) k (wr B n (0 + 1) (ltb z 2), n + (0 + 1), p)))))), (sa, .inl (cI, 4, .inl (fun i9 => nI ((va_up (σ) k (wr B n (0 + 1) (ltb z 2), n + (0 + 1), p)) i9).2.1))), (pa, .inl (cI, 4, .inl (fun i9 => nI ((va_up (σ) k (wr B n (0 + 1) (ltb z 2), n + (0 + 1), p)) i9).2.2)))] H := hP
          have hD : va_D A [(h, .inr (2, [.int 0, .int (nI M), .ref cl, .ref sa, .ref pa, .int tk])), (cl, .inl (cL, 32768, .inr (.inl (pkF (va_up (σ) k (wr B n (0 + 1) (ltb z 2), n + (0 + 1), p)))))), (sa, .inl (cI, 4, .inl (fun i9 => nI ((va_up (σ) k (wr B n (0 + 1) (ltb z 2), n + (0 + 1), p)) i9).2.1))), (pa, .inl (cI, 4, .inl (fun i9 => nI ((va_up (σ) k (wr B n (0 + 1) (ltb z 2), n + (0 + 1), p)) i9).2.2)))] := hD
          obtain ⟨v136, ev136⟩ : ∃ y : Int32, y = 1 + (-1) := ⟨_, rfl⟩
          refine lv_iinc (v := v136) (lv' := [(5, .int v136), (6, .int (nI (z / 2 ^ 6))), (4, .int 192), (3, .int (nI 2)), (0, .ref h), (1, .int (nI k)), (2, .int (nI z))]) hx hb d_M_letter_136 hl (k := 1) rfl (by rw [ev136]; rfl) (by decide) rfl (fun ls hl => ?_)
          have ev136 : v136 = 0 := by rw [ev136]; decide
          subst ev136
          have hP : va_P D vCl [(h, .inr (2, [.int 0, .int (nI M), .ref cl, .ref sa, .ref pa, .int tk])), (cl, .inl (cL, 32768, .inr (.inl (pkF (va_up σ k (wr B n 1 (ltb z 2), n + 1, p)))))), (sa, .inl (cI, 4, .inl (fun i9 => nI ((va_up σ k (wr B n 1 (ltb z 2), n + 1, p)) i9).2.1))), (pa, .inl (cI, 4, .inl (fun i9 => nI ((va_up σ k (wr B n 1 (ltb z 2), n + 1, p)) i9).2.2)))] H := hP
          have hD : va_D A [(h, .inr (2, [.int 0, .int (nI M), .ref cl, .ref sa, .ref pa, .int tk])), (cl, .inl (cL, 32768, .inr (.inl (pkF (va_up σ k (wr B n 1 (ltb z 2), n + 1, p)))))), (sa, .inl (cI, 4, .inl (fun i9 => nI ((va_up σ k (wr B n 1 (ltb z 2), n + 1, p)) i9).2.1))), (pa, .inl (cI, 4, .inl (fun i9 => nI ((va_up σ k (wr B n 1 (ltb z 2), n + 1, p)) i9).2.2)))] := hD
          refine lv_goto (tgt := 92) hx hb d_M_letter_139 (by decide) ?_
          refine lv_iload hx hb d_M_letter_92 (lv_at hl 0 rfl) ?_
          refine lv_if_lt (tgt := 142) hx hb d_M_letter_94 (by decide) (fun q9 => absurd q9 (by decide)) (fun _ => ?_)
          refine lv_iload_n hx hb d_M_letter_97 rfl (lv_at hl 6 rfl) ?_
          refine lv_bipush (v := 6) hx hb d_M_letter_98 (by decide) ?_
          refine lv_iload hx hb d_M_letter_100 (lv_at hl 0 rfl) ?_
          refine lv_imul hx hb d_M_letter_102 ?_
          refine lv_topi (fun v102 ev102 => ?_)
          have ev102 : v102 = 0 := by rw [ev102]; decide
          subst ev102
          refine lv_ishr hx hb d_M_letter_103 ?_
          refine lv_topi (fun v103 ev103 => ?_)
          have ev103 : v103 = nI (z / 2 ^ 0) := by rw [ev103]; exact pk_shrN hz0 _ 0 (by decide)
          subst ev103
          refine lv_istore (lv' := [(6, .int (nI (z / 2 ^ 0))), (5, .int 0), (4, .int 192), (3, .int (nI 2)), (0, .ref h), (1, .int (nI k)), (2, .int (nI z))]) hx hb d_M_letter_104 hl (by decide) rfl (fun ls hl => ?_)
          refine lv_aload_n hx hb d_M_letter_106 rfl (lv_at hl 4 rfl) ?_
          refine lv_iload_n hx hb d_M_letter_107 rfl (lv_at hl 5 rfl) ?_
          refine lv_iload hx hb d_M_letter_108 (lv_at hl 1 rfl) ?_
          refine lv_iload_n hx hb d_M_letter_110 rfl (lv_at hl 3 rfl) ?_
          refine lv_iconst (v := 1) hx hb d_M_letter_111 (by decide) ?_
          refine lv_isub hx hb d_M_letter_112 ?_
          refine lv_topi (fun v112 ev112 => ?_)
          have ev112 : v112 = 1 := by rw [ev112]; decide
          subst ev112
          refine lv_icmp_ne (tgt := 124) hx hb d_M_letter_113 (by decide) (fun _ => ?_) (fun q9 => absurd q9 (by decide))
          refine lv_sipush (v := 128) hx hb d_M_letter_124 (by decide) ?_
          refine lv_iload hx hb d_M_letter_127 (lv_at hl 0 rfl) ?_
          refine lv_bipush (v := 63) hx hb d_M_letter_129 (by decide) ?_
          refine lv_iand hx hb d_M_letter_131 ?_
          refine lv_topi (fun v131 ev131 => ?_)
          have ev131 : v131 = nI (z / 2 ^ 0 % 64) := by rw [ev131]; exact pk_andN (Nat.lt_of_le_of_lt (Nat.div_le_self _ _) (by omega)) 6 (by decide)
          subst ev131
          refine lv_iadd hx hb d_M_letter_132 ?_
          refine lv_topi (fun v132 ev132 => ?_)
          have ev132 : v132 = nI (ltb z 2 1) := by rw [ev132]; exact (nI_add 128 _).trans rfl
          subst ev132
          have hPc := hP
          have hFc := va_free (wc := [(h, .inr (2, [.int 0, .int (nI M), .ref cl, .ref sa, .ref pa, .int tk])), (cl, .inl (cL, 32768, .inr (.inl (pkF (va_up σ k (wr B n 1 (ltb z 2), n + 1, p)))))), (sa, .inl (cI, 4, .inl (fun i9 => nI ((va_up σ k (wr B n 1 (ltb z 2), n + 1, p)) i9).2.1))), (pa, .inl (cI, 4, .inl (fun i9 => nI ((va_up σ k (wr B n 1 (ltb z 2), n + 1, p)) i9).2.2)))]) hD hS hAq [0, 1, 2, 3] rfl
          have hKc := hK.sub (tys' := [(cL, .long), (cI, .int)]) [0, 1] rfl
          refine va_callv (va_runV (As := [.int (nI k), .int (nI (ltb z 2 1))]) (rest := []) ⟨hx, hb, hml, hown, hA⟩ (c_M_add l D cL cI h cl sa pa M 0 tk (σ) H.size k hk (wr B n 1 (ltb z 2)) (n + 1) p (wr_lt hB (fun i9 _ => ltb_lt hlz2 i9)) (ltb z 2 1) (by omega) (ltb_lt hlz2 1)) (q_M_add hA k3_13 rfl rfl ⟨(Nat.le_of_ble_eq_true rfl), (Nat.le_of_ble_eq_true rfl)⟩) (ox_V (va_recv hKc hPc (ci := 2) (q0 := 0) rfl rfl) (oxw_S hPc hKc hD)) rfl rfl hl.1 rfl (lv_room (Nat.le_of_ble_eq_true rfl)) d_M_letter_133 ⟨(Nat.le_of_ble_eq_true rfl), (Nat.le_of_ble_eq_true rfl)⟩) hS (fun q _ h => hFc q h) hFc (fun u9 t9 H1 locs ht9 hvm9 hw9 hB9 hz1 hk1 hS => ?_)
          obtain ⟨hP, hK1, hD1⟩ := hB9
          rw [ht9] at hP
          obtain ⟨hP, hD⟩ := va_join (wr := []) (w1 := rfW cL cI h cl sa pa M 0 tk (va_up (σ) k (va_up (wr B n 1 (ltb z 2)) (n + 1) (ltb z 2 1), n + 1 + 1, p))) hPc hD [0, 1, 2, 3] [] rfl rfl (by decide) (by decide) hk1 hFc hP hD1
          generalize H1 = H at hP hS ⊢
          have hP : va_P D vCl [(h, .inr (2, [.int 0, .int (nI M), .ref cl, .ref sa, .ref pa, .int tk])), (cl, .inl (cL, 32768, .inr (.inl (pkF (va_up (σ) k (va_up (wr B n 1 (ltb z 2)) (n + 1) (ltb z 2 1), n + 1 + 1, p)))))), (sa, .inl (cI, 4, .inl (fun i9 => nI ((va_up (σ) k (va_up (wr B n 1 (ltb z 2)) (n + 1) (ltb z 2 1), n + 1 + 1, p)) i9).2.1))), (pa, .inl (cI, 4, .inl (fun i9 => nI ((va_up (σ) k (va_up (wr B n 1 (ltb z 2)) (n + 1) (ltb z 2 1), n + 1 + 1, p)) i9).2.2)))] H := hP
          have hD : va_D A [(h, .inr (2, [.int 0, .int (nI M), .ref cl, .ref sa, .ref pa, .int tk])), (cl, .inl (cL, 32768, .inr (.inl (pkF (va_up (σ) k (va_up (wr B n 1 (ltb z 2)) (n + 1) (ltb z 2 1), n + 1 + 1, p)))))), (sa, .inl (cI, 4, .inl (fun i9 => nI ((va_up (σ) k (va_up (wr B n 1 (ltb z 2)) (n + 1) (ltb z 2 1), n + 1 + 1, p)) i9).2.1))), (pa, .inl (cI, 4, .inl (fun i9 => nI ((va_up (σ) k (va_up (wr B n 1 (ltb z 2)) (n + 1) (ltb z 2 1), n + 1 + 1, p)) i9).2.2)))] := hD
          rw [wr_s, Nat.add_assoc n 1 1] at hP hD
          have hP : va_P D vCl [(h, .inr (2, [.int 0, .int (nI M), .ref cl, .ref sa, .ref pa, .int tk])), (cl, .inl (cL, 32768, .inr (.inl (pkF (va_up (σ) k (wr B n (1 + 1) (ltb z 2), n + (1 + 1), p)))))), (sa, .inl (cI, 4, .inl (fun i9 => nI ((va_up (σ) k (wr B n (1 + 1) (ltb z 2), n + (1 + 1), p)) i9).2.1))), (pa, .inl (cI, 4, .inl (fun i9 => nI ((va_up (σ) k (wr B n (1 + 1) (ltb z 2), n + (1 + 1), p)) i9).2.2)))] H := hP
          have hD : va_D A [(h, .inr (2, [.int 0, .int (nI M), .ref cl, .ref sa, .ref pa, .int tk])), (cl, .inl (cL, 32768, .inr (.inl (pkF (va_up (σ) k (wr B n (1 + 1) (ltb z 2), n + (1 + 1), p)))))), (sa, .inl (cI, 4, .inl (fun i9 => nI ((va_up (σ) k (wr B n (1 + 1) (ltb z 2), n + (1 + 1), p)) i9).2.1))), (pa, .inl (cI, 4, .inl (fun i9 => nI ((va_up (σ) k (wr B n (1 + 1) (ltb z 2), n + (1 + 1), p)) i9).2.2)))] := hD
          obtain ⟨v136, ev136⟩ : ∃ y : Int32, y = 0 + (-1) := ⟨_, rfl⟩
          refine lv_iinc (v := v136) (lv' := [(5, .int v136), (6, .int (nI (z / 2 ^ 0))), (4, .int 192), (3, .int (nI 2)), (0, .ref h), (1, .int (nI k)), (2, .int (nI z))]) hx hb d_M_letter_136 hl (k := 1) rfl (by rw [ev136]; rfl) (by decide) rfl (fun ls hl => ?_)
          have ev136 : v136 = (-1) := by rw [ev136]; decide
          subst ev136
          have hP : va_P D vCl [(h, .inr (2, [.int 0, .int (nI M), .ref cl, .ref sa, .ref pa, .int tk])), (cl, .inl (cL, 32768, .inr (.inl (pkF (va_up σ k (wr B n 2 (ltb z 2), n + 2, p)))))), (sa, .inl (cI, 4, .inl (fun i9 => nI ((va_up σ k (wr B n 2 (ltb z 2), n + 2, p)) i9).2.1))), (pa, .inl (cI, 4, .inl (fun i9 => nI ((va_up σ k (wr B n 2 (ltb z 2), n + 2, p)) i9).2.2)))] H := hP
          have hD : va_D A [(h, .inr (2, [.int 0, .int (nI M), .ref cl, .ref sa, .ref pa, .int tk])), (cl, .inl (cL, 32768, .inr (.inl (pkF (va_up σ k (wr B n 2 (ltb z 2), n + 2, p)))))), (sa, .inl (cI, 4, .inl (fun i9 => nI ((va_up σ k (wr B n 2 (ltb z 2), n + 2, p)) i9).2.1))), (pa, .inl (cI, 4, .inl (fun i9 => nI ((va_up σ k (wr B n 2 (ltb z 2), n + 2, p)) i9).2.2)))] := hD
          refine lv_goto (tgt := 92) hx hb d_M_letter_139 (by decide) ?_
          refine lv_iload hx hb d_M_letter_92 (lv_at hl 0 rfl) ?_
          refine lv_if_lt (tgt := 142) hx hb d_M_letter_94 (by decide) (fun _ => ?_) (fun q9 => absurd (by decide) q9)
          refine lv_iload_n hx hb d_M_letter_142 rfl (lv_at hl 3 rfl) ?_
          exact W.iret (v := nI 2) hx hb hr (fun t ht hW => ⟨⟨_, (0, va_up σ k (wr B n 2 (ltb z 2), n + 2, p), tk), rfl, (by unfold spLetter; simp only [hrk, hρ]; rw [if_neg (fun h8 => h8 hR), if_neg hw0, if_neg (Nat.not_lt.mpr hF2), hzn, hwd]), by rw [ht]; exact hP, va_K.moved hW.alike hK, hD⟩, hS.F ht⟩) hS.2.2 d_M_letter_143
        · have hz8 : z < 2 ^ 31 := hz0
          rw [up_id hρ] at hP hD
          have hP : va_P D vCl [(h, .inr (2, [.int 0, .int (nI M), .ref cl, .ref sa, .ref pa, .int tk])), (cl, .inl (cL, 32768, .inr (.inl (pkF (va_up σ k (B, n, p)))))), (sa, .inl (cI, 4, .inl (fun i9 => nI ((va_up σ k (B, n, p)) i9).2.1))), (pa, .inl (cI, 4, .inl (fun i9 => nI ((va_up σ k (B, n, p)) i9).2.2)))] H := hP
          have hD : va_D A [(h, .inr (2, [.int 0, .int (nI M), .ref cl, .ref sa, .ref pa, .int tk])), (cl, .inl (cL, 32768, .inr (.inl (pkF (va_up σ k (B, n, p)))))), (sa, .inl (cI, 4, .inl (fun i9 => nI ((va_up σ k (B, n, p)) i9).2.1))), (pa, .inl (cI, 4, .inl (fun i9 => nI ((va_up σ k (B, n, p)) i9).2.2)))] := hD
          rw [show va_up (σ) k (B, n, p) = va_up (σ) k (wr B n 0 (ltb z 3), n + 0, p) from by rw [wr_0, Nat.add_zero]] at hP hD
          have hP : va_P D vCl [(h, .inr (2, [.int 0, .int (nI M), .ref cl, .ref sa, .ref pa, .int tk])), (cl, .inl (cL, 32768, .inr (.inl (pkF (va_up (σ) k (wr B n 0 (ltb z 3), n + 0, p)))))), (sa, .inl (cI, 4, .inl (fun i9 => nI ((va_up (σ) k (wr B n 0 (ltb z 3), n + 0, p)) i9).2.1))), (pa, .inl (cI, 4, .inl (fun i9 => nI ((va_up (σ) k (wr B n 0 (ltb z 3), n + 0, p)) i9).2.2)))] H := hP
          have hD : va_D A [(h, .inr (2, [.int 0, .int (nI M), .ref cl, .ref sa, .ref pa, .int tk])), (cl, .inl (cL, 32768, .inr (.inl (pkF (va_up (σ) k (wr B n 0 (ltb z 3), n + 0, p)))))), (sa, .inl (cI, 4, .inl (fun i9 => nI ((va_up (σ) k (wr B n 0 (ltb z 3), n + 0, p)) i9).2.1))), (pa, .inl (cI, 4, .inl (fun i9 => nI ((va_up (σ) k (wr B n 0 (ltb z 3), n + 0, p)) i9).2.2)))] := hD
          refine lv_iload_n hx hb d_M_letter_51 rfl (lv_at hl 0 rfl) ?_
          refine lv_iconst (v := 1) hx hb d_M_letter_52 (by decide) ?_
          refine lv_icmp_ne (tgt := 60) hx hb d_M_letter_53 (by decide) (fun _ => ?_) (fun q9 => absurd q9 (by decide))
          refine lv_iload_n hx hb d_M_letter_60 rfl (lv_at hl 0 rfl) ?_
          refine lv_iconst (v := 2) hx hb d_M_letter_61 (by decide) ?_
          refine lv_icmp_ne (tgt := 71) hx hb d_M_letter_62 (by decide) (fun _ => ?_) (fun q9 => absurd q9 (by decide))
          refine lv_iload_n hx hb d_M_letter_71 rfl (lv_at hl 0 rfl) ?_
          refine lv_iconst (v := 3) hx hb d_M_letter_72 (by decide) ?_
          refine lv_icmp_ne (tgt := 82) hx hb d_M_letter_73 (by decide) (fun q9 => absurd (by decide) q9) (fun _ => ?_)
          refine lv_sipush (v := 224) hx hb d_M_letter_76 (by decide) ?_
          refine lv_goto (tgt := 85) hx hb d_M_letter_79 (by decide) ?_
          refine lv_istore (lv' := [(4, .int 224), (3, .int (nI 3)), (0, .ref h), (1, .int (nI k)), (2, .int (nI z))]) hx hb d_M_letter_85 hl (by decide) rfl (fun ls hl => ?_)
          refine lv_iload_n hx hb d_M_letter_87 rfl (lv_at hl 1 rfl) ?_
          refine lv_iconst (v := 1) hx hb d_M_letter_88 (by decide) ?_
          refine lv_isub hx hb d_M_letter_89 ?_
          refine lv_topi (fun v89 ev89 => ?_)
          have ev89 : v89 = 2 := by rw [ev89]; decide
          subst ev89
          refine lv_istore (lv' := [(5, .int 2), (4, .int 224), (3, .int (nI 3)), (0, .ref h), (1, .int (nI k)), (2, .int (nI z))]) hx hb d_M_letter_90 hl (by decide) rfl (fun ls hl => ?_)
          refine lv_iload hx hb d_M_letter_92 (lv_at hl 0 rfl) ?_
          refine lv_if_lt (tgt := 142) hx hb d_M_letter_94 (by decide) (fun q9 => absurd q9 (by decide)) (fun _ => ?_)
          refine lv_iload_n hx hb d_M_letter_97 rfl (lv_at hl 5 rfl) ?_
          refine lv_bipush (v := 6) hx hb d_M_letter_98 (by decide) ?_
          refine lv_iload hx hb d_M_letter_100 (lv_at hl 0 rfl) ?_
          refine lv_imul hx hb d_M_letter_102 ?_
          refine lv_topi (fun v102 ev102 => ?_)
          have ev102 : v102 = 12 := by rw [ev102]; decide
          subst ev102
          refine lv_ishr hx hb d_M_letter_103 ?_
          refine lv_topi (fun v103 ev103 => ?_)
          have ev103 : v103 = nI (z / 2 ^ 12) := by rw [ev103]; exact pk_shrN hz0 _ 12 (by decide)
          subst ev103
          refine lv_istore (lv' := [(6, .int (nI (z / 2 ^ 12))), (5, .int 2), (4, .int 224), (3, .int (nI 3)), (0, .ref h), (1, .int (nI k)), (2, .int (nI z))]) hx hb d_M_letter_104 hl (by decide) rfl (fun ls hl => ?_)
          refine lv_aload_n hx hb d_M_letter_106 rfl (lv_at hl 4 rfl) ?_
          refine lv_iload_n hx hb d_M_letter_107 rfl (lv_at hl 5 rfl) ?_
          refine lv_iload hx hb d_M_letter_108 (lv_at hl 1 rfl) ?_
          refine lv_iload_n hx hb d_M_letter_110 rfl (lv_at hl 3 rfl) ?_
          refine lv_iconst (v := 1) hx hb d_M_letter_111 (by decide) ?_
          refine lv_isub hx hb d_M_letter_112 ?_
          refine lv_topi (fun v112 ev112 => ?_)
          have ev112 : v112 = 2 := by rw [ev112]; decide
          subst ev112
          refine lv_icmp_ne (tgt := 124) hx hb d_M_letter_113 (by decide) (fun q9 => absurd (by decide) q9) (fun _ => ?_)
          refine lv_iload hx hb d_M_letter_116 (lv_at hl 2 rfl) ?_
          refine lv_iload hx hb d_M_letter_118 (lv_at hl 0 rfl) ?_
          refine lv_iadd hx hb d_M_letter_120 ?_
          refine lv_topi (fun v120 ev120 => ?_)
          have ev120 : v120 = nI (ltb z 3 0) := by rw [ev120]; exact (nI_add 224 _).trans rfl
          subst ev120
          refine lv_goto (tgt := 133) hx hb d_M_letter_121 (by decide) ?_
          have hPc := hP
          have hFc := va_free (wc := [(h, .inr (2, [.int 0, .int (nI M), .ref cl, .ref sa, .ref pa, .int tk])), (cl, .inl (cL, 32768, .inr (.inl (pkF (va_up (σ) k (wr B n 0 (ltb z 3), n + 0, p)))))), (sa, .inl (cI, 4, .inl (fun i9 => nI ((va_up (σ) k (wr B n 0 (ltb z 3), n + 0, p)) i9).2.1))), (pa, .inl (cI, 4, .inl (fun i9 => nI ((va_up (σ) k (wr B n 0 (ltb z 3), n + 0, p)) i9).2.2)))]) hD hS hAq [0, 1, 2, 3] rfl
          have hKc := hK.sub (tys' := [(cL, .long), (cI, .int)]) [0, 1] rfl
          refine va_callv (va_runV (As := [.int (nI k), .int (nI (ltb z 3 0))]) (rest := []) ⟨hx, hb, hml, hown, hA⟩ (c_M_add l D cL cI h cl sa pa M 0 tk (σ) H.size k hk (wr B n 0 (ltb z 3)) (n + 0) p (wr_lt hB (fun i9 _ => ltb_lt hlz2 i9)) (ltb z 3 0) (by omega) (ltb_lt hlz2 0)) (q_M_add hA k3_13 rfl rfl ⟨(Nat.le_of_ble_eq_true rfl), (Nat.le_of_ble_eq_true rfl)⟩) (ox_V (va_recv hKc hPc (ci := 2) (q0 := 0) rfl rfl) (oxw_S hPc hKc hD)) rfl rfl hl.1 rfl (lv_room (Nat.le_of_ble_eq_true rfl)) d_M_letter_133 ⟨(Nat.le_of_ble_eq_true rfl), (Nat.le_of_ble_eq_true rfl)⟩) hS (fun q _ h => hFc q h) hFc (fun u9 t9 H1 locs ht9 hvm9 hw9 hB9 hz1 hk1 hS => ?_)
          obtain ⟨hP, hK1, hD1⟩ := hB9
          rw [ht9] at hP
          obtain ⟨hP, hD⟩ := va_join (wr := []) (w1 := rfW cL cI h cl sa pa M 0 tk (va_up (σ) k (va_up (wr B n 0 (ltb z 3)) (n + 0) (ltb z 3 0), n + 0 + 1, p))) hPc hD [0, 1, 2, 3] [] rfl rfl (by decide) (by decide) hk1 hFc hP hD1
          generalize H1 = H at hP hS ⊢
          have hP : va_P D vCl [(h, .inr (2, [.int 0, .int (nI M), .ref cl, .ref sa, .ref pa, .int tk])), (cl, .inl (cL, 32768, .inr (.inl (pkF (va_up (σ) k (va_up (wr B n 0 (ltb z 3)) (n + 0) (ltb z 3 0), n + 0 + 1, p)))))), (sa, .inl (cI, 4, .inl (fun i9 => nI ((va_up (σ) k (va_up (wr B n 0 (ltb z 3)) (n + 0) (ltb z 3 0), n + 0 + 1, p)) i9).2.1))), (pa, .inl (cI, 4, .inl (fun i9 => nI ((va_up (σ) k (va_up (wr B n 0 (ltb z 3)) (n + 0) (ltb z 3 0), n + 0 + 1, p)) i9).2.2)))] H := hP
          have hD : va_D A [(h, .inr (2, [.int 0, .int (nI M), .ref cl, .ref sa, .ref pa, .int tk])), (cl, .inl (cL, 32768, .inr (.inl (pkF (va_up (σ) k (va_up (wr B n 0 (ltb z 3)) (n + 0) (ltb z 3 0), n + 0 + 1, p)))))), (sa, .inl (cI, 4, .inl (fun i9 => nI ((va_up (σ) k (va_up (wr B n 0 (ltb z 3)) (n + 0) (ltb z 3 0), n + 0 + 1, p)) i9).2.1))), (pa, .inl (cI, 4, .inl (fun i9 => nI ((va_up (σ) k (va_up (wr B n 0 (ltb z 3)) (n + 0) (ltb z 3 0), n + 0 + 1, p)) i9).2.2)))] := hD
          rw [wr_s, Nat.add_assoc n 0 1] at hP hD
          have hP : va_P D vCl [(h, .inr (2, [.int 0, .int (nI M), .ref cl, .ref sa, .ref pa, .int tk])), (cl, .inl (cL, 32768, .inr (.inl (pkF (va_up (σ) k (wr B n (0 + 1) (ltb z 3), n + (0 + 1), p)))))), (sa, .inl (cI, 4, .inl (fun i9 => nI ((va_up (σ) k (wr B n (0 + 1) (ltb z 3), n + (0 + 1), p)) i9).2.1))), (pa, .inl (cI, 4, .inl (fun i9 => nI ((va_up (σ) k (wr B n (0 + 1) (ltb z 3), n + (0 + 1), p)) i9).2.2)))] H := hP
          have hD : va_D A [(h, .inr (2, [.int 0, .int (nI M), .ref cl, .ref sa, .ref pa, .int tk])), (cl, .inl (cL, 32768, .inr (.inl (pkF (va_up (σ) k (wr B n (0 + 1) (ltb z 3), n + (0 + 1), p)))))), (sa, .inl (cI, 4, .inl (fun i9 => nI ((va_up (σ) k (wr B n (0 + 1) (ltb z 3), n + (0 + 1), p)) i9).2.1))), (pa, .inl (cI, 4, .inl (fun i9 => nI ((va_up (σ) k (wr B n (0 + 1) (ltb z 3), n + (0 + 1), p)) i9).2.2)))] := hD
          obtain ⟨v136, ev136⟩ : ∃ y : Int32, y = 2 + (-1) := ⟨_, rfl⟩
          refine lv_iinc (v := v136) (lv' := [(5, .int v136), (6, .int (nI (z / 2 ^ 12))), (4, .int 224), (3, .int (nI 3)), (0, .ref h), (1, .int (nI k)), (2, .int (nI z))]) hx hb d_M_letter_136 hl (k := 1) rfl (by rw [ev136]; rfl) (by decide) rfl (fun ls hl => ?_)
          have ev136 : v136 = 1 := by rw [ev136]; decide
          subst ev136
          have hP : va_P D vCl [(h, .inr (2, [.int 0, .int (nI M), .ref cl, .ref sa, .ref pa, .int tk])), (cl, .inl (cL, 32768, .inr (.inl (pkF (va_up σ k (wr B n 1 (ltb z 3), n + 1, p)))))), (sa, .inl (cI, 4, .inl (fun i9 => nI ((va_up σ k (wr B n 1 (ltb z 3), n + 1, p)) i9).2.1))), (pa, .inl (cI, 4, .inl (fun i9 => nI ((va_up σ k (wr B n 1 (ltb z 3), n + 1, p)) i9).2.2)))] H := hP
          have hD : va_D A [(h, .inr (2, [.int 0, .int (nI M), .ref cl, .ref sa, .ref pa, .int tk])), (cl, .inl (cL, 32768, .inr (.inl (pkF (va_up σ k (wr B n 1 (ltb z 3), n + 1, p)))))), (sa, .inl (cI, 4, .inl (fun i9 => nI ((va_up σ k (wr B n 1 (ltb z 3), n + 1, p)) i9).2.1))), (pa, .inl (cI, 4, .inl (fun i9 => nI ((va_up σ k (wr B n 1 (ltb z 3), n + 1, p)) i9).2.2)))] := hD
          refine lv_goto (tgt := 92) hx hb d_M_letter_139 (by decide) ?_
          refine lv_iload hx hb d_M_letter_92 (lv_at hl 0 rfl) ?_
          refine lv_if_lt (tgt := 142) hx hb d_M_letter_94 (by decide) (fun q9 => absurd q9 (by decide)) (fun _ => ?_)
          refine lv_iload_n hx hb d_M_letter_97 rfl (lv_at hl 6 rfl) ?_
          refine lv_bipush (v := 6) hx hb d_M_letter_98 (by decide) ?_
          refine lv_iload hx hb d_M_letter_100 (lv_at hl 0 rfl) ?_
          refine lv_imul hx hb d_M_letter_102 ?_
          refine lv_topi (fun v102 ev102 => ?_)
          have ev102 : v102 = 6 := by rw [ev102]; decide
          subst ev102
          refine lv_ishr hx hb d_M_letter_103 ?_
          refine lv_topi (fun v103 ev103 => ?_)
          have ev103 : v103 = nI (z / 2 ^ 6) := by rw [ev103]; exact pk_shrN hz0 _ 6 (by decide)
          subst ev103
          refine lv_istore (lv' := [(6, .int (nI (z / 2 ^ 6))), (5, .int 1), (4, .int 224), (3, .int (nI 3)), (0, .ref h), (1, .int (nI k)), (2, .int (nI z))]) hx hb d_M_letter_104 hl (by decide) rfl (fun ls hl => ?_)
          refine lv_aload_n hx hb d_M_letter_106 rfl (lv_at hl 4 rfl) ?_
          refine lv_iload_n hx hb d_M_letter_107 rfl (lv_at hl 5 rfl) ?_
          refine lv_iload hx hb d_M_letter_108 (lv_at hl 1 rfl) ?_
          refine lv_iload_n hx hb d_M_letter_110 rfl (lv_at hl 3 rfl) ?_
          refine lv_iconst (v := 1) hx hb d_M_letter_111 (by decide) ?_
          refine lv_isub hx hb d_M_letter_112 ?_
          refine lv_topi (fun v112 ev112 => ?_)
          have ev112 : v112 = 2 := by rw [ev112]; decide
          subst ev112
          refine lv_icmp_ne (tgt := 124) hx hb d_M_letter_113 (by decide) (fun _ => ?_) (fun q9 => absurd q9 (by decide))
          refine lv_sipush (v := 128) hx hb d_M_letter_124 (by decide) ?_
          refine lv_iload hx hb d_M_letter_127 (lv_at hl 0 rfl) ?_
          refine lv_bipush (v := 63) hx hb d_M_letter_129 (by decide) ?_
          refine lv_iand hx hb d_M_letter_131 ?_
          refine lv_topi (fun v131 ev131 => ?_)
          have ev131 : v131 = nI (z / 2 ^ 6 % 64) := by rw [ev131]; exact pk_andN (Nat.lt_of_le_of_lt (Nat.div_le_self _ _) (by omega)) 6 (by decide)
          subst ev131
          refine lv_iadd hx hb d_M_letter_132 ?_
          refine lv_topi (fun v132 ev132 => ?_)
          have ev132 : v132 = nI (ltb z 3 1) := by rw [ev132]; exact (nI_add 128 _).trans rfl
          subst ev132
          have hPc := hP
          have hFc := va_free (wc := [(h, .inr (2, [.int 0, .int (nI M), .ref cl, .ref sa, .ref pa, .int tk])), (cl, .inl (cL, 32768, .inr (.inl (pkF (va_up σ k (wr B n 1 (ltb z 3), n + 1, p)))))), (sa, .inl (cI, 4, .inl (fun i9 => nI ((va_up σ k (wr B n 1 (ltb z 3), n + 1, p)) i9).2.1))), (pa, .inl (cI, 4, .inl (fun i9 => nI ((va_up σ k (wr B n 1 (ltb z 3), n + 1, p)) i9).2.2)))]) hD hS hAq [0, 1, 2, 3] rfl
          have hKc := hK.sub (tys' := [(cL, .long), (cI, .int)]) [0, 1] rfl
          refine va_callv (va_runV (As := [.int (nI k), .int (nI (ltb z 3 1))]) (rest := []) ⟨hx, hb, hml, hown, hA⟩ (c_M_add l D cL cI h cl sa pa M 0 tk (σ) H.size k hk (wr B n 1 (ltb z 3)) (n + 1) p (wr_lt hB (fun i9 _ => ltb_lt hlz2 i9)) (ltb z 3 1) (by omega) (ltb_lt hlz2 1)) (q_M_add hA k3_13 rfl rfl ⟨(Nat.le_of_ble_eq_true rfl), (Nat.le_of_ble_eq_true rfl)⟩) (ox_V (va_recv hKc hPc (ci := 2) (q0 := 0) rfl rfl) (oxw_S hPc hKc hD)) rfl rfl hl.1 rfl (lv_room (Nat.le_of_ble_eq_true rfl)) d_M_letter_133 ⟨(Nat.le_of_ble_eq_true rfl), (Nat.le_of_ble_eq_true rfl)⟩) hS (fun q _ h => hFc q h) hFc (fun u9 t9 H1 locs ht9 hvm9 hw9 hB9 hz1 hk1 hS => ?_)
          obtain ⟨hP, hK1, hD1⟩ := hB9
          rw [ht9] at hP
          obtain ⟨hP, hD⟩ := va_join (wr := []) (w1 := rfW cL cI h cl sa pa M 0 tk (va_up (σ) k (va_up (wr B n 1 (ltb z 3)) (n + 1) (ltb z 3 1), n + 1 + 1, p))) hPc hD [0, 1, 2, 3] [] rfl rfl (by decide) (by decide) hk1 hFc hP hD1
          generalize H1 = H at hP hS ⊢
          have hP : va_P D vCl [(h, .inr (2, [.int 0, .int (nI M), .ref cl, .ref sa, .ref pa, .int tk])), (cl, .inl (cL, 32768, .inr (.inl (pkF (va_up (σ) k (va_up (wr B n 1 (ltb z 3)) (n + 1) (ltb z 3 1), n + 1 + 1, p)))))), (sa, .inl (cI, 4, .inl (fun i9 => nI ((va_up (σ) k (va_up (wr B n 1 (ltb z 3)) (n + 1) (ltb z 3 1), n + 1 + 1, p)) i9).2.1))), (pa, .inl (cI, 4, .inl (fun i9 => nI ((va_up (σ) k (va_up (wr B n 1 (ltb z 3)) (n + 1) (ltb z 3 1), n + 1 + 1, p)) i9).2.2)))] H := hP
          have hD : va_D A [(h, .inr (2, [.int 0, .int (nI M), .ref cl, .ref sa, .ref pa, .int tk])), (cl, .inl (cL, 32768, .inr (.inl (pkF (va_up (σ) k (va_up (wr B n 1 (ltb z 3)) (n + 1) (ltb z 3 1), n + 1 + 1, p)))))), (sa, .inl (cI, 4, .inl (fun i9 => nI ((va_up (σ) k (va_up (wr B n 1 (ltb z 3)) (n + 1) (ltb z 3 1), n + 1 + 1, p)) i9).2.1))), (pa, .inl (cI, 4, .inl (fun i9 => nI ((va_up (σ) k (va_up (wr B n 1 (ltb z 3)) (n + 1) (ltb z 3 1), n + 1 + 1, p)) i9).2.2)))] := hD
          rw [wr_s, Nat.add_assoc n 1 1] at hP hD
          have hP : va_P D vCl [(h, .inr (2, [.int 0, .int (nI M), .ref cl, .ref sa, .ref pa, .int tk])), (cl, .inl (cL, 32768, .inr (.inl (pkF (va_up (σ) k (wr B n (1 + 1) (ltb z 3), n + (1 + 1), p)))))), (sa, .inl (cI, 4, .inl (fun i9 => nI ((va_up (σ) k (wr B n (1 + 1) (ltb z 3), n + (1 + 1), p)) i9).2.1))), (pa, .inl (cI, 4, .inl (fun i9 => nI ((va_up (σ) k (wr B n (1 + 1) (ltb z 3), n + (1 + 1), p)) i9).2.2)))] H := hP
          have hD : va_D A [(h, .inr (2, [.int 0, .int (nI M), .ref cl, .ref sa, .ref pa, .int tk])), (cl, .inl (cL, 32768, .inr (.inl (pkF (va_up (σ) k (wr B n (1 + 1) (ltb z 3), n + (1 + 1), p)))))), (sa, .inl (cI, 4, .inl (fun i9 => nI ((va_up (σ) k (wr B n (1 + 1) (ltb z 3), n + (1 + 1), p)) i9).2.1))), (pa, .inl (cI, 4, .inl (fun i9 => nI ((va_up (σ) k (wr B n (1 + 1) (ltb z 3), n + (1 + 1), p)) i9).2.2)))] := hD
          obtain ⟨v136, ev136⟩ : ∃ y : Int32, y = 1 + (-1) := ⟨_, rfl⟩
          refine lv_iinc (v := v136) (lv' := [(5, .int v136), (6, .int (nI (z / 2 ^ 6))), (4, .int 224), (3, .int (nI 3)), (0, .ref h), (1, .int (nI k)), (2, .int (nI z))]) hx hb d_M_letter_136 hl (k := 1) rfl (by rw [ev136]; rfl) (by decide) rfl (fun ls hl => ?_)
          have ev136 : v136 = 0 := by rw [ev136]; decide
          subst ev136
          have hP : va_P D vCl [(h, .inr (2, [.int 0, .int (nI M), .ref cl, .ref sa, .ref pa, .int tk])), (cl, .inl (cL, 32768, .inr (.inl (pkF (va_up σ k (wr B n 2 (ltb z 3), n + 2, p)))))), (sa, .inl (cI, 4, .inl (fun i9 => nI ((va_up σ k (wr B n 2 (ltb z 3), n + 2, p)) i9).2.1))), (pa, .inl (cI, 4, .inl (fun i9 => nI ((va_up σ k (wr B n 2 (ltb z 3), n + 2, p)) i9).2.2)))] H := hP
          have hD : va_D A [(h, .inr (2, [.int 0, .int (nI M), .ref cl, .ref sa, .ref pa, .int tk])), (cl, .inl (cL, 32768, .inr (.inl (pkF (va_up σ k (wr B n 2 (ltb z 3), n + 2, p)))))), (sa, .inl (cI, 4, .inl (fun i9 => nI ((va_up σ k (wr B n 2 (ltb z 3), n + 2, p)) i9).2.1))), (pa, .inl (cI, 4, .inl (fun i9 => nI ((va_up σ k (wr B n 2 (ltb z 3), n + 2, p)) i9).2.2)))] := hD
          refine lv_goto (tgt := 92) hx hb d_M_letter_139 (by decide) ?_
          refine lv_iload hx hb d_M_letter_92 (lv_at hl 0 rfl) ?_
          refine lv_if_lt (tgt := 142) hx hb d_M_letter_94 (by decide) (fun q9 => absurd q9 (by decide)) (fun _ => ?_)
          refine lv_iload_n hx hb d_M_letter_97 rfl (lv_at hl 6 rfl) ?_
          refine lv_bipush (v := 6) hx hb d_M_letter_98 (by decide) ?_
          refine lv_iload hx hb d_M_letter_100 (lv_at hl 0 rfl) ?_
          refine lv_imul hx hb d_M_letter_102 ?_
          refine lv_topi (fun v102 ev102 => ?_)
          have ev102 : v102 = 0 := by rw [ev102]; decide
          subst ev102
          refine lv_ishr hx hb d_M_letter_103 ?_
          refine lv_topi (fun v103 ev103 => ?_)
          have ev103 : v103 = nI (z / 2 ^ 0) := by rw [ev103]; exact pk_shrN hz0 _ 0 (by decide)
          subst ev103
          refine lv_istore (lv' := [(6, .int (nI (z / 2 ^ 0))), (5, .int 0), (4, .int 224), (3, .int (nI 3)), (0, .ref h), (1, .int (nI k)), (2, .int (nI z))]) hx hb d_M_letter_104 hl (by decide) rfl (fun ls hl => ?_)
          refine lv_aload_n hx hb d_M_letter_106 rfl (lv_at hl 4 rfl) ?_
          refine lv_iload_n hx hb d_M_letter_107 rfl (lv_at hl 5 rfl) ?_
          refine lv_iload hx hb d_M_letter_108 (lv_at hl 1 rfl) ?_
          refine lv_iload_n hx hb d_M_letter_110 rfl (lv_at hl 3 rfl) ?_
          refine lv_iconst (v := 1) hx hb d_M_letter_111 (by decide) ?_
          refine lv_isub hx hb d_M_letter_112 ?_
          refine lv_topi (fun v112 ev112 => ?_)
          have ev112 : v112 = 2 := by rw [ev112]; decide
          subst ev112
          refine lv_icmp_ne (tgt := 124) hx hb d_M_letter_113 (by decide) (fun _ => ?_) (fun q9 => absurd q9 (by decide))
          refine lv_sipush (v := 128) hx hb d_M_letter_124 (by decide) ?_
          refine lv_iload hx hb d_M_letter_127 (lv_at hl 0 rfl) ?_
          refine lv_bipush (v := 63) hx hb d_M_letter_129 (by decide) ?_
          refine lv_iand hx hb d_M_letter_131 ?_
          refine lv_topi (fun v131 ev131 => ?_)
          have ev131 : v131 = nI (z / 2 ^ 0 % 64) := by rw [ev131]; exact pk_andN (Nat.lt_of_le_of_lt (Nat.div_le_self _ _) (by omega)) 6 (by decide)
          subst ev131
          refine lv_iadd hx hb d_M_letter_132 ?_
          refine lv_topi (fun v132 ev132 => ?_)
          have ev132 : v132 = nI (ltb z 3 2) := by rw [ev132]; exact (nI_add 128 _).trans rfl
          subst ev132
          have hPc := hP
          have hFc := va_free (wc := [(h, .inr (2, [.int 0, .int (nI M), .ref cl, .ref sa, .ref pa, .int tk])), (cl, .inl (cL, 32768, .inr (.inl (pkF (va_up σ k (wr B n 2 (ltb z 3), n + 2, p)))))), (sa, .inl (cI, 4, .inl (fun i9 => nI ((va_up σ k (wr B n 2 (ltb z 3), n + 2, p)) i9).2.1))), (pa, .inl (cI, 4, .inl (fun i9 => nI ((va_up σ k (wr B n 2 (ltb z 3), n + 2, p)) i9).2.2)))]) hD hS hAq [0, 1, 2, 3] rfl
          have hKc := hK.sub (tys' := [(cL, .long), (cI, .int)]) [0, 1] rfl
          refine va_callv (va_runV (As := [.int (nI k), .int (nI (ltb z 3 2))]) (rest := []) ⟨hx, hb, hml, hown, hA⟩ (c_M_add l D cL cI h cl sa pa M 0 tk (σ) H.size k hk (wr B n 2 (ltb z 3)) (n + 2) p (wr_lt hB (fun i9 _ => ltb_lt hlz2 i9)) (ltb z 3 2) (by omega) (ltb_lt hlz2 2)) (q_M_add hA k3_13 rfl rfl ⟨(Nat.le_of_ble_eq_true rfl), (Nat.le_of_ble_eq_true rfl)⟩) (ox_V (va_recv hKc hPc (ci := 2) (q0 := 0) rfl rfl) (oxw_S hPc hKc hD)) rfl rfl hl.1 rfl (lv_room (Nat.le_of_ble_eq_true rfl)) d_M_letter_133 ⟨(Nat.le_of_ble_eq_true rfl), (Nat.le_of_ble_eq_true rfl)⟩) hS (fun q _ h => hFc q h) hFc (fun u9 t9 H1 locs ht9 hvm9 hw9 hB9 hz1 hk1 hS => ?_)
          obtain ⟨hP, hK1, hD1⟩ := hB9
          rw [ht9] at hP
          obtain ⟨hP, hD⟩ := va_join (wr := []) (w1 := rfW cL cI h cl sa pa M 0 tk (va_up (σ) k (va_up (wr B n 2 (ltb z 3)) (n + 2) (ltb z 3 2), n + 2 + 1, p))) hPc hD [0, 1, 2, 3] [] rfl rfl (by decide) (by decide) hk1 hFc hP hD1
          generalize H1 = H at hP hS ⊢
          have hP : va_P D vCl [(h, .inr (2, [.int 0, .int (nI M), .ref cl, .ref sa, .ref pa, .int tk])), (cl, .inl (cL, 32768, .inr (.inl (pkF (va_up (σ) k (va_up (wr B n 2 (ltb z 3)) (n + 2) (ltb z 3 2), n + 2 + 1, p)))))), (sa, .inl (cI, 4, .inl (fun i9 => nI ((va_up (σ) k (va_up (wr B n 2 (ltb z 3)) (n + 2) (ltb z 3 2), n + 2 + 1, p)) i9).2.1))), (pa, .inl (cI, 4, .inl (fun i9 => nI ((va_up (σ) k (va_up (wr B n 2 (ltb z 3)) (n + 2) (ltb z 3 2), n + 2 + 1, p)) i9).2.2)))] H := hP
          have hD : va_D A [(h, .inr (2, [.int 0, .int (nI M), .ref cl, .ref sa, .ref pa, .int tk])), (cl, .inl (cL, 32768, .inr (.inl (pkF (va_up (σ) k (va_up (wr B n 2 (ltb z 3)) (n + 2) (ltb z 3 2), n + 2 + 1, p)))))), (sa, .inl (cI, 4, .inl (fun i9 => nI ((va_up (σ) k (va_up (wr B n 2 (ltb z 3)) (n + 2) (ltb z 3 2), n + 2 + 1, p)) i9).2.1))), (pa, .inl (cI, 4, .inl (fun i9 => nI ((va_up (σ) k (va_up (wr B n 2 (ltb z 3)) (n + 2) (ltb z 3 2), n + 2 + 1, p)) i9).2.2)))] := hD
          rw [wr_s, Nat.add_assoc n 2 1] at hP hD
          have hP : va_P D vCl [(h, .inr (2, [.int 0, .int (nI M), .ref cl, .ref sa, .ref pa, .int tk])), (cl, .inl (cL, 32768, .inr (.inl (pkF (va_up (σ) k (wr B n (2 + 1) (ltb z 3), n + (2 + 1), p)))))), (sa, .inl (cI, 4, .inl (fun i9 => nI ((va_up (σ) k (wr B n (2 + 1) (ltb z 3), n + (2 + 1), p)) i9).2.1))), (pa, .inl (cI, 4, .inl (fun i9 => nI ((va_up (σ) k (wr B n (2 + 1) (ltb z 3), n + (2 + 1), p)) i9).2.2)))] H := hP
          have hD : va_D A [(h, .inr (2, [.int 0, .int (nI M), .ref cl, .ref sa, .ref pa, .int tk])), (cl, .inl (cL, 32768, .inr (.inl (pkF (va_up (σ) k (wr B n (2 + 1) (ltb z 3), n + (2 + 1), p)))))), (sa, .inl (cI, 4, .inl (fun i9 => nI ((va_up (σ) k (wr B n (2 + 1) (ltb z 3), n + (2 + 1), p)) i9).2.1))), (pa, .inl (cI, 4, .inl (fun i9 => nI ((va_up (σ) k (wr B n (2 + 1) (ltb z 3), n + (2 + 1), p)) i9).2.2)))] := hD
          obtain ⟨v136, ev136⟩ : ∃ y : Int32, y = 0 + (-1) := ⟨_, rfl⟩
          refine lv_iinc (v := v136) (lv' := [(5, .int v136), (6, .int (nI (z / 2 ^ 0))), (4, .int 224), (3, .int (nI 3)), (0, .ref h), (1, .int (nI k)), (2, .int (nI z))]) hx hb d_M_letter_136 hl (k := 1) rfl (by rw [ev136]; rfl) (by decide) rfl (fun ls hl => ?_)
          have ev136 : v136 = (-1) := by rw [ev136]; decide
          subst ev136
          have hP : va_P D vCl [(h, .inr (2, [.int 0, .int (nI M), .ref cl, .ref sa, .ref pa, .int tk])), (cl, .inl (cL, 32768, .inr (.inl (pkF (va_up σ k (wr B n 3 (ltb z 3), n + 3, p)))))), (sa, .inl (cI, 4, .inl (fun i9 => nI ((va_up σ k (wr B n 3 (ltb z 3), n + 3, p)) i9).2.1))), (pa, .inl (cI, 4, .inl (fun i9 => nI ((va_up σ k (wr B n 3 (ltb z 3), n + 3, p)) i9).2.2)))] H := hP
          have hD : va_D A [(h, .inr (2, [.int 0, .int (nI M), .ref cl, .ref sa, .ref pa, .int tk])), (cl, .inl (cL, 32768, .inr (.inl (pkF (va_up σ k (wr B n 3 (ltb z 3), n + 3, p)))))), (sa, .inl (cI, 4, .inl (fun i9 => nI ((va_up σ k (wr B n 3 (ltb z 3), n + 3, p)) i9).2.1))), (pa, .inl (cI, 4, .inl (fun i9 => nI ((va_up σ k (wr B n 3 (ltb z 3), n + 3, p)) i9).2.2)))] := hD
          refine lv_goto (tgt := 92) hx hb d_M_letter_139 (by decide) ?_
          refine lv_iload hx hb d_M_letter_92 (lv_at hl 0 rfl) ?_
          refine lv_if_lt (tgt := 142) hx hb d_M_letter_94 (by decide) (fun _ => ?_) (fun q9 => absurd (by decide) q9)
          refine lv_iload_n hx hb d_M_letter_142 rfl (lv_at hl 3 rfl) ?_
          exact W.iret (v := nI 3) hx hb hr (fun t ht hW => ⟨⟨_, (0, va_up σ k (wr B n 3 (ltb z 3), n + 3, p), tk), rfl, (by unfold spLetter; simp only [hrk, hρ]; rw [if_neg (fun h8 => h8 hR), if_neg hw0, if_neg (Nat.not_lt.mpr hF2), hzn, hwd]), by rw [ht]; exact hP, va_K.moved hW.alike hK, hD⟩, hS.F ht⟩) hS.2.2 d_M_letter_143
        · have hz8 : z < 2 ^ 31 := hz0
          rw [up_id hρ] at hP hD
          have hP : va_P D vCl [(h, .inr (2, [.int 0, .int (nI M), .ref cl, .ref sa, .ref pa, .int tk])), (cl, .inl (cL, 32768, .inr (.inl (pkF (va_up σ k (B, n, p)))))), (sa, .inl (cI, 4, .inl (fun i9 => nI ((va_up σ k (B, n, p)) i9).2.1))), (pa, .inl (cI, 4, .inl (fun i9 => nI ((va_up σ k (B, n, p)) i9).2.2)))] H := hP
          have hD : va_D A [(h, .inr (2, [.int 0, .int (nI M), .ref cl, .ref sa, .ref pa, .int tk])), (cl, .inl (cL, 32768, .inr (.inl (pkF (va_up σ k (B, n, p)))))), (sa, .inl (cI, 4, .inl (fun i9 => nI ((va_up σ k (B, n, p)) i9).2.1))), (pa, .inl (cI, 4, .inl (fun i9 => nI ((va_up σ k (B, n, p)) i9).2.2)))] := hD
          rw [show va_up (σ) k (B, n, p) = va_up (σ) k (wr B n 0 (ltb z 4), n + 0, p) from by rw [wr_0, Nat.add_zero]] at hP hD
          have hP : va_P D vCl [(h, .inr (2, [.int 0, .int (nI M), .ref cl, .ref sa, .ref pa, .int tk])), (cl, .inl (cL, 32768, .inr (.inl (pkF (va_up (σ) k (wr B n 0 (ltb z 4), n + 0, p)))))), (sa, .inl (cI, 4, .inl (fun i9 => nI ((va_up (σ) k (wr B n 0 (ltb z 4), n + 0, p)) i9).2.1))), (pa, .inl (cI, 4, .inl (fun i9 => nI ((va_up (σ) k (wr B n 0 (ltb z 4), n + 0, p)) i9).2.2)))] H := hP
          have hD : va_D A [(h, .inr (2, [.int 0, .int (nI M), .ref cl, .ref sa, .ref pa, .int tk])), (cl, .inl (cL, 32768, .inr (.inl (pkF (va_up (σ) k (wr B n 0 (ltb z 4), n + 0, p)))))), (sa, .inl (cI, 4, .inl (fun i9 => nI ((va_up (σ) k (wr B n 0 (ltb z 4), n + 0, p)) i9).2.1))), (pa, .inl (cI, 4, .inl (fun i9 => nI ((va_up (σ) k (wr B n 0 (ltb z 4), n + 0, p)) i9).2.2)))] := hD
          refine lv_iload_n hx hb d_M_letter_51 rfl (lv_at hl 0 rfl) ?_
          refine lv_iconst (v := 1) hx hb d_M_letter_52 (by decide) ?_
          refine lv_icmp_ne (tgt := 60) hx hb d_M_letter_53 (by decide) (fun _ => ?_) (fun q9 => absurd q9 (by decide))
          refine lv_iload_n hx hb d_M_letter_60 rfl (lv_at hl 0 rfl) ?_
          refine lv_iconst (v := 2) hx hb d_M_letter_61 (by decide) ?_
          refine lv_icmp_ne (tgt := 71) hx hb d_M_letter_62 (by decide) (fun _ => ?_) (fun q9 => absurd q9 (by decide))
          refine lv_iload_n hx hb d_M_letter_71 rfl (lv_at hl 0 rfl) ?_
          refine lv_iconst (v := 3) hx hb d_M_letter_72 (by decide) ?_
          refine lv_icmp_ne (tgt := 82) hx hb d_M_letter_73 (by decide) (fun _ => ?_) (fun q9 => absurd q9 (by decide))
          refine lv_sipush (v := 240) hx hb d_M_letter_82 (by decide) ?_
          refine lv_istore (lv' := [(4, .int 240), (3, .int (nI 4)), (0, .ref h), (1, .int (nI k)), (2, .int (nI z))]) hx hb d_M_letter_85 hl (by decide) rfl (fun ls hl => ?_)
          refine lv_iload_n hx hb d_M_letter_87 rfl (lv_at hl 1 rfl) ?_
          refine lv_iconst (v := 1) hx hb d_M_letter_88 (by decide) ?_
          refine lv_isub hx hb d_M_letter_89 ?_
          refine lv_topi (fun v89 ev89 => ?_)
          have ev89 : v89 = 3 := by rw [ev89]; decide
          subst ev89
          refine lv_istore (lv' := [(5, .int 3), (4, .int 240), (3, .int (nI 4)), (0, .ref h), (1, .int (nI k)), (2, .int (nI z))]) hx hb d_M_letter_90 hl (by decide) rfl (fun ls hl => ?_)
          refine lv_iload hx hb d_M_letter_92 (lv_at hl 0 rfl) ?_
          refine lv_if_lt (tgt := 142) hx hb d_M_letter_94 (by decide) (fun q9 => absurd q9 (by decide)) (fun _ => ?_)
          refine lv_iload_n hx hb d_M_letter_97 rfl (lv_at hl 5 rfl) ?_
          refine lv_bipush (v := 6) hx hb d_M_letter_98 (by decide) ?_
          refine lv_iload hx hb d_M_letter_100 (lv_at hl 0 rfl) ?_
          refine lv_imul hx hb d_M_letter_102 ?_
          refine lv_topi (fun v102 ev102 => ?_)
          have ev102 : v102 = 18 := by rw [ev102]; decide
          subst ev102
          refine lv_ishr hx hb d_M_letter_103 ?_
          refine lv_topi (fun v103 ev103 => ?_)
          have ev103 : v103 = nI (z / 2 ^ 18) := by rw [ev103]; exact pk_shrN hz0 _ 18 (by decide)
          subst ev103
          refine lv_istore (lv' := [(6, .int (nI (z / 2 ^ 18))), (5, .int 3), (4, .int 240), (3, .int (nI 4)), (0, .ref h), (1, .int (nI k)), (2, .int (nI z))]) hx hb d_M_letter_104 hl (by decide) rfl (fun ls hl => ?_)
          refine lv_aload_n hx hb d_M_letter_106 rfl (lv_at hl 4 rfl) ?_
          refine lv_iload_n hx hb d_M_letter_107 rfl (lv_at hl 5 rfl) ?_
          refine lv_iload hx hb d_M_letter_108 (lv_at hl 1 rfl) ?_
          refine lv_iload_n hx hb d_M_letter_110 rfl (lv_at hl 3 rfl) ?_
          refine lv_iconst (v := 1) hx hb d_M_letter_111 (by decide) ?_
          refine lv_isub hx hb d_M_letter_112 ?_
          refine lv_topi (fun v112 ev112 => ?_)
          have ev112 : v112 = 3 := by rw [ev112]; decide
          subst ev112
          refine lv_icmp_ne (tgt := 124) hx hb d_M_letter_113 (by decide) (fun q9 => absurd (by decide) q9) (fun _ => ?_)
          refine lv_iload hx hb d_M_letter_116 (lv_at hl 2 rfl) ?_
          refine lv_iload hx hb d_M_letter_118 (lv_at hl 0 rfl) ?_
          refine lv_iadd hx hb d_M_letter_120 ?_
          refine lv_topi (fun v120 ev120 => ?_)
          have ev120 : v120 = nI (ltb z 4 0) := by rw [ev120]; exact (nI_add 240 _).trans rfl
          subst ev120
          refine lv_goto (tgt := 133) hx hb d_M_letter_121 (by decide) ?_
          have hPc := hP
          have hFc := va_free (wc := [(h, .inr (2, [.int 0, .int (nI M), .ref cl, .ref sa, .ref pa, .int tk])), (cl, .inl (cL, 32768, .inr (.inl (pkF (va_up (σ) k (wr B n 0 (ltb z 4), n + 0, p)))))), (sa, .inl (cI, 4, .inl (fun i9 => nI ((va_up (σ) k (wr B n 0 (ltb z 4), n + 0, p)) i9).2.1))), (pa, .inl (cI, 4, .inl (fun i9 => nI ((va_up (σ) k (wr B n 0 (ltb z 4), n + 0, p)) i9).2.2)))]) hD hS hAq [0, 1, 2, 3] rfl
          have hKc := hK.sub (tys' := [(cL, .long), (cI, .int)]) [0, 1] rfl
          refine va_callv (va_runV (As := [.int (nI k), .int (nI (ltb z 4 0))]) (rest := []) ⟨hx, hb, hml, hown, hA⟩ (c_M_add l D cL cI h cl sa pa M 0 tk (σ) H.size k hk (wr B n 0 (ltb z 4)) (n + 0) p (wr_lt hB (fun i9 _ => ltb_lt hlz2 i9)) (ltb z 4 0) (by omega) (ltb_lt hlz2 0)) (q_M_add hA k3_13 rfl rfl ⟨(Nat.le_of_ble_eq_true rfl), (Nat.le_of_ble_eq_true rfl)⟩) (ox_V (va_recv hKc hPc (ci := 2) (q0 := 0) rfl rfl) (oxw_S hPc hKc hD)) rfl rfl hl.1 rfl (lv_room (Nat.le_of_ble_eq_true rfl)) d_M_letter_133 ⟨(Nat.le_of_ble_eq_true rfl), (Nat.le_of_ble_eq_true rfl)⟩) hS (fun q _ h => hFc q h) hFc (fun u9 t9 H1 locs ht9 hvm9 hw9 hB9 hz1 hk1 hS => ?_)
          obtain ⟨hP, hK1, hD1⟩ := hB9
          rw [ht9] at hP
          obtain ⟨hP, hD⟩ := va_join (wr := []) (w1 := rfW cL cI h cl sa pa M 0 tk (va_up (σ) k (va_up (wr B n 0 (ltb z 4)) (n + 0) (ltb z 4 0), n + 0 + 1, p))) hPc hD [0, 1, 2, 3] [] rfl rfl (by decide) (by decide) hk1 hFc hP hD1
          generalize H1 = H at hP hS ⊢
          have hP : va_P D vCl [(h, .inr (2, [.int 0, .int (nI M), .ref cl, .ref sa, .ref pa, .int tk])), (cl, .inl (cL, 32768, .inr (.inl (pkF (va_up (σ) k (va_up (wr B n 0 (ltb z 4)) (n + 0) (ltb z 4 0), n + 0 + 1, p)))))), (sa, .inl (cI, 4, .inl (fun i9 => nI ((va_up (σ) k (va_up (wr B n 0 (ltb z 4)) (n + 0) (ltb z 4 0), n + 0 + 1, p)) i9).2.1))), (pa, .inl (cI, 4, .inl (fun i9 => nI ((va_up (σ) k (va_up (wr B n 0 (ltb z 4)) (n + 0) (ltb z 4 0), n + 0 + 1, p)) i9).2.2)))] H := hP
          have hD : va_D A [(h, .inr (2, [.int 0, .int (nI M), .ref cl, .ref sa, .ref pa, .int tk])), (cl, .inl (cL, 32768, .inr (.inl (pkF (va_up (σ) k (va_up (wr B n 0 (ltb z 4)) (n + 0) (ltb z 4 0), n + 0 + 1, p)))))), (sa, .inl (cI, 4, .inl (fun i9 => nI ((va_up (σ) k (va_up (wr B n 0 (ltb z 4)) (n + 0) (ltb z 4 0), n + 0 + 1, p)) i9).2.1))), (pa, .inl (cI, 4, .inl (fun i9 => nI ((va_up (σ) k (va_up (wr B n 0 (ltb z 4)) (n + 0) (ltb z 4 0), n + 0 + 1, p)) i9).2.2)))] := hD
          rw [wr_s, Nat.add_assoc n 0 1] at hP hD
          have hP : va_P D vCl [(h, .inr (2, [.int 0, .int (nI M), .ref cl, .ref sa, .ref pa, .int tk])), (cl, .inl (cL, 32768, .inr (.inl (pkF (va_up (σ) k (wr B n (0 + 1) (ltb z 4), n + (0 + 1), p)))))), (sa, .inl (cI, 4, .inl (fun i9 => nI ((va_up (σ) k (wr B n (0 + 1) (ltb z 4), n + (0 + 1), p)) i9).2.1))), (pa, .inl (cI, 4, .inl (fun i9 => nI ((va_up (σ) k (wr B n (0 + 1) (ltb z 4), n + (0 + 1), p)) i9).2.2)))] H := hP
          have hD : va_D A [(h, .inr (2, [.int 0, .int (nI M), .ref cl, .ref sa, .ref pa, .int tk])), (cl, .inl (cL, 32768, .inr (.inl (pkF (va_up (σ) k (wr B n (0 + 1) (ltb z 4), n + (0 + 1), p)))))), (sa, .inl (cI, 4, .inl (fun i9 => nI ((va_up (σ) k (wr B n (0 + 1) (ltb z 4), n + (0 + 1), p)) i9).2.1))), (pa, .inl (cI, 4, .inl (fun i9 => nI ((va_up (σ) k (wr B n (0 + 1) (ltb z 4), n + (0 + 1), p)) i9).2.2)))] := hD
          obtain ⟨v136, ev136⟩ : ∃ y : Int32, y = 3 + (-1) := ⟨_, rfl⟩
          refine lv_iinc (v := v136) (lv' := [(5, .int v136), (6, .int (nI (z / 2 ^ 18))), (4, .int 240), (3, .int (nI 4)), (0, .ref h), (1, .int (nI k)), (2, .int (nI z))]) hx hb d_M_letter_136 hl (k := 1) rfl (by rw [ev136]; rfl) (by decide) rfl (fun ls hl => ?_)
          have ev136 : v136 = 2 := by rw [ev136]; decide
          subst ev136
          have hP : va_P D vCl [(h, .inr (2, [.int 0, .int (nI M), .ref cl, .ref sa, .ref pa, .int tk])), (cl, .inl (cL, 32768, .inr (.inl (pkF (va_up σ k (wr B n 1 (ltb z 4), n + 1, p)))))), (sa, .inl (cI, 4, .inl (fun i9 => nI ((va_up σ k (wr B n 1 (ltb z 4), n + 1, p)) i9).2.1))), (pa, .inl (cI, 4, .inl (fun i9 => nI ((va_up σ k (wr B n 1 (ltb z 4), n + 1, p)) i9).2.2)))] H := hP
          have hD : va_D A [(h, .inr (2, [.int 0, .int (nI M), .ref cl, .ref sa, .ref pa, .int tk])), (cl, .inl (cL, 32768, .inr (.inl (pkF (va_up σ k (wr B n 1 (ltb z 4), n + 1, p)))))), (sa, .inl (cI, 4, .inl (fun i9 => nI ((va_up σ k (wr B n 1 (ltb z 4), n + 1, p)) i9).2.1))), (pa, .inl (cI, 4, .inl (fun i9 => nI ((va_up σ k (wr B n 1 (ltb z 4), n + 1, p)) i9).2.2)))] := hD
          refine lv_goto (tgt := 92) hx hb d_M_letter_139 (by decide) ?_
          refine lv_iload hx hb d_M_letter_92 (lv_at hl 0 rfl) ?_
          refine lv_if_lt (tgt := 142) hx hb d_M_letter_94 (by decide) (fun q9 => absurd q9 (by decide)) (fun _ => ?_)
          refine lv_iload_n hx hb d_M_letter_97 rfl (lv_at hl 6 rfl) ?_
          refine lv_bipush (v := 6) hx hb d_M_letter_98 (by decide) ?_
          refine lv_iload hx hb d_M_letter_100 (lv_at hl 0 rfl) ?_
          refine lv_imul hx hb d_M_letter_102 ?_
          refine lv_topi (fun v102 ev102 => ?_)
          have ev102 : v102 = 12 := by rw [ev102]; decide
          subst ev102
          refine lv_ishr hx hb d_M_letter_103 ?_
          refine lv_topi (fun v103 ev103 => ?_)
          have ev103 : v103 = nI (z / 2 ^ 12) := by rw [ev103]; exact pk_shrN hz0 _ 12 (by decide)
          subst ev103
          refine lv_istore (lv' := [(6, .int (nI (z / 2 ^ 12))), (5, .int 2), (4, .int 240), (3, .int (nI 4)), (0, .ref h), (1, .int (nI k)), (2, .int (nI z))]) hx hb d_M_letter_104 hl (by decide) rfl (fun ls hl => ?_)
          refine lv_aload_n hx hb d_M_letter_106 rfl (lv_at hl 4 rfl) ?_
          refine lv_iload_n hx hb d_M_letter_107 rfl (lv_at hl 5 rfl) ?_
          refine lv_iload hx hb d_M_letter_108 (lv_at hl 1 rfl) ?_
          refine lv_iload_n hx hb d_M_letter_110 rfl (lv_at hl 3 rfl) ?_
          refine lv_iconst (v := 1) hx hb d_M_letter_111 (by decide) ?_
          refine lv_isub hx hb d_M_letter_112 ?_
          refine lv_topi (fun v112 ev112 => ?_)
          have ev112 : v112 = 3 := by rw [ev112]; decide
          subst ev112
          refine lv_icmp_ne (tgt := 124) hx hb d_M_letter_113 (by decide) (fun _ => ?_) (fun q9 => absurd q9 (by decide))
          refine lv_sipush (v := 128) hx hb d_M_letter_124 (by decide) ?_
          refine lv_iload hx hb d_M_letter_127 (lv_at hl 0 rfl) ?_
          refine lv_bipush (v := 63) hx hb d_M_letter_129 (by decide) ?_
          refine lv_iand hx hb d_M_letter_131 ?_
          refine lv_topi (fun v131 ev131 => ?_)
          have ev131 : v131 = nI (z / 2 ^ 12 % 64) := by rw [ev131]; exact pk_andN (Nat.lt_of_le_of_lt (Nat.div_le_self _ _) (by omega)) 6 (by decide)
          subst ev131
          refine lv_iadd hx hb d_M_letter_132 ?_
          refine lv_topi (fun v132 ev132 => ?_)
          have ev132 : v132 = nI (ltb z 4 1) := by rw [ev132]; exact (nI_add 128 _).trans rfl
          subst ev132
          have hPc := hP
          have hFc := va_free (wc := [(h, .inr (2, [.int 0, .int (nI M), .ref cl, .ref sa, .ref pa, .int tk])), (cl, .inl (cL, 32768, .inr (.inl (pkF (va_up σ k (wr B n 1 (ltb z 4), n + 1, p)))))), (sa, .inl (cI, 4, .inl (fun i9 => nI ((va_up σ k (wr B n 1 (ltb z 4), n + 1, p)) i9).2.1))), (pa, .inl (cI, 4, .inl (fun i9 => nI ((va_up σ k (wr B n 1 (ltb z 4), n + 1, p)) i9).2.2)))]) hD hS hAq [0, 1, 2, 3] rfl
          have hKc := hK.sub (tys' := [(cL, .long), (cI, .int)]) [0, 1] rfl
          refine va_callv (va_runV (As := [.int (nI k), .int (nI (ltb z 4 1))]) (rest := []) ⟨hx, hb, hml, hown, hA⟩ (c_M_add l D cL cI h cl sa pa M 0 tk (σ) H.size k hk (wr B n 1 (ltb z 4)) (n + 1) p (wr_lt hB (fun i9 _ => ltb_lt hlz2 i9)) (ltb z 4 1) (by omega) (ltb_lt hlz2 1)) (q_M_add hA k3_13 rfl rfl ⟨(Nat.le_of_ble_eq_true rfl), (Nat.le_of_ble_eq_true rfl)⟩) (ox_V (va_recv hKc hPc (ci := 2) (q0 := 0) rfl rfl) (oxw_S hPc hKc hD)) rfl rfl hl.1 rfl (lv_room (Nat.le_of_ble_eq_true rfl)) d_M_letter_133 ⟨(Nat.le_of_ble_eq_true rfl), (Nat.le_of_ble_eq_true rfl)⟩) hS (fun q _ h => hFc q h) hFc (fun u9 t9 H1 locs ht9 hvm9 hw9 hB9 hz1 hk1 hS => ?_)
          obtain ⟨hP, hK1, hD1⟩ := hB9
          rw [ht9] at hP
          obtain ⟨hP, hD⟩ := va_join (wr := []) (w1 := rfW cL cI h cl sa pa M 0 tk (va_up (σ) k (va_up (wr B n 1 (ltb z 4)) (n + 1) (ltb z 4 1), n + 1 + 1, p))) hPc hD [0, 1, 2, 3] [] rfl rfl (by decide) (by decide) hk1 hFc hP hD1
          generalize H1 = H at hP hS ⊢
          have hP : va_P D vCl [(h, .inr (2, [.int 0, .int (nI M), .ref cl, .ref sa, .ref pa, .int tk])), (cl, .inl (cL, 32768, .inr (.inl (pkF (va_up (σ) k (va_up (wr B n 1 (ltb z 4)) (n + 1) (ltb z 4 1), n + 1 + 1, p)))))), (sa, .inl (cI, 4, .inl (fun i9 => nI ((va_up (σ) k (va_up (wr B n 1 (ltb z 4)) (n + 1) (ltb z 4 1), n + 1 + 1, p)) i9).2.1))), (pa, .inl (cI, 4, .inl (fun i9 => nI ((va_up (σ) k (va_up (wr B n 1 (ltb z 4)) (n + 1) (ltb z 4 1), n + 1 + 1, p)) i9).2.2)))] H := hP
          have hD : va_D A [(h, .inr (2, [.int 0, .int (nI M), .ref cl, .ref sa, .ref pa, .int tk])), (cl, .inl (cL, 32768, .inr (.inl (pkF (va_up (σ) k (va_up (wr B n 1 (ltb z 4)) (n + 1) (ltb z 4 1), n + 1 + 1, p)))))), (sa, .inl (cI, 4, .inl (fun i9 => nI ((va_up (σ) k (va_up (wr B n 1 (ltb z 4)) (n + 1) (ltb z 4 1), n + 1 + 1, p)) i9).2.1))), (pa, .inl (cI, 4, .inl (fun i9 => nI ((va_up (σ) k (va_up (wr B n 1 (ltb z 4)) (n + 1) (ltb z 4 1), n + 1 + 1, p)) i9).2.2)))] := hD
          rw [wr_s, Nat.add_assoc n 1 1] at hP hD
          have hP : va_P D vCl [(h, .inr (2, [.int 0, .int (nI M), .ref cl, .ref sa, .ref pa, .int tk])), (cl, .inl (cL, 32768, .inr (.inl (pkF (va_up (σ) k (wr B n (1 + 1) (ltb z 4), n + (1 + 1), p)))))), (sa, .inl (cI, 4, .inl (fun i9 => nI ((va_up (σ) k (wr B n (1 + 1) (ltb z 4), n + (1 + 1), p)) i9).2.1))), (pa, .inl (cI, 4, .inl (fun i9 => nI ((va_up (σ) k (wr B n (1 + 1) (ltb z 4), n + (1 + 1), p)) i9).2.2)))] H := hP
          have hD : va_D A [(h, .inr (2, [.int 0, .int (nI M), .ref cl, .ref sa, .ref pa, .int tk])), (cl, .inl (cL, 32768, .inr (.inl (pkF (va_up (σ) k (wr B n (1 + 1) (ltb z 4), n + (1 + 1), p)))))), (sa, .inl (cI, 4, .inl (fun i9 => nI ((va_up (σ) k (wr B n (1 + 1) (ltb z 4), n + (1 + 1), p)) i9).2.1))), (pa, .inl (cI, 4, .inl (fun i9 => nI ((va_up (σ) k (wr B n (1 + 1) (ltb z 4), n + (1 + 1), p)) i9).2.2)))] := hD
          obtain ⟨v136, ev136⟩ : ∃ y : Int32, y = 2 + (-1) := ⟨_, rfl⟩
          refine lv_iinc (v := v136) (lv' := [(5, .int v136), (6, .int (nI (z / 2 ^ 12))), (4, .int 240), (3, .int (nI 4)), (0, .ref h), (1, .int (nI k)), (2, .int (nI z))]) hx hb d_M_letter_136 hl (k := 1) rfl (by rw [ev136]; rfl) (by decide) rfl (fun ls hl => ?_)
          have ev136 : v136 = 1 := by rw [ev136]; decide
          subst ev136
          have hP : va_P D vCl [(h, .inr (2, [.int 0, .int (nI M), .ref cl, .ref sa, .ref pa, .int tk])), (cl, .inl (cL, 32768, .inr (.inl (pkF (va_up σ k (wr B n 2 (ltb z 4), n + 2, p)))))), (sa, .inl (cI, 4, .inl (fun i9 => nI ((va_up σ k (wr B n 2 (ltb z 4), n + 2, p)) i9).2.1))), (pa, .inl (cI, 4, .inl (fun i9 => nI ((va_up σ k (wr B n 2 (ltb z 4), n + 2, p)) i9).2.2)))] H := hP
          have hD : va_D A [(h, .inr (2, [.int 0, .int (nI M), .ref cl, .ref sa, .ref pa, .int tk])), (cl, .inl (cL, 32768, .inr (.inl (pkF (va_up σ k (wr B n 2 (ltb z 4), n + 2, p)))))), (sa, .inl (cI, 4, .inl (fun i9 => nI ((va_up σ k (wr B n 2 (ltb z 4), n + 2, p)) i9).2.1))), (pa, .inl (cI, 4, .inl (fun i9 => nI ((va_up σ k (wr B n 2 (ltb z 4), n + 2, p)) i9).2.2)))] := hD
          refine lv_goto (tgt := 92) hx hb d_M_letter_139 (by decide) ?_
          refine lv_iload hx hb d_M_letter_92 (lv_at hl 0 rfl) ?_
          refine lv_if_lt (tgt := 142) hx hb d_M_letter_94 (by decide) (fun q9 => absurd q9 (by decide)) (fun _ => ?_)
          refine lv_iload_n hx hb d_M_letter_97 rfl (lv_at hl 6 rfl) ?_
          refine lv_bipush (v := 6) hx hb d_M_letter_98 (by decide) ?_
          refine lv_iload hx hb d_M_letter_100 (lv_at hl 0 rfl) ?_
          refine lv_imul hx hb d_M_letter_102 ?_
          refine lv_topi (fun v102 ev102 => ?_)
          have ev102 : v102 = 6 := by rw [ev102]; decide
          subst ev102
          refine lv_ishr hx hb d_M_letter_103 ?_
          refine lv_topi (fun v103 ev103 => ?_)
          have ev103 : v103 = nI (z / 2 ^ 6) := by rw [ev103]; exact pk_shrN hz0 _ 6 (by decide)
          subst ev103
          refine lv_istore (lv' := [(6, .int (nI (z / 2 ^ 6))), (5, .int 1), (4, .int 240), (3, .int (nI 4)), (0, .ref h), (1, .int (nI k)), (2, .int (nI z))]) hx hb d_M_letter_104 hl (by decide) rfl (fun ls hl => ?_)
          refine lv_aload_n hx hb d_M_letter_106 rfl (lv_at hl 4 rfl) ?_
          refine lv_iload_n hx hb d_M_letter_107 rfl (lv_at hl 5 rfl) ?_
          refine lv_iload hx hb d_M_letter_108 (lv_at hl 1 rfl) ?_
          refine lv_iload_n hx hb d_M_letter_110 rfl (lv_at hl 3 rfl) ?_
          refine lv_iconst (v := 1) hx hb d_M_letter_111 (by decide) ?_
          refine lv_isub hx hb d_M_letter_112 ?_
          refine lv_topi (fun v112 ev112 => ?_)
          have ev112 : v112 = 3 := by rw [ev112]; decide
          subst ev112
          refine lv_icmp_ne (tgt := 124) hx hb d_M_letter_113 (by decide) (fun _ => ?_) (fun q9 => absurd q9 (by decide))
          refine lv_sipush (v := 128) hx hb d_M_letter_124 (by decide) ?_
          refine lv_iload hx hb d_M_letter_127 (lv_at hl 0 rfl) ?_
          refine lv_bipush (v := 63) hx hb d_M_letter_129 (by decide) ?_
          refine lv_iand hx hb d_M_letter_131 ?_
          refine lv_topi (fun v131 ev131 => ?_)
          have ev131 : v131 = nI (z / 2 ^ 6 % 64) := by rw [ev131]; exact pk_andN (Nat.lt_of_le_of_lt (Nat.div_le_self _ _) (by omega)) 6 (by decide)
          subst ev131
          refine lv_iadd hx hb d_M_letter_132 ?_
          refine lv_topi (fun v132 ev132 => ?_)
          have ev132 : v132 = nI (ltb z 4 2) := by rw [ev132]; exact (nI_add 128 _).trans rfl
          subst ev132
          have hPc := hP
          have hFc := va_free (wc := [(h, .inr (2, [.int 0, .int (nI M), .ref cl, .ref sa, .ref pa, .int tk])), (cl, .inl (cL, 32768, .inr (.inl (pkF (va_up σ k (wr B n 2 (ltb z 4), n + 2, p)))))), (sa, .inl (cI, 4, .inl (fun i9 => nI ((va_up σ k (wr B n 2 (ltb z 4), n + 2, p)) i9).2.1))), (pa, .inl (cI, 4, .inl (fun i9 => nI ((va_up σ k (wr B n 2 (ltb z 4), n + 2, p)) i9).2.2)))]) hD hS hAq [0, 1, 2, 3] rfl
          have hKc := hK.sub (tys' := [(cL, .long), (cI, .int)]) [0, 1] rfl
          refine va_callv (va_runV (As := [.int (nI k), .int (nI (ltb z 4 2))]) (rest := []) ⟨hx, hb, hml, hown, hA⟩ (c_M_add l D cL cI h cl sa pa M 0 tk (σ) H.size k hk (wr B n 2 (ltb z 4)) (n + 2) p (wr_lt hB (fun i9 _ => ltb_lt hlz2 i9)) (ltb z 4 2) (by omega) (ltb_lt hlz2 2)) (q_M_add hA k3_13 rfl rfl ⟨(Nat.le_of_ble_eq_true rfl), (Nat.le_of_ble_eq_true rfl)⟩) (ox_V (va_recv hKc hPc (ci := 2) (q0 := 0) rfl rfl) (oxw_S hPc hKc hD)) rfl rfl hl.1 rfl (lv_room (Nat.le_of_ble_eq_true rfl)) d_M_letter_133 ⟨(Nat.le_of_ble_eq_true rfl), (Nat.le_of_ble_eq_true rfl)⟩) hS (fun q _ h => hFc q h) hFc (fun u9 t9 H1 locs ht9 hvm9 hw9 hB9 hz1 hk1 hS => ?_)
          obtain ⟨hP, hK1, hD1⟩ := hB9
          rw [ht9] at hP
          obtain ⟨hP, hD⟩ := va_join (wr := []) (w1 := rfW cL cI h cl sa pa M 0 tk (va_up (σ) k (va_up (wr B n 2 (ltb z 4)) (n + 2) (ltb z 4 2), n + 2 + 1, p))) hPc hD [0, 1, 2, 3] [] rfl rfl (by decide) (by decide) hk1 hFc hP hD1
          generalize H1 = H at hP hS ⊢
          have hP : va_P D vCl [(h, .inr (2, [.int 0, .int (nI M), .ref cl, .ref sa, .ref pa, .int tk])), (cl, .inl (cL, 32768, .inr (.inl (pkF (va_up (σ) k (va_up (wr B n 2 (ltb z 4)) (n + 2) (ltb z 4 2), n + 2 + 1, p)))))), (sa, .inl (cI, 4, .inl (fun i9 => nI ((va_up (σ) k (va_up (wr B n 2 (ltb z 4)) (n + 2) (ltb z 4 2), n + 2 + 1, p)) i9).2.1))), (pa, .inl (cI, 4, .inl (fun i9 => nI ((va_up (σ) k (va_up (wr B n 2 (ltb z 4)) (n + 2) (ltb z 4 2), n + 2 + 1, p)) i9).2.2)))] H := hP
          have hD : va_D A [(h, .inr (2, [.int 0, .int (nI M), .ref cl, .ref sa, .ref pa, .int tk])), (cl, .inl (cL, 32768, .inr (.inl (pkF (va_up (σ) k (va_up (wr B n 2 (ltb z 4)) (n + 2) (ltb z 4 2), n + 2 + 1, p)))))), (sa, .inl (cI, 4, .inl (fun i9 => nI ((va_up (σ) k (va_up (wr B n 2 (ltb z 4)) (n + 2) (ltb z 4 2), n + 2 + 1, p)) i9).2.1))), (pa, .inl (cI, 4, .inl (fun i9 => nI ((va_up (σ) k (va_up (wr B n 2 (ltb z 4)) (n + 2) (ltb z 4 2), n + 2 + 1, p)) i9).2.2)))] := hD
          rw [wr_s, Nat.add_assoc n 2 1] at hP hD
          have hP : va_P D vCl [(h, .inr (2, [.int 0, .int (nI M), .ref cl, .ref sa, .ref pa, .int tk])), (cl, .inl (cL, 32768, .inr (.inl (pkF (va_up (σ) k (wr B n (2 + 1) (ltb z 4), n + (2 + 1), p)))))), (sa, .inl (cI, 4, .inl (fun i9 => nI ((va_up (σ) k (wr B n (2 + 1) (ltb z 4), n + (2 + 1), p)) i9).2.1))), (pa, .inl (cI, 4, .inl (fun i9 => nI ((va_up (σ) k (wr B n (2 + 1) (ltb z 4), n + (2 + 1), p)) i9).2.2)))] H := hP
          have hD : va_D A [(h, .inr (2, [.int 0, .int (nI M), .ref cl, .ref sa, .ref pa, .int tk])), (cl, .inl (cL, 32768, .inr (.inl (pkF (va_up (σ) k (wr B n (2 + 1) (ltb z 4), n + (2 + 1), p)))))), (sa, .inl (cI, 4, .inl (fun i9 => nI ((va_up (σ) k (wr B n (2 + 1) (ltb z 4), n + (2 + 1), p)) i9).2.1))), (pa, .inl (cI, 4, .inl (fun i9 => nI ((va_up (σ) k (wr B n (2 + 1) (ltb z 4), n + (2 + 1), p)) i9).2.2)))] := hD
          obtain ⟨v136, ev136⟩ : ∃ y : Int32, y = 1 + (-1) := ⟨_, rfl⟩
          refine lv_iinc (v := v136) (lv' := [(5, .int v136), (6, .int (nI (z / 2 ^ 6))), (4, .int 240), (3, .int (nI 4)), (0, .ref h), (1, .int (nI k)), (2, .int (nI z))]) hx hb d_M_letter_136 hl (k := 1) rfl (by rw [ev136]; rfl) (by decide) rfl (fun ls hl => ?_)
          have ev136 : v136 = 0 := by rw [ev136]; decide
          subst ev136
          have hP : va_P D vCl [(h, .inr (2, [.int 0, .int (nI M), .ref cl, .ref sa, .ref pa, .int tk])), (cl, .inl (cL, 32768, .inr (.inl (pkF (va_up σ k (wr B n 3 (ltb z 4), n + 3, p)))))), (sa, .inl (cI, 4, .inl (fun i9 => nI ((va_up σ k (wr B n 3 (ltb z 4), n + 3, p)) i9).2.1))), (pa, .inl (cI, 4, .inl (fun i9 => nI ((va_up σ k (wr B n 3 (ltb z 4), n + 3, p)) i9).2.2)))] H := hP
          have hD : va_D A [(h, .inr (2, [.int 0, .int (nI M), .ref cl, .ref sa, .ref pa, .int tk])), (cl, .inl (cL, 32768, .inr (.inl (pkF (va_up σ k (wr B n 3 (ltb z 4), n + 3, p)))))), (sa, .inl (cI, 4, .inl (fun i9 => nI ((va_up σ k (wr B n 3 (ltb z 4), n + 3, p)) i9).2.1))), (pa, .inl (cI, 4, .inl (fun i9 => nI ((va_up σ k (wr B n 3 (ltb z 4), n + 3, p)) i9).2.2)))] := hD
          refine lv_goto (tgt := 92) hx hb d_M_letter_139 (by decide) ?_
          refine lv_iload hx hb d_M_letter_92 (lv_at hl 0 rfl) ?_
          refine lv_if_lt (tgt := 142) hx hb d_M_letter_94 (by decide) (fun q9 => absurd q9 (by decide)) (fun _ => ?_)
          refine lv_iload_n hx hb d_M_letter_97 rfl (lv_at hl 6 rfl) ?_
          refine lv_bipush (v := 6) hx hb d_M_letter_98 (by decide) ?_
          refine lv_iload hx hb d_M_letter_100 (lv_at hl 0 rfl) ?_
          refine lv_imul hx hb d_M_letter_102 ?_
          refine lv_topi (fun v102 ev102 => ?_)
          have ev102 : v102 = 0 := by rw [ev102]; decide
          subst ev102
          refine lv_ishr hx hb d_M_letter_103 ?_
          refine lv_topi (fun v103 ev103 => ?_)
          have ev103 : v103 = nI (z / 2 ^ 0) := by rw [ev103]; exact pk_shrN hz0 _ 0 (by decide)
          subst ev103
          refine lv_istore (lv' := [(6, .int (nI (z / 2 ^ 0))), (5, .int 0), (4, .int 240), (3, .int (nI 4)), (0, .ref h), (1, .int (nI k)), (2, .int (nI z))]) hx hb d_M_letter_104 hl (by decide) rfl (fun ls hl => ?_)
          refine lv_aload_n hx hb d_M_letter_106 rfl (lv_at hl 4 rfl) ?_
          refine lv_iload_n hx hb d_M_letter_107 rfl (lv_at hl 5 rfl) ?_
          refine lv_iload hx hb d_M_letter_108 (lv_at hl 1 rfl) ?_
          refine lv_iload_n hx hb d_M_letter_110 rfl (lv_at hl 3 rfl) ?_
          refine lv_iconst (v := 1) hx hb d_M_letter_111 (by decide) ?_
          refine lv_isub hx hb d_M_letter_112 ?_
          refine lv_topi (fun v112 ev112 => ?_)
          have ev112 : v112 = 3 := by rw [ev112]; decide
          subst ev112
          refine lv_icmp_ne (tgt := 124) hx hb d_M_letter_113 (by decide) (fun _ => ?_) (fun q9 => absurd q9 (by decide))
          refine lv_sipush (v := 128) hx hb d_M_letter_124 (by decide) ?_
          refine lv_iload hx hb d_M_letter_127 (lv_at hl 0 rfl) ?_
          refine lv_bipush (v := 63) hx hb d_M_letter_129 (by decide) ?_
          refine lv_iand hx hb d_M_letter_131 ?_
          refine lv_topi (fun v131 ev131 => ?_)
          have ev131 : v131 = nI (z / 2 ^ 0 % 64) := by rw [ev131]; exact pk_andN (Nat.lt_of_le_of_lt (Nat.div_le_self _ _) (by omega)) 6 (by decide)
          subst ev131
          refine lv_iadd hx hb d_M_letter_132 ?_
          refine lv_topi (fun v132 ev132 => ?_)
          have ev132 : v132 = nI (ltb z 4 3) := by rw [ev132]; exact (nI_add 128 _).trans rfl
          subst ev132
          have hPc := hP
          have hFc := va_free (wc := [(h, .inr (2, [.int 0, .int (nI M), .ref cl, .ref sa, .ref pa, .int tk])), (cl, .inl (cL, 32768, .inr (.inl (pkF (va_up σ k (wr B n 3 (ltb z 4), n + 3, p)))))), (sa, .inl (cI, 4, .inl (fun i9 => nI ((va_up σ k (wr B n 3 (ltb z 4), n + 3, p)) i9).2.1))), (pa, .inl (cI, 4, .inl (fun i9 => nI ((va_up σ k (wr B n 3 (ltb z 4), n + 3, p)) i9).2.2)))]) hD hS hAq [0, 1, 2, 3] rfl
          have hKc := hK.sub (tys' := [(cL, .long), (cI, .int)]) [0, 1] rfl
          refine va_callv (va_runV (As := [.int (nI k), .int (nI (ltb z 4 3))]) (rest := []) ⟨hx, hb, hml, hown, hA⟩ (c_M_add l D cL cI h cl sa pa M 0 tk (σ) H.size k hk (wr B n 3 (ltb z 4)) (n + 3) p (wr_lt hB (fun i9 _ => ltb_lt hlz2 i9)) (ltb z 4 3) (by omega) (ltb_lt hlz2 3)) (q_M_add hA k3_13 rfl rfl ⟨(Nat.le_of_ble_eq_true rfl), (Nat.le_of_ble_eq_true rfl)⟩) (ox_V (va_recv hKc hPc (ci := 2) (q0 := 0) rfl rfl) (oxw_S hPc hKc hD)) rfl rfl hl.1 rfl (lv_room (Nat.le_of_ble_eq_true rfl)) d_M_letter_133 ⟨(Nat.le_of_ble_eq_true rfl), (Nat.le_of_ble_eq_true rfl)⟩) hS (fun q _ h => hFc q h) hFc (fun u9 t9 H1 locs ht9 hvm9 hw9 hB9 hz1 hk1 hS => ?_)
          obtain ⟨hP, hK1, hD1⟩ := hB9
          rw [ht9] at hP
          obtain ⟨hP, hD⟩ := va_join (wr := []) (w1 := rfW cL cI h cl sa pa M 0 tk (va_up (σ) k (va_up (wr B n 3 (ltb z 4)) (n + 3) (ltb z 4 3), n + 3 + 1, p))) hPc hD [0, 1, 2, 3] [] rfl rfl (by decide) (by decide) hk1 hFc hP hD1
          generalize H1 = H at hP hS ⊢
          have hP : va_P D vCl [(h, .inr (2, [.int 0, .int (nI M), .ref cl, .ref sa, .ref pa, .int tk])), (cl, .inl (cL, 32768, .inr (.inl (pkF (va_up (σ) k (va_up (wr B n 3 (ltb z 4)) (n + 3) (ltb z 4 3), n + 3 + 1, p)))))), (sa, .inl (cI, 4, .inl (fun i9 => nI ((va_up (σ) k (va_up (wr B n 3 (ltb z 4)) (n + 3) (ltb z 4 3), n + 3 + 1, p)) i9).2.1))), (pa, .inl (cI, 4, .inl (fun i9 => nI ((va_up (σ) k (va_up (wr B n 3 (ltb z 4)) (n + 3) (ltb z 4 3), n + 3 + 1, p)) i9).2.2)))] H := hP
          have hD : va_D A [(h, .inr (2, [.int 0, .int (nI M), .ref cl, .ref sa, .ref pa, .int tk])), (cl, .inl (cL, 32768, .inr (.inl (pkF (va_up (σ) k (va_up (wr B n 3 (ltb z 4)) (n + 3) (ltb z 4 3), n + 3 + 1, p)))))), (sa, .inl (cI, 4, .inl (fun i9 => nI ((va_up (σ) k (va_up (wr B n 3 (ltb z 4)) (n + 3) (ltb z 4 3), n + 3 + 1, p)) i9).2.1))), (pa, .inl (cI, 4, .inl (fun i9 => nI ((va_up (σ) k (va_up (wr B n 3 (ltb z 4)) (n + 3) (ltb z 4 3), n + 3 + 1, p)) i9).2.2)))] := hD
          rw [wr_s, Nat.add_assoc n 3 1] at hP hD
          have hP : va_P D vCl [(h, .inr (2, [.int 0, .int (nI M), .ref cl, .ref sa, .ref pa, .int tk])), (cl, .inl (cL, 32768, .inr (.inl (pkF (va_up (σ) k (wr B n (3 + 1) (ltb z 4), n + (3 + 1), p)))))), (sa, .inl (cI, 4, .inl (fun i9 => nI ((va_up (σ) k (wr B n (3 + 1) (ltb z 4), n + (3 + 1), p)) i9).2.1))), (pa, .inl (cI, 4, .inl (fun i9 => nI ((va_up (σ) k (wr B n (3 + 1) (ltb z 4), n + (3 + 1), p)) i9).2.2)))] H := hP
          have hD : va_D A [(h, .inr (2, [.int 0, .int (nI M), .ref cl, .ref sa, .ref pa, .int tk])), (cl, .inl (cL, 32768, .inr (.inl (pkF (va_up (σ) k (wr B n (3 + 1) (ltb z 4), n + (3 + 1), p)))))), (sa, .inl (cI, 4, .inl (fun i9 => nI ((va_up (σ) k (wr B n (3 + 1) (ltb z 4), n + (3 + 1), p)) i9).2.1))), (pa, .inl (cI, 4, .inl (fun i9 => nI ((va_up (σ) k (wr B n (3 + 1) (ltb z 4), n + (3 + 1), p)) i9).2.2)))] := hD
          obtain ⟨v136, ev136⟩ : ∃ y : Int32, y = 0 + (-1) := ⟨_, rfl⟩
          refine lv_iinc (v := v136) (lv' := [(5, .int v136), (6, .int (nI (z / 2 ^ 0))), (4, .int 240), (3, .int (nI 4)), (0, .ref h), (1, .int (nI k)), (2, .int (nI z))]) hx hb d_M_letter_136 hl (k := 1) rfl (by rw [ev136]; rfl) (by decide) rfl (fun ls hl => ?_)
          have ev136 : v136 = (-1) := by rw [ev136]; decide
          subst ev136
          have hP : va_P D vCl [(h, .inr (2, [.int 0, .int (nI M), .ref cl, .ref sa, .ref pa, .int tk])), (cl, .inl (cL, 32768, .inr (.inl (pkF (va_up σ k (wr B n 4 (ltb z 4), n + 4, p)))))), (sa, .inl (cI, 4, .inl (fun i9 => nI ((va_up σ k (wr B n 4 (ltb z 4), n + 4, p)) i9).2.1))), (pa, .inl (cI, 4, .inl (fun i9 => nI ((va_up σ k (wr B n 4 (ltb z 4), n + 4, p)) i9).2.2)))] H := hP
          have hD : va_D A [(h, .inr (2, [.int 0, .int (nI M), .ref cl, .ref sa, .ref pa, .int tk])), (cl, .inl (cL, 32768, .inr (.inl (pkF (va_up σ k (wr B n 4 (ltb z 4), n + 4, p)))))), (sa, .inl (cI, 4, .inl (fun i9 => nI ((va_up σ k (wr B n 4 (ltb z 4), n + 4, p)) i9).2.1))), (pa, .inl (cI, 4, .inl (fun i9 => nI ((va_up σ k (wr B n 4 (ltb z 4), n + 4, p)) i9).2.2)))] := hD
          refine lv_goto (tgt := 92) hx hb d_M_letter_139 (by decide) ?_
          refine lv_iload hx hb d_M_letter_92 (lv_at hl 0 rfl) ?_
          refine lv_if_lt (tgt := 142) hx hb d_M_letter_94 (by decide) (fun _ => ?_) (fun q9 => absurd (by decide) q9)
          refine lv_iload_n hx hb d_M_letter_142 rfl (lv_at hl 3 rfl) ?_
          exact W.iret (v := nI 4) hx hb hr (fun t ht hW => ⟨⟨_, (0, va_up σ k (wr B n 4 (ltb z 4), n + 4, p), tk), rfl, (by unfold spLetter; simp only [hrk, hρ]; rw [if_neg (fun h8 => h8 hR), if_neg hw0, if_neg (Nat.not_lt.mpr hF2), hzn, hwd]), by rw [ht]; exact hP, va_K.moved hW.alike hK, hD⟩, hS.F ht⟩) hS.2.2 d_M_letter_143
      · refine lv_if_ne (tgt := 51) hx hb d_M_letter_42 (by decide) (fun q9 => absurd (by decide) q9) (fun _ => ?_)
        rw [hρ] at hF
        have hF2 : M < n + (lwI (nI z).toInt) := Nat.not_le.mp hF
        refine lv_aload_n hx hb d_M_letter_45 rfl (lv_at hl 1 rfl) ?_
        refine lv_iconst (v := 3) hx hb d_M_letter_46 (by decide) ?_
        have hPc := hP
        have hFc := va_free (wc := [(h, .inr (2, [.int 0, .int (nI M), .ref cl, .ref sa, .ref pa, .int tk])), (cl, .inl (cL, 32768, .inr (.inl (pkF (σ))))), (sa, .inl (cI, 4, .inl (fun i9 => nI ((σ) i9).2.1))), (pa, .inl (cI, 4, .inl (fun i9 => nI ((σ) i9).2.2)))]) hD hS hAq [0, 1, 2, 3] rfl
        have hKc := hK.sub (tys' := [(cL, .long), (cI, .int)]) [0, 1] rfl
        refine va_calli (va_runV (As := [.int 3]) (rest := []) ⟨hx, hb, hml, hown, hA⟩ (c_M_fail l D cL cI h cl sa pa M 0 tk (σ) H.size 3) (q_M_fail hA k3_4 rfl rfl ⟨(Nat.le_of_ble_eq_true rfl), (Nat.le_of_ble_eq_true rfl)⟩) (ox_V (va_recv hKc hPc (ci := 2) (q0 := 0) rfl rfl) (oxw_S hPc hKc hD)) rfl rfl hl.1 rfl (lv_room (Nat.le_of_ble_eq_true rfl)) d_M_letter_47 ⟨(Nat.le_of_ble_eq_true rfl), (Nat.le_of_ble_eq_true rfl)⟩) hS (fun q _ h => hFc q h) hFc (fun r47 u9 t9 H1 locs ht9 hvm9 hw9 hB9 hz1 hk1 hS => ?_)
        obtain ⟨hP, hK1, hD1⟩ := hB9
        rw [ht9] at hP
        obtain ⟨hP, hD⟩ := va_join (wr := []) (w1 := rfW cL cI h cl sa pa M 3 tk (σ)) hPc hD [0, 1, 2, 3] [] rfl rfl (by decide) (by decide) hk1 hFc hP hD1
        generalize H1 = H at hP hS ⊢
        have hP : va_P D vCl [(h, .inr (2, [.int 3, .int (nI M), .ref cl, .ref sa, .ref pa, .int tk])), (cl, .inl (cL, 32768, .inr (.inl (pkF (σ))))), (sa, .inl (cI, 4, .inl (fun i9 => nI ((σ) i9).2.1))), (pa, .inl (cI, 4, .inl (fun i9 => nI ((σ) i9).2.2)))] H := hP
        have hD : va_D A [(h, .inr (2, [.int 3, .int (nI M), .ref cl, .ref sa, .ref pa, .int tk])), (cl, .inl (cL, 32768, .inr (.inl (pkF (σ))))), (sa, .inl (cI, 4, .inl (fun i9 => nI ((σ) i9).2.1))), (pa, .inl (cI, 4, .inl (fun i9 => nI ((σ) i9).2.2)))] := hD
        subst hw9
        exact W.iret (v := 0) hx hb hr (fun t ht hW => ⟨⟨_, (3, σ, tk), rfl, (by unfold spLetter; simp only [hrk, hρ]; rw [if_neg (fun h8 => h8 hR), if_neg hw0, if_pos hF2]), by rw [ht]; exact hP, va_K.moved hW.alike hK, hD⟩, hS.F ht⟩) hS.2.2 d_M_letter_50
    · refine lv_if_ne (tgt := 31) hx hb d_M_letter_22 (by decide) (fun q9 => absurd (by decide) q9) (fun _ => ?_)
      have hL := Classical.not_not.mp hL
      refine lv_aload_n hx hb d_M_letter_25 rfl (lv_at hl 0 rfl) ?_
      refine lv_iconst (v := 2) hx hb d_M_letter_26 (by decide) ?_
      have hPc := hP
      have hFc := va_free (wc := [(h, .inr (2, [.int 0, .int (nI M), .ref cl, .ref sa, .ref pa, .int tk])), (cl, .inl (cL, 32768, .inr (.inl (pkF (σ))))), (sa, .inl (cI, 4, .inl (fun i9 => nI ((σ) i9).2.1))), (pa, .inl (cI, 4, .inl (fun i9 => nI ((σ) i9).2.2)))]) hD hS hAq [0, 1, 2, 3] rfl
      have hKc := hK.sub (tys' := [(cL, .long), (cI, .int)]) [0, 1] rfl
      refine va_calli (va_runV (As := [.int 2]) (rest := []) ⟨hx, hb, hml, hown, hA⟩ (c_M_fail l D cL cI h cl sa pa M 0 tk (σ) H.size 2) (q_M_fail hA k3_4 rfl rfl ⟨(Nat.le_of_ble_eq_true rfl), (Nat.le_of_ble_eq_true rfl)⟩) (ox_V (va_recv hKc hPc (ci := 2) (q0 := 0) rfl rfl) (oxw_S hPc hKc hD)) rfl rfl hl.1 rfl (lv_room (Nat.le_of_ble_eq_true rfl)) d_M_letter_27 ⟨(Nat.le_of_ble_eq_true rfl), (Nat.le_of_ble_eq_true rfl)⟩) hS (fun q _ h => hFc q h) hFc (fun r27 u9 t9 H1 locs ht9 hvm9 hw9 hB9 hz1 hk1 hS => ?_)
      obtain ⟨hP, hK1, hD1⟩ := hB9
      rw [ht9] at hP
      obtain ⟨hP, hD⟩ := va_join (wr := []) (w1 := rfW cL cI h cl sa pa M 2 tk (σ)) hPc hD [0, 1, 2, 3] [] rfl rfl (by decide) (by decide) hk1 hFc hP hD1
      generalize H1 = H at hP hS ⊢
      have hP : va_P D vCl [(h, .inr (2, [.int 2, .int (nI M), .ref cl, .ref sa, .ref pa, .int tk])), (cl, .inl (cL, 32768, .inr (.inl (pkF (σ))))), (sa, .inl (cI, 4, .inl (fun i9 => nI ((σ) i9).2.1))), (pa, .inl (cI, 4, .inl (fun i9 => nI ((σ) i9).2.2)))] H := hP
      have hD : va_D A [(h, .inr (2, [.int 2, .int (nI M), .ref cl, .ref sa, .ref pa, .int tk])), (cl, .inl (cL, 32768, .inr (.inl (pkF (σ))))), (sa, .inl (cI, 4, .inl (fun i9 => nI ((σ) i9).2.1))), (pa, .inl (cI, 4, .inl (fun i9 => nI ((σ) i9).2.2)))] := hD
      subst hw9
      exact W.iret (v := 0) hx hb hr (fun t ht hW => ⟨⟨_, (2, σ, tk), rfl, (by unfold spLetter; simp only [hrk, hρ]; rw [if_neg (fun h8 => h8 hR), if_pos hL]), by rw [ht]; exact hP, va_K.moved hW.alike hK, hD⟩, hS.F ht⟩) hS.2.2 d_M_letter_30
  · refine lv_if_ne (tgt := 18) hx hb d_M_letter_9 (by decide) (fun q9 => absurd (by decide) q9) (fun _ => ?_)
    refine lv_aload_n hx hb d_M_letter_12 rfl (lv_at hl 0 rfl) ?_
    refine lv_iconst (v := 1) hx hb d_M_letter_13 (by decide) ?_
    have hPc := hP
    have hFc := va_free (wc := [(h, .inr (2, [.int 0, .int (nI M), .ref cl, .ref sa, .ref pa, .int tk])), (cl, .inl (cL, 32768, .inr (.inl (pkF (σ))))), (sa, .inl (cI, 4, .inl (fun i9 => nI ((σ) i9).2.1))), (pa, .inl (cI, 4, .inl (fun i9 => nI ((σ) i9).2.2)))]) hD hS hAq [0, 1, 2, 3] rfl
    have hKc := hK.sub (tys' := [(cL, .long), (cI, .int)]) [0, 1] rfl
    refine va_calli (va_runV (As := [.int 1]) (rest := []) ⟨hx, hb, hml, hown, hA⟩ (c_M_fail l D cL cI h cl sa pa M 0 tk (σ) H.size 1) (q_M_fail hA k3_4 rfl rfl ⟨(Nat.le_of_ble_eq_true rfl), (Nat.le_of_ble_eq_true rfl)⟩) (ox_V (va_recv hKc hPc (ci := 2) (q0 := 0) rfl rfl) (oxw_S hPc hKc hD)) rfl rfl hl.1 rfl (lv_room (Nat.le_of_ble_eq_true rfl)) d_M_letter_14 ⟨(Nat.le_of_ble_eq_true rfl), (Nat.le_of_ble_eq_true rfl)⟩) hS (fun q _ h => hFc q h) hFc (fun r14 u9 t9 H1 locs ht9 hvm9 hw9 hB9 hz1 hk1 hS => ?_)
    obtain ⟨hP, hK1, hD1⟩ := hB9
    rw [ht9] at hP
    obtain ⟨hP, hD⟩ := va_join (wr := []) (w1 := rfW cL cI h cl sa pa M 1 tk (σ)) hPc hD [0, 1, 2, 3] [] rfl rfl (by decide) (by decide) hk1 hFc hP hD1
    generalize H1 = H at hP hS ⊢
    have hP : va_P D vCl [(h, .inr (2, [.int 1, .int (nI M), .ref cl, .ref sa, .ref pa, .int tk])), (cl, .inl (cL, 32768, .inr (.inl (pkF (σ))))), (sa, .inl (cI, 4, .inl (fun i9 => nI ((σ) i9).2.1))), (pa, .inl (cI, 4, .inl (fun i9 => nI ((σ) i9).2.2)))] H := hP
    have hD : va_D A [(h, .inr (2, [.int 1, .int (nI M), .ref cl, .ref sa, .ref pa, .int tk])), (cl, .inl (cL, 32768, .inr (.inl (pkF (σ))))), (sa, .inl (cI, 4, .inl (fun i9 => nI ((σ) i9).2.1))), (pa, .inl (cI, 4, .inl (fun i9 => nI ((σ) i9).2.2)))] := hD
    subst hw9
    exact W.iret (v := 0) hx hb hr (fun t ht hW => ⟨⟨_, (1, σ, tk), rfl, (by unfold spLetter; rw [if_pos hR]), by rw [ht]; exact hP, va_K.moved hW.alike hK, hD⟩, hS.F ht⟩) hS.2.2 d_M_letter_17
