/-! THE REFERENCE: GROUPS, SUM, NUMBER -/
theorem ush1_b (s : Int32) : (ush1 s).toBitVec = s.toBitVec >>> 1 := by
  apply BitVec.eq_of_toNat_eq
  unfold ush1
  rw [pk_ushr s 1 1 (by decide), BitVec.toNat_ushiftRight, Nat.shiftRight_eq_div_pow]
theorem ush1_xor (a b : Int32) : ush1 (a ^^^ b) = ush1 a ^^^ ush1 b := by
  apply Int32.toBitVec_inj.mp
  rw [ush1_b, Int32.toBitVec_xor, Int32.toBitVec_xor, ush1_b, ush1_b, BitVec.ushiftRight_xor_distrib]
theorem ush1_n {n : Nat} (h : n < 2 ^ 31) : ush1 (nI n) = nI (n / 2) := us_n (k := 1) h (by decide)
theorem xor_c (a b : Int32) : a ^^^ b ^^^ b = a := by
  apply Int32.toBitVec_inj.mp
  rw [Int32.toBitVec_xor, Int32.toBitVec_xor, BitVec.xor_assoc, BitVec.xor_self, BitVec.xor_zero]
theorem xor_r (a b c : Int32) : a ^^^ b ^^^ c = a ^^^ c ^^^ b := by
  apply Int32.toBitVec_inj.mp
  simp only [Int32.toBitVec_xor]
  rw [BitVec.xor_assoc, BitVec.xor_assoc, BitVec.xor_comm b.toBitVec]
theorem xor_0 (a : Int32) : a ^^^ nI 0 = a := by
  apply Int32.toBitVec_inj.mp
  rw [Int32.toBitVec_xor]
  exact BitVec.xor_zero
theorem and1 (a : Int32) : a &&& 1 = 0 ∨ a &&& 1 = 1 := by
  obtain ⟨j, hj, e⟩ := pk_andE a (m := 1) 1 (by decide)
  rw [e]
  rcases (show j = 0 ∨ j = 1 by omega) with rfl | rfl
  · exact Or.inl rfl
  · exact Or.inr rfl
/-- the reference's state within a byte -/
def crr (S : Int32) (b j : Nat) : Int32 := crc8 j (S ^^^ nI b) ^^^ nI (b / 2 ^ j)
theorem crr_0 (S : Int32) (b : Nat) : crr S b 0 = S := by
  unfold crr
  rw [Nat.pow_zero, Nat.div_one]
  exact xor_c S _
theorem crr_8 (S : Int32) {b : Nat} (hb : b < 256) : crr S b 8 = crc8 8 (S ^^^ nI b) := by
  unfold crr
  rw [Nat.div_eq_of_lt hb]
  exact xor_0 _
theorem crr_x (S : Int32) (b j : Nat) : crr S b j ^^^ nI (b / 2 ^ j) = crc8 j (S ^^^ nI b) := xor_c _ _
theorem crr_u (S : Int32) {b j : Nat} (hb : b < 256) : ush1 (crr S b j) = ush1 (crc8 j (S ^^^ nI b)) ^^^ nI (b / 2 ^ (j + 1)) := by
  unfold crr
  rw [ush1_xor, ush1_n (Nat.lt_of_le_of_lt (Nat.div_le_self _ _) (by omega)), Nat.div_div_eq_div_mul, Nat.pow_succ]
theorem crr_s0 (S : Int32) {b j : Nat} (hb : b < 256) (h : crc8 j (S ^^^ nI b) &&& 1 = 0) : ush1 (crr S b j) = crr S b (j + 1) := by
  rw [crr_u S hb]
  show _ = crc1 (crc8 j (S ^^^ nI b)) ^^^ _
  rw [crc1_0 h]
theorem crr_s1 (S : Int32) {b j : Nat} (hb : b < 256) (h : ¬ crc8 j (S ^^^ nI b) &&& 1 = 0) : ush1 (crr S b j) ^^^ (-306674912) = crr S b (j + 1) := by
  rw [crr_u S hb]
  show _ = crc1 (crc8 j (S ^^^ nI b)) ^^^ _
  rw [crc1_1 h, xor_r]
theorem gr_or {B : Nat → Nat} {p g : Nat} (hg : g ≤ 9) (h : g < 9 ∨ B (p + g) ≤ 1) : lN (gs B p g) ||| lN (B (p + g) % 128 * 2 ^ (7 * g)) = lN (gs B p (g + 1)) := by
  have hx1 := gs_lt B p g
  refine g_or' (k := 7 * g) rfl hx1 ?_
  show gs B p (g + 1) < 2 ^ 64
  exact gs_64 (w := g + 1) (by omega) (fun q => by
    rcases h with h | h
    · omega
    · rw [show 9 = g by omega]; exact h)
set_option maxHeartbeats 600000 in
set_option maxRecDepth 100000 in
/-- addGroups -/
theorem c_M_addGroups (l : Launch) (D : va_G) (cL cI : ClassId) (h cl sa pa M : Nat) (th tk : Int32) (σ : dkS) (sz : Nat) (k : Nat) (hk : k < 4) (B : Nat → Nat) (n p : Nat) (hB : ∀ j, B j < 256) (u : Nat) (hu : u < 2 ^ 64) (hn : n + sw u ≤ 65536) : Met l y_M_addGroups w_M_addGroups ({ frames := 2, cells := 0, slots := 0, locals := 47 }) (va_Pc [.ref h, .int (nI k), .long (lN u)] (oxw sz D [(cL, .long), (cI, .int)] [(h, .inr (2, [.int th, .int (nI M), .ref cl, .ref sa, .ref pa, .int tk])), (cl, .inl (cL, 32768, .inr (.inl (pkF (va_up σ k (B, n, p)))))), (sa, .inl (cI, 4, .inl (fun i9 => nI ((va_up σ k (B, n, p)) i9).2.1))), (pa, .inl (cI, 4, .inl (fun i9 => nI ((va_up σ k (B, n, p)) i9).2.2)))])) (va_Qv (fun uu : Unit => True) (fun uu => ow D [(cL, .long), (cI, .int)] (va_A [(h, .inr (2, [.int th, .int (nI M), .ref cl, .ref sa, .ref pa, .int tk])), (cl, .inl (cL, 32768, .inr (.inl (pkF (va_up σ k (B, n, p)))))), (sa, .inl (cI, 4, .inl (fun i9 => nI ((va_up σ k (B, n, p)) i9).2.1))), (pa, .inl (cI, 4, .inl (fun i9 => nI ((va_up σ k (B, n, p)) i9).2.2)))] sz) (rfW cL cI h cl sa pa M th tk (va_up σ k (wr B n (sw u) (sv u), n + sw u, p)))) (va_A [(h, .inr (2, [.int th, .int (nI M), .ref cl, .ref sa, .ref pa, .int tk])), (cl, .inl (cL, 32768, .inr (.inl (pkF (va_up σ k (B, n, p)))))), (sa, .inl (cI, 4, .inl (fun i9 => nI ((va_up σ k (B, n, p)) i9).2.1))), (pa, .inl (cI, 4, .inl (fun i9 => nI ((va_up σ k (B, n, p)) i9).2.2)))] sz)) 0 0 (va_A [(h, .inr (2, [.int th, .int (nI M), .ref cl, .ref sa, .ref pa, .int tk])), (cl, .inl (cL, 32768, .inr (.inl (pkF (va_up σ k (B, n, p)))))), (sa, .inl (cI, 4, .inl (fun i9 => nI ((va_up σ k (B, n, p)) i9).2.1))), (pa, .inl (cI, 4, .inl (fun i9 => nI ((va_up σ k (B, n, p)) i9).2.2)))] sz) := by
  refine Met.ofW (cc := b_M_addGroups) (maxL := 7) (ret := none) (by decide) rfl ?_
  intro p9 e9 s m args below meth c9 s₁ BL hml hv
  obtain ⟨rfl, hsz, hP, hK, hD0⟩ := hv
  have hx := BL.exec
  have hb := BL.bytes
  have hr := BL.returns
  have hts := atoms_spec (ws := w_M_addGroups) BL.pre
  have hA : ∀ w ∈ wsA, w.before _ s = true := fun w h => hts w (List.mem_cons_of_mem _ h)
  have hown : s.vm.findClass R_M = some m.cls := findClass_of_methodNamed BL.named
  have hlocks := BL.notSynchronized
  subst hsz
  have hD := hD0.self (sz := s.heap.size)
  generalize hAe : va_A [(h, .inr (2, [.int th, .int (nI M), .ref cl, .ref sa, .ref pa, .int tk])), (cl, .inl (cL, 32768, .inr (.inl (pkF (va_up σ k (B, n, p)))))), (sa, .inl (cI, 4, .inl (fun i9 => nI ((va_up σ k (B, n, p)) i9).2.1))), (pa, .inl (cI, 4, .inl (fun i9 => nI ((va_up σ k (B, n, p)) i9).2.2)))] s.heap.size = A at hD ⊢
  have hAq : ∀ q : Nat, s.heap.size ≤ q → A q := fun q h => by rw [← hAe]; exact Or.inr h
  have hS : va_S A s.heap s.heap [] := va_S.rf
  have hP : va_P D vCl [(h, .inr (2, [.int th, .int (nI M), .ref cl, .ref sa, .ref pa, .int tk])), (cl, .inl (cL, 32768, .inr (.inl (pkF (va_up σ k (B, n, p)))))), (sa, .inl (cI, 4, .inl (fun i9 => nI ((va_up σ k (B, n, p)) i9).2.1))), (pa, .inl (cI, 4, .inl (fun i9 => nI ((va_up σ k (B, n, p)) i9).2.2)))] s.heap := hP
  have hl := lv_entry ([.ref h, .int (nI k), .long (lN u)]) (n := 7) (Nat.le_of_ble_eq_true rfl)
  rw [lg_entry_eq]
  generalize (lg_sl ([.ref h, .int (nI k), .long (lN u)]) ++ List.replicate (7 - (lg_sl ([.ref h, .int (nI k), .long (lN u)])).length) Slot.unset).toArray = ls at hl ⊢
  have hl : lv_has ls 7 [(0, .ref h), (1, .int (nI k)), (2, .long (lN u))] := hl
  refine lv_lload_n hx hb d_M_addGroups_0 rfl (lv_at hl 2 rfl) ?_
  refine vp_callSi (W.runS (As := [.long (lN u)]) (rest := []) ⟨hx, hb, hml, hown, hA⟩ (c_M_groups l u hu) (q_M_groups hA k3_30 rfl rfl ⟨(Nat.le_of_ble_eq_true rfl), (Nat.le_of_ble_eq_true rfl)⟩) (⟨fun a U g mk q => q, fun U hU hW => ⟨rfl, trivial⟩⟩) rfl rfl hl.1 rfl (lv_room (Nat.le_of_ble_eq_true rfl)) d_M_addGroups_1 ⟨(Nat.le_of_ble_eq_true rfl), (Nat.le_of_ble_eq_true rfl)⟩) (fun r1 hr1 => ?_)
  have er1 : r1 = nI (sw u) := hr1
  subst er1
  have hsw := sw_in u
  refine lv_istore (lv' := [(4, .int (nI (sw u))), (0, .ref h), (1, .int (nI k)), (2, .long (lN u))]) hx hb d_M_addGroups_4 hl (by decide) rfl (fun ls hl => ?_)
  refine lv_iconst (v := 0) hx hb d_M_addGroups_6 (by decide) ?_
  refine lv_topi (fun v6 ev6 => ?_)
  have ev6 : v6 = nI 0 := by rw [ev6]; rfl
  subst ev6
  refine lv_istore (lv' := [(5, .int (nI 0)), (4, .int (nI (sw u))), (0, .ref h), (1, .int (nI k)), (2, .long (lN u))]) hx hb d_M_addGroups_7 hl (by decide) rfl (fun ls hl => ?_)
  rw [show va_up σ k (B, n, p) = va_up σ k (wr B n 0 (sv u), n + 0, p) from by rw [wr_0, Nat.add_zero]] at hP hD
  have loop : ∀ (q g : Nat), g + q = sw u + 1 → g ≤ sw u → ∀ (H : Heap) (locs : List Loc), va_P D vCl [(h, .inr (2, [.int th, .int (nI M), .ref cl, .ref sa, .ref pa, .int tk])), (cl, .inl (cL, 32768, .inr (.inl (pkF (va_up σ k (wr B n g (sv u), n + g, p)))))), (sa, .inl (cI, 4, .inl (fun i9 => nI ((va_up σ k (wr B n g (sv u), n + g, p)) i9).2.1))), (pa, .inl (cI, 4, .inl (fun i9 => nI ((va_up σ k (wr B n g (sv u), n + g, p)) i9).2.2)))] H → va_D A [(h, .inr (2, [.int th, .int (nI M), .ref cl, .ref sa, .ref pa, .int tk])), (cl, .inl (cL, 32768, .inr (.inl (pkF (va_up σ k (wr B n g (sv u), n + g, p)))))), (sa, .inl (cI, 4, .inl (fun i9 => nI ((va_up σ k (wr B n g (sv u), n + g, p)) i9).2.1))), (pa, .inl (cI, 4, .inl (fun i9 => nI ((va_up σ k (wr B n g (sv u), n + g, p)) i9).2.2)))] → va_S A s.heap H locs → ∀ (ls : Array Slot), lv_has ls 7 [(5, .int (nI g)), (4, .int (nI (sw u))), (0, .ref h), (1, .int (nI k)), (2, .long (lN u))] → W p9 l e9 (headSpec w_M_addGroups ({ frames := 2, cells := 0, slots := 0, locals := 47 })).room s m [.ref h, .int (nI k), .long (lN u)].toArray below meth c9 H locs 0 0 (MQ below (va_Qv (fun uu : Unit => True) (fun uu => ow D [(cL, .long), (cI, .int)] A (rfW cL cI h cl sa pa M th tk (va_up σ k (wr B n (sw u) (sv u), n + sw u, p)))) A) [.ref h, .int (nI k), .long (lN u)].toArray s 0 0 A) (F0 m 9 ls []) := by
    intro q
    induction q with
    | zero =>
      intro g hq hg H locs hP hD hS ls hl
      exact absurd hq (by omega)
    | succ q ih_loop =>
      intro g hq hg H locs hP hD hS ls hl
      refine lv_iload hx hb d_M_addGroups_9 (lv_at hl 0 rfl) ?_
      refine lv_iload hx hb d_M_addGroups_11 (lv_at hl 1 rfl) ?_
      refine lv_icmp_ge (tgt := 61) hx hb d_M_addGroups_13 (by decide) (fun c13 => ?_) (fun c13 => ?_)
      · obtain rfl : g = sw u := by have := (nI_leI (a := sw u) (b := g) (by omega) (by omega)).mp c13; omega
        exact W.vret hx hb hr (fun t ht hW => ⟨⟨(), rfl, (trivial), by rw [ht]; exact hP, va_K.moved hW.alike hK, hD⟩, hS.F ht⟩) hS.2.2 d_M_addGroups_61
      · have hg2 : g < sw u := by have := mt (nI_leI (a := sw u) (b := g) (by omega) (by omega)).mpr c13; omega
        refine lv_lload_n hx hb d_M_addGroups_16 rfl (lv_at hl 4 rfl) ?_
        refine lv_bipush (v := 7) hx hb d_M_addGroups_17 (by decide) ?_
        refine lv_iload hx hb d_M_addGroups_19 (lv_at hl 0 rfl) ?_
        refine lv_imul hx hb d_M_addGroups_21 ?_
        refine lv_topi (fun v21 ev21 => ?_)
        have ev21 : v21 = nI (7 * g) := by rw [ev21]; exact sw_7 g
        subst ev21
        refine lv_lushr hx hb d_M_addGroups_22 rfl ?_
        refine lv_topl (fun v22 ev22 => ?_)
        have ev22 : v22 = lN (u / 2 ^ (7 * g)) := by rw [ev22]; exact wb_shr hu (by omega)
        subst ev22
        refine lv_ldc2 (v := 127) hx hb hown (hA _ k3_37) d_M_addGroups_23 ?_
        refine lv_land hx hb d_M_addGroups_26 ?_
        refine lv_topl (fun v26 ev26 => ?_)
        have ev26 : v26 = lN (u / 2 ^ (7 * g) % 128) := by rw [ev26]; exact wb_mask (k := 7) (Nat.lt_of_le_of_lt (Nat.div_le_self _ _) hu) (by decide)
        subst ev26
        refine lv_l2i hx hb d_M_addGroups_27 rfl ?_
        refine lv_topi (fun v27 ev27 => ?_)
        have ev27 : v27 = nI (u / 2 ^ (7 * g) % 128) := by rw [ev27]; exact lN_i _
        subst ev27
        refine lv_istore (lv' := [(6, .int (nI (u / 2 ^ (7 * g) % 128))), (5, .int (nI g)), (4, .int (nI (sw u))), (0, .ref h), (1, .int (nI k)), (2, .long (lN u))]) hx hb d_M_addGroups_28 hl (by decide) rfl (fun ls hl => ?_)
        refine lv_aload_n hx hb d_M_addGroups_30 rfl (lv_at hl 3 rfl) ?_
        refine lv_iload_n hx hb d_M_addGroups_31 rfl (lv_at hl 4 rfl) ?_
        refine lv_iload hx hb d_M_addGroups_32 (lv_at hl 1 rfl) ?_
        refine lv_iload hx hb d_M_addGroups_34 (lv_at hl 2 rfl) ?_
        refine lv_iconst (v := 1) hx hb d_M_addGroups_36 (by decide) ?_
        refine lv_isub hx hb d_M_addGroups_37 ?_
        refine lv_topi (fun v37 ev37 => ?_)
        have ev37 : v37 = nI (sw u - 1) := by rw [ev37]; exact pk_sub (b := 1) (by omega)
        subst ev37
        refine lv_icmp_ge (tgt := 50) hx hb d_M_addGroups_38 (by decide) (fun c38 => ?_) (fun c38 => ?_)
        · refine lv_iload hx hb d_M_addGroups_50 (lv_at hl 0 rfl) ?_
          refine lv_topi (fun v50 ev50 => ?_)
          have ev50 : v50 = nI (sv u g) := by rw [ev50]; unfold sv; rw [if_neg (by have := (nI_leI (a := sw u - 1) (b := g) (by omega) (by omega)).mp c38; omega), Nat.zero_add]
          subst ev50
          have hPc := hP
          have hFc := va_free (wc := [(h, .inr (2, [.int th, .int (nI M), .ref cl, .ref sa, .ref pa, .int tk])), (cl, .inl (cL, 32768, .inr (.inl (pkF (va_up σ k (wr B n g (sv u), n + g, p)))))), (sa, .inl (cI, 4, .inl (fun i9 => nI ((va_up σ k (wr B n g (sv u), n + g, p)) i9).2.1))), (pa, .inl (cI, 4, .inl (fun i9 => nI ((va_up σ k (wr B n g (sv u), n + g, p)) i9).2.2)))]) hD hS hAq [0, 1, 2, 3] rfl
          have hKc := hK.sub (tys' := [(cL, .long), (cI, .int)]) [0, 1] rfl
          refine va_callv (va_runV (As := [.int (nI k), .int (nI (sv u g))]) (rest := []) ⟨hx, hb, hml, hown, hA⟩ (c_M_add l D cL cI h cl sa pa M th tk σ H.size k hk (wr B n g (sv u)) (n + g) p (wr_lt hB (fun i9 _ => sv_lt u i9)) (sv u g) (by omega) (sv_lt u g)) (q_M_add hA k3_13 rfl rfl ⟨(Nat.le_of_ble_eq_true rfl), (Nat.le_of_ble_eq_true rfl)⟩) (ox_V (va_recv hKc hPc (ci := 2) (q0 := 0) rfl rfl) (oxw_S hPc hKc hD)) rfl rfl hl.1 rfl (lv_room (Nat.le_of_ble_eq_true rfl)) d_M_addGroups_52 ⟨(Nat.le_of_ble_eq_true rfl), (Nat.le_of_ble_eq_true rfl)⟩) hS (fun q _ h => hFc q h) hFc (fun u9 t9 H1 locs ht9 hvm9 hw9 hB9 hz1 hk1 hS => ?_)
          obtain ⟨hP, hK1, hD1⟩ := hB9
          rw [ht9] at hP
          obtain ⟨hP, hD⟩ := va_join (wr := []) (w1 := rfW cL cI h cl sa pa M th tk (va_up σ k (va_up (wr B n g (sv u)) (n + g) (sv u g), n + g + 1, p))) hPc hD [0, 1, 2, 3] [] rfl rfl (by decide) (by decide) hk1 hFc hP hD1
          generalize H1 = H at hP hS ⊢
          have hP : va_P D vCl [(h, .inr (2, [.int th, .int (nI M), .ref cl, .ref sa, .ref pa, .int tk])), (cl, .inl (cL, 32768, .inr (.inl (pkF (va_up σ k (va_up (wr B n g (sv u)) (n + g) (sv u g), n + g + 1, p)))))), (sa, .inl (cI, 4, .inl (fun i9 => nI ((va_up σ k (va_up (wr B n g (sv u)) (n + g) (sv u g), n + g + 1, p)) i9).2.1))), (pa, .inl (cI, 4, .inl (fun i9 => nI ((va_up σ k (va_up (wr B n g (sv u)) (n + g) (sv u g), n + g + 1, p)) i9).2.2)))] H := hP
          have hD : va_D A [(h, .inr (2, [.int th, .int (nI M), .ref cl, .ref sa, .ref pa, .int tk])), (cl, .inl (cL, 32768, .inr (.inl (pkF (va_up σ k (va_up (wr B n g (sv u)) (n + g) (sv u g), n + g + 1, p)))))), (sa, .inl (cI, 4, .inl (fun i9 => nI ((va_up σ k (va_up (wr B n g (sv u)) (n + g) (sv u g), n + g + 1, p)) i9).2.1))), (pa, .inl (cI, 4, .inl (fun i9 => nI ((va_up σ k (va_up (wr B n g (sv u)) (n + g) (sv u g), n + g + 1, p)) i9).2.2)))] := hD
          rw [wr_s, Nat.add_assoc n g 1] at hP hD
          have hP : va_P D vCl [(h, .inr (2, [.int th, .int (nI M), .ref cl, .ref sa, .ref pa, .int tk])), (cl, .inl (cL, 32768, .inr (.inl (pkF (va_up σ k (wr B n (g + 1) (sv u), n + (g + 1), p)))))), (sa, .inl (cI, 4, .inl (fun i9 => nI ((va_up σ k (wr B n (g + 1) (sv u), n + (g + 1), p)) i9).2.1))), (pa, .inl (cI, 4, .inl (fun i9 => nI ((va_up σ k (wr B n (g + 1) (sv u), n + (g + 1), p)) i9).2.2)))] H := hP
          have hD : va_D A [(h, .inr (2, [.int th, .int (nI M), .ref cl, .ref sa, .ref pa, .int tk])), (cl, .inl (cL, 32768, .inr (.inl (pkF (va_up σ k (wr B n (g + 1) (sv u), n + (g + 1), p)))))), (sa, .inl (cI, 4, .inl (fun i9 => nI ((va_up σ k (wr B n (g + 1) (sv u), n + (g + 1), p)) i9).2.1))), (pa, .inl (cI, 4, .inl (fun i9 => nI ((va_up σ k (wr B n (g + 1) (sv u), n + (g + 1), p)) i9).2.2)))] := hD
          obtain ⟨v55, ev55⟩ : ∃ y : Int32, y = nI g + 1 := ⟨_, rfl⟩
          refine lv_iinc (v := v55) (lv' := [(5, .int v55), (6, .int (nI (u / 2 ^ (7 * g) % 128))), (4, .int (nI (sw u))), (0, .ref h), (1, .int (nI k)), (2, .long (lN u))]) hx hb d_M_addGroups_55 hl (k := 1) rfl (by rw [ev55]; rfl) (by decide) rfl (fun ls hl => ?_)
          have ev55 : v55 = nI (g + 1) := by rw [ev55]; exact nI_1 g
          subst ev55
          refine lv_goto (tgt := 9) hx hb d_M_addGroups_58 (by decide) ?_
          exact ih_loop (g + 1) (by omega) (by omega) _ _ (hP.sub [0, 1, 2, 3] rfl) (hD.sub [0, 1, 2, 3] (by decide) rfl) hS ls (lv_sub hl [0, 2, 3, 4, 5] rfl)
        · refine lv_sipush (v := 128) hx hb d_M_addGroups_41 (by decide) ?_
          refine lv_iload hx hb d_M_addGroups_44 (lv_at hl 0 rfl) ?_
          refine lv_iadd hx hb d_M_addGroups_46 ?_
          refine lv_topi (fun v46 ev46 => ?_)
          have ev46 : v46 = nI (sv u g) := by rw [ev46]; unfold sv; rw [if_pos (by have := mt (nI_leI (a := sw u - 1) (b := g) (by omega) (by omega)).mpr c38; omega)]; exact nI_add 128 _
          subst ev46
          refine lv_goto (tgt := 52) hx hb d_M_addGroups_47 (by decide) ?_
          have hPc := hP
          have hFc := va_free (wc := [(h, .inr (2, [.int th, .int (nI M), .ref cl, .ref sa, .ref pa, .int tk])), (cl, .inl (cL, 32768, .inr (.inl (pkF (va_up σ k (wr B n g (sv u), n + g, p)))))), (sa, .inl (cI, 4, .inl (fun i9 => nI ((va_up σ k (wr B n g (sv u), n + g, p)) i9).2.1))), (pa, .inl (cI, 4, .inl (fun i9 => nI ((va_up σ k (wr B n g (sv u), n + g, p)) i9).2.2)))]) hD hS hAq [0, 1, 2, 3] rfl
          have hKc := hK.sub (tys' := [(cL, .long), (cI, .int)]) [0, 1] rfl
          refine va_callv (va_runV (As := [.int (nI k), .int (nI (sv u g))]) (rest := []) ⟨hx, hb, hml, hown, hA⟩ (c_M_add l D cL cI h cl sa pa M th tk σ H.size k hk (wr B n g (sv u)) (n + g) p (wr_lt hB (fun i9 _ => sv_lt u i9)) (sv u g) (by omega) (sv_lt u g)) (q_M_add hA k3_13 rfl rfl ⟨(Nat.le_of_ble_eq_true rfl), (Nat.le_of_ble_eq_true rfl)⟩) (ox_V (va_recv hKc hPc (ci := 2) (q0 := 0) rfl rfl) (oxw_S hPc hKc hD)) rfl rfl hl.1 rfl (lv_room (Nat.le_of_ble_eq_true rfl)) d_M_addGroups_52 ⟨(Nat.le_of_ble_eq_true rfl), (Nat.le_of_ble_eq_true rfl)⟩) hS (fun q _ h => hFc q h) hFc (fun u9 t9 H1 locs ht9 hvm9 hw9 hB9 hz1 hk1 hS => ?_)
          obtain ⟨hP, hK1, hD1⟩ := hB9
          rw [ht9] at hP
          obtain ⟨hP, hD⟩ := va_join (wr := []) (w1 := rfW cL cI h cl sa pa M th tk (va_up σ k (va_up (wr B n g (sv u)) (n + g) (sv u g), n + g + 1, p))) hPc hD [0, 1, 2, 3] [] rfl rfl (by decide) (by decide) hk1 hFc hP hD1
          generalize H1 = H at hP hS ⊢
          have hP : va_P D vCl [(h, .inr (2, [.int th, .int (nI M), .ref cl, .ref sa, .ref pa, .int tk])), (cl, .inl (cL, 32768, .inr (.inl (pkF (va_up σ k (va_up (wr B n g (sv u)) (n + g) (sv u g), n + g + 1, p)))))), (sa, .inl (cI, 4, .inl (fun i9 => nI ((va_up σ k (va_up (wr B n g (sv u)) (n + g) (sv u g), n + g + 1, p)) i9).2.1))), (pa, .inl (cI, 4, .inl (fun i9 => nI ((va_up σ k (va_up (wr B n g (sv u)) (n + g) (sv u g), n + g + 1, p)) i9).2.2)))] H := hP
          have hD : va_D A [(h, .inr (2, [.int th, .int (nI M), .ref cl, .ref sa, .ref pa, .int tk])), (cl, .inl (cL, 32768, .inr (.inl (pkF (va_up σ k (va_up (wr B n g (sv u)) (n + g) (sv u g), n + g + 1, p)))))), (sa, .inl (cI, 4, .inl (fun i9 => nI ((va_up σ k (va_up (wr B n g (sv u)) (n + g) (sv u g), n + g + 1, p)) i9).2.1))), (pa, .inl (cI, 4, .inl (fun i9 => nI ((va_up σ k (va_up (wr B n g (sv u)) (n + g) (sv u g), n + g + 1, p)) i9).2.2)))] := hD
          rw [wr_s, Nat.add_assoc n g 1] at hP hD
          have hP : va_P D vCl [(h, .inr (2, [.int th, .int (nI M), .ref cl, .ref sa, .ref pa, .int tk])), (cl, .inl (cL, 32768, .inr (.inl (pkF (va_up σ k (wr B n (g + 1) (sv u), n + (g + 1), p)))))), (sa, .inl (cI, 4, .inl (fun i9 => nI ((va_up σ k (wr B n (g + 1) (sv u), n + (g + 1), p)) i9).2.1))), (pa, .inl (cI, 4, .inl (fun i9 => nI ((va_up σ k (wr B n (g + 1) (sv u), n + (g + 1), p)) i9).2.2)))] H := hP
          have hD : va_D A [(h, .inr (2, [.int th, .int (nI M), .ref cl, .ref sa, .ref pa, .int tk])), (cl, .inl (cL, 32768, .inr (.inl (pkF (va_up σ k (wr B n (g + 1) (sv u), n + (g + 1), p)))))), (sa, .inl (cI, 4, .inl (fun i9 => nI ((va_up σ k (wr B n (g + 1) (sv u), n + (g + 1), p)) i9).2.1))), (pa, .inl (cI, 4, .inl (fun i9 => nI ((va_up σ k (wr B n (g + 1) (sv u), n + (g + 1), p)) i9).2.2)))] := hD
          obtain ⟨v55, ev55⟩ : ∃ y : Int32, y = nI g + 1 := ⟨_, rfl⟩
          refine lv_iinc (v := v55) (lv' := [(5, .int v55), (6, .int (nI (u / 2 ^ (7 * g) % 128))), (4, .int (nI (sw u))), (0, .ref h), (1, .int (nI k)), (2, .long (lN u))]) hx hb d_M_addGroups_55 hl (k := 1) rfl (by rw [ev55]; rfl) (by decide) rfl (fun ls hl => ?_)
          have ev55 : v55 = nI (g + 1) := by rw [ev55]; exact nI_1 g
          subst ev55
          refine lv_goto (tgt := 9) hx hb d_M_addGroups_58 (by decide) ?_
          exact ih_loop (g + 1) (by omega) (by omega) _ _ (hP.sub [0, 1, 2, 3] rfl) (hD.sub [0, 1, 2, 3] (by decide) rfl) hS ls (lv_sub hl [0, 2, 3, 4, 5] rfl)
  exact loop (sw u + 1) 0 (by omega) (by omega) _ _ (hP.sub [0, 1, 2, 3] rfl) (hD.sub [0, 1, 2, 3] (by decide) rfl) hS ls (lv_sub hl [0, 1, 2, 3, 4] rfl)
set_option maxHeartbeats 600000 in
set_option maxRecDepth 100000 in
/-- sumOf -/
theorem c_M_sumOf (l : Launch) (D : va_G) (cL cI : ClassId) (h cl sa pa M : Nat) (th tk : Int32) (σ : dkS) (k : Nat) (hk : k < 4) (hB : ∀ j, (σ k).1 j < 256) (a m2 : Nat) (ha : a + m2 ≤ 65536) : Met l y_M_sumOf w_M_sumOf ({ frames := 1, cells := 0, slots := 0, locals := 22 }) (va_Pc [.ref h, .int (nI k), .int (nI a), .int (nI m2)] (ox D [(cL, .long), (cI, .int)] [(h, .inr (2, [.int th, .int (nI M), .ref cl, .ref sa, .ref pa, .int tk])), (cl, .inl (cL, 32768, .inr (.inl (pkF (σ))))), (sa, .inl (cI, 4, .inl (fun i9 => nI ((σ) i9).2.1))), (pa, .inl (cI, 4, .inl (fun i9 => nI ((σ) i9).2.2)))])) (vp_Si (fun r => r = smb (σ k).1 a m2)) 0 0 (fun _ => False) := by
  refine Met.ofW (cc := b_M_sumOf) (maxL := 9) (ret := (some .int)) (by decide) rfl ?_
  intro p9 e9 s m args below meth c9 s₁ BL hml hv
  obtain ⟨rfl, hP, hK⟩ := hv
  have hx := BL.exec
  have hb := BL.bytes
  have hr := BL.returns
  have hts := atoms_spec (ws := w_M_sumOf) BL.pre
  have hA : ∀ w ∈ wsA, w.before _ s = true := fun w h => hts w (List.mem_cons_of_mem _ h)
  have hown : s.vm.findClass R_M = some m.cls := findClass_of_methodNamed BL.named
  have hlocks := BL.notSynchronized
  have hP : va_P D vCl [(h, .inr (2, [.int th, .int (nI M), .ref cl, .ref sa, .ref pa, .int tk])), (cl, .inl (cL, 32768, .inr (.inl (pkF (σ))))), (sa, .inl (cI, 4, .inl (fun i9 => nI ((σ) i9).2.1))), (pa, .inl (cI, 4, .inl (fun i9 => nI ((σ) i9).2.2)))] s.heap := hP
  have hl := lv_entry ([.ref h, .int (nI k), .int (nI a), .int (nI m2)]) (n := 9) (Nat.le_of_ble_eq_true rfl)
  rw [lg_entry_eq]
  generalize (lg_sl ([.ref h, .int (nI k), .int (nI a), .int (nI m2)]) ++ List.replicate (9 - (lg_sl ([.ref h, .int (nI k), .int (nI a), .int (nI m2)])).length) Slot.unset).toArray = ls at hl ⊢
  have hl : lv_has ls 9 [(0, .ref h), (1, .int (nI k)), (2, .int (nI a)), (3, .int (nI m2))] := hl
  refine lv_iconst (v := (-1)) hx hb d_M_sumOf_0 (by decide) ?_
  refine lv_istore (lv' := [(4, .int (-1)), (0, .ref h), (1, .int (nI k)), (2, .int (nI a)), (3, .int (nI m2))]) hx hb d_M_sumOf_1 hl (by decide) rfl (fun ls hl => ?_)
  refine lv_iload_n hx hb d_M_sumOf_3 rfl (lv_at hl 3 rfl) ?_
  refine lv_istore (lv' := [(5, .int (nI a)), (4, .int (-1)), (0, .ref h), (1, .int (nI k)), (2, .int (nI a)), (3, .int (nI m2))]) hx hb d_M_sumOf_4 hl (by decide) rfl (fun ls hl => ?_)
  have loop : ∀ (q t : Nat), t + q = m2 + 1 → t ≤ m2 → ∀ (ls : Array Slot), lv_has ls 9 [(5, .int (nI (a + t))), (4, .int (crcs (σ k).1 a t)), (0, .ref h), (1, .int (nI k)), (2, .int (nI a)), (3, .int (nI m2))] → W p9 l e9 (headSpec w_M_sumOf ({ frames := 1, cells := 0, slots := 0, locals := 22 })).room s m [.ref h, .int (nI k), .int (nI a), .int (nI m2)].toArray below meth c9 s.heap [] 0 0 (MQ below (vp_Si (fun r => r = smb (σ k).1 a m2)) [.ref h, .int (nI k), .int (nI a), .int (nI m2)].toArray s 0 0 (fun _ => False)) (F0 m 6 ls []) := by
    intro q
    induction q with
    | zero =>
      intro t hq ht ls hl
      exact absurd hq (by omega)
    | succ q ih_loop =>
      intro t hq ht ls hl
      refine lv_iload hx hb d_M_sumOf_6 (lv_at hl 0 rfl) ?_
      refine lv_iload_n hx hb d_M_sumOf_8 rfl (lv_at hl 4 rfl) ?_
      refine lv_iload_n hx hb d_M_sumOf_9 rfl (lv_at hl 5 rfl) ?_
      refine lv_iadd hx hb d_M_sumOf_10 ?_
      refine lv_topi (fun v10 ev10 => ?_)
      have ev10 : v10 = nI (a + m2) := by rw [ev10]; exact nI_add _ _
      subst ev10
      refine lv_icmp_ge (tgt := 87) hx hb d_M_sumOf_11 (by decide) (fun c11 => ?_) (fun c11 => ?_)
      · obtain rfl : t = m2 := by have := (nI_leI (a := a + m2) (b := a + t) (by omega) (by omega)).mp c11; omega
        refine lv_iload hx hb d_M_sumOf_87 (lv_at hl 1 rfl) ?_
        refine lv_iconst (v := (-1)) hx hb d_M_sumOf_89 (by decide) ?_
        refine lv_ixor hx hb d_M_sumOf_90 ?_
        refine lv_topi (fun v90 ev90 => ?_)
        exact W.iret (v := v90) hx hb hr (fun t ht hW => ⟨_, rfl, (ev90), ht⟩) (fun q h => by cases h) d_M_sumOf_91
      · have ht2 : t < m2 := by have := mt (nI_leI (a := a + m2) (b := a + t) (by omega) (by omega)).mpr c11; omega
        have hb8 := hB (a + t)
        refine lv_aload_n hx hb d_M_sumOf_14 rfl (lv_at hl 2 rfl) ?_
        refine lv_iload_n hx hb d_M_sumOf_15 rfl (lv_at hl 3 rfl) ?_
        refine lv_iload hx hb d_M_sumOf_16 (lv_at hl 0 rfl) ?_
        have hPc := hP.sub (ws' := [(h, .inr (2, [.int th, .int (nI M), .ref cl, .ref sa, .ref pa, .int tk])), (cl, .inl (cL, 32768, .inr (.inl (pkF (σ))))), (sa, .inl (cI, 4, .inl (fun i9 => nI ((σ) i9).2.1))), (pa, .inl (cI, 4, .inl (fun i9 => nI ((σ) i9).2.2)))]) [0, 1, 2, 3] rfl
        have hKc := hK.sub (tys' := [(cL, .long), (cI, .int)]) [0, 1] rfl
        refine vp_callSi (W.runV (As := [.int (nI k), .int (nI (a + t))]) (rest := []) ⟨hx, hb, hml, hown, hA⟩ (c_M_at l D cL cI h cl sa pa M th tk σ k (a + t) hk (by omega) hB) (q_M_at hA k3_66 rfl rfl ⟨(Nat.le_of_ble_eq_true rfl), (Nat.le_of_ble_eq_true rfl)⟩) (ox_V (va_recv hKc hPc (ci := 2) (q0 := 0) rfl rfl) (ox_S hPc hKc)) rfl rfl hl.1 rfl (lv_room (Nat.le_of_ble_eq_true rfl)) d_M_sumOf_18 ⟨(Nat.le_of_ble_eq_true rfl), (Nat.le_of_ble_eq_true rfl)⟩) (fun r18 hr18 => ?_)
        have er18 : r18 = nI ((σ k).1 (a + t)) := hr18
        subst er18
        refine lv_istore (lv' := [(6, .int (nI ((σ k).1 (a + t)))), (5, .int (nI (a + t))), (4, .int (crcs (σ k).1 a t)), (0, .ref h), (1, .int (nI k)), (2, .int (nI a)), (3, .int (nI m2))]) hx hb d_M_sumOf_21 hl (by decide) rfl (fun ls hl => ?_)
        refine lv_iconst (v := 0) hx hb d_M_sumOf_23 (by decide) ?_
        refine lv_topi (fun v23 ev23 => ?_)
        have ev23 : v23 = nI 0 := by rw [ev23]; rfl
        subst ev23
        refine lv_istore (lv' := [(7, .int (nI 0)), (6, .int (nI ((σ k).1 (a + t)))), (5, .int (nI (a + t))), (4, .int (crcs (σ k).1 a t)), (0, .ref h), (1, .int (nI k)), (2, .int (nI a)), (3, .int (nI m2))]) hx hb d_M_sumOf_24 hl (by decide) rfl (fun ls hl => ?_)
        have hl : lv_has ls 9 [(7, .int (nI 0)), (6, .int (nI ((σ k).1 (a + t)))), (5, .int (nI (a + t))), (4, .int (crr (crcs (σ k).1 a t) ((σ k).1 (a + t)) 0)), (0, .ref h), (1, .int (nI k)), (2, .int (nI a)), (3, .int (nI m2))] := by rw [crr_0]; exact hl
        have loop2 : ∀ (q2 j : Nat), j + q2 = 9 → j ≤ 8 → ∀ (ls : Array Slot), lv_has ls 9 [(7, .int (nI j)), (4, .int (crr (crcs (σ k).1 a t) ((σ k).1 (a + t)) j)), (6, .int (nI ((σ k).1 (a + t)))), (5, .int (nI (a + t))), (0, .ref h), (1, .int (nI k)), (2, .int (nI a)), (3, .int (nI m2))] → W p9 l e9 (headSpec w_M_sumOf ({ frames := 1, cells := 0, slots := 0, locals := 22 })).room s m [.ref h, .int (nI k), .int (nI a), .int (nI m2)].toArray below meth c9 s.heap [] 0 0 (MQ below (vp_Si (fun r => r = smb (σ k).1 a m2)) [.ref h, .int (nI k), .int (nI a), .int (nI m2)].toArray s 0 0 (fun _ => False)) (F0 m 26 ls []) := by
          intro q2
          induction q2 with
          | zero =>
            intro j hq2 hj ls hl
            exact absurd hq2 (by omega)
          | succ q2 ih_loop2 =>
            intro j hq2 hj ls hl
            refine lv_iload hx hb d_M_sumOf_26 (lv_at hl 0 rfl) ?_
            refine lv_bipush (v := 8) hx hb d_M_sumOf_28 (by decide) ?_
            refine lv_icmp_ge (tgt := 81) hx hb d_M_sumOf_30 (by decide) (fun c30 => ?_) (fun c30 => ?_)
            · obtain rfl : j = 8 := by have := (nI_leI (a := 8) (b := j) (by omega) (by omega)).mp c30; omega
              rw [show crr (crcs (σ k).1 a t) ((σ k).1 (a + t)) 8 = crcs (σ k).1 a (t + 1) from crr_8 _ hb8] at hl
              obtain ⟨v81, ev81⟩ : ∃ y : Int32, y = nI (a + t) + 1 := ⟨_, rfl⟩
              refine lv_iinc (v := v81) (lv' := [(5, .int v81), (7, .int (nI 8)), (4, .int (crcs (σ k).1 a (t + 1))), (6, .int (nI ((σ k).1 (a + t)))), (0, .ref h), (1, .int (nI k)), (2, .int (nI a)), (3, .int (nI m2))]) hx hb d_M_sumOf_81 hl (k := 3) rfl (by rw [ev81]; rfl) (by decide) rfl (fun ls hl => ?_)
              have ev81 : v81 = nI (a + (t + 1)) := by rw [ev81]; exact nI_1 _
              subst ev81
              refine lv_goto (tgt := 6) hx hb d_M_sumOf_84 (by decide) ?_
              exact ih_loop (t + 1) (by omega) (by omega) ls (lv_sub hl [0, 2, 4, 5, 6, 7] rfl)
            · have hj2 : j < 8 := by have := mt (nI_leI (a := 8) (b := j) (by omega) (by omega)).mpr c30; omega
              refine lv_iload hx hb d_M_sumOf_33 (lv_at hl 1 rfl) ?_
              refine lv_iload hx hb d_M_sumOf_35 (lv_at hl 2 rfl) ?_
              refine lv_iload hx hb d_M_sumOf_37 (lv_at hl 0 rfl) ?_
              refine lv_ishr hx hb d_M_sumOf_39 ?_
              refine lv_topi (fun v39 ev39 => ?_)
              have ev39 : v39 = nI (((σ k).1 (a + t)) / 2 ^ j) := by rw [ev39]; exact pk_shrN (by omega) _ j (s_l j (by omega))
              subst ev39
              refine lv_ixor hx hb d_M_sumOf_40 ?_
              refine lv_topi (fun v40 ev40 => ?_)
              have ev40 : v40 = crc8 j ((crcs (σ k).1 a t) ^^^ nI ((σ k).1 (a + t))) := by rw [ev40]; exact crr_x _ _ _
              subst ev40
              refine lv_iconst (v := 1) hx hb d_M_sumOf_41 (by decide) ?_
              refine lv_iand hx hb d_M_sumOf_42 ?_
              refine lv_topi (fun v42 ev42 => ?_)
              refine lv_iconst (v := 1) hx hb d_M_sumOf_43 (by decide) ?_
              refine lv_icmp_ne (tgt := 51) hx hb d_M_sumOf_44 (by decide) (fun c44 => ?_) (fun c44 => ?_)
              · refine lv_iconst (v := 0) hx hb d_M_sumOf_51 (by decide) ?_
                refine lv_istore (lv' := [(8, .int 0), (7, .int (nI j)), (4, .int (crr (crcs (σ k).1 a t) ((σ k).1 (a + t)) j)), (6, .int (nI ((σ k).1 (a + t)))), (5, .int (nI (a + t))), (0, .ref h), (1, .int (nI k)), (2, .int (nI a)), (3, .int (nI m2))]) hx hb d_M_sumOf_52 hl (by decide) rfl (fun ls hl => ?_)
                refine lv_iload hx hb d_M_sumOf_54 (lv_at hl 0 rfl) ?_
                refine lv_if_eq (tgt := 69) hx hb d_M_sumOf_56 (by decide) (fun _ => ?_) (fun q9 => absurd (by decide) q9)
                refine lv_iload hx hb d_M_sumOf_69 (lv_at hl 2 rfl) ?_
                refine lv_iconst (v := 1) hx hb d_M_sumOf_71 (by decide) ?_
                refine lv_iushr hx hb d_M_sumOf_72 rfl ?_
                refine lv_topi (fun v72 ev72 => ?_)
                have ev72 : v72 = crr (crcs (σ k).1 a t) ((σ k).1 (a + t)) (j + 1) := by rw [ev72]; exact crr_s0 _ hb8 ((and1 _).resolve_right (fun q9 => c44 (by rw [ev42]; exact q9)))
                subst ev72
                refine lv_istore (lv' := [(4, .int (crr (crcs (σ k).1 a t) ((σ k).1 (a + t)) (j + 1))), (8, .int 0), (7, .int (nI j)), (6, .int (nI ((σ k).1 (a + t)))), (5, .int (nI (a + t))), (0, .ref h), (1, .int (nI k)), (2, .int (nI a)), (3, .int (nI m2))]) hx hb d_M_sumOf_73 hl (by decide) rfl (fun ls hl => ?_)
                obtain ⟨v75, ev75⟩ : ∃ y : Int32, y = nI j + 1 := ⟨_, rfl⟩
                refine lv_iinc (v := v75) (lv' := [(7, .int v75), (4, .int (crr (crcs (σ k).1 a t) ((σ k).1 (a + t)) (j + 1))), (8, .int 0), (6, .int (nI ((σ k).1 (a + t)))), (5, .int (nI (a + t))), (0, .ref h), (1, .int (nI k)), (2, .int (nI a)), (3, .int (nI m2))]) hx hb d_M_sumOf_75 hl (k := 2) rfl (by rw [ev75]; rfl) (by decide) rfl (fun ls hl => ?_)
                have ev75 : v75 = nI (j + 1) := by rw [ev75]; exact nI_1 j
                subst ev75
                refine lv_goto (tgt := 26) hx hb d_M_sumOf_78 (by decide) ?_
                exact ih_loop2 (j + 1) (by omega) (by omega) ls (lv_sub hl [0, 1, 3, 4, 5, 6, 7, 8] rfl)
              · refine lv_iconst (v := 1) hx hb d_M_sumOf_47 (by decide) ?_
                refine lv_goto (tgt := 52) hx hb d_M_sumOf_48 (by decide) ?_
                refine lv_istore (lv' := [(8, .int 1), (7, .int (nI j)), (4, .int (crr (crcs (σ k).1 a t) ((σ k).1 (a + t)) j)), (6, .int (nI ((σ k).1 (a + t)))), (5, .int (nI (a + t))), (0, .ref h), (1, .int (nI k)), (2, .int (nI a)), (3, .int (nI m2))]) hx hb d_M_sumOf_52 hl (by decide) rfl (fun ls hl => ?_)
                refine lv_iload hx hb d_M_sumOf_54 (lv_at hl 0 rfl) ?_
                refine lv_if_eq (tgt := 69) hx hb d_M_sumOf_56 (by decide) (fun q9 => absurd q9 (by decide)) (fun _ => ?_)
                refine lv_iload hx hb d_M_sumOf_59 (lv_at hl 2 rfl) ?_
                refine lv_iconst (v := 1) hx hb d_M_sumOf_61 (by decide) ?_
                refine lv_iushr hx hb d_M_sumOf_62 rfl ?_
                refine lv_topi (fun v62 ev62 => ?_)
                refine lv_ldc (v := (-306674912)) hx hb hown (hA _ k3_82) d_M_sumOf_63 ?_
                refine lv_ixor hx hb d_M_sumOf_65 ?_
                refine lv_topi (fun v65 ev65 => ?_)
                have ev65 : v65 = crr (crcs (σ k).1 a t) ((σ k).1 (a + t)) (j + 1) := by rw [ev65, ev62]; exact crr_s1 _ hb8 (fun q9 => absurd (show (0 : Int32) = 1 by rw [← q9, ← ev42]; exact c44) (by decide))
                subst ev65
                refine lv_goto (tgt := 73) hx hb d_M_sumOf_66 (by decide) ?_
                refine lv_istore (lv' := [(4, .int (crr (crcs (σ k).1 a t) ((σ k).1 (a + t)) (j + 1))), (8, .int 1), (7, .int (nI j)), (6, .int (nI ((σ k).1 (a + t)))), (5, .int (nI (a + t))), (0, .ref h), (1, .int (nI k)), (2, .int (nI a)), (3, .int (nI m2))]) hx hb d_M_sumOf_73 hl (by decide) rfl (fun ls hl => ?_)
                obtain ⟨v75, ev75⟩ : ∃ y : Int32, y = nI j + 1 := ⟨_, rfl⟩
                refine lv_iinc (v := v75) (lv' := [(7, .int v75), (4, .int (crr (crcs (σ k).1 a t) ((σ k).1 (a + t)) (j + 1))), (8, .int 1), (6, .int (nI ((σ k).1 (a + t)))), (5, .int (nI (a + t))), (0, .ref h), (1, .int (nI k)), (2, .int (nI a)), (3, .int (nI m2))]) hx hb d_M_sumOf_75 hl (k := 2) rfl (by rw [ev75]; rfl) (by decide) rfl (fun ls hl => ?_)
                have ev75 : v75 = nI (j + 1) := by rw [ev75]; exact nI_1 j
                subst ev75
                refine lv_goto (tgt := 26) hx hb d_M_sumOf_78 (by decide) ?_
                exact ih_loop2 (j + 1) (by omega) (by omega) ls (lv_sub hl [0, 1, 3, 4, 5, 6, 7, 8] rfl)
        exact loop2 9 0 (by omega) (by omega) ls (lv_sub hl [0, 3, 1, 2, 4, 5, 6, 7] rfl)
  exact loop (m2 + 1) 0 (by omega) (by omega) ls (lv_sub hl [0, 1, 2, 3, 4, 5] rfl)
set_option maxHeartbeats 600000 in
set_option maxRecDepth 100000 in
/-- number -/
theorem c_M_number (l : Launch) (D : va_G) (cL cI : ClassId) (h cl sa pa M : Nat) (th tk : Int32) (σ : dkS) (k : Nat) (hk : k < 4) (hB : ∀ j, (σ k).1 j < 256) (a m2 : Nat) (ha : a + m2 ≤ 65536) (hm : m2 ≤ 8) : Met l y_M_number w_M_number ({ frames := 1, cells := 0, slots := 0, locals := 22 }) (va_Pc [.ref h, .int (nI k), .int (nI a), .int (nI m2)] (ox D [(cL, .long), (cI, .int)] [(h, .inr (2, [.int th, .int (nI M), .ref cl, .ref sa, .ref pa, .int tk])), (cl, .inl (cL, 32768, .inr (.inl (pkF (σ))))), (sa, .inl (cI, 4, .inl (fun i9 => nI ((σ) i9).2.1))), (pa, .inl (cI, 4, .inl (fun i9 => nI ((σ) i9).2.2)))])) (vp_Sl (fun r => r = lN (fx (σ k).1 a m2))) 0 0 (fun _ => False) := by
  refine Met.ofW (cc := b_M_number) (maxL := 7) (ret := (some .long)) (by decide) rfl ?_
  intro p9 e9 s m args below meth c9 s₁ BL hml hv
  obtain ⟨rfl, hP, hK⟩ := hv
  have hx := BL.exec
  have hb := BL.bytes
  have hr := BL.returns
  have hts := atoms_spec (ws := w_M_number) BL.pre
  have hA : ∀ w ∈ wsA, w.before _ s = true := fun w h => hts w (List.mem_cons_of_mem _ h)
  have hown : s.vm.findClass R_M = some m.cls := findClass_of_methodNamed BL.named
  have hlocks := BL.notSynchronized
  have hP : va_P D vCl [(h, .inr (2, [.int th, .int (nI M), .ref cl, .ref sa, .ref pa, .int tk])), (cl, .inl (cL, 32768, .inr (.inl (pkF (σ))))), (sa, .inl (cI, 4, .inl (fun i9 => nI ((σ) i9).2.1))), (pa, .inl (cI, 4, .inl (fun i9 => nI ((σ) i9).2.2)))] s.heap := hP
  have hl := lv_entry ([.ref h, .int (nI k), .int (nI a), .int (nI m2)]) (n := 7) (Nat.le_of_ble_eq_true rfl)
  rw [lg_entry_eq]
  generalize (lg_sl ([.ref h, .int (nI k), .int (nI a), .int (nI m2)]) ++ List.replicate (7 - (lg_sl ([.ref h, .int (nI k), .int (nI a), .int (nI m2)])).length) Slot.unset).toArray = ls at hl ⊢
  have hl : lv_has ls 7 [(0, .ref h), (1, .int (nI k)), (2, .int (nI a)), (3, .int (nI m2))] := hl
  refine lv_lconst (v := 0) hx hb d_M_number_0 (by decide) ?_
  refine lv_lstore (lv' := [(4, .long 0), (0, .ref h), (1, .int (nI k)), (2, .int (nI a)), (3, .int (nI m2))]) hx hb d_M_number_1 hl (by decide) rfl (fun ls hl => ?_)
  refine lv_iload_n hx hb d_M_number_3 rfl (lv_at hl 4 rfl) ?_
  refine lv_iconst (v := 1) hx hb d_M_number_4 (by decide) ?_
  refine lv_isub hx hb d_M_number_5 ?_
  refine lv_topi (fun v5 ev5 => ?_)
  subst ev5
  refine lv_istore (lv' := [(6, .int (nI m2 - 1)), (4, .long 0), (0, .ref h), (1, .int (nI k)), (2, .int (nI a)), (3, .int (nI m2))]) hx hb d_M_number_6 hl (by decide) rfl (fun ls hl => ?_)
  have hl : lv_has ls 7 [(6, .int (nI m2 - 1)), (4, .long (lN (fx (σ k).1 (a + m2) (m2 - m2)))), (0, .ref h), (1, .int (nI k)), (2, .int (nI a)), (3, .int (nI m2))] := by rw [show m2 - m2 = 0 by omega]; exact hl
  have loop : ∀ (q j : Nat), j < q → j ≤ m2 → ∀ (ls : Array Slot), lv_has ls 7 [(6, .int (nI j - 1)), (4, .long (lN (fx (σ k).1 (a + j) (m2 - j)))), (0, .ref h), (1, .int (nI k)), (2, .int (nI a))] → W p9 l e9 (headSpec w_M_number ({ frames := 1, cells := 0, slots := 0, locals := 22 })).room s m [.ref h, .int (nI k), .int (nI a), .int (nI m2)].toArray below meth c9 s.heap [] 0 0 (MQ below (vp_Sl (fun r => r = lN (fx (σ k).1 a m2))) [.ref h, .int (nI k), .int (nI a), .int (nI m2)].toArray s 0 0 (fun _ => False)) (F0 m 8 ls []) := by
    intro q
    induction q with
    | zero =>
      intro j hq hj ls hl
      exact absurd hq (by omega)
    | succ q ih_loop =>
      intro j hq hj ls hl
      refine lv_iload hx hb d_M_number_8 (lv_at hl 0 rfl) ?_
      refine lv_if_lt (tgt := 37) hx hb d_M_number_10 (by decide) (fun c10 => ?_) (fun c10 => ?_)
      · obtain rfl : j = 0 := by
          rcases Nat.eq_zero_or_pos j with q9 | q9
          · exact q9
          · exact absurd (show nI j - 1 < 0 from c10) (by rw [show nI j - 1 = nI (j - 1) from pk_sub (b := 1) q9]; exact nI_pos (by omega))
        refine lv_lload hx hb d_M_number_37 (lv_at hl 1 rfl) ?_
        exact W.lret (v := lN (fx (σ k).1 (a + 0) (m2 - 0))) hx hb hr (fun t ht hW => ⟨_, rfl, (rfl), ht⟩) (fun q h => by cases h) d_M_number_39
      · have hj1 : 1 ≤ j := by
          rcases Nat.eq_zero_or_pos j with q9 | q9
          · exact absurd (by rw [q9]; exact pk_sneg (a := 0) (b := 1) (by decide) (by decide)) c10
          · exact q9
        have hjm : nI j - 1 = nI (j - 1) := pk_sub (b := 1) hj1
        have hx1 := fx_lt hB (a + j) (m2 - j)
        have hb8 := hB (a + (j - 1))
        have hx2 : 2 ^ (8 * (m2 - j)) ≤ 2 ^ 56 := Nat.pow_le_pow_right (by decide) (by omega)
        refine lv_lload hx hb d_M_number_13 (lv_at hl 1 rfl) ?_
        refine lv_bipush (v := 8) hx hb d_M_number_15 (by decide) ?_
        refine lv_lshl hx hb d_M_number_17 rfl ?_
        refine lv_topl (fun v17 ev17 => ?_)
        have ev17 : v17 = lN (fx (σ k).1 (a + j) (m2 - j) * 2 ^ 8) := by rw [ev17]; exact wb_shl (k := 8) _ (by decide)
        subst ev17
        refine lv_aload_n hx hb d_M_number_18 rfl (lv_at hl 2 rfl) ?_
        refine lv_iload_n hx hb d_M_number_19 rfl (lv_at hl 3 rfl) ?_
        refine lv_iload_n hx hb d_M_number_20 rfl (lv_at hl 4 rfl) ?_
        refine lv_iload hx hb d_M_number_21 (lv_at hl 0 rfl) ?_
        refine lv_iadd hx hb d_M_number_23 ?_
        refine lv_topi (fun v23 ev23 => ?_)
        have ev23 : v23 = nI (a + (j - 1)) := by rw [ev23, hjm]; exact nI_add _ _
        subst ev23
        have hPc := hP.sub (ws' := [(h, .inr (2, [.int th, .int (nI M), .ref cl, .ref sa, .ref pa, .int tk])), (cl, .inl (cL, 32768, .inr (.inl (pkF (σ))))), (sa, .inl (cI, 4, .inl (fun i9 => nI ((σ) i9).2.1))), (pa, .inl (cI, 4, .inl (fun i9 => nI ((σ) i9).2.2)))]) [0, 1, 2, 3] rfl
        have hKc := hK.sub (tys' := [(cL, .long), (cI, .int)]) [0, 1] rfl
        refine vp_callSi (W.runV (As := [.int (nI k), .int (nI (a + (j - 1)))]) (rest := [.long (lN (fx (σ k).1 (a + j) (m2 - j) * 2 ^ 8))]) ⟨hx, hb, hml, hown, hA⟩ (c_M_at l D cL cI h cl sa pa M th tk σ k (a + (j - 1)) hk (by omega) hB) (q_M_at hA k3_66 rfl rfl ⟨(Nat.le_of_ble_eq_true rfl), (Nat.le_of_ble_eq_true rfl)⟩) (ox_V (va_recv hKc hPc (ci := 2) (q0 := 0) rfl rfl) (ox_S hPc hKc)) rfl rfl hl.1 rfl (lv_room (Nat.le_of_ble_eq_true rfl)) d_M_number_24 ⟨(Nat.le_of_ble_eq_true rfl), (Nat.le_of_ble_eq_true rfl)⟩) (fun r24 hr24 => ?_)
        have er24 : r24 = nI ((σ k).1 (a + (j - 1))) := hr24
        subst er24
        refine lv_i2l hx hb d_M_number_27 rfl ?_
        refine lv_topl (fun v27 ev27 => ?_)
        have ev27 : v27 = lN ((σ k).1 (a + (j - 1))) := by rw [ev27]; exact nI_l (by omega)
        subst ev27
        refine lv_lor hx hb d_M_number_28 ?_
        refine lv_topl (fun v28 ev28 => ?_)
        have ev28 : v28 = lN (fx (σ k).1 (a + (j - 1)) (m2 - (j - 1))) := by rw [ev28, show m2 - (j - 1) = (m2 - j) + 1 by omega, fx_front, show a + (j - 1) + 1 = a + j by omega]; exact (g_or (k := 8) (p := 2 ^ 8) rfl hb8 (by omega)).trans (by congr 1; omega)
        subst ev28
        refine lv_lstore (lv' := [(4, .long (lN (fx (σ k).1 (a + (j - 1)) (m2 - (j - 1))))), (6, .int (nI j - 1)), (0, .ref h), (1, .int (nI k)), (2, .int (nI a))]) hx hb d_M_number_29 hl (by decide) rfl (fun ls hl => ?_)
        obtain ⟨v31, ev31⟩ : ∃ y : Int32, y = nI j - 1 + (-1) := ⟨_, rfl⟩
        refine lv_iinc (v := v31) (lv' := [(6, .int v31), (4, .long (lN (fx (σ k).1 (a + (j - 1)) (m2 - (j - 1))))), (0, .ref h), (1, .int (nI k)), (2, .int (nI a))]) hx hb d_M_number_31 hl (k := 1) rfl (by rw [ev31]; rfl) (by decide) rfl (fun ls hl => ?_)
        have ev31 : v31 = nI (j - 1) - 1 := by rw [ev31, hjm, Int32.sub_eq_add_neg]
        subst ev31
        refine lv_goto (tgt := 8) hx hb d_M_number_34 (by decide) ?_
        exact ih_loop (j - 1) (by omega) (by omega) ls (lv_sub hl [0, 1, 2, 3, 4] rfl)
  exact loop (m2 + 1) m2 (by omega) (by omega) ls (lv_sub hl [0, 1, 2, 3, 4] rfl)
