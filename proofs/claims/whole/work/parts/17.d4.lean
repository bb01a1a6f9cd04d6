/-! THE CLASS: NUMBERS OF FIXED WIDTH -/
/-- k bytes f 0, f 1 .. from n on -/
def wr (B : Nat → Nat) (n k : Nat) (f : Nat → Nat) : Nat → Nat := fun j => if n ≤ j ∧ j < n + k then f (j - n) else B j
theorem wr_0 (B : Nat → Nat) (n : Nat) (f : Nat → Nat) : wr B n 0 f = B := by
  funext j
  unfold wr
  rw [if_neg (by omega)]
theorem wr_s (B : Nat → Nat) (n k : Nat) (f : Nat → Nat) : va_up (wr B n k f) (n + k) (f k) = wr B n (k + 1) f := by
  funext j
  unfold va_up wr
  by_cases h : j = n + k
  · rw [if_pos h, if_pos (by omega), h, Nat.add_sub_cancel_left]
  · rw [if_neg h]
    by_cases h2 : n ≤ j ∧ j < n + k
    · rw [if_pos h2, if_pos (by omega)]
    · rw [if_neg h2, if_neg (by omega)]
theorem wr_lt {B : Nat → Nat} (h : ∀ j, B j < 256) {n k : Nat} {f : Nat → Nat} (hf : ∀ i, i < k → f i < 256) : ∀ j, wr B n k f j < 256 := by
  intro j
  unfold wr
  split
  · exact hf _ (by omega)
  · exact h j
/-- a long's byte -/
def fb (u i : Nat) : Nat := u / 2 ^ (8 * i) % 256
theorem fb_lt (u i : Nat) : fb u i < 256 := Nat.mod_lt _ (by decide)
theorem tn_l2i {u : Nat} (hu : u < 2 ^ 64) : (lN u).toInt32.toBitVec.toNat = u % 2 ^ 32 := by
  rw [lN_i]
  show (BitVec.ofNat 32 u).toNat = _
  rw [BitVec.toNat_ofNat]
theorem fb_b {u i : Nat} (hu : u < 2 ^ 64) : (lN (u / 2 ^ (8 * i))).toInt32.toBitVec.toNat % 256 = fb u i := by
  rw [tn_l2i (Nat.lt_of_le_of_lt (Nat.div_le_self _ _) hu)]
  unfold fb
  omega
/-- the number of k bytes from a on -/
def fx (B : Nat → Nat) (a : Nat) : Nat → Nat
  | 0 => 0
  | k + 1 => fx B a k + B (a + k) * 2 ^ (8 * k)
theorem fx_lt {B : Nat → Nat} (h : ∀ j, B j < 256) (a k : Nat) : fx B a k < 2 ^ (8 * k) := by
  induction k with
  | zero => exact Nat.one_pos
  | succ k ih =>
    show fx B a k + B (a + k) * 2 ^ (8 * k) < 2 ^ (8 * (k + 1))
    rw [show 8 * (k + 1) = 8 * k + 8 by omega, Nat.pow_add]
    have h1 := h (a + k)
    have h2 : B (a + k) * 2 ^ (8 * k) ≤ 255 * 2 ^ (8 * k) := Nat.mul_le_mul_right _ (by omega)
    omega
set_option maxHeartbeats 600000 in
set_option maxRecDepth 100000 in
/-- addFixed -/
theorem c_D_addFixed (l : Launch) (D : va_G) (cB : ClassId) (y b M : Nat) (B : Nat → Nat) (n p sz u k : Nat) (hu : u < 2 ^ 64) (hk : k ≤ 8) (hn : n + k ≤ M) (hM : M ≤ 65536) : Met l y_D_addFixed w_D_addFixed ({ frames := 1, cells := 0, slots := 0, locals := 21 }) (va_Pc [.ref y, .long (lN u), .int (nI k)] (oxw sz D [(cB, .byte)] [(y, .inr (1, [.ref b, .int (nI n), .int (nI p)])), (b, .inl (cB, M, .inl (fun j => sb_b (B j))))])) (va_Qv (fun _ : Unit => True) (fun _ => ow D [(cB, .byte)] (va_A [(y, .inr (1, [.ref b, .int (nI n), .int (nI p)])), (b, .inl (cB, M, .inl (fun j => sb_b (B j))))] sz) [(y, .inr (1, [.ref b, .int (nI (n + k)), .int (nI p)])), (b, .inl (cB, M, .inl (fun j => sb_b ((wr B n k (fb u)) j))))]) (va_A [(y, .inr (1, [.ref b, .int (nI n), .int (nI p)])), (b, .inl (cB, M, .inl (fun j => sb_b (B j))))] sz)) 0 0 (va_A [(y, .inr (1, [.ref b, .int (nI n), .int (nI p)])), (b, .inl (cB, M, .inl (fun j => sb_b (B j))))] sz) := by
  refine Met.ofW (cc := b_D_addFixed) (maxL := 5) (ret := none) (by decide) rfl ?_
  intro p9 e9 s m args below meth c9 s₁ BL hml hv
  obtain ⟨rfl, hsz, hP, hK, hD0⟩ := hv
  have hx := BL.exec
  have hb := BL.bytes
  have hr := BL.returns
  have hts := atoms_spec (ws := w_D_addFixed) BL.pre
  have hA : ∀ w ∈ wsA, w.before _ s = true := fun w h => hts w (List.mem_cons_of_mem _ h)
  have hown : s.vm.findClass R_D = some m.cls := findClass_of_methodNamed BL.named
  have hlocks := BL.notSynchronized
  subst hsz
  have hD := hD0.self (sz := s.heap.size)
  generalize hAe : va_A [(y, .inr (1, [.ref b, .int (nI n), .int (nI p)])), (b, .inl (cB, M, .inl (fun j => sb_b (B j))))] s.heap.size = A at hD ⊢
  have hAq : ∀ q : Nat, s.heap.size ≤ q → A q := fun q h => by rw [← hAe]; exact Or.inr h
  have hS : va_S A s.heap s.heap [] := va_S.rf
  have hP : va_P D vCl [(y, .inr (1, [.ref b, .int (nI n), .int (nI p)])), (b, .inl (cB, M, .inl (fun j => sb_b (B j))))] s.heap := hP
  have hl := lv_entry ([.ref y, .long (lN u), .int (nI k)]) (n := 5) (Nat.le_of_ble_eq_true rfl)
  rw [lg_entry_eq]
  generalize (lg_sl ([.ref y, .long (lN u), .int (nI k)]) ++ List.replicate (5 - (lg_sl ([.ref y, .long (lN u), .int (nI k)])).length) Slot.unset).toArray = ls at hl ⊢
  have hl : lv_has ls 5 [(0, .ref y), (1, .long (lN u)), (3, .int (nI k))] := hl
  refine lv_iconst (v := 0) hx hb d_D_addFixed_0 (by decide) ?_
  refine lv_istore (lv' := [(4, .int 0), (0, .ref y), (1, .long (lN u)), (3, .int (nI k))]) hx hb d_D_addFixed_1 hl (by decide) rfl (fun ls hl => ?_)
  rw [show (fun j => sb_b (B j)) = (fun j => sb_b (wr B n 0 (fb u) j)) from by rw [wr_0]] at hP hD
  have loop : ∀ (q i : Nat), i + q = k + 1 → i ≤ k → ∀ (H : Heap) (locs : List Loc), va_P D vCl [(y, .inr (1, [.ref b, .int (nI (n + i)), .int (nI p)])), (b, .inl (cB, M, .inl (fun j => sb_b ((wr B n i (fb u)) j))))] H → va_D A [(y, .inr (1, [.ref b, .int (nI (n + i)), .int (nI p)])), (b, .inl (cB, M, .inl (fun j => sb_b ((wr B n i (fb u)) j))))] → va_S A s.heap H locs → ∀ (ls : Array Slot), lv_has ls 5 [(4, .int (nI i)), (0, .ref y), (1, .long (lN u)), (3, .int (nI k))] → W p9 l e9 (headSpec w_D_addFixed ({ frames := 1, cells := 0, slots := 0, locals := 21 })).room s m [.ref y, .long (lN u), .int (nI k)].toArray below meth c9 H locs 0 0 (MQ below (va_Qv (fun _ : Unit => True) (fun _ => ow D [(cB, .byte)] A [(y, .inr (1, [.ref b, .int (nI (n + k)), .int (nI p)])), (b, .inl (cB, M, .inl (fun j => sb_b ((wr B n k (fb u)) j))))]) A) [.ref y, .long (lN u), .int (nI k)].toArray s 0 0 A) (F0 m 3 ls []) := by
    intro q
    induction q with
    | zero =>
      intro i hq hi H locs hP hD hS ls hl
      exact absurd hq (by omega)
    | succ q ih_loop =>
      intro i hq hi H locs hP hD hS ls hl
      refine lv_iload hx hb d_D_addFixed_3 (lv_at hl 0 rfl) ?_
      refine lv_iload_n hx hb d_D_addFixed_5 rfl (lv_at hl 3 rfl) ?_
      refine lv_icmp_ge (tgt := 27) hx hb d_D_addFixed_6 (by decide) (fun c6 => ?_) (fun c6 => ?_)
      · obtain rfl : i = k := by have := (nI_leI (a := k) (b := i) (by omega) (by omega)).mp c6; omega
        exact W.vret hx hb hr (fun t ht hW => ⟨⟨(), rfl, trivial, by rw [ht]; exact hP, va_K.moved hW.alike hK, hD⟩, hS.F ht⟩) hS.2.2 d_D_addFixed_27
      · have hi2 : i < k := by have := mt (nI_leI (a := k) (b := i) (by omega) (by omega)).mpr c6; omega
        refine lv_aload_n hx hb d_D_addFixed_9 rfl (lv_at hl 1 rfl) ?_
        refine lv_lload_n hx hb d_D_addFixed_10 rfl (lv_at hl 2 rfl) ?_
        refine lv_bipush (v := 8) hx hb d_D_addFixed_11 (by decide) ?_
        refine lv_iload hx hb d_D_addFixed_13 (lv_at hl 0 rfl) ?_
        refine lv_imul hx hb d_D_addFixed_15 ?_
        refine lv_topi (fun v15 ev15 => ?_)
        refine lv_lushr hx hb d_D_addFixed_16 rfl ?_
        refine lv_topl (fun v16 ev16 => ?_)
        have ev16 : v16 = lN (u / 2 ^ (8 * i)) := by rw [ev16, ev15, sw_8]; exact wb_shr hu (by omega)
        subst ev16
        refine lv_l2i hx hb d_D_addFixed_17 rfl ?_
        refine lv_topi (fun v17 ev17 => ?_)
        subst ev17
        have hPc := hP.sub (ws' := [(y, .inr (1, [.ref b, .int (nI (n + i)), .int (nI p)])), (b, .inl (cB, M, .inl (fun j => sb_b ((wr B n i (fb u)) j))))]) [0, 1] rfl
        have hDc := hD.sub (ws' := [(y, .inr (1, [.ref b, .int (nI (n + i)), .int (nI p)])), (b, .inl (cB, M, .inl (fun j => sb_b ((wr B n i (fb u)) j))))]) [0, 1] (by decide) rfl
        have hKc := hK.sub (tys' := [(cB, .byte)]) [0] rfl
        have hFc := va_free (wc := [(y, .inr (1, [.ref b, .int (nI (n + i)), .int (nI p)])), (b, .inl (cB, M, .inl (fun j => sb_b ((wr B n i (fb u)) j))))]) hD hS hAq [0, 1] rfl
        refine va_callv (va_runV (As := [.int ((lN (u / 2 ^ (8 * i))).toInt32)]) (rest := []) ⟨hx, hb, hml, hown, hA⟩ (c_R_add l D cB y b M (wr B n i (fb u)) (n + i) p H.size (lN (u / 2 ^ (8 * i))).toInt32 (by omega) hM) (q_R_add hA k1_180 rfl rfl ⟨(Nat.le_of_ble_eq_true rfl), (Nat.le_of_ble_eq_true rfl)⟩) (ox_V (va_recv hKc hPc (ci := 1) (q0 := 0) rfl rfl) (oxw_S hPc hKc hDc)) rfl rfl hl.1 rfl (lv_room (Nat.le_of_ble_eq_true rfl)) d_D_addFixed_18 ⟨(Nat.le_of_ble_eq_true rfl), (Nat.le_of_ble_eq_true rfl)⟩) hS (fun q _ h => hFc q h) hFc (fun u9 t9 H1 locs ht9 hvm9 hw9 hB9 hz1 hk1 hS => ?_)
        obtain ⟨hP1, hK1, hD1⟩ := hB9
        rw [ht9] at hP1
        obtain ⟨hP, hD⟩ := va_join (wr := []) (w1 := [(y, .inr (1, [.ref b, .int (nI (n + i + 1)), .int (nI p)])), (b, .inl (cB, M, .inl (fun j => sb_b ((va_up (wr B n i (fb u)) (n + i) ((lN (u / 2 ^ (8 * i))).toInt32.toBitVec.toNat % 256)) j))))]) hP hD [0, 1] [] rfl rfl (by decide) (by decide) hk1 hFc hP1 hD1
        generalize H1 = H at hP hS ⊢
        have hP : va_P D vCl [(y, .inr (1, [.ref b, .int (nI (n + i + 1)), .int (nI p)])), (b, .inl (cB, M, .inl (fun j => sb_b ((va_up (wr B n i (fb u)) (n + i) ((lN (u / 2 ^ (8 * i))).toInt32.toBitVec.toNat % 256)) j))))] H := hP.sub [0, 1] rfl
        have hD : va_D A [(y, .inr (1, [.ref b, .int (nI (n + i + 1)), .int (nI p)])), (b, .inl (cB, M, .inl (fun j => sb_b ((va_up (wr B n i (fb u)) (n + i) ((lN (u / 2 ^ (8 * i))).toInt32.toBitVec.toNat % 256)) j))))] := hD.sub [0, 1] (by decide) rfl
        rw [fb_b hu, wr_s] at hP hD
        obtain ⟨v21, ev21⟩ : ∃ y : Int32, y = nI i + 1 := ⟨_, rfl⟩
        refine lv_iinc (v := v21) (lv' := [(4, .int v21), (0, .ref y), (1, .long (lN u)), (3, .int (nI k))]) hx hb d_D_addFixed_21 hl (k := 0) rfl (by rw [ev21]; rfl) (by decide) rfl (fun ls hl => ?_)
        have ev21 : v21 = nI (i + 1) := by rw [ev21]; exact nI_1 i
        subst ev21
        refine lv_goto (tgt := 3) hx hb d_D_addFixed_24 (by decide) ?_
        exact ih_loop (i + 1) (by omega) (by omega) _ _ (hP.sub [0, 1] rfl) (hD.sub [0, 1] (by decide) rfl) hS ls (lv_sub hl [0, 1, 2, 3] rfl)
  exact loop (k + 1) 0 (by omega) (by omega) _ _ (hP.sub [0, 1] rfl) (hD.sub [0, 1] (by decide) rfl) hS ls (lv_sub hl [0, 1, 2, 3] rfl)
set_option maxHeartbeats 600000 in
set_option maxRecDepth 100000 in
/-- fixedAt -/
theorem c_D_fixedAt (l : Launch) (D : va_G) (cB : ClassId) (y b M : Nat) (B : Nat → Nat) (nv pv : Int32) (a k : Nat) (hk : k ≤ 8) (ha : a + k ≤ M) (hM : M ≤ 65536) (hB : ∀ j, B j < 256) : Met l y_D_fixedAt w_D_fixedAt ({ frames := 1, cells := 0, slots := 0, locals := 21 }) (va_Pc [.ref y, .int (nI a), .int (nI k)] (ox D [(cB, .byte)] [(y, .inr (1, [.ref b, .int nv, .int pv])), (b, .inl (cB, M, .inl (fun j => sb_b (B j))))])) (vp_Sl (fun r => r = lN (fx B a k))) 0 0 (fun _ => False) := by
  refine Met.ofW (cc := b_D_fixedAt) (maxL := 6) (ret := (some .long)) (by decide) rfl ?_
  intro p9 e9 s m args below meth c9 s₁ BL hml hv
  obtain ⟨rfl, hP, hK⟩ := hv
  have hx := BL.exec
  have hb := BL.bytes
  have hr := BL.returns
  have hts := atoms_spec (ws := w_D_fixedAt) BL.pre
  have hA : ∀ w ∈ wsA, w.before _ s = true := fun w h => hts w (List.mem_cons_of_mem _ h)
  have hown : s.vm.findClass R_D = some m.cls := findClass_of_methodNamed BL.named
  have hlocks := BL.notSynchronized
  have hP : va_P D vCl [(y, .inr (1, [.ref b, .int nv, .int pv])), (b, .inl (cB, M, .inl (fun j => sb_b (B j))))] s.heap := hP
  have hl := lv_entry ([.ref y, .int (nI a), .int (nI k)]) (n := 6) (Nat.le_of_ble_eq_true rfl)
  rw [lg_entry_eq]
  generalize (lg_sl ([.ref y, .int (nI a), .int (nI k)]) ++ List.replicate (6 - (lg_sl ([.ref y, .int (nI a), .int (nI k)])).length) Slot.unset).toArray = ls at hl ⊢
  have hl : lv_has ls 6 [(0, .ref y), (1, .int (nI a)), (2, .int (nI k))] := hl
  refine lv_lconst (v := 0) hx hb d_D_fixedAt_0 (by decide) ?_
  refine lv_lstore_n (lv' := [(3, .long 0), (0, .ref y), (1, .int (nI a)), (2, .int (nI k))]) hx hb d_D_fixedAt_1 rfl hl (by decide) rfl (fun ls hl => ?_)
  refine lv_iconst (v := 0) hx hb d_D_fixedAt_2 (by decide) ?_
  refine lv_istore (lv' := [(5, .int 0), (3, .long 0), (0, .ref y), (1, .int (nI a)), (2, .int (nI k))]) hx hb d_D_fixedAt_3 hl (by decide) rfl (fun ls hl => ?_)
  have loop : ∀ (q i : Nat), i + q = k + 1 → i ≤ k → ∀ (ls : Array Slot), lv_has ls 6 [(5, .int (nI i)), (3, .long (lN (fx B a i))), (0, .ref y), (1, .int (nI a)), (2, .int (nI k))] → W p9 l e9 (headSpec w_D_fixedAt ({ frames := 1, cells := 0, slots := 0, locals := 21 })).room s m [.ref y, .int (nI a), .int (nI k)].toArray below meth c9 s.heap [] 0 0 (MQ below (vp_Sl (fun r => r = lN (fx B a k))) [.ref y, .int (nI a), .int (nI k)].toArray s 0 0 (fun _ => False)) (F0 m 5 ls []) := by
    intro q
    induction q with
    | zero =>
      intro i hq hi ls hl
      exact absurd hq (by omega)
    | succ q ih_loop =>
      intro i hq hi ls hl
      refine lv_iload hx hb d_D_fixedAt_5 (lv_at hl 0 rfl) ?_
      refine lv_iload_n hx hb d_D_fixedAt_7 rfl (lv_at hl 4 rfl) ?_
      refine lv_icmp_ge (tgt := 35) hx hb d_D_fixedAt_8 (by decide) (fun c8 => ?_) (fun c8 => ?_)
      · refine lv_lload_n hx hb d_D_fixedAt_35 rfl (lv_at hl 1 rfl) ?_
        obtain rfl : i = k := by have := (nI_leI (a := k) (b := i) (by omega) (by omega)).mp c8; omega
        exact W.lret (v := lN (fx B a i)) hx hb hr (fun t ht hW => ⟨_, rfl, (rfl), ht⟩) (fun q h => by cases h) d_D_fixedAt_36
      · have hi2 : i < k := by have := mt (nI_leI (a := k) (b := i) (by omega) (by omega)).mpr c8; omega
        refine lv_lload_n hx hb d_D_fixedAt_11 rfl (lv_at hl 1 rfl) ?_
        refine lv_aload_n hx hb d_D_fixedAt_12 rfl (lv_at hl 2 rfl) ?_
        refine lv_iload_n hx hb d_D_fixedAt_13 rfl (lv_at hl 3 rfl) ?_
        refine lv_iload hx hb d_D_fixedAt_14 (lv_at hl 0 rfl) ?_
        refine lv_iadd hx hb d_D_fixedAt_16 ?_
        refine lv_topi (fun v16 ev16 => ?_)
        have ev16 : v16 = nI (a + i) := by rw [ev16]; exact nI_add a i
        subst ev16
        have hPc := hP.sub (ws' := [(y, .inr (1, [.ref b, .int nv, .int pv])), (b, .inl (cB, M, .inl (fun j => sb_b (B j))))]) [0, 1] rfl
        have hKc := hK.sub (tys' := [(cB, .byte)]) [0] rfl
        refine vp_callSi (W.runV (As := [.int (nI (a + i))]) (rest := [.long (lN (fx B a i))]) ⟨hx, hb, hml, hown, hA⟩ (c_R_get l D cB y b M B nv pv (a + i) (by omega) hM hB) (q_R_get hA k2_21 rfl rfl ⟨(Nat.le_of_ble_eq_true rfl), (Nat.le_of_ble_eq_true rfl)⟩) (ox_V (va_recv hKc hPc (ci := 1) (q0 := 0) rfl rfl) (ox_S hPc hKc)) rfl rfl hl.1 rfl (lv_room (Nat.le_of_ble_eq_true rfl)) d_D_fixedAt_17 ⟨(Nat.le_of_ble_eq_true rfl), (Nat.le_of_ble_eq_true rfl)⟩) (fun r17 hr17 => ?_)
        have er17 : r17 = nI (B (a + i)) := hr17
        subst er17
        refine lv_i2l hx hb d_D_fixedAt_20 rfl ?_
        refine lv_topl (fun v20 ev20 => ?_)
        have ev20 : v20 = lN (B (a + i)) := by rw [ev20]; exact nI_l (by have := hB (a + i); omega)
        subst ev20
        refine lv_bipush (v := 8) hx hb d_D_fixedAt_21 (by decide) ?_
        refine lv_iload hx hb d_D_fixedAt_23 (lv_at hl 0 rfl) ?_
        refine lv_imul hx hb d_D_fixedAt_25 ?_
        refine lv_topi (fun v25 ev25 => ?_)
        refine lv_lshl hx hb d_D_fixedAt_26 rfl ?_
        refine lv_topl (fun v26 ev26 => ?_)
        have ev26 : v26 = lN (B (a + i) * 2 ^ (8 * i)) := by rw [ev26, ev25, sw_8]; exact wb_shl _ (by omega)
        subst ev26
        have hx1 := fx_lt hB a i
        have hx2 := fx_lt hB a (i + 1)
        have hx3 : 2 ^ (8 * (i + 1)) ≤ 2 ^ 64 := Nat.pow_le_pow_right (by decide) (by omega)
        refine lv_lor hx hb d_D_fixedAt_27 ?_
        refine lv_topl (fun v27 ev27 => ?_)
        have ev27 : v27 = lN (fx B a (i + 1)) := by rw [ev27]; exact g_or' (k := 8 * i) rfl hx1 (Nat.lt_of_lt_of_le hx2 hx3)
        subst ev27
        refine lv_lstore_n (lv' := [(3, .long (lN (fx B a (i + 1)))), (5, .int (nI i)), (0, .ref y), (1, .int (nI a)), (2, .int (nI k))]) hx hb d_D_fixedAt_28 rfl hl (by decide) rfl (fun ls hl => ?_)
        obtain ⟨v29, ev29⟩ : ∃ y : Int32, y = nI i + 1 := ⟨_, rfl⟩
        refine lv_iinc (v := v29) (lv' := [(5, .int v29), (3, .long (lN (fx B a (i + 1)))), (0, .ref y), (1, .int (nI a)), (2, .int (nI k))]) hx hb d_D_fixedAt_29 hl (k := 1) rfl (by rw [ev29]; rfl) (by decide) rfl (fun ls hl => ?_)
        have ev29 : v29 = nI (i + 1) := by rw [ev29]; exact nI_1 i
        subst ev29
        refine lv_goto (tgt := 5) hx hb d_D_fixedAt_32 (by decide) ?_
        exact ih_loop (i + 1) (by omega) (by omega) ls (lv_sub hl [0, 1, 2, 3, 4] rfl)
  exact loop (k + 1) 0 (by omega) (by omega) ls (lv_sub hl [0, 1, 2, 3, 4] rfl)
