/-! THE CLASS: SEVENS READ -/
set_option maxHeartbeats 600000 in
set_option maxRecDepth 100000 in
/-- sevensWidthAtPlace -/
theorem c_D_sevensWidthAtPlace (l : Launch) (hL0 : l.stackTraces = false) (D : va_G) (cB : ClassId) (y b M : Nat) (B : Nat → Nat) (n p : Nat) (hn : n ≤ M) (hp : p ≤ n) (hM : M ≤ 65536) (hB : ∀ j, B j < 256) : tx_Met l y_D_sevensWidthAtPlace w_D_sevensWidthAtPlace ({ frames := 7, cells := 1, slots := 6, locals := 111 }) (va_Pc [.ref y] (oxg D [(cB, .byte)] [(y, .inr (1, [.ref b, .int (nI n), .int (nI p)])), (b, .inl (cB, M, .inl (fun j => sb_b (B j))))])) (tx_Q (fun E => (E = X_NSEE ∧ gw B p n 10 = -3) ∨ (E = X_IAE ∧ gw B p n 10 = -2)) (vp_Si (fun r => ∃ w : Nat, r = nI w ∧ gw B p n 10 = (w : Int)))) 0 0 (fun _ => False) := by
  refine tx_ofW (cc := b_D_sevensWidthAtPlace) (maxL := 3) (ret := (some .int)) (by decide) rfl ?_
  intro p9 e9 s m args below meth c9 s₁ BL hml hce hadm hv
  obtain ⟨rfl, hP, hK, hG⟩ := hv
  have hx := BL.exec
  have hb := BL.bytes
  have hr := BL.returns
  have hts := atoms_spec (ws := w_D_sevensWidthAtPlace) BL.pre
  have hA : ∀ w ∈ wsA, w.before _ s = true := fun w h => hts w (List.mem_cons_of_mem _ h)
  have hown : s.vm.findClass R_D = some m.cls := findClass_of_methodNamed BL.named
  have hlocks := BL.notSynchronized
  have htr : e9.platform.stackTraces = false := by rw [hadm.platform]; exact hL0
  have hP : va_P D vCl [(y, .inr (1, [.ref b, .int (nI n), .int (nI p)])), (b, .inl (cB, M, .inl (fun j => sb_b (B j))))] s.heap := hP
  have hl := lv_entry ([.ref y]) (n := 3) (Nat.le_of_ble_eq_true rfl)
  rw [lg_entry_eq]
  generalize (lg_sl ([.ref y]) ++ List.replicate (3 - (lg_sl ([.ref y])).length) Slot.unset).toArray = ls at hl ⊢
  have hl : lv_has ls 3 [(0, .ref y)] := hl
  refine lv_iconst (v := 0) hx hb d_D_sevensWidthAtPlace_0 (by decide) ?_
  refine lv_istore_n (lv' := [(1, .int 0), (0, .ref y)]) hx hb d_D_sevensWidthAtPlace_1 rfl hl (by decide) rfl (fun ls hl => ?_)
  have loop : ∀ (q i : Nat), i + q = 11 → i ≤ 10 → gw B p n (10 - i) = gw B p n 10 → ∀ (ls : Array Slot), lv_has ls 3 [(1, .int (nI i)), (0, .ref y)] → W p9 l e9 (headSpec w_D_sevensWidthAtPlace ({ frames := 7, cells := 1, slots := 6, locals := 111 })).room s m [.ref y].toArray below meth c9 s.heap [] 0 0 (tx_MQ below (tx_Q (fun E => (E = X_NSEE ∧ gw B p n 10 = -3) ∨ (E = X_IAE ∧ gw B p n 10 = -2)) (vp_Si (fun r => ∃ w : Nat, r = nI w ∧ gw B p n 10 = (w : Int)))) [.ref y].toArray s 0 0 (fun _ => False)) (F0 m 2 ls []) := by
    intro q
    induction q with
    | zero =>
      intro i hq hi hg ls hl
      exact absurd hq (by omega)
    | succ q ih_loop =>
      intro i hq hi hg ls hl
      refine lv_iload_n hx hb d_D_sevensWidthAtPlace_2 rfl (lv_at hl 0 rfl) ?_
      refine lv_bipush (v := 10) hx hb d_D_sevensWidthAtPlace_3 (by decide) ?_
      refine lv_icmp_ge (tgt := 50) hx hb d_D_sevensWidthAtPlace_5 (by decide) (fun c5 => ?_) (fun c5 => ?_)
      · obtain rfl : i = 10 := by have := (nI_leI (a := 10) (b := i) (by omega) (by omega)).mp c5; omega
        exact th_IAE hx hb hml hlocks hce htr hown hA hG hl.1 (Nat.le_of_ble_eq_true rfl) (tx := "sevens of more than ten bytes") (by decide) d_D_sevensWidthAtPlace_50 d_D_sevensWidthAtPlace_53 d_D_sevensWidthAtPlace_54 d_D_sevensWidthAtPlace_56 d_D_sevensWidthAtPlace_59 (Nat.le_of_ble_eq_true rfl) (Nat.le_of_ble_eq_true rfl) (Nat.le_of_ble_eq_true rfl) (Nat.le_of_ble_eq_true rfl) (by exact Or.inr ⟨rfl, hg.symm⟩)
      · have hi2 : i < 10 := by have := mt (nI_leI (a := 10) (b := i) (by omega) (by omega)).mpr c5; omega
        rw [gw_s hi2] at hg
        refine lv_aload_n hx hb d_D_sevensWidthAtPlace_8 rfl (lv_at hl 1 rfl) ?_
        refine lv_iload_n hx hb d_D_sevensWidthAtPlace_9 rfl (lv_at hl 0 rfl) ?_
        refine lv_iconst (v := 1) hx hb d_D_sevensWidthAtPlace_10 (by decide) ?_
        refine lv_iadd hx hb d_D_sevensWidthAtPlace_11 ?_
        refine lv_topi (fun v11 ev11 => ?_)
        have ev11 : v11 = nI (i + 1) := by rw [ev11]; exact nI_1 i
        subst ev11
        have hPc := hP.sub (ws' := [(y, .inr (1, [.ref b, .int (nI n), .int (nI p)])), (b, .inl (cB, M, .inl (fun j => sb_b (B j))))]) [0, 1] rfl
        have hKc := hK.sub (tys' := [(cB, .byte)]) [0] rfl
        refine tx_sv (tx_runS (As := [.ref y, .int (nI (i + 1))]) (rest := []) ⟨hx, hb, hml, hown, hA⟩ (c_D_needLeft l hL0 D cB y b M B n p hn hM hp (i + 1) (by omega)) (q_D_needLeft hA k2_57 rfl rfl ⟨(Nat.le_of_ble_eq_true rfl), (Nat.le_of_ble_eq_true rfl)⟩) (oxg_S hPc hKc hG (fun _ _ => rfl)) rfl rfl hl.1 rfl (lv_room (Nat.le_of_ble_eq_true rfl)) d_D_sevensWidthAtPlace_12 ⟨(Nat.le_of_ble_eq_true rfl), (Nat.le_of_ble_eq_true rfl)⟩) (fun x9 E9 H9 ht9 hE9 => tx_prop hlocks hce hE9 (Nat.le_refl _) (fun _ _ => rfl) (Or.inl ⟨ht9.1, by rw [← hg, if_pos (by have := ht9.2; omega)]⟩) (fun q h => by cases h)) (fun hr12 => ?_)
        rw [if_neg (by omega)] at hg
        refine lv_aload_n hx hb d_D_sevensWidthAtPlace_15 rfl (lv_at hl 1 rfl) ?_
        refine lv_aload_n hx hb d_D_sevensWidthAtPlace_16 rfl (lv_at hl 1 rfl) ?_
        refine va_get (D := D) (ci := 1) (v := .int (nI p)) (C := R_R) (T := F_R) (N := 3) hx hb hA i_R hown hK hP 0 rfl rfl 2 (by decide) (hA _ k1_40) (fun _ h9 => h9) rfl d_D_sevensWidthAtPlace_17 ?_
        refine lv_iload_n hx hb d_D_sevensWidthAtPlace_20 rfl (lv_at hl 0 rfl) ?_
        refine lv_iadd hx hb d_D_sevensWidthAtPlace_21 ?_
        refine lv_topi (fun v21 ev21 => ?_)
        have ev21 : v21 = nI (p + i) := by rw [ev21]; exact nI_add p i
        subst ev21
        have hPc := hP.sub (ws' := [(y, .inr (1, [.ref b, .int (nI n), .int (nI p)])), (b, .inl (cB, M, .inl (fun j => sb_b (B j))))]) [0, 1] rfl
        have hKc := hK.sub (tys' := [(cB, .byte)]) [0] rfl
        refine vp_callSi (W.runV (As := [.int (nI (p + i))]) (rest := []) ⟨hx, hb, hml, hown, hA⟩ (c_R_get l D cB y b M B (nI n) (nI p) (p + i) (by omega) hM hB) (q_R_get hA k2_21 rfl rfl ⟨(Nat.le_of_ble_eq_true rfl), (Nat.le_of_ble_eq_true rfl)⟩) (ox_V (va_recv hKc hPc (ci := 1) (q0 := 0) rfl rfl) (ox_S hPc hKc)) rfl rfl hl.1 rfl (lv_room (Nat.le_of_ble_eq_true rfl)) d_D_sevensWidthAtPlace_22 ⟨(Nat.le_of_ble_eq_true rfl), (Nat.le_of_ble_eq_true rfl)⟩) (fun r22 hr22 => ?_)
        have er22 : r22 = nI (B (p + i)) := hr22
        subst er22
        refine lv_istore_n (lv' := [(2, .int (nI (B (p + i)))), (1, .int (nI i)), (0, .ref y)]) hx hb d_D_sevensWidthAtPlace_25 rfl hl (by decide) rfl (fun ls hl => ?_)
        refine lv_iload_n hx hb d_D_sevensWidthAtPlace_26 rfl (lv_at hl 0 rfl) ?_
        refine lv_sipush (v := 128) hx hb d_D_sevensWidthAtPlace_27 (by decide) ?_
        refine lv_icmp_ge (tgt := 44) hx hb d_D_sevensWidthAtPlace_30 (by decide) (fun c30 => ?_) (fun c30 => ?_)
        · have hb8 : ¬ B (p + i) < 128 := by have := (nI_leI (a := 128) (b := B (p + i)) (by omega) (by have := hB (p + i); omega)).mp c30; omega
          rw [if_neg hb8] at hg
          obtain ⟨v44, ev44⟩ : ∃ y : Int32, y = nI i + 1 := ⟨_, rfl⟩
          refine lv_iinc (v := v44) (lv' := [(1, .int v44), (2, .int (nI (B (p + i)))), (0, .ref y)]) hx hb d_D_sevensWidthAtPlace_44 hl (k := 1) rfl (by rw [ev44]; rfl) (by decide) rfl (fun ls hl => ?_)
          have ev44 : v44 = nI (i + 1) := by rw [ev44]; exact nI_1 i
          subst ev44
          refine lv_goto (tgt := 2) hx hb d_D_sevensWidthAtPlace_47 (by decide) ?_
          exact ih_loop (i + 1) (by omega) (by omega) hg ls (lv_sub hl [0, 2] rfl)
        · have hb8 : B (p + i) < 128 := by have := mt (nI_leI (a := 128) (b := B (p + i)) (by omega) (by have := hB (p + i); omega)).mpr c30; omega
          rw [if_pos hb8] at hg
          refine lv_iload_n hx hb d_D_sevensWidthAtPlace_33 rfl (lv_at hl 0 rfl) ?_
          refine lv_iload_n hx hb d_D_sevensWidthAtPlace_34 rfl (lv_at hl 1 rfl) ?_
          refine lv_iconst (v := 1) hx hb d_D_sevensWidthAtPlace_35 (by decide) ?_
          refine lv_iadd hx hb d_D_sevensWidthAtPlace_36 ?_
          refine lv_topi (fun v36 ev36 => ?_)
          have ev36 : v36 = nI (i + 1) := by rw [ev36]; exact nI_1 i
          subst ev36
          refine tx_sv (tx_runS (As := [.int (nI (B (p + i))), .int (nI (i + 1))]) (rest := []) ⟨hx, hb, hml, hown, hA⟩ (c_D_needRightLast l hL0 (B (p + i)) (i + 1) (hB _) (by omega)) (q_D_needRightLast hA k2_92 rfl rfl ⟨(Nat.le_of_ble_eq_true rfl), (Nat.le_of_ble_eq_true rfl)⟩) (g_S hG (fun _ _ => rfl)) rfl rfl hl.1 rfl (lv_room (Nat.le_of_ble_eq_true rfl)) d_D_sevensWidthAtPlace_37 ⟨(Nat.le_of_ble_eq_true rfl), (Nat.le_of_ble_eq_true rfl)⟩) (fun x9 E9 H9 ht9 hE9 => tx_prop hlocks hce hE9 (Nat.le_refl _) (fun _ _ => rfl) (Or.inr ⟨ht9.1, by rw [← hg, if_pos (by have := ht9.2; omega)]⟩) (fun q h => by cases h)) (fun hr37 => ?_)
          rw [if_neg (by omega)] at hg
          refine lv_iload_n hx hb d_D_sevensWidthAtPlace_40 rfl (lv_at hl 1 rfl) ?_
          refine lv_iconst (v := 1) hx hb d_D_sevensWidthAtPlace_41 (by decide) ?_
          refine lv_iadd hx hb d_D_sevensWidthAtPlace_42 ?_
          refine lv_topi (fun v42 ev42 => ?_)
          have ev42 : v42 = nI (i + 1) := by rw [ev42]; exact nI_1 i
          subst ev42
          exact tx_ret (W.iret (v := nI (i + 1)) hx hb hr (fun t ht hW => Or.inl ⟨_, rfl, ⟨_, rfl, (⟨i + 1, rfl, by rw [← hg]; omega⟩), ht⟩⟩) (fun q h => by cases h) d_D_sevensWidthAtPlace_43)
  exact loop 11 0 (by omega) (by omega) rfl ls (lv_sub hl [0, 1] rfl)
