/-! THE CLASS: PUBLIC METHODS THAT LOOK -/
set_option maxHeartbeats 600000 in
set_option maxRecDepth 100000 in
/-- row -/
theorem c_D_row (l : Launch) (hL0 : l.stackTraces = false) (D : va_G) (cR cB : ClassId) (h ra : Nat) (g : Nat → Option Nat) (M : Nat) (y b : Nat → Nat) (σ : dkS) (x z : Int32) (hg : ∀ i, i < 4 → g i = some (y i)) (hσ : dkok M σ) : tx_Met l y_D_row w_D_row ({ frames := 7, cells := 1, slots := 6, locals := 111 }) (va_Pc [.ref h, .int x, .int z] (oxg D [(cB, .byte), (cR, .object "PacketDesk$Row")] [(h, .inr (0, [.ref ra])), (ra, .inl (cR, 4, .inr (.inr (.inr (.inr g))))), ((y 0), .inr (1, [.ref (b 0), .int (nI (σ 0).2.1), .int (nI (σ 0).2.2)])), ((b 0), .inl (cB, M, .inl (fun j => sb_b ((σ 0).1 j)))), ((y 1), .inr (1, [.ref (b 1), .int (nI (σ 1).2.1), .int (nI (σ 1).2.2)])), ((b 1), .inl (cB, M, .inl (fun j => sb_b ((σ 1).1 j)))), ((y 2), .inr (1, [.ref (b 2), .int (nI (σ 2).2.1), .int (nI (σ 2).2.2)])), ((b 2), .inl (cB, M, .inl (fun j => sb_b ((σ 2).1 j)))), ((y 3), .inr (1, [.ref (b 3), .int (nI (σ 3).2.1), .int (nI (σ 3).2.2)])), ((b 3), .inl (cB, M, .inl (fun j => sb_b ((σ 3).1 j))))])) (tx_Q (fun E => (E = X_IOOBE ∧ (spRow σ x z).1 = 1) ∨ (E = X_IAE ∧ (spRow σ x z).1 = 2)) (vp_Si (fun r => spRow σ x z = (0, r, σ)))) 0 0 (fun _ => False) := by
  refine tx_ofW (cc := b_D_row) (maxL := 4) (ret := (some .int)) (by decide) rfl ?_
  intro p9 e9 s m args below meth c9 s₁ BL hml hce hadm hv
  obtain ⟨rfl, hP, hK, hG⟩ := hv
  have hx := BL.exec
  have hb := BL.bytes
  have hr := BL.returns
  have hts := atoms_spec (ws := w_D_row) BL.pre
  have hA : ∀ w ∈ wsA, w.before _ s = true := fun w h => hts w (List.mem_cons_of_mem _ h)
  have hown : s.vm.findClass R_D = some m.cls := findClass_of_methodNamed BL.named
  have hlocks := BL.notSynchronized
  have htr : e9.platform.stackTraces = false := by rw [hadm.platform]; exact hL0
  have hP : va_P D vCl [(h, .inr (0, [.ref ra])), (ra, .inl (cR, 4, .inr (.inr (.inr (.inr g))))), ((y 0), .inr (1, [.ref (b 0), .int (nI (σ 0).2.1), .int (nI (σ 0).2.2)])), ((b 0), .inl (cB, M, .inl (fun j => sb_b ((σ 0).1 j)))), ((y 1), .inr (1, [.ref (b 1), .int (nI (σ 1).2.1), .int (nI (σ 1).2.2)])), ((b 1), .inl (cB, M, .inl (fun j => sb_b ((σ 1).1 j)))), ((y 2), .inr (1, [.ref (b 2), .int (nI (σ 2).2.1), .int (nI (σ 2).2.2)])), ((b 2), .inl (cB, M, .inl (fun j => sb_b ((σ 2).1 j)))), ((y 3), .inr (1, [.ref (b 3), .int (nI (σ 3).2.1), .int (nI (σ 3).2.2)])), ((b 3), .inl (cB, M, .inl (fun j => sb_b ((σ 3).1 j))))] s.heap := hP
  have hl := lv_entry ([.ref h, .int x, .int z]) (n := 4) (Nat.le_of_ble_eq_true rfl)
  rw [lg_entry_eq]
  generalize (lg_sl ([.ref h, .int x, .int z]) ++ List.replicate (4 - (lg_sl ([.ref h, .int x, .int z])).length) Slot.unset).toArray = ls at hl ⊢
  have hl : lv_has ls 4 [(0, .ref h), (1, .int x), (2, .int z)] := hl
  refine lv_aload_n hx hb d_D_row_0 rfl (lv_at hl 0 rfl) ?_
  refine lv_iload_n hx hb d_D_row_1 rfl (lv_at hl 1 rfl) ?_
  have hPc := hP.sub (ws' := [(h, .inr (0, [.ref ra])), (ra, .inl (cR, 4, .inr (.inr (.inr (.inr g)))))]) [0, 1] rfl
  have hKc := hK.sub (tys' := [(cR, .object "PacketDesk$Row")]) [1] rfl
  refine tx_sr (tx_runV (As := [.int x]) (rest := []) ⟨hx, hb, hml, hown, hA⟩ (c_D_rowOf l hL0 D cR h ra g y hg x) (q_D_rowOf hA k1_66 rfl rfl ⟨(Nat.le_of_ble_eq_true rfl), (Nat.le_of_ble_eq_true rfl)⟩) (ox_V (va_recv hKc hPc (ci := 0) (q0 := 0) rfl rfl) (oxg_S hPc hKc hG (fun _ _ => rfl))) rfl rfl hl.1 rfl (lv_room (Nat.le_of_ble_eq_true rfl)) d_D_row_2 ⟨(Nat.le_of_ble_eq_true rfl), (Nat.le_of_ble_eq_true rfl)⟩) (fun x9 E9 H9 ht9 hE9 => tx_prop hlocks hce hE9 (Nat.le_refl _) (fun _ _ => rfl) (Or.inl (⟨ht9.1, by unfold spRow; rw [if_pos ht9.2]⟩)) (fun q h => by cases h)) (fun j hj => ?_)
  obtain ⟨hj, hxj⟩ := hj
  refine lv_astore_n (lv' := [(3, .ref (y j)), (0, .ref h), (1, .int x), (2, .int z)]) hx hb d_D_row_5 rfl hl (by decide) rfl (fun ls hl => ?_)
  obtain ⟨c2_, c3_, c4_, c5_, c6_, c7_, c8_, c9_, hi1, hi2, ho1, ho2⟩ := dk_1 D vCl cR cB h ra g M y b σ hj
  have hP : va_P D vCl [(y j, .inr (1, [.ref (b j), .int (nI (σ j).2.1), .int (nI (σ j).2.2)])), (b j, .inl (cB, M, .inl (fun j9 => sb_b ((σ j).1 j9)))), c2_, c3_, c4_, c5_, c6_, c7_, c8_, c9_] s.heap := hi1 _ hP
  obtain ⟨⟨B, n, p⟩, hρ⟩ : ∃ ρ, σ j = ρ := ⟨_, rfl⟩
  have hk := hσ.2 j hj
  have hM := hσ.1
  rw [hρ] at hP hk
  obtain ⟨hp, hn, hB⟩ := hk
  have hp : p ≤ n := hp
  have hn : n ≤ M := hn
  have hB : ∀ j, B j < 256 := hB
  have hP : va_P D vCl [((y j), .inr (1, [.ref (b j), .int (nI n), .int (nI p)])), ((b j), .inl (cB, M, .inl (fun j => sb_b (B j)))), c2_, c3_, c4_, c5_, c6_, c7_, c8_, c9_] s.heap := hP
  have hrj : rj x = j := by rw [hxj]; exact rj_n hj
  have hir : isR x := by rw [hxj]; exact isR_n hj
  refine lv_iload_n hx hb d_D_row_6 rfl (lv_at hl 3 rfl) ?_
  rcases (show (z.toInt < 0 ∨ 2 < z.toInt) ∨ z.toInt = 0 ∨ z.toInt = 1 ∨ z.toInt = 2 by omega) with hz | hz | hz | hz
  · refine lv_tableOut (tgt := 52) hx hb d_D_row_7 hz (by decide) ?_
    exact th_IAE hx hb hml hlocks hce htr hown hA hG hl.1 (Nat.le_of_ble_eq_true rfl) (tx := "what is 0, 1 or 2") (by decide) d_D_row_52 d_D_row_55 d_D_row_56 d_D_row_58 d_D_row_61 (Nat.le_of_ble_eq_true rfl) (Nat.le_of_ble_eq_true rfl) (Nat.le_of_ble_eq_true rfl) (Nat.le_of_ble_eq_true rfl) (by exact Or.inr (⟨rfl, by unfold spRow; simp only [hrj, hρ]; rw [if_neg (fun h8 => h8 hir), if_pos (by omega)]⟩))
  · refine lv_tableIn (tgt := 32) hx hb d_D_row_7 (by omega) (by omega) (by rw [hz]; rfl) (by decide) ?_
    refine lv_aload_n hx hb d_D_row_32 rfl (lv_at hl 0 rfl) ?_
    refine va_get (D := D) (ci := 1) (v := .int (nI n)) (C := R_R) (T := F_R) (N := 3) hx hb hA i_R hown hK hP 0 rfl rfl 1 (by decide) (hA _ k1_38) (fun _ h9 => h9) rfl d_D_row_33 ?_
    exact tx_ret (W.iret (v := nI n) hx hb hr (fun t ht hW => Or.inl ⟨_, rfl, ⟨_, rfl, (by unfold spRow; simp only [hrj, hρ]; rw [if_neg (fun h8 => h8 hir), if_neg (fun h8 => h8 (by omega)), if_pos hz]), ht⟩⟩) (fun q h => by cases h) d_D_row_36)
  · refine lv_tableIn (tgt := 37) hx hb d_D_row_7 (by omega) (by omega) (by rw [hz]; rfl) (by decide) ?_
    refine lv_aload_n hx hb d_D_row_37 rfl (lv_at hl 0 rfl) ?_
    refine va_get (D := D) (ci := 1) (v := .int (nI p)) (C := R_R) (T := F_R) (N := 3) hx hb hA i_R hown hK hP 0 rfl rfl 2 (by decide) (hA _ k1_40) (fun _ h9 => h9) rfl d_D_row_38 ?_
    exact tx_ret (W.iret (v := nI p) hx hb hr (fun t ht hW => Or.inl ⟨_, rfl, ⟨_, rfl, (by unfold spRow; simp only [hrj, hρ]; rw [if_neg (fun h8 => h8 hir), if_neg (fun h8 => h8 (by omega)), if_neg (by omega), if_pos hz]), ht⟩⟩) (fun q h => by cases h) d_D_row_41)
  · refine lv_tableIn (tgt := 42) hx hb d_D_row_7 (by omega) (by omega) (by rw [hz]; rfl) (by decide) ?_
    refine lv_aload_n hx hb d_D_row_42 rfl (lv_at hl 0 rfl) ?_
    refine va_get (D := D) (ci := 1) (v := .int (nI n)) (C := R_R) (T := F_R) (N := 3) hx hb hA i_R hown hK hP 0 rfl rfl 1 (by decide) (hA _ k1_38) (fun _ h9 => h9) rfl d_D_row_43 ?_
    refine lv_aload_n hx hb d_D_row_46 rfl (lv_at hl 0 rfl) ?_
    refine va_get (D := D) (ci := 1) (v := .int (nI p)) (C := R_R) (T := F_R) (N := 3) hx hb hA i_R hown hK hP 0 rfl rfl 2 (by decide) (hA _ k1_40) (fun _ h9 => h9) rfl d_D_row_47 ?_
    refine lv_isub hx hb d_D_row_50 ?_
    refine lv_topi (fun v50 ev50 => ?_)
    have ev50 : v50 = nI (n - p) := by rw [ev50]; exact pk_sub hp
    subst ev50
    exact tx_ret (W.iret (v := nI (n - p)) hx hb hr (fun t ht hW => Or.inl ⟨_, rfl, ⟨_, rfl, (by unfold spRow; simp only [hrj, hρ]; rw [if_neg (fun h8 => h8 hir), if_neg (fun h8 => h8 (by omega)), if_neg (by omega), if_neg (by omega)]), ht⟩⟩) (fun q h => by cases h) d_D_row_51)
set_option maxHeartbeats 600000 in
set_option maxRecDepth 100000 in
/-- byteAt -/
theorem c_D_byteAt (l : Launch) (hL0 : l.stackTraces = false) (D : va_G) (cR cB : ClassId) (h ra : Nat) (g : Nat → Option Nat) (M : Nat) (y b : Nat → Nat) (σ : dkS) (x z : Int32) (hg : ∀ i, i < 4 → g i = some (y i)) (hσ : dkok M σ) : tx_Met l y_D_byteAt w_D_byteAt ({ frames := 7, cells := 1, slots := 6, locals := 111 }) (va_Pc [.ref h, .int x, .int z] (oxg D [(cB, .byte), (cR, .object "PacketDesk$Row")] [(h, .inr (0, [.ref ra])), (ra, .inl (cR, 4, .inr (.inr (.inr (.inr g))))), ((y 0), .inr (1, [.ref (b 0), .int (nI (σ 0).2.1), .int (nI (σ 0).2.2)])), ((b 0), .inl (cB, M, .inl (fun j => sb_b ((σ 0).1 j)))), ((y 1), .inr (1, [.ref (b 1), .int (nI (σ 1).2.1), .int (nI (σ 1).2.2)])), ((b 1), .inl (cB, M, .inl (fun j => sb_b ((σ 1).1 j)))), ((y 2), .inr (1, [.ref (b 2), .int (nI (σ 2).2.1), .int (nI (σ 2).2.2)])), ((b 2), .inl (cB, M, .inl (fun j => sb_b ((σ 2).1 j)))), ((y 3), .inr (1, [.ref (b 3), .int (nI (σ 3).2.1), .int (nI (σ 3).2.2)])), ((b 3), .inl (cB, M, .inl (fun j => sb_b ((σ 3).1 j))))])) (tx_Q (fun E => (E = X_IOOBE ∧ (spByteAt σ x z).1 = 1) ∨ (E = X_IAE ∧ (spByteAt σ x z).1 = 2)) (vp_Si (fun r => spByteAt σ x z = (0, r, σ)))) 0 0 (fun _ => False) := by
  refine tx_ofW (cc := b_D_byteAt) (maxL := 4) (ret := (some .int)) (by decide) rfl ?_
  intro p9 e9 s m args below meth c9 s₁ BL hml hce hadm hv
  obtain ⟨rfl, hP, hK, hG⟩ := hv
  have hx := BL.exec
  have hb := BL.bytes
  have hr := BL.returns
  have hts := atoms_spec (ws := w_D_byteAt) BL.pre
  have hA : ∀ w ∈ wsA, w.before _ s = true := fun w h => hts w (List.mem_cons_of_mem _ h)
  have hown : s.vm.findClass R_D = some m.cls := findClass_of_methodNamed BL.named
  have hlocks := BL.notSynchronized
  have htr : e9.platform.stackTraces = false := by rw [hadm.platform]; exact hL0
  have hP : va_P D vCl [(h, .inr (0, [.ref ra])), (ra, .inl (cR, 4, .inr (.inr (.inr (.inr g))))), ((y 0), .inr (1, [.ref (b 0), .int (nI (σ 0).2.1), .int (nI (σ 0).2.2)])), ((b 0), .inl (cB, M, .inl (fun j => sb_b ((σ 0).1 j)))), ((y 1), .inr (1, [.ref (b 1), .int (nI (σ 1).2.1), .int (nI (σ 1).2.2)])), ((b 1), .inl (cB, M, .inl (fun j => sb_b ((σ 1).1 j)))), ((y 2), .inr (1, [.ref (b 2), .int (nI (σ 2).2.1), .int (nI (σ 2).2.2)])), ((b 2), .inl (cB, M, .inl (fun j => sb_b ((σ 2).1 j)))), ((y 3), .inr (1, [.ref (b 3), .int (nI (σ 3).2.1), .int (nI (σ 3).2.2)])), ((b 3), .inl (cB, M, .inl (fun j => sb_b ((σ 3).1 j))))] s.heap := hP
  have hl := lv_entry ([.ref h, .int x, .int z]) (n := 4) (Nat.le_of_ble_eq_true rfl)
  rw [lg_entry_eq]
  generalize (lg_sl ([.ref h, .int x, .int z]) ++ List.replicate (4 - (lg_sl ([.ref h, .int x, .int z])).length) Slot.unset).toArray = ls at hl ⊢
  have hl : lv_has ls 4 [(0, .ref h), (1, .int x), (2, .int z)] := hl
  refine lv_aload_n hx hb d_D_byteAt_0 rfl (lv_at hl 0 rfl) ?_
  refine lv_iload_n hx hb d_D_byteAt_1 rfl (lv_at hl 1 rfl) ?_
  have hPc := hP.sub (ws' := [(h, .inr (0, [.ref ra])), (ra, .inl (cR, 4, .inr (.inr (.inr (.inr g)))))]) [0, 1] rfl
  have hKc := hK.sub (tys' := [(cR, .object "PacketDesk$Row")]) [1] rfl
  refine tx_sr (tx_runV (As := [.int x]) (rest := []) ⟨hx, hb, hml, hown, hA⟩ (c_D_rowOf l hL0 D cR h ra g y hg x) (q_D_rowOf hA k1_66 rfl rfl ⟨(Nat.le_of_ble_eq_true rfl), (Nat.le_of_ble_eq_true rfl)⟩) (ox_V (va_recv hKc hPc (ci := 0) (q0 := 0) rfl rfl) (oxg_S hPc hKc hG (fun _ _ => rfl))) rfl rfl hl.1 rfl (lv_room (Nat.le_of_ble_eq_true rfl)) d_D_byteAt_2 ⟨(Nat.le_of_ble_eq_true rfl), (Nat.le_of_ble_eq_true rfl)⟩) (fun x9 E9 H9 ht9 hE9 => tx_prop hlocks hce hE9 (Nat.le_refl _) (fun _ _ => rfl) (Or.inl (⟨ht9.1, by unfold spByteAt; rw [if_pos ht9.2]⟩)) (fun q h => by cases h)) (fun j hj => ?_)
  obtain ⟨hj, hxj⟩ := hj
  refine lv_astore_n (lv' := [(3, .ref (y j)), (0, .ref h), (1, .int x), (2, .int z)]) hx hb d_D_byteAt_5 rfl hl (by decide) rfl (fun ls hl => ?_)
  obtain ⟨c2_, c3_, c4_, c5_, c6_, c7_, c8_, c9_, hi1, hi2, ho1, ho2⟩ := dk_1 D vCl cR cB h ra g M y b σ hj
  have hP : va_P D vCl [(y j, .inr (1, [.ref (b j), .int (nI (σ j).2.1), .int (nI (σ j).2.2)])), (b j, .inl (cB, M, .inl (fun j9 => sb_b ((σ j).1 j9)))), c2_, c3_, c4_, c5_, c6_, c7_, c8_, c9_] s.heap := hi1 _ hP
  obtain ⟨⟨B, n, p⟩, hρ⟩ : ∃ ρ, σ j = ρ := ⟨_, rfl⟩
  have hk := hσ.2 j hj
  have hM := hσ.1
  rw [hρ] at hP hk
  obtain ⟨hp, hn, hB⟩ := hk
  have hp : p ≤ n := hp
  have hn : n ≤ M := hn
  have hB : ∀ j, B j < 256 := hB
  have hP : va_P D vCl [((y j), .inr (1, [.ref (b j), .int (nI n), .int (nI p)])), ((b j), .inl (cB, M, .inl (fun j => sb_b (B j)))), c2_, c3_, c4_, c5_, c6_, c7_, c8_, c9_] s.heap := hP
  have hrj : rj x = j := by rw [hxj]; exact rj_n hj
  have hir : isR x := by rw [hxj]; exact isR_n hj
  refine lv_iload_n hx hb d_D_byteAt_6 rfl (lv_at hl 3 rfl) ?_
  refine lv_if_lt (tgt := 18) hx hb d_D_byteAt_7 (by decide) (fun c7 => ?_) (fun c7 => ?_)
  · have hni : (nI n).toInt = (n : Int) := nI_toInt (by omega)
    have hz2 : ¬ (0 ≤ z.toInt ∧ z.toInt < (n : Int)) := by simp only [Int32.lt_iff_toInt_lt, Int32.le_iff_toInt_le, li_0, li_1, li_2, li_3, li_4, li_8, li_10, li_16, li_63, li_127, li_128, li_191, li_192, li_194, li_224, li_240, li_244, li_255, li_2048, li_55296, li_57343, li_65536, li_1114111, li_m1, li_m2] at *; omega
    exact th_IAE hx hb hml hlocks hce htr hown hA hG hl.1 (Nat.le_of_ble_eq_true rfl) (tx := "no such byte") (by decide) d_D_byteAt_18 d_D_byteAt_21 d_D_byteAt_22 d_D_byteAt_24 d_D_byteAt_27 (Nat.le_of_ble_eq_true rfl) (Nat.le_of_ble_eq_true rfl) (Nat.le_of_ble_eq_true rfl) (Nat.le_of_ble_eq_true rfl) (by exact Or.inr (⟨rfl, by unfold spByteAt; simp only [hrj, hρ]; rw [if_neg (fun h8 => h8 hir), if_pos hz2]⟩))
  · refine lv_iload_n hx hb d_D_byteAt_10 rfl (lv_at hl 3 rfl) ?_
    refine lv_aload_n hx hb d_D_byteAt_11 rfl (lv_at hl 0 rfl) ?_
    refine va_get (D := D) (ci := 1) (v := .int (nI n)) (C := R_R) (T := F_R) (N := 3) hx hb hA i_R hown hK hP 0 rfl rfl 1 (by decide) (hA _ k1_38) (fun _ h9 => h9) rfl d_D_byteAt_12 ?_
    refine lv_icmp_lt (tgt := 28) hx hb d_D_byteAt_15 (by decide) (fun c15 => ?_) (fun c15 => ?_)
    · have hni : (nI n).toInt = (n : Int) := nI_toInt (by omega)
      have hz2 : 0 ≤ z.toInt ∧ z.toInt < (n : Int) := by simp only [Int32.lt_iff_toInt_lt, Int32.le_iff_toInt_le, li_0, li_1, li_2, li_3, li_4, li_8, li_10, li_16, li_63, li_127, li_128, li_191, li_192, li_194, li_224, li_240, li_244, li_255, li_2048, li_55296, li_57343, li_65536, li_1114111, li_m1, li_m2] at *; omega
      obtain ⟨q, hq0, rfl⟩ := nI_of c7
      have hqi : (nI q).toInt = (q : Int) := nI_toInt hq0
      have hqn : (nI q).toInt.toNat = q := by rw [hqi]; rfl
      refine lv_aload_n hx hb d_D_byteAt_28 rfl (lv_at hl 0 rfl) ?_
      refine lv_iload_n hx hb d_D_byteAt_29 rfl (lv_at hl 3 rfl) ?_
      have hPc := hP.sub (ws' := [((y j), .inr (1, [.ref (b j), .int (nI n), .int (nI p)])), ((b j), .inl (cB, M, .inl (fun j => sb_b (B j))))]) [0, 1] rfl
      have hKc := hK.sub (tys' := [(cB, .byte)]) [0] rfl
      refine vp_callSi (W.runV (As := [.int (nI q)]) (rest := []) ⟨hx, hb, hml, hown, hA⟩ (c_R_get l D cB (y j) (b j) M B (nI n) (nI p) q (by omega) hM hB) (q_R_get hA k2_21 rfl rfl ⟨(Nat.le_of_ble_eq_true rfl), (Nat.le_of_ble_eq_true rfl)⟩) (ox_V (va_recv hKc hPc (ci := 1) (q0 := 0) rfl rfl) (ox_S hPc hKc)) rfl rfl hl.1 rfl (lv_room (Nat.le_of_ble_eq_true rfl)) d_D_byteAt_30 ⟨(Nat.le_of_ble_eq_true rfl), (Nat.le_of_ble_eq_true rfl)⟩) (fun r30 hr30 => ?_)
      have er30 : r30 = nI (B q) := hr30
      subst er30
      exact tx_ret (W.iret (v := nI (B q)) hx hb hr (fun t ht hW => Or.inl ⟨_, rfl, ⟨_, rfl, (by unfold spByteAt; simp only [hrj, hρ]; rw [if_neg (fun h8 => h8 hir), if_neg (fun h8 => h8 hz2), hqn]), ht⟩⟩) (fun q h => by cases h) d_D_byteAt_33)
    · have hni : (nI n).toInt = (n : Int) := nI_toInt (by omega)
      have hz2 : ¬ (0 ≤ z.toInt ∧ z.toInt < (n : Int)) := by simp only [Int32.lt_iff_toInt_lt, Int32.le_iff_toInt_le, li_0, li_1, li_2, li_3, li_4, li_8, li_10, li_16, li_63, li_127, li_128, li_191, li_192, li_194, li_224, li_240, li_244, li_255, li_2048, li_55296, li_57343, li_65536, li_1114111, li_m1, li_m2] at *; omega
      exact th_IAE hx hb hml hlocks hce htr hown hA hG hl.1 (Nat.le_of_ble_eq_true rfl) (tx := "no such byte") (by decide) d_D_byteAt_18 d_D_byteAt_21 d_D_byteAt_22 d_D_byteAt_24 d_D_byteAt_27 (Nat.le_of_ble_eq_true rfl) (Nat.le_of_ble_eq_true rfl) (Nat.le_of_ble_eq_true rfl) (Nat.le_of_ble_eq_true rfl) (by exact Or.inr (⟨rfl, by unfold spByteAt; simp only [hrj, hρ]; rw [if_neg (fun h8 => h8 hir), if_pos hz2]⟩))
set_option maxHeartbeats 600000 in
set_option maxRecDepth 100000 in
/-- sum -/
theorem c_D_sum (l : Launch) (hL0 : l.stackTraces = false) (D : va_G) (cR cB : ClassId) (h ra : Nat) (g : Nat → Option Nat) (M : Nat) (y b : Nat → Nat) (σ : dkS) (x a k : Int32) (hg : ∀ i, i < 4 → g i = some (y i)) (hσ : dkok M σ) : tx_Met l y_D_sum w_D_sum ({ frames := 7, cells := 1, slots := 6, locals := 112 }) (va_Pc [.ref h, .int x, .int a, .int k] (oxg D [(cB, .byte), (cR, .object "PacketDesk$Row")] [(h, .inr (0, [.ref ra])), (ra, .inl (cR, 4, .inr (.inr (.inr (.inr g))))), ((y 0), .inr (1, [.ref (b 0), .int (nI (σ 0).2.1), .int (nI (σ 0).2.2)])), ((b 0), .inl (cB, M, .inl (fun j => sb_b ((σ 0).1 j)))), ((y 1), .inr (1, [.ref (b 1), .int (nI (σ 1).2.1), .int (nI (σ 1).2.2)])), ((b 1), .inl (cB, M, .inl (fun j => sb_b ((σ 1).1 j)))), ((y 2), .inr (1, [.ref (b 2), .int (nI (σ 2).2.1), .int (nI (σ 2).2.2)])), ((b 2), .inl (cB, M, .inl (fun j => sb_b ((σ 2).1 j)))), ((y 3), .inr (1, [.ref (b 3), .int (nI (σ 3).2.1), .int (nI (σ 3).2.2)])), ((b 3), .inl (cB, M, .inl (fun j => sb_b ((σ 3).1 j))))])) (tx_Q (fun E => (E = X_IOOBE ∧ (spSum σ x a k).1 = 1) ∨ (E = X_IAE ∧ (spSum σ x a k).1 = 2)) (vp_Si (fun r => spSum σ x a k = (0, r, σ)))) 0 0 (fun _ => False) := by
  refine tx_ofW (cc := b_D_sum) (maxL := 5) (ret := (some .int)) (by decide) rfl ?_
  intro p9 e9 s m args below meth c9 s₁ BL hml hce hadm hv
  obtain ⟨rfl, hP, hK, hG⟩ := hv
  have hx := BL.exec
  have hb := BL.bytes
  have hr := BL.returns
  have hts := atoms_spec (ws := w_D_sum) BL.pre
  have hA : ∀ w ∈ wsA, w.before _ s = true := fun w h => hts w (List.mem_cons_of_mem _ h)
  have hown : s.vm.findClass R_D = some m.cls := findClass_of_methodNamed BL.named
  have hlocks := BL.notSynchronized
  have htr : e9.platform.stackTraces = false := by rw [hadm.platform]; exact hL0
  have hP : va_P D vCl [(h, .inr (0, [.ref ra])), (ra, .inl (cR, 4, .inr (.inr (.inr (.inr g))))), ((y 0), .inr (1, [.ref (b 0), .int (nI (σ 0).2.1), .int (nI (σ 0).2.2)])), ((b 0), .inl (cB, M, .inl (fun j => sb_b ((σ 0).1 j)))), ((y 1), .inr (1, [.ref (b 1), .int (nI (σ 1).2.1), .int (nI (σ 1).2.2)])), ((b 1), .inl (cB, M, .inl (fun j => sb_b ((σ 1).1 j)))), ((y 2), .inr (1, [.ref (b 2), .int (nI (σ 2).2.1), .int (nI (σ 2).2.2)])), ((b 2), .inl (cB, M, .inl (fun j => sb_b ((σ 2).1 j)))), ((y 3), .inr (1, [.ref (b 3), .int (nI (σ 3).2.1), .int (nI (σ 3).2.2)])), ((b 3), .inl (cB, M, .inl (fun j => sb_b ((σ 3).1 j))))] s.heap := hP
  have hl := lv_entry ([.ref h, .int x, .int a, .int k]) (n := 5) (Nat.le_of_ble_eq_true rfl)
  rw [lg_entry_eq]
  generalize (lg_sl ([.ref h, .int x, .int a, .int k]) ++ List.replicate (5 - (lg_sl ([.ref h, .int x, .int a, .int k])).length) Slot.unset).toArray = ls at hl ⊢
  have hl : lv_has ls 5 [(0, .ref h), (1, .int x), (2, .int a), (3, .int k)] := hl
  refine lv_aload_n hx hb d_D_sum_0 rfl (lv_at hl 0 rfl) ?_
  refine lv_iload_n hx hb d_D_sum_1 rfl (lv_at hl 1 rfl) ?_
  have hPc := hP.sub (ws' := [(h, .inr (0, [.ref ra])), (ra, .inl (cR, 4, .inr (.inr (.inr (.inr g)))))]) [0, 1] rfl
  have hKc := hK.sub (tys' := [(cR, .object "PacketDesk$Row")]) [1] rfl
  refine tx_sr (tx_runV (As := [.int x]) (rest := []) ⟨hx, hb, hml, hown, hA⟩ (c_D_rowOf l hL0 D cR h ra g y hg x) (q_D_rowOf hA k1_66 rfl rfl ⟨(Nat.le_of_ble_eq_true rfl), (Nat.le_of_ble_eq_true rfl)⟩) (ox_V (va_recv hKc hPc (ci := 0) (q0 := 0) rfl rfl) (oxg_S hPc hKc hG (fun _ _ => rfl))) rfl rfl hl.1 rfl (lv_room (Nat.le_of_ble_eq_true rfl)) d_D_sum_2 ⟨(Nat.le_of_ble_eq_true rfl), (Nat.le_of_ble_eq_true rfl)⟩) (fun x9 E9 H9 ht9 hE9 => tx_prop hlocks hce hE9 (Nat.le_refl _) (fun _ _ => rfl) (Or.inl (⟨ht9.1, by unfold spSum; rw [if_pos ht9.2]⟩)) (fun q h => by cases h)) (fun j hj => ?_)
  obtain ⟨hj, hxj⟩ := hj
  refine lv_astore (lv' := [(4, .ref (y j)), (0, .ref h), (1, .int x), (2, .int a), (3, .int k)]) hx hb d_D_sum_5 hl (by decide) rfl (fun ls hl => ?_)
  obtain ⟨c2_, c3_, c4_, c5_, c6_, c7_, c8_, c9_, hi1, hi2, ho1, ho2⟩ := dk_1 D vCl cR cB h ra g M y b σ hj
  have hP : va_P D vCl [(y j, .inr (1, [.ref (b j), .int (nI (σ j).2.1), .int (nI (σ j).2.2)])), (b j, .inl (cB, M, .inl (fun j9 => sb_b ((σ j).1 j9)))), c2_, c3_, c4_, c5_, c6_, c7_, c8_, c9_] s.heap := hi1 _ hP
  obtain ⟨⟨B, n, p⟩, hρ⟩ : ∃ ρ, σ j = ρ := ⟨_, rfl⟩
  have hk := hσ.2 j hj
  have hM := hσ.1
  rw [hρ] at hP hk
  obtain ⟨hp, hn, hB⟩ := hk
  have hp : p ≤ n := hp
  have hn : n ≤ M := hn
  have hB : ∀ j, B j < 256 := hB
  have hP : va_P D vCl [((y j), .inr (1, [.ref (b j), .int (nI n), .int (nI p)])), ((b j), .inl (cB, M, .inl (fun j => sb_b (B j)))), c2_, c3_, c4_, c5_, c6_, c7_, c8_, c9_] s.heap := hP
  have hrj : rj x = j := by rw [hxj]; exact rj_n hj
  have hir : isR x := by rw [hxj]; exact isR_n hj
  refine lv_aload hx hb d_D_sum_7 (lv_at hl 0 rfl) ?_
  refine lv_iload_n hx hb d_D_sum_9 rfl (lv_at hl 3 rfl) ?_
  refine lv_iload_n hx hb d_D_sum_10 rfl (lv_at hl 4 rfl) ?_
  have hPc := hP.sub (ws' := [((y j), .inr (1, [.ref (b j), .int (nI n), .int (nI p)])), ((b j), .inl (cB, M, .inl (fun j => sb_b (B j))))]) [0, 1] rfl
  have hKc := hK.sub (tys' := [(cB, .byte)]) [0] rfl
  refine tx_sv (tx_runS (As := [.ref (y j), .int a, .int k]) (rest := []) ⟨hx, hb, hml, hown, hA⟩ (c_D_needRange l hL0 D cB (y j) (b j) M B n p hn hM a k) (q_D_needRange hA k1_234 rfl rfl ⟨(Nat.le_of_ble_eq_true rfl), (Nat.le_of_ble_eq_true rfl)⟩) (oxg_S hPc hKc hG (fun _ _ => rfl)) rfl rfl hl.1 rfl (lv_room (Nat.le_of_ble_eq_true rfl)) d_D_sum_11 ⟨(Nat.le_of_ble_eq_true rfl), (Nat.le_of_ble_eq_true rfl)⟩) (fun x9 E9 H9 ht9 hE9 => tx_prop hlocks hce hE9 (Nat.le_refl _) (fun _ _ => rfl) (Or.inr (⟨ht9.1, by unfold spSum; simp only [hrj, hρ]; rw [if_neg (fun h8 => h8 hir), if_pos ht9.2]⟩)) (fun q h => by cases h)) (fun hr11 => ?_)
  have hin : inr n a k := hr11
  obtain ⟨a1, ha10, rfl⟩ := nI_of (show ¬ a < 0 by rw [Int32.lt_iff_toInt_lt, li_0]; omega)
  have ha1i : (nI a1).toInt = (a1 : Int) := nI_toInt ha10
  have ha1n : (nI a1).toInt.toNat = a1 := by rw [ha1i]; rfl
  obtain ⟨k1, hk10, rfl⟩ := nI_of (show ¬ k < 0 by rw [Int32.lt_iff_toInt_lt, li_0]; omega)
  have hk1i : (nI k1).toInt = (k1 : Int) := nI_toInt hk10
  have hk1n : (nI k1).toInt.toNat = k1 := by rw [hk1i]; rfl
  refine lv_aload hx hb d_D_sum_14 (lv_at hl 0 rfl) ?_
  refine lv_iload_n hx hb d_D_sum_16 rfl (lv_at hl 3 rfl) ?_
  refine lv_iload_n hx hb d_D_sum_17 rfl (lv_at hl 4 rfl) ?_
  have hPc := hP.sub (ws' := [((y j), .inr (1, [.ref (b j), .int (nI n), .int (nI p)])), ((b j), .inl (cB, M, .inl (fun j => sb_b (B j))))]) [0, 1] rfl
  have hKc := hK.sub (tys' := [(cB, .byte)]) [0] rfl
  refine vp_callSi (W.runS (As := [.ref (y j), .int (nI a1), .int (nI k1)]) (rest := []) ⟨hx, hb, hml, hown, hA⟩ (c_D_sumOf l D cB (y j) (b j) M B (nI n) (nI p) a1 k1 (by omega) hM hB) (q_D_sumOf hA k2_18 rfl rfl ⟨(Nat.le_of_ble_eq_true rfl), (Nat.le_of_ble_eq_true rfl)⟩) (ox_S hPc hKc) rfl rfl hl.1 rfl (lv_room (Nat.le_of_ble_eq_true rfl)) d_D_sum_18 ⟨(Nat.le_of_ble_eq_true rfl), (Nat.le_of_ble_eq_true rfl)⟩) (fun r18 hr18 => ?_)
  have er18 : r18 = crcs B a1 k1 ^^^ (-1) := hr18
  subst er18
  exact tx_ret (W.iret (v := crcs B a1 k1 ^^^ (-1)) hx hb hr (fun t ht hW => Or.inl ⟨_, rfl, ⟨_, rfl, (by unfold spSum; simp only [hrj, hρ]; rw [if_neg (fun h8 => h8 hir), if_neg (fun h8 => h8 hin), ha1n, hk1n]), ht⟩⟩) (fun q h => by cases h) d_D_sum_21)
set_option maxHeartbeats 600000 in
set_option maxRecDepth 100000 in
/-- letters -/
theorem c_D_letters (l : Launch) (hL0 : l.stackTraces = false) (D : va_G) (cR cB : ClassId) (h ra : Nat) (g : Nat → Option Nat) (M : Nat) (y b : Nat → Nat) (σ : dkS) (x a k : Int32) (hg : ∀ i, i < 4 → g i = some (y i)) (hσ : dkok M σ) : tx_Met l y_D_letters w_D_letters ({ frames := 7, cells := 1, slots := 6, locals := 112 }) (va_Pc [.ref h, .int x, .int a, .int k] (oxg D [(cB, .byte), (cR, .object "PacketDesk$Row")] [(h, .inr (0, [.ref ra])), (ra, .inl (cR, 4, .inr (.inr (.inr (.inr g))))), ((y 0), .inr (1, [.ref (b 0), .int (nI (σ 0).2.1), .int (nI (σ 0).2.2)])), ((b 0), .inl (cB, M, .inl (fun j => sb_b ((σ 0).1 j)))), ((y 1), .inr (1, [.ref (b 1), .int (nI (σ 1).2.1), .int (nI (σ 1).2.2)])), ((b 1), .inl (cB, M, .inl (fun j => sb_b ((σ 1).1 j)))), ((y 2), .inr (1, [.ref (b 2), .int (nI (σ 2).2.1), .int (nI (σ 2).2.2)])), ((b 2), .inl (cB, M, .inl (fun j => sb_b ((σ 2).1 j)))), ((y 3), .inr (1, [.ref (b 3), .int (nI (σ 3).2.1), .int (nI (σ 3).2.2)])), ((b 3), .inl (cB, M, .inl (fun j => sb_b ((σ 3).1 j))))])) (tx_Q (fun E => (E = X_IOOBE ∧ (spLetters σ x a k).1 = 1) ∨ (E = X_IAE ∧ (spLetters σ x a k).1 = 2)) (vp_Si (fun r => spLetters σ x a k = (0, r, σ)))) 0 0 (fun _ => False) := by
  refine tx_ofW (cc := b_D_letters) (maxL := 9) (ret := (some .int)) (by decide) rfl ?_
  intro p9 e9 s m args below meth c9 s₁ BL hml hce hadm hv
  obtain ⟨rfl, hP, hK, hG⟩ := hv
  have hx := BL.exec
  have hb := BL.bytes
  have hr := BL.returns
  have hts := atoms_spec (ws := w_D_letters) BL.pre
  have hA : ∀ w ∈ wsA, w.before _ s = true := fun w h => hts w (List.mem_cons_of_mem _ h)
  have hown : s.vm.findClass R_D = some m.cls := findClass_of_methodNamed BL.named
  have hlocks := BL.notSynchronized
  have htr : e9.platform.stackTraces = false := by rw [hadm.platform]; exact hL0
  have hP : va_P D vCl [(h, .inr (0, [.ref ra])), (ra, .inl (cR, 4, .inr (.inr (.inr (.inr g))))), ((y 0), .inr (1, [.ref (b 0), .int (nI (σ 0).2.1), .int (nI (σ 0).2.2)])), ((b 0), .inl (cB, M, .inl (fun j => sb_b ((σ 0).1 j)))), ((y 1), .inr (1, [.ref (b 1), .int (nI (σ 1).2.1), .int (nI (σ 1).2.2)])), ((b 1), .inl (cB, M, .inl (fun j => sb_b ((σ 1).1 j)))), ((y 2), .inr (1, [.ref (b 2), .int (nI (σ 2).2.1), .int (nI (σ 2).2.2)])), ((b 2), .inl (cB, M, .inl (fun j => sb_b ((σ 2).1 j)))), ((y 3), .inr (1, [.ref (b 3), .int (nI (σ 3).2.1), .int (nI (σ 3).2.2)])), ((b 3), .inl (cB, M, .inl (fun j => sb_b ((σ 3).1 j))))] s.heap := hP
  have hl := lv_entry ([.ref h, .int x, .int a, .int k]) (n := 9) (Nat.le_of_ble_eq_true rfl)
  rw [lg_entry_eq]
  generalize (lg_sl ([.ref h, .int x, .int a, .int k]) ++ List.replicate (9 - (lg_sl ([.ref h, .int x, .int a, .int k])).length) Slot.unset).toArray = ls at hl ⊢
  have hl : lv_has ls 9 [(0, .ref h), (1, .int x), (2, .int a), (3, .int k)] := hl
  refine lv_aload_n hx hb d_D_letters_0 rfl (lv_at hl 0 rfl) ?_
  refine lv_iload_n hx hb d_D_letters_1 rfl (lv_at hl 1 rfl) ?_
  have hPc := hP.sub (ws' := [(h, .inr (0, [.ref ra])), (ra, .inl (cR, 4, .inr (.inr (.inr (.inr g)))))]) [0, 1] rfl
  have hKc := hK.sub (tys' := [(cR, .object "PacketDesk$Row")]) [1] rfl
  refine tx_sr (tx_runV (As := [.int x]) (rest := []) ⟨hx, hb, hml, hown, hA⟩ (c_D_rowOf l hL0 D cR h ra g y hg x) (q_D_rowOf hA k1_66 rfl rfl ⟨(Nat.le_of_ble_eq_true rfl), (Nat.le_of_ble_eq_true rfl)⟩) (ox_V (va_recv hKc hPc (ci := 0) (q0 := 0) rfl rfl) (oxg_S hPc hKc hG (fun _ _ => rfl))) rfl rfl hl.1 rfl (lv_room (Nat.le_of_ble_eq_true rfl)) d_D_letters_2 ⟨(Nat.le_of_ble_eq_true rfl), (Nat.le_of_ble_eq_true rfl)⟩) (fun x9 E9 H9 ht9 hE9 => tx_prop hlocks hce hE9 (Nat.le_refl _) (fun _ _ => rfl) (Or.inl (⟨ht9.1, by unfold spLetters; rw [if_pos ht9.2]⟩)) (fun q h => by cases h)) (fun j hj => ?_)
  obtain ⟨hj, hxj⟩ := hj
  refine lv_astore (lv' := [(4, .ref (y j)), (0, .ref h), (1, .int x), (2, .int a), (3, .int k)]) hx hb d_D_letters_5 hl (by decide) rfl (fun ls hl => ?_)
  obtain ⟨c2_, c3_, c4_, c5_, c6_, c7_, c8_, c9_, hi1, hi2, ho1, ho2⟩ := dk_1 D vCl cR cB h ra g M y b σ hj
  have hP : va_P D vCl [(y j, .inr (1, [.ref (b j), .int (nI (σ j).2.1), .int (nI (σ j).2.2)])), (b j, .inl (cB, M, .inl (fun j9 => sb_b ((σ j).1 j9)))), c2_, c3_, c4_, c5_, c6_, c7_, c8_, c9_] s.heap := hi1 _ hP
  obtain ⟨⟨B, n, p⟩, hρ⟩ : ∃ ρ, σ j = ρ := ⟨_, rfl⟩
  have hk := hσ.2 j hj
  have hM := hσ.1
  rw [hρ] at hP hk
  obtain ⟨hp, hn, hB⟩ := hk
  have hp : p ≤ n := hp
  have hn : n ≤ M := hn
  have hB : ∀ j, B j < 256 := hB
  have hP : va_P D vCl [((y j), .inr (1, [.ref (b j), .int (nI n), .int (nI p)])), ((b j), .inl (cB, M, .inl (fun j => sb_b (B j)))), c2_, c3_, c4_, c5_, c6_, c7_, c8_, c9_] s.heap := hP
  have hrj : rj x = j := by rw [hxj]; exact rj_n hj
  have hir : isR x := by rw [hxj]; exact isR_n hj
  refine lv_aload hx hb d_D_letters_7 (lv_at hl 0 rfl) ?_
  refine lv_iload_n hx hb d_D_letters_9 rfl (lv_at hl 3 rfl) ?_
  refine lv_iload_n hx hb d_D_letters_10 rfl (lv_at hl 4 rfl) ?_
  have hPc := hP.sub (ws' := [((y j), .inr (1, [.ref (b j), .int (nI n), .int (nI p)])), ((b j), .inl (cB, M, .inl (fun j => sb_b (B j))))]) [0, 1] rfl
  have hKc := hK.sub (tys' := [(cB, .byte)]) [0] rfl
  refine tx_sv (tx_runS (As := [.ref (y j), .int a, .int k]) (rest := []) ⟨hx, hb, hml, hown, hA⟩ (c_D_needRange l hL0 D cB (y j) (b j) M B n p hn hM a k) (q_D_needRange hA k1_234 rfl rfl ⟨(Nat.le_of_ble_eq_true rfl), (Nat.le_of_ble_eq_true rfl)⟩) (oxg_S hPc hKc hG (fun _ _ => rfl)) rfl rfl hl.1 rfl (lv_room (Nat.le_of_ble_eq_true rfl)) d_D_letters_11 ⟨(Nat.le_of_ble_eq_true rfl), (Nat.le_of_ble_eq_true rfl)⟩) (fun x9 E9 H9 ht9 hE9 => tx_prop hlocks hce hE9 (Nat.le_refl _) (fun _ _ => rfl) (Or.inr (⟨ht9.1, by unfold spLetters; simp only [hrj, hρ]; rw [if_neg (fun h8 => h8 hir), if_pos ht9.2]⟩)) (fun q h => by cases h)) (fun hr11 => ?_)
  have hin : inr n a k := hr11
  obtain ⟨a1, ha10, rfl⟩ := nI_of (show ¬ a < 0 by rw [Int32.lt_iff_toInt_lt, li_0]; omega)
  have ha1i : (nI a1).toInt = (a1 : Int) := nI_toInt ha10
  have ha1n : (nI a1).toInt.toNat = a1 := by rw [ha1i]; rfl
  obtain ⟨k1, hk10, rfl⟩ := nI_of (show ¬ k < 0 by rw [Int32.lt_iff_toInt_lt, li_0]; omega)
  have hk1i : (nI k1).toInt = (k1 : Int) := nI_toInt hk10
  have hk1n : (nI k1).toInt.toNat = k1 := by rw [hk1i]; rfl
  refine lv_iload_n hx hb d_D_letters_14 rfl (lv_at hl 3 rfl) ?_
  refine lv_iload_n hx hb d_D_letters_15 rfl (lv_at hl 4 rfl) ?_
  refine lv_iadd hx hb d_D_letters_16 ?_
  refine lv_topi (fun v16 ev16 => ?_)
  have ev16 : v16 = nI (a1 + k1) := by rw [ev16]; exact nI_add _ _
  subst ev16
  refine lv_istore (lv' := [(5, .int (nI (a1 + k1))), (4, .ref (y j)), (0, .ref h), (1, .int x), (2, .int (nI a1)), (3, .int (nI k1))]) hx hb d_D_letters_17 hl (by decide) rfl (fun ls hl => ?_)
  have hsn : lcs B (a1 + k1) (k1 + 1) a1 0 = none → (spLetters σ x (nI a1) (nI k1)).1 = 2 := fun h9 => by unfold spLetters; simp only [hrj, hρ]; rw [if_neg (fun h8 => h8 hir), if_neg (fun h8 => h8 hin), ha1n, hk1n, h9]
  have hss : ∀ m, lcs B (a1 + k1) (k1 + 1) a1 0 = some m → spLetters σ x (nI a1) (nI k1) = (0, nI m, σ) := fun m h9 => by unfold spLetters; simp only [hrj, hρ]; rw [if_neg (fun h8 => h8 hir), if_neg (fun h8 => h8 hin), ha1n, hk1n, h9]
  refine lv_iload_n hx hb d_D_letters_19 rfl (lv_at hl 4 rfl) ?_
  refine lv_istore (lv' := [(6, .int (nI a1)), (5, .int (nI (a1 + k1))), (4, .ref (y j)), (0, .ref h), (1, .int x), (2, .int (nI a1)), (3, .int (nI k1))]) hx hb d_D_letters_20 hl (by decide) rfl (fun ls hl => ?_)
  refine lv_iconst (v := 0) hx hb d_D_letters_22 (by decide) ?_
  refine lv_topi (fun v22 ev22 => ?_)
  have ev22 : v22 = nI 0 := by rw [ev22]; rfl
  subst ev22
  refine lv_istore (lv' := [(7, .int (nI 0)), (6, .int (nI a1)), (5, .int (nI (a1 + k1))), (4, .ref (y j)), (0, .ref h), (1, .int x), (2, .int (nI a1)), (3, .int (nI k1))]) hx hb d_D_letters_23 hl (by decide) rfl (fun ls hl => ?_)
  have loop : ∀ (q t m2 : Nat), a1 + k1 < t + q → a1 + m2 ≤ t → t ≤ a1 + k1 → lcs B (a1 + k1) q t m2 = lcs B (a1 + k1) (k1 + 1) a1 0 → ∀ (ls : Array Slot), lv_has ls 9 [(7, .int (nI m2)), (6, .int (nI t)), (5, .int (nI (a1 + k1))), (4, .ref (y j)), (3, .int (nI k1))] → W p9 l e9 (headSpec w_D_letters ({ frames := 7, cells := 1, slots := 6, locals := 112 })).room s m [.ref h, .int x, .int (nI a1), .int (nI k1)].toArray below meth c9 s.heap [] 0 0 (tx_MQ below (tx_Q (fun E => (E = X_IOOBE ∧ (spLetters σ x (nI a1) (nI k1)).1 = 1) ∨ (E = X_IAE ∧ (spLetters σ x (nI a1) (nI k1)).1 = 2)) (vp_Si (fun r => spLetters σ x (nI a1) (nI k1) = (0, r, σ)))) [.ref h, .int x, .int (nI a1), .int (nI k1)].toArray s 0 0 (fun _ => False)) (F0 m 25 ls []) := by
    intro q
    induction q with
    | zero =>
      intro t m2 hq ht ht2 hinv ls hl
      exact absurd hq (by omega)
    | succ q ih_loop =>
      intro t m2 hq ht ht2 hinv ls hl
      refine lv_iload hx hb d_D_letters_25 (lv_at hl 0 rfl) ?_
      refine lv_iload_n hx hb d_D_letters_27 rfl (lv_at hl 4 rfl) ?_
      refine lv_icmp_ge (tgt := 88) hx hb d_D_letters_28 (by decide) (fun c28 => ?_) (fun c28 => ?_)
      · have hge : a1 + k1 ≤ t := by
          first
          | (have := (nI_leI (a := k1) (b := m2) (by omega) (by omega)).mp c28; omega)
          | (have := (nI_leI (a := a1 + k1) (b := t) (by omega) (by omega)).mp c35; omega)
        refine lv_iload hx hb d_D_letters_88 (lv_at hl 0 rfl) ?_
        exact tx_ret (W.iret (v := nI m2) hx hb hr (fun t ht hW => Or.inl ⟨_, rfl, ⟨_, rfl, (hss m2 (by rw [← hinv]; show (if _ then _ else _) = _; rw [if_pos hge])), ht⟩⟩) (fun q h => by cases h) d_D_letters_90)
      · have hmk : m2 < k1 := by have := mt (nI_leI (a := k1) (b := m2) (by omega) (by omega)).mpr c28; omega
        refine lv_iload hx hb d_D_letters_31 (lv_at hl 1 rfl) ?_
        refine lv_iload hx hb d_D_letters_33 (lv_at hl 2 rfl) ?_
        refine lv_icmp_ge (tgt := 88) hx hb d_D_letters_35 (by decide) (fun c35 => ?_) (fun c35 => ?_)
        · have hge : a1 + k1 ≤ t := by
            first
            | (have := (nI_leI (a := k1) (b := m2) (by omega) (by omega)).mp c28; omega)
            | (have := (nI_leI (a := a1 + k1) (b := t) (by omega) (by omega)).mp c35; omega)
          refine lv_iload hx hb d_D_letters_88 (lv_at hl 0 rfl) ?_
          exact tx_ret (W.iret (v := nI m2) hx hb hr (fun t ht hW => Or.inl ⟨_, rfl, ⟨_, rfl, (hss m2 (by rw [← hinv]; show (if _ then _ else _) = _; rw [if_pos hge])), ht⟩⟩) (fun q h => by cases h) d_D_letters_90)
        · have hne : t < a1 + k1 := by have := mt (nI_leI (a := a1 + k1) (b := t) (by omega) (by omega)).mpr c35; omega
          refine lv_aload hx hb d_D_letters_38 (lv_at hl 3 rfl) ?_
          refine lv_iload hx hb d_D_letters_40 (lv_at hl 1 rfl) ?_
          refine lv_iload hx hb d_D_letters_42 (lv_at hl 2 rfl) ?_
          have hPc := hP.sub (ws' := [((y j), .inr (1, [.ref (b j), .int (nI n), .int (nI p)])), ((b j), .inl (cB, M, .inl (fun j => sb_b (B j))))]) [0, 1] rfl
          have hKc := hK.sub (tys' := [(cB, .byte)]) [0] rfl
          refine vp_callSi (W.runS (As := [.ref (y j), .int (nI t), .int (nI (a1 + k1))]) (rest := []) ⟨hx, hb, hml, hown, hA⟩ (c_D_letterAt l D cB (y j) (b j) M B (nI n) (nI p) t (a1 + k1) (by omega) (by omega) hM hB) (q_D_letterAt hA k2_115 rfl rfl ⟨(Nat.le_of_ble_eq_true rfl), (Nat.le_of_ble_eq_true rfl)⟩) (ox_S hPc hKc) rfl rfl hl.1 rfl (lv_room (Nat.le_of_ble_eq_true rfl)) d_D_letters_44 ⟨(Nat.le_of_ble_eq_true rfl), (Nat.le_of_ble_eq_true rfl)⟩) (fun r44 hr44 => ?_)
          have hst : lcs B (a1 + k1) (q + 1) t m2 = if la B t (a1 + k1) < 0 then none else lcs B (a1 + k1) q (t + lwI (la B t (a1 + k1))) (m2 + 1) := by show (if _ then _ else _) = _; rw [if_neg (by omega)]
          refine lv_istore (lv' := [(8, .int r44), (7, .int (nI m2)), (6, .int (nI t)), (5, .int (nI (a1 + k1))), (4, .ref (y j)), (3, .int (nI k1))]) hx hb d_D_letters_47 hl (by decide) rfl (fun ls hl => ?_)
          refine lv_iload hx hb d_D_letters_49 (lv_at hl 0 rfl) ?_
          refine lv_iconst (v := (-1)) hx hb d_D_letters_51 (by decide) ?_
          refine lv_icmp_eq (tgt := 62) hx hb d_D_letters_52 (by decide) (fun c52 => ?_) (fun c52 => ?_)
          · have hneg : la B t (a1 + k1) < 0 := by
              first
              | (rw [← hr44, c52]; decide)
              | (rw [← hr44, c59]; decide)
            exact th_IAE hx hb hml hlocks hce htr hown hA hG hl.1 (Nat.le_of_ble_eq_true rfl) (tx := "not whole letters") (by decide) d_D_letters_62 d_D_letters_65 d_D_letters_66 d_D_letters_68 d_D_letters_71 (Nat.le_of_ble_eq_true rfl) (Nat.le_of_ble_eq_true rfl) (Nat.le_of_ble_eq_true rfl) (Nat.le_of_ble_eq_true rfl) (by exact Or.inr (⟨rfl, hsn (by rw [← hinv, hst, if_pos hneg])⟩))
          · refine lv_iload hx hb d_D_letters_55 (lv_at hl 0 rfl) ?_
            refine lv_bipush (v := (-2)) hx hb d_D_letters_57 (by decide) ?_
            refine lv_icmp_ne (tgt := 72) hx hb d_D_letters_59 (by decide) (fun c59 => ?_) (fun c59 => ?_)
            · obtain ⟨hl0, er44⟩ := la_nI hB hr44 c52 c59
              obtain ⟨hw1, hw2⟩ := la_len hB hl0
              refine lv_iload hx hb d_D_letters_72 (lv_at hl 2 rfl) ?_
              refine lv_iload hx hb d_D_letters_74 (lv_at hl 0 rfl) ?_
              refine vp_callSi (W.runS (As := [.int r44]) (rest := [.int (nI t)]) ⟨hx, hb, hml, hown, hA⟩ (c_D_letterWidth l r44) (q_D_letterWidth hA k1_214 rfl rfl ⟨(Nat.le_of_ble_eq_true rfl), (Nat.le_of_ble_eq_true rfl)⟩) (⟨fun a U g mk q => q, fun U hU hW => ⟨rfl, trivial⟩⟩) rfl rfl hl.1 rfl (lv_room (Nat.le_of_ble_eq_true rfl)) d_D_letters_76 ⟨(Nat.le_of_ble_eq_true rfl), (Nat.le_of_ble_eq_true rfl)⟩) (fun r76 hr76 => ?_)
              have er76 : r76 = nI (lwI (la B t (a1 + k1))) := by rw [hr76, hr44]
              subst er76
              refine lv_iadd hx hb d_D_letters_79 ?_
              refine lv_topi (fun v79 ev79 => ?_)
              have ev79 : v79 = nI (t + lwI (la B t (a1 + k1))) := by rw [ev79]; exact nI_add _ _
              subst ev79
              refine lv_istore (lv' := [(6, .int (nI (t + lwI (la B t (a1 + k1))))), (8, .int r44), (7, .int (nI m2)), (5, .int (nI (a1 + k1))), (4, .ref (y j)), (3, .int (nI k1))]) hx hb d_D_letters_80 hl (by decide) rfl (fun ls hl => ?_)
              obtain ⟨v82, ev82⟩ : ∃ y : Int32, y = nI m2 + 1 := ⟨_, rfl⟩
              refine lv_iinc (v := v82) (lv' := [(7, .int v82), (6, .int (nI (t + lwI (la B t (a1 + k1))))), (8, .int r44), (5, .int (nI (a1 + k1))), (4, .ref (y j)), (3, .int (nI k1))]) hx hb d_D_letters_82 hl (k := 2) rfl (by rw [ev82]; rfl) (by decide) rfl (fun ls hl => ?_)
              have ev82 : v82 = nI (m2 + 1) := by rw [ev82]; exact nI_1 m2
              subst ev82
              refine lv_goto (tgt := 25) hx hb d_D_letters_85 (by decide) ?_
              exact ih_loop (t + lwI (la B t (a1 + k1))) (m2 + 1) (by omega) (by omega) (by omega) (by rw [← hinv, hst, if_neg (by omega)]) ls (lv_sub hl [0, 1, 3, 4, 5] rfl)
            · have hneg : la B t (a1 + k1) < 0 := by
                first
                | (rw [← hr44, c52]; decide)
                | (rw [← hr44, c59]; decide)
              exact th_IAE hx hb hml hlocks hce htr hown hA hG hl.1 (Nat.le_of_ble_eq_true rfl) (tx := "not whole letters") (by decide) d_D_letters_62 d_D_letters_65 d_D_letters_66 d_D_letters_68 d_D_letters_71 (Nat.le_of_ble_eq_true rfl) (Nat.le_of_ble_eq_true rfl) (Nat.le_of_ble_eq_true rfl) (Nat.le_of_ble_eq_true rfl) (by exact Or.inr (⟨rfl, hsn (by rw [← hinv, hst, if_pos hneg])⟩))
  exact loop (k1 + 1) a1 0 (by omega) (by omega) (by omega) rfl ls (lv_sub hl [0, 1, 2, 3, 7] rfl)
