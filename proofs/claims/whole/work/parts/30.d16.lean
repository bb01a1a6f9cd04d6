/-! THE CLASS: READBLOCK, READFRAME, SAME -/
set_option maxHeartbeats 600000 in
set_option maxRecDepth 100000 in
/-- readBlock -/
theorem c_D_readBlock (l : Launch) (hL0 : l.stackTraces = false) (D : va_G) (cR cB : ClassId) (h ra : Nat) (g : Nat → Option Nat) (M : Nat) (y b : Nat → Nat) (σ : dkS) (sz : Nat) (x t : Int32) (hg : ∀ i, i < 4 → g i = some (y i)) (hσ : dkok M σ) : tx_Met l y_D_readBlock w_D_readBlock ({ frames := 8, cells := 1, slots := 6, locals := 133 }) (va_Pc [.ref h, .int x, .int t] (oxv sz D [(cB, .byte), (cR, .object "PacketDesk$Row")] [(h, .inr (0, [.ref ra])), (ra, .inl (cR, 4, .inr (.inr (.inr (.inr g))))), ((y 0), .inr (1, [.ref (b 0), .int (nI (σ 0).2.1), .int (nI (σ 0).2.2)])), ((b 0), .inl (cB, M, .inl (fun j => sb_b ((σ 0).1 j)))), ((y 1), .inr (1, [.ref (b 1), .int (nI (σ 1).2.1), .int (nI (σ 1).2.2)])), ((b 1), .inl (cB, M, .inl (fun j => sb_b ((σ 1).1 j)))), ((y 2), .inr (1, [.ref (b 2), .int (nI (σ 2).2.1), .int (nI (σ 2).2.2)])), ((b 2), .inl (cB, M, .inl (fun j => sb_b ((σ 2).1 j)))), ((y 3), .inr (1, [.ref (b 3), .int (nI (σ 3).2.1), .int (nI (σ 3).2.2)])), ((b 3), .inl (cB, M, .inl (fun j => sb_b ((σ 3).1 j))))])) (tx_Q (fun E => (E = X_IOOBE ∧ (spReadBlock σ x t).1 = 1) ∨ (E = X_IAE ∧ (spReadBlock σ x t).1 = 2) ∨ (E = X_NSEE ∧ (spReadBlock σ x t).1 = 3)) (va_Qi (fun r (τ : dkS) => spReadBlock σ x t = (0, r, τ)) (fun τ => ow D [(cB, .byte), (cR, .object "PacketDesk$Row")] (va_A [(h, .inr (0, [.ref ra])), (ra, .inl (cR, 4, .inr (.inr (.inr (.inr g))))), ((y 0), .inr (1, [.ref (b 0), .int (nI (σ 0).2.1), .int (nI (σ 0).2.2)])), ((b 0), .inl (cB, M, .inl (fun j => sb_b ((σ 0).1 j)))), ((y 1), .inr (1, [.ref (b 1), .int (nI (σ 1).2.1), .int (nI (σ 1).2.2)])), ((b 1), .inl (cB, M, .inl (fun j => sb_b ((σ 1).1 j)))), ((y 2), .inr (1, [.ref (b 2), .int (nI (σ 2).2.1), .int (nI (σ 2).2.2)])), ((b 2), .inl (cB, M, .inl (fun j => sb_b ((σ 2).1 j)))), ((y 3), .inr (1, [.ref (b 3), .int (nI (σ 3).2.1), .int (nI (σ 3).2.2)])), ((b 3), .inl (cB, M, .inl (fun j => sb_b ((σ 3).1 j))))] sz) (dk cR cB h ra g M y b τ)) (va_A [(h, .inr (0, [.ref ra])), (ra, .inl (cR, 4, .inr (.inr (.inr (.inr g))))), ((y 0), .inr (1, [.ref (b 0), .int (nI (σ 0).2.1), .int (nI (σ 0).2.2)])), ((b 0), .inl (cB, M, .inl (fun j => sb_b ((σ 0).1 j)))), ((y 1), .inr (1, [.ref (b 1), .int (nI (σ 1).2.1), .int (nI (σ 1).2.2)])), ((b 1), .inl (cB, M, .inl (fun j => sb_b ((σ 1).1 j)))), ((y 2), .inr (1, [.ref (b 2), .int (nI (σ 2).2.1), .int (nI (σ 2).2.2)])), ((b 2), .inl (cB, M, .inl (fun j => sb_b ((σ 2).1 j)))), ((y 3), .inr (1, [.ref (b 3), .int (nI (σ 3).2.1), .int (nI (σ 3).2.2)])), ((b 3), .inl (cB, M, .inl (fun j => sb_b ((σ 3).1 j))))] sz))) 0 0 (va_A [(h, .inr (0, [.ref ra])), (ra, .inl (cR, 4, .inr (.inr (.inr (.inr g))))), ((y 0), .inr (1, [.ref (b 0), .int (nI (σ 0).2.1), .int (nI (σ 0).2.2)])), ((b 0), .inl (cB, M, .inl (fun j => sb_b ((σ 0).1 j)))), ((y 1), .inr (1, [.ref (b 1), .int (nI (σ 1).2.1), .int (nI (σ 1).2.2)])), ((b 1), .inl (cB, M, .inl (fun j => sb_b ((σ 1).1 j)))), ((y 2), .inr (1, [.ref (b 2), .int (nI (σ 2).2.1), .int (nI (σ 2).2.2)])), ((b 2), .inl (cB, M, .inl (fun j => sb_b ((σ 2).1 j)))), ((y 3), .inr (1, [.ref (b 3), .int (nI (σ 3).2.1), .int (nI (σ 3).2.2)])), ((b 3), .inl (cB, M, .inl (fun j => sb_b ((σ 3).1 j))))] sz) := by
  refine tx_ofW (cc := b_D_readBlock) (maxL := 7) (ret := (some .int)) (by decide) rfl ?_
  intro p9 e9 s m args below meth c9 s₁ BL hml hce hadm hv
  obtain ⟨rfl, hsz, hP, hK, hD0, hG⟩ := hv
  have hx := BL.exec
  have hb := BL.bytes
  have hr := BL.returns
  have hts := atoms_spec (ws := w_D_readBlock) BL.pre
  have hA : ∀ w ∈ wsA, w.before _ s = true := fun w h => hts w (List.mem_cons_of_mem _ h)
  have hown : s.vm.findClass R_D = some m.cls := findClass_of_methodNamed BL.named
  have hlocks := BL.notSynchronized
  have htr : e9.platform.stackTraces = false := by rw [hadm.platform]; exact hL0
  subst hsz
  have hD := hD0.self (sz := s.heap.size)
  generalize hAe : va_A [(h, .inr (0, [.ref ra])), (ra, .inl (cR, 4, .inr (.inr (.inr (.inr g))))), ((y 0), .inr (1, [.ref (b 0), .int (nI (σ 0).2.1), .int (nI (σ 0).2.2)])), ((b 0), .inl (cB, M, .inl (fun j => sb_b ((σ 0).1 j)))), ((y 1), .inr (1, [.ref (b 1), .int (nI (σ 1).2.1), .int (nI (σ 1).2.2)])), ((b 1), .inl (cB, M, .inl (fun j => sb_b ((σ 1).1 j)))), ((y 2), .inr (1, [.ref (b 2), .int (nI (σ 2).2.1), .int (nI (σ 2).2.2)])), ((b 2), .inl (cB, M, .inl (fun j => sb_b ((σ 2).1 j)))), ((y 3), .inr (1, [.ref (b 3), .int (nI (σ 3).2.1), .int (nI (σ 3).2.2)])), ((b 3), .inl (cB, M, .inl (fun j => sb_b ((σ 3).1 j))))] s.heap.size = A at hD ⊢
  have hAq : ∀ q : Nat, s.heap.size ≤ q → A q := fun q h => by rw [← hAe]; exact Or.inr h
  have hS : va_S A s.heap s.heap [] := va_S.rf
  have hP : va_P D vCl [(h, .inr (0, [.ref ra])), (ra, .inl (cR, 4, .inr (.inr (.inr (.inr g))))), ((y 0), .inr (1, [.ref (b 0), .int (nI (σ 0).2.1), .int (nI (σ 0).2.2)])), ((b 0), .inl (cB, M, .inl (fun j => sb_b ((σ 0).1 j)))), ((y 1), .inr (1, [.ref (b 1), .int (nI (σ 1).2.1), .int (nI (σ 1).2.2)])), ((b 1), .inl (cB, M, .inl (fun j => sb_b ((σ 1).1 j)))), ((y 2), .inr (1, [.ref (b 2), .int (nI (σ 2).2.1), .int (nI (σ 2).2.2)])), ((b 2), .inl (cB, M, .inl (fun j => sb_b ((σ 2).1 j)))), ((y 3), .inr (1, [.ref (b 3), .int (nI (σ 3).2.1), .int (nI (σ 3).2.2)])), ((b 3), .inl (cB, M, .inl (fun j => sb_b ((σ 3).1 j))))] s.heap := hP
  have hl := lv_entry ([.ref h, .int x, .int t]) (n := 7) (Nat.le_of_ble_eq_true rfl)
  rw [lg_entry_eq]
  generalize (lg_sl ([.ref h, .int x, .int t]) ++ List.replicate (7 - (lg_sl ([.ref h, .int x, .int t])).length) Slot.unset).toArray = ls at hl ⊢
  have hl : lv_has ls 7 [(0, .ref h), (1, .int x), (2, .int t)] := hl
  refine lv_aload_n hx hb d_D_readBlock_0 rfl (lv_at hl 0 rfl) ?_
  refine lv_iload_n hx hb d_D_readBlock_1 rfl (lv_at hl 1 rfl) ?_
  have hPc := hP.sub (ws' := [(h, .inr (0, [.ref ra])), (ra, .inl (cR, 4, .inr (.inr (.inr (.inr g)))))]) [0, 1] rfl
  have hKc := hK.sub (tys' := [(cR, .object "PacketDesk$Row")]) [1] rfl
  refine tx_sr (tx_runV (As := [.int x]) (rest := []) ⟨hx, hb, hml, hown, hA⟩ (c_D_rowOf l hL0 D cR h ra g y hg x) (q_D_rowOf hA k1_66 rfl rfl ⟨(Nat.le_of_ble_eq_true rfl), (Nat.le_of_ble_eq_true rfl)⟩) (ox_V (va_recv hKc hPc (ci := 0) (q0 := 0) rfl rfl) (oxg_S hPc hKc hG (fun _ _ => rfl))) rfl rfl hl.1 rfl (lv_room (Nat.le_of_ble_eq_true rfl)) d_D_readBlock_2 ⟨(Nat.le_of_ble_eq_true rfl), (Nat.le_of_ble_eq_true rfl)⟩) (fun x9 E9 H9 ht9 hE9 => tx_prop hlocks hce hE9 (Nat.le_refl _) (fun _ _ => rfl) (Or.inl (⟨ht9.1, by unfold spReadBlock; rw [if_pos (fun h9 => ht9.2 h9.1)]⟩)) (fun q h => by cases h)) (fun j hj => ?_)
  obtain ⟨hj, hxj⟩ := hj
  refine lv_astore_n (lv' := [(3, .ref (y j)), (0, .ref h), (1, .int x), (2, .int t)]) hx hb d_D_readBlock_5 rfl hl (by decide) rfl (fun ls hl => ?_)
  refine lv_aload_n hx hb d_D_readBlock_6 rfl (lv_at hl 1 rfl) ?_
  refine lv_iload_n hx hb d_D_readBlock_7 rfl (lv_at hl 3 rfl) ?_
  have hPc := hP.sub (ws' := [(h, .inr (0, [.ref ra])), (ra, .inl (cR, 4, .inr (.inr (.inr (.inr g)))))]) [0, 1] rfl
  have hKc := hK.sub (tys' := [(cR, .object "PacketDesk$Row")]) [1] rfl
  refine tx_sr (tx_runV (As := [.int t]) (rest := []) ⟨hx, hb, hml, hown, hA⟩ (c_D_rowOf l hL0 D cR h ra g y hg t) (q_D_rowOf hA k1_66 rfl rfl ⟨(Nat.le_of_ble_eq_true rfl), (Nat.le_of_ble_eq_true rfl)⟩) (ox_V (va_recv hKc hPc (ci := 0) (q0 := 0) rfl rfl) (oxg_S hPc hKc hG (fun _ _ => rfl))) rfl rfl hl.1 rfl (lv_room (Nat.le_of_ble_eq_true rfl)) d_D_readBlock_8 ⟨(Nat.le_of_ble_eq_true rfl), (Nat.le_of_ble_eq_true rfl)⟩) (fun x9 E9 H9 ht9 hE9 => tx_prop hlocks hce hE9 (Nat.le_refl _) (fun _ _ => rfl) (Or.inl (⟨ht9.1, by unfold spReadBlock; rw [if_pos (fun h9 => ht9.2 h9.2)]⟩)) (fun q h => by cases h)) (fun i hi => ?_)
  obtain ⟨hi, hxi⟩ := hi
  refine lv_astore (lv' := [(4, .ref (y i)), (3, .ref (y j)), (0, .ref h), (1, .int x), (2, .int t)]) hx hb d_D_readBlock_11 hl (by decide) rfl (fun ls hl => ?_)
  refine lv_iload_n hx hb d_D_readBlock_13 rfl (lv_at hl 3 rfl) ?_
  refine lv_iload_n hx hb d_D_readBlock_14 rfl (lv_at hl 4 rfl) ?_
  have hir : isR x ∧ isR t := ⟨by rw [hxj]; exact isR_n hj, by rw [hxi]; exact isR_n hi⟩
  refine tx_sv (tx_runS (As := [.int x, .int t]) (rest := []) ⟨hx, hb, hml, hown, hA⟩ (c_D_needTwoRows l hL0 x t) (q_D_needTwoRows hA k2_130 rfl rfl ⟨(Nat.le_of_ble_eq_true rfl), (Nat.le_of_ble_eq_true rfl)⟩) (g_S hG (fun _ _ => rfl)) rfl rfl hl.1 rfl (lv_room (Nat.le_of_ble_eq_true rfl)) d_D_readBlock_15 ⟨(Nat.le_of_ble_eq_true rfl), (Nat.le_of_ble_eq_true rfl)⟩) (fun x9 E9 H9 ht9 hE9 => tx_prop hlocks hce hE9 (Nat.le_refl _) (fun _ _ => rfl) (Or.inr (Or.inl (⟨ht9.1, by unfold spReadBlock; rw [if_neg (fun h8 => h8 hir), if_pos ht9.2]⟩))) (fun q h => by cases h)) (fun hr15 => ?_)
  have hji : ¬ j = i := fun q9 => hr15 (by rw [hxj, hxi, q9])
  obtain ⟨c4_, c5_, c6_, c7_, c8_, c9_, hi1, hi2, ho1, ho2⟩ := dk_2 D vCl cR cB h ra g M y b σ hj hi hji
  have hP : va_P D vCl [(y j, .inr (1, [.ref (b j), .int (nI (σ j).2.1), .int (nI (σ j).2.2)])), (b j, .inl (cB, M, .inl (fun j9 => sb_b ((σ j).1 j9)))), (y i, .inr (1, [.ref (b i), .int (nI (σ i).2.1), .int (nI (σ i).2.2)])), (b i, .inl (cB, M, .inl (fun j9 => sb_b ((σ i).1 j9)))), c4_, c5_, c6_, c7_, c8_, c9_] s.heap := hi1 _ hP
  have hD : va_D A [(y j, .inr (1, [.ref (b j), .int (nI (σ j).2.1), .int (nI (σ j).2.2)])), (b j, .inl (cB, M, .inl (fun j9 => sb_b ((σ j).1 j9)))), (y i, .inr (1, [.ref (b i), .int (nI (σ i).2.1), .int (nI (σ i).2.2)])), (b i, .inl (cB, M, .inl (fun j9 => sb_b ((σ i).1 j9)))), c4_, c5_, c6_, c7_, c8_, c9_] := hi2 _ hD
  obtain ⟨⟨B, n, p⟩, hρ⟩ : ∃ ρ, σ j = ρ := ⟨_, rfl⟩
  obtain ⟨⟨C, n2, p2⟩, hρ2⟩ : ∃ ρ, σ i = ρ := ⟨_, rfl⟩
  have hk := hσ.2 j hj
  have hk2 := hσ.2 i hi
  have hM := hσ.1
  rw [hρ] at hk
  rw [hρ2] at hk2
  rw [hρ, hρ2] at hP hD
  obtain ⟨hp, hn, hB⟩ := hk
  have hp : p ≤ n := hp
  have hn : n ≤ M := hn
  have hB : ∀ j, B j < 256 := hB
  obtain ⟨hp2, hn2, hB2⟩ := hk2
  have hp2 : p2 ≤ n2 := hp2
  have hn2 : n2 ≤ M := hn2
  have hB2 : ∀ j, C j < 256 := hB2
  have hP : va_P D vCl [((y j), .inr (1, [.ref (b j), .int (nI n), .int (nI p)])), ((b j), .inl (cB, M, .inl (fun j => sb_b (B j)))), ((y i), .inr (1, [.ref (b i), .int (nI n2), .int (nI p2)])), ((b i), .inl (cB, M, .inl (fun j => sb_b (C j)))), c4_, c5_, c6_, c7_, c8_, c9_] s.heap := hP
  have hD : va_D A [((y j), .inr (1, [.ref (b j), .int (nI n), .int (nI p)])), ((b j), .inl (cB, M, .inl (fun j => sb_b (B j)))), ((y i), .inr (1, [.ref (b i), .int (nI n2), .int (nI p2)])), ((b i), .inl (cB, M, .inl (fun j => sb_b (C j)))), c4_, c5_, c6_, c7_, c8_, c9_] := hD
  have hrj : rj x = j := by rw [hxj]; exact rj_n hj
  have hri : rj t = i := by rw [hxi]; exact rj_n hi
  have hir : isR x ∧ isR t := ⟨by rw [hxj]; exact isR_n hj, by rw [hxi]; exact isR_n hi⟩
  refine lv_aload_n hx hb d_D_readBlock_18 rfl (lv_at hl 1 rfl) ?_
  have hs2 : gw B p n 10 = -2 → (spReadBlock σ x t).1 = 2 := fun h9 => by unfold spReadBlock gmσ gwσ; simp only [hrj, hri, hρ, hρ2]; rw [if_neg (fun h8 => h8 hir), if_neg hr15, if_pos h9]
  have hs3 : gw B p n 10 = -3 → (spReadBlock σ x t).1 = 3 := fun h9 => by unfold spReadBlock gmσ gwσ; simp only [hrj, hri, hρ, hρ2]; rw [if_neg (fun h8 => h8 hir), if_neg hr15, if_neg (by rw [h9]; decide), if_pos h9]
  have hPc := hP.sub (ws' := [((y j), .inr (1, [.ref (b j), .int (nI n), .int (nI p)])), ((b j), .inl (cB, M, .inl (fun j => sb_b (B j))))]) [0, 1] rfl
  have hKc := hK.sub (tys' := [(cB, .byte)]) [0] rfl
  refine tx_si (tx_runS (As := [.ref (y j)]) (rest := []) ⟨hx, hb, hml, hown, hA⟩ (c_D_sevensWidthAtPlace l hL0 D cB (y j) (b j) M B n p hn hp hM hB) (q_D_sevensWidthAtPlace hA k2_89 rfl rfl ⟨(Nat.le_of_ble_eq_true rfl), (Nat.le_of_ble_eq_true rfl)⟩) (oxg_S hPc hKc hG (fun _ _ => rfl)) rfl rfl hl.1 rfl (lv_room (Nat.le_of_ble_eq_true rfl)) d_D_readBlock_19 ⟨(Nat.le_of_ble_eq_true rfl), (Nat.le_of_ble_eq_true rfl)⟩) (fun x9 E9 H9 ht9 hE9 => tx_prop hlocks hce hE9 (Nat.le_refl _) (fun _ _ => rfl) (ht9.elim (fun q9 => Or.inr (Or.inr (⟨q9.1, hs3 q9.2⟩))) (fun q9 => Or.inr (Or.inl (⟨q9.1, hs2 q9.2⟩)))) (fun q h => by cases h)) (fun r19 hr19 => ?_)
  obtain ⟨w, hr19, hgw⟩ := hr19
  obtain ⟨hw1, hw2, hw3, hw4⟩ := gw_ok 10 w (Nat.le_refl _) hgw
  subst hr19
  have hgn : (gw B p n 10).toNat = w := by rw [hgw]; rfl
  refine lv_istore (lv' := [(5, .int (nI w)), (4, .ref (y i)), (3, .ref (y j)), (0, .ref h), (1, .int x), (2, .int t)]) hx hb d_D_readBlock_22 hl (by decide) rfl (fun ls hl => ?_)
  refine lv_aload_n hx hb d_D_readBlock_24 rfl (lv_at hl 2 rfl) ?_
  refine lv_iload hx hb d_D_readBlock_25 (lv_at hl 0 rfl) ?_
  have hPc := hP.sub (ws' := [((y j), .inr (1, [.ref (b j), .int (nI n), .int (nI p)])), ((b j), .inl (cB, M, .inl (fun j => sb_b (B j))))]) [0, 1] rfl
  have hKc := hK.sub (tys' := [(cB, .byte)]) [0] rfl
  refine tx_si (tx_runS (As := [.ref (y j), .int (nI w)]) (rest := []) ⟨hx, hb, hml, hown, hA⟩ (c_D_howManyAtPlace l hL0 D cB (y j) (b j) M B (nI n) p w hw2 (by omega) hM hB (gs_64 hw2 hw4)) (q_D_howManyAtPlace hA k2_134 rfl rfl ⟨(Nat.le_of_ble_eq_true rfl), (Nat.le_of_ble_eq_true rfl)⟩) (oxg_S hPc hKc hG (fun _ _ => rfl)) rfl rfl hl.1 rfl (lv_room (Nat.le_of_ble_eq_true rfl)) d_D_readBlock_27 ⟨(Nat.le_of_ble_eq_true rfl), (Nat.le_of_ble_eq_true rfl)⟩) (fun x9 E9 H9 ht9 hE9 => tx_prop hlocks hce hE9 (Nat.le_refl _) (fun _ _ => rfl) (Or.inr (Or.inl (⟨ht9.1, by unfold spReadBlock gmσ gwσ; simp only [hrj, hri, hρ, hρ2]; rw [if_neg (fun h8 => h8 hir), if_neg hr15, if_neg (by rw [hgw]; omega), if_neg (by rw [hgw]; omega), hgn, if_pos ht9.2]⟩))) (fun q h => by cases h)) (fun r27 hr27 => ?_)
  obtain ⟨hg6, rfl⟩ := hr27
  refine lv_istore (lv' := [(6, .int (nI (gs B p w))), (5, .int (nI w)), (4, .ref (y i)), (3, .ref (y j)), (0, .ref h), (1, .int x), (2, .int t)]) hx hb d_D_readBlock_30 hl (by decide) rfl (fun ls hl => ?_)
  refine lv_aload_n hx hb d_D_readBlock_32 rfl (lv_at hl 3 rfl) ?_
  refine lv_iload hx hb d_D_readBlock_33 (lv_at hl 1 rfl) ?_
  refine lv_iload hx hb d_D_readBlock_35 (lv_at hl 0 rfl) ?_
  refine lv_iadd hx hb d_D_readBlock_37 ?_
  refine lv_topi (fun v37 ev37 => ?_)
  have ev37 : v37 = nI (w + (gs B p w)) := by rw [ev37]; exact nI_add _ _
  subst ev37
  have hPc := hP.sub (ws' := [((y j), .inr (1, [.ref (b j), .int (nI n), .int (nI p)])), ((b j), .inl (cB, M, .inl (fun j => sb_b (B j))))]) [0, 1] rfl
  have hKc := hK.sub (tys' := [(cB, .byte)]) [0] rfl
  refine tx_sv (tx_runS (As := [.ref (y j), .int (nI (w + (gs B p w)))]) (rest := []) ⟨hx, hb, hml, hown, hA⟩ (c_D_needLeft l hL0 D cB (y j) (b j) M B n p hn hM hp (w + (gs B p w)) (by omega)) (q_D_needLeft hA k2_57 rfl rfl ⟨(Nat.le_of_ble_eq_true rfl), (Nat.le_of_ble_eq_true rfl)⟩) (oxg_S hPc hKc hG (fun _ _ => rfl)) rfl rfl hl.1 rfl (lv_room (Nat.le_of_ble_eq_true rfl)) d_D_readBlock_38 ⟨(Nat.le_of_ble_eq_true rfl), (Nat.le_of_ble_eq_true rfl)⟩) (fun x9 E9 H9 ht9 hE9 => tx_prop hlocks hce hE9 (Nat.le_refl _) (fun _ _ => rfl) (Or.inr (Or.inr (⟨ht9.1, by unfold spReadBlock gmσ gwσ; simp only [hrj, hri, hρ, hρ2]; rw [if_neg (fun h8 => h8 hir), if_neg hr15, if_neg (by rw [hgw]; omega), if_neg (by rw [hgw]; omega), hgn, if_neg (Nat.not_lt.mpr hg6), if_pos ht9.2]⟩))) (fun q h => by cases h)) (fun hrl => ?_)
  refine lv_aload_n hx hb d_D_readBlock_41 rfl (lv_at hl 3 rfl) ?_
  refine lv_aload_n hx hb d_D_readBlock_42 rfl (lv_at hl 3 rfl) ?_
  refine va_get (D := D) (ci := 1) (v := .int (nI p)) (C := R_R) (T := F_R) (N := 3) hx hb hA i_R hown hK hP 0 rfl rfl 2 (by decide) (hA _ k1_40) (fun _ h9 => h9) rfl d_D_readBlock_43 ?_
  refine lv_iload hx hb d_D_readBlock_46 (lv_at hl 1 rfl) ?_
  refine lv_iadd hx hb d_D_readBlock_48 ?_
  refine lv_topi (fun v48 ev48 => ?_)
  have ev48 : v48 = nI (p + w) := by rw [ev48]; exact nI_add p w
  subst ev48
  refine lv_iload hx hb d_D_readBlock_49 (lv_at hl 0 rfl) ?_
  refine lv_aload hx hb d_D_readBlock_51 (lv_at hl 2 rfl) ?_
  have hPc := hP.sub (ws' := [((y j), .inr (1, [.ref (b j), .int (nI n), .int (nI p)])), ((b j), .inl (cB, M, .inl (fun j => sb_b (B j)))), ((y i), .inr (1, [.ref (b i), .int (nI n2), .int (nI p2)])), ((b i), .inl (cB, M, .inl (fun j => sb_b (C j))))]) [0, 1, 2, 3] rfl
  have hDc := hD.sub (ws' := [((y j), .inr (1, [.ref (b j), .int (nI n), .int (nI p)])), ((b j), .inl (cB, M, .inl (fun j => sb_b (B j)))), ((y i), .inr (1, [.ref (b i), .int (nI n2), .int (nI p2)])), ((b i), .inl (cB, M, .inl (fun j => sb_b (C j))))]) [0, 1, 2, 3] (by decide) rfl
  have hKc := hK.sub (tys' := [(cB, .byte)]) [0] rfl
  have hFc := va_free (wc := [((y j), .inr (1, [.ref (b j), .int (nI n), .int (nI p)])), ((b j), .inl (cB, M, .inl (fun j => sb_b (B j)))), ((y i), .inr (1, [.ref (b i), .int (nI n2), .int (nI p2)])), ((b i), .inl (cB, M, .inl (fun j => sb_b (C j))))]) hD hS hAq [0, 1, 2, 3] rfl
  refine va_callv (va_runS (As := [.ref (y j), .int (nI (p + w)), .int (nI (gs B p w)), .ref (y i)]) (rest := []) ⟨hx, hb, hml, hown, hA⟩ (c_D_moveBytes l D cB (y j) (b j) (y i) (b i) M B C n p n2 p2 s.heap.size (p + w) (gs B p w) (by omega) hM) (q_D_moveBytes hA k2_139 rfl rfl ⟨(Nat.le_of_ble_eq_true rfl), (Nat.le_of_ble_eq_true rfl)⟩) (oxw_S hPc hKc hDc) rfl rfl hl.1 rfl (lv_room (Nat.le_of_ble_eq_true rfl)) d_D_readBlock_53 ⟨(Nat.le_of_ble_eq_true rfl), (Nat.le_of_ble_eq_true rfl)⟩) hS (fun q _ h => hFc q h) hFc (fun u9 t9 H1 locs ht9 hvm9 hw9 hB9 hz1 hk1 hS => ?_)
  obtain ⟨hP1, hK1, hD1⟩ := hB9
  rw [ht9] at hP1
  obtain ⟨hP, hD⟩ := va_join (wr := [c4_, c5_, c6_, c7_, c8_, c9_]) (w1 := [((y j), .inr (1, [.ref (b j), .int (nI n), .int (nI (p + w + (gs B p w)))])), ((b j), .inl (cB, M, .inl (fun j => sb_b (B j)))), ((y i), .inr (1, [.ref (b i), .int (nI (gs B p w)), .int (nI 0)])), ((b i), .inl (cB, M, .inl (fun j => sb_b ((wr C 0 (gs B p w) (fun i9 => B (p + w + i9))) j))))]) hP hD [0, 1, 2, 3] [4, 5, 6, 7, 8, 9] rfl rfl (by decide) (by decide) hk1 hFc hP1 hD1
  generalize H1 = H at hP hS ⊢
  have hP : va_P D vCl [((y j), .inr (1, [.ref (b j), .int (nI n), .int (nI (p + w + (gs B p w)))])), ((b j), .inl (cB, M, .inl (fun j => sb_b (B j)))), ((y i), .inr (1, [.ref (b i), .int (nI (gs B p w)), .int (nI 0)])), ((b i), .inl (cB, M, .inl (fun j => sb_b ((wr C 0 (gs B p w) (fun i9 => B (p + w + i9))) j)))), c4_, c5_, c6_, c7_, c8_, c9_] H := hP.sub [6, 7, 8, 9, 0, 1, 2, 3, 4, 5] rfl
  have hD : va_D A [((y j), .inr (1, [.ref (b j), .int (nI n), .int (nI (p + w + (gs B p w)))])), ((b j), .inl (cB, M, .inl (fun j => sb_b (B j)))), ((y i), .inr (1, [.ref (b i), .int (nI (gs B p w)), .int (nI 0)])), ((b i), .inl (cB, M, .inl (fun j => sb_b ((wr C 0 (gs B p w) (fun i9 => B (p + w + i9))) j)))), c4_, c5_, c6_, c7_, c8_, c9_] := hD.sub [6, 7, 8, 9, 0, 1, 2, 3, 4, 5] (by decide) rfl
  refine lv_iload hx hb d_D_readBlock_56 (lv_at hl 0 rfl) ?_
  exact tx_ret (W.iret (v := nI (gs B p w)) hx hb hr (fun t ht hW => Or.inl ⟨_, rfl, ⟨⟨_, va_up (va_up σ j (B, n, p + w + (gs B p w))) i (wr C 0 (gs B p w) (fun i9 => B (p + w + i9)), (gs B p w), 0), rfl, (by unfold spReadBlock gmσ gwσ; simp only [hrj, hri, hρ, hρ2]; rw [if_neg (fun h8 => h8 hir), if_neg hr15, if_neg (by rw [hgw]; omega), if_neg (by rw [hgw]; omega), hgn, if_neg (Nat.not_lt.mpr hg6), if_neg (Nat.not_lt.mpr hrl)]; unfold mvσ gmσ gwσ; simp only [hrj, hri, hρ, hρ2]; rw [hgn]), by rw [ht]; exact ho1 (B, n, p + w + (gs B p w)) (wr C 0 (gs B p w) (fun i9 => B (p + w + i9)), (gs B p w), 0) _ hP, va_K.moved hW.alike hK, ho2 (B, n, p + w + (gs B p w)) (wr C 0 (gs B p w) (fun i9 => B (p + w + i9)), (gs B p w), 0) _ hD⟩, hS.F ht⟩⟩) hS.2.2 d_D_readBlock_58)
set_option maxHeartbeats 600000 in
set_option maxRecDepth 100000 in
/-- readFrame -/
theorem c_D_readFrame (l : Launch) (hL0 : l.stackTraces = false) (D : va_G) (cR cB : ClassId) (h ra : Nat) (g : Nat → Option Nat) (M : Nat) (y b : Nat → Nat) (σ : dkS) (sz : Nat) (x t : Int32) (hg : ∀ i, i < 4 → g i = some (y i)) (hσ : dkok M σ) : tx_Met l y_D_readFrame w_D_readFrame ({ frames := 8, cells := 1, slots := 6, locals := 133 }) (va_Pc [.ref h, .int x, .int t] (oxv sz D [(cB, .byte), (cR, .object "PacketDesk$Row")] [(h, .inr (0, [.ref ra])), (ra, .inl (cR, 4, .inr (.inr (.inr (.inr g))))), ((y 0), .inr (1, [.ref (b 0), .int (nI (σ 0).2.1), .int (nI (σ 0).2.2)])), ((b 0), .inl (cB, M, .inl (fun j => sb_b ((σ 0).1 j)))), ((y 1), .inr (1, [.ref (b 1), .int (nI (σ 1).2.1), .int (nI (σ 1).2.2)])), ((b 1), .inl (cB, M, .inl (fun j => sb_b ((σ 1).1 j)))), ((y 2), .inr (1, [.ref (b 2), .int (nI (σ 2).2.1), .int (nI (σ 2).2.2)])), ((b 2), .inl (cB, M, .inl (fun j => sb_b ((σ 2).1 j)))), ((y 3), .inr (1, [.ref (b 3), .int (nI (σ 3).2.1), .int (nI (σ 3).2.2)])), ((b 3), .inl (cB, M, .inl (fun j => sb_b ((σ 3).1 j))))])) (tx_Q (fun E => (E = X_IOOBE ∧ (spReadFrame σ x t).1 = 1) ∨ (E = X_IAE ∧ (spReadFrame σ x t).1 = 2) ∨ (E = X_NSEE ∧ (spReadFrame σ x t).1 = 3) ∨ (E = X_UOE ∧ (spReadFrame σ x t).1 = 4)) (va_Qi (fun r (τ : dkS) => spReadFrame σ x t = (0, r, τ)) (fun τ => ow D [(cB, .byte), (cR, .object "PacketDesk$Row")] (va_A [(h, .inr (0, [.ref ra])), (ra, .inl (cR, 4, .inr (.inr (.inr (.inr g))))), ((y 0), .inr (1, [.ref (b 0), .int (nI (σ 0).2.1), .int (nI (σ 0).2.2)])), ((b 0), .inl (cB, M, .inl (fun j => sb_b ((σ 0).1 j)))), ((y 1), .inr (1, [.ref (b 1), .int (nI (σ 1).2.1), .int (nI (σ 1).2.2)])), ((b 1), .inl (cB, M, .inl (fun j => sb_b ((σ 1).1 j)))), ((y 2), .inr (1, [.ref (b 2), .int (nI (σ 2).2.1), .int (nI (σ 2).2.2)])), ((b 2), .inl (cB, M, .inl (fun j => sb_b ((σ 2).1 j)))), ((y 3), .inr (1, [.ref (b 3), .int (nI (σ 3).2.1), .int (nI (σ 3).2.2)])), ((b 3), .inl (cB, M, .inl (fun j => sb_b ((σ 3).1 j))))] sz) (dk cR cB h ra g M y b τ)) (va_A [(h, .inr (0, [.ref ra])), (ra, .inl (cR, 4, .inr (.inr (.inr (.inr g))))), ((y 0), .inr (1, [.ref (b 0), .int (nI (σ 0).2.1), .int (nI (σ 0).2.2)])), ((b 0), .inl (cB, M, .inl (fun j => sb_b ((σ 0).1 j)))), ((y 1), .inr (1, [.ref (b 1), .int (nI (σ 1).2.1), .int (nI (σ 1).2.2)])), ((b 1), .inl (cB, M, .inl (fun j => sb_b ((σ 1).1 j)))), ((y 2), .inr (1, [.ref (b 2), .int (nI (σ 2).2.1), .int (nI (σ 2).2.2)])), ((b 2), .inl (cB, M, .inl (fun j => sb_b ((σ 2).1 j)))), ((y 3), .inr (1, [.ref (b 3), .int (nI (σ 3).2.1), .int (nI (σ 3).2.2)])), ((b 3), .inl (cB, M, .inl (fun j => sb_b ((σ 3).1 j))))] sz))) 0 0 (va_A [(h, .inr (0, [.ref ra])), (ra, .inl (cR, 4, .inr (.inr (.inr (.inr g))))), ((y 0), .inr (1, [.ref (b 0), .int (nI (σ 0).2.1), .int (nI (σ 0).2.2)])), ((b 0), .inl (cB, M, .inl (fun j => sb_b ((σ 0).1 j)))), ((y 1), .inr (1, [.ref (b 1), .int (nI (σ 1).2.1), .int (nI (σ 1).2.2)])), ((b 1), .inl (cB, M, .inl (fun j => sb_b ((σ 1).1 j)))), ((y 2), .inr (1, [.ref (b 2), .int (nI (σ 2).2.1), .int (nI (σ 2).2.2)])), ((b 2), .inl (cB, M, .inl (fun j => sb_b ((σ 2).1 j)))), ((y 3), .inr (1, [.ref (b 3), .int (nI (σ 3).2.1), .int (nI (σ 3).2.2)])), ((b 3), .inl (cB, M, .inl (fun j => sb_b ((σ 3).1 j))))] sz) := by
  refine tx_ofW (cc := b_D_readFrame) (maxL := 9) (ret := (some .int)) (by decide) rfl ?_
  intro p9 e9 s m args below meth c9 s₁ BL hml hce hadm hv
  obtain ⟨rfl, hsz, hP, hK, hD0, hG⟩ := hv
  have hx := BL.exec
  have hb := BL.bytes
  have hr := BL.returns
  have hts := atoms_spec (ws := w_D_readFrame) BL.pre
  have hA : ∀ w ∈ wsA, w.before _ s = true := fun w h => hts w (List.mem_cons_of_mem _ h)
  have hown : s.vm.findClass R_D = some m.cls := findClass_of_methodNamed BL.named
  have hlocks := BL.notSynchronized
  have htr : e9.platform.stackTraces = false := by rw [hadm.platform]; exact hL0
  subst hsz
  have hD := hD0.self (sz := s.heap.size)
  generalize hAe : va_A [(h, .inr (0, [.ref ra])), (ra, .inl (cR, 4, .inr (.inr (.inr (.inr g))))), ((y 0), .inr (1, [.ref (b 0), .int (nI (σ 0).2.1), .int (nI (σ 0).2.2)])), ((b 0), .inl (cB, M, .inl (fun j => sb_b ((σ 0).1 j)))), ((y 1), .inr (1, [.ref (b 1), .int (nI (σ 1).2.1), .int (nI (σ 1).2.2)])), ((b 1), .inl (cB, M, .inl (fun j => sb_b ((σ 1).1 j)))), ((y 2), .inr (1, [.ref (b 2), .int (nI (σ 2).2.1), .int (nI (σ 2).2.2)])), ((b 2), .inl (cB, M, .inl (fun j => sb_b ((σ 2).1 j)))), ((y 3), .inr (1, [.ref (b 3), .int (nI (σ 3).2.1), .int (nI (σ 3).2.2)])), ((b 3), .inl (cB, M, .inl (fun j => sb_b ((σ 3).1 j))))] s.heap.size = A at hD ⊢
  have hAq : ∀ q : Nat, s.heap.size ≤ q → A q := fun q h => by rw [← hAe]; exact Or.inr h
  have hS : va_S A s.heap s.heap [] := va_S.rf
  have hP : va_P D vCl [(h, .inr (0, [.ref ra])), (ra, .inl (cR, 4, .inr (.inr (.inr (.inr g))))), ((y 0), .inr (1, [.ref (b 0), .int (nI (σ 0).2.1), .int (nI (σ 0).2.2)])), ((b 0), .inl (cB, M, .inl (fun j => sb_b ((σ 0).1 j)))), ((y 1), .inr (1, [.ref (b 1), .int (nI (σ 1).2.1), .int (nI (σ 1).2.2)])), ((b 1), .inl (cB, M, .inl (fun j => sb_b ((σ 1).1 j)))), ((y 2), .inr (1, [.ref (b 2), .int (nI (σ 2).2.1), .int (nI (σ 2).2.2)])), ((b 2), .inl (cB, M, .inl (fun j => sb_b ((σ 2).1 j)))), ((y 3), .inr (1, [.ref (b 3), .int (nI (σ 3).2.1), .int (nI (σ 3).2.2)])), ((b 3), .inl (cB, M, .inl (fun j => sb_b ((σ 3).1 j))))] s.heap := hP
  have hl := lv_entry ([.ref h, .int x, .int t]) (n := 9) (Nat.le_of_ble_eq_true rfl)
  rw [lg_entry_eq]
  generalize (lg_sl ([.ref h, .int x, .int t]) ++ List.replicate (9 - (lg_sl ([.ref h, .int x, .int t])).length) Slot.unset).toArray = ls at hl ⊢
  have hl : lv_has ls 9 [(0, .ref h), (1, .int x), (2, .int t)] := hl
  refine lv_aload_n hx hb d_D_readFrame_0 rfl (lv_at hl 0 rfl) ?_
  refine lv_iload_n hx hb d_D_readFrame_1 rfl (lv_at hl 1 rfl) ?_
  have hPc := hP.sub (ws' := [(h, .inr (0, [.ref ra])), (ra, .inl (cR, 4, .inr (.inr (.inr (.inr g)))))]) [0, 1] rfl
  have hKc := hK.sub (tys' := [(cR, .object "PacketDesk$Row")]) [1] rfl
  refine tx_sr (tx_runV (As := [.int x]) (rest := []) ⟨hx, hb, hml, hown, hA⟩ (c_D_rowOf l hL0 D cR h ra g y hg x) (q_D_rowOf hA k1_66 rfl rfl ⟨(Nat.le_of_ble_eq_true rfl), (Nat.le_of_ble_eq_true rfl)⟩) (ox_V (va_recv hKc hPc (ci := 0) (q0 := 0) rfl rfl) (oxg_S hPc hKc hG (fun _ _ => rfl))) rfl rfl hl.1 rfl (lv_room (Nat.le_of_ble_eq_true rfl)) d_D_readFrame_2 ⟨(Nat.le_of_ble_eq_true rfl), (Nat.le_of_ble_eq_true rfl)⟩) (fun x9 E9 H9 ht9 hE9 => tx_prop hlocks hce hE9 (Nat.le_refl _) (fun _ _ => rfl) (Or.inl (⟨ht9.1, by unfold spReadFrame; rw [if_pos (fun h9 => ht9.2 h9.1)]⟩)) (fun q h => by cases h)) (fun j hj => ?_)
  obtain ⟨hj, hxj⟩ := hj
  refine lv_astore_n (lv' := [(3, .ref (y j)), (0, .ref h), (1, .int x), (2, .int t)]) hx hb d_D_readFrame_5 rfl hl (by decide) rfl (fun ls hl => ?_)
  refine lv_aload_n hx hb d_D_readFrame_6 rfl (lv_at hl 1 rfl) ?_
  refine lv_iload_n hx hb d_D_readFrame_7 rfl (lv_at hl 3 rfl) ?_
  have hPc := hP.sub (ws' := [(h, .inr (0, [.ref ra])), (ra, .inl (cR, 4, .inr (.inr (.inr (.inr g)))))]) [0, 1] rfl
  have hKc := hK.sub (tys' := [(cR, .object "PacketDesk$Row")]) [1] rfl
  refine tx_sr (tx_runV (As := [.int t]) (rest := []) ⟨hx, hb, hml, hown, hA⟩ (c_D_rowOf l hL0 D cR h ra g y hg t) (q_D_rowOf hA k1_66 rfl rfl ⟨(Nat.le_of_ble_eq_true rfl), (Nat.le_of_ble_eq_true rfl)⟩) (ox_V (va_recv hKc hPc (ci := 0) (q0 := 0) rfl rfl) (oxg_S hPc hKc hG (fun _ _ => rfl))) rfl rfl hl.1 rfl (lv_room (Nat.le_of_ble_eq_true rfl)) d_D_readFrame_8 ⟨(Nat.le_of_ble_eq_true rfl), (Nat.le_of_ble_eq_true rfl)⟩) (fun x9 E9 H9 ht9 hE9 => tx_prop hlocks hce hE9 (Nat.le_refl _) (fun _ _ => rfl) (Or.inl (⟨ht9.1, by unfold spReadFrame; rw [if_pos (fun h9 => ht9.2 h9.2)]⟩)) (fun q h => by cases h)) (fun i hi => ?_)
  obtain ⟨hi, hxi⟩ := hi
  refine lv_astore (lv' := [(4, .ref (y i)), (3, .ref (y j)), (0, .ref h), (1, .int x), (2, .int t)]) hx hb d_D_readFrame_11 hl (by decide) rfl (fun ls hl => ?_)
  refine lv_iload_n hx hb d_D_readFrame_13 rfl (lv_at hl 3 rfl) ?_
  refine lv_iload_n hx hb d_D_readFrame_14 rfl (lv_at hl 4 rfl) ?_
  have hir : isR x ∧ isR t := ⟨by rw [hxj]; exact isR_n hj, by rw [hxi]; exact isR_n hi⟩
  refine tx_sv (tx_runS (As := [.int x, .int t]) (rest := []) ⟨hx, hb, hml, hown, hA⟩ (c_D_needTwoRows l hL0 x t) (q_D_needTwoRows hA k2_130 rfl rfl ⟨(Nat.le_of_ble_eq_true rfl), (Nat.le_of_ble_eq_true rfl)⟩) (g_S hG (fun _ _ => rfl)) rfl rfl hl.1 rfl (lv_room (Nat.le_of_ble_eq_true rfl)) d_D_readFrame_15 ⟨(Nat.le_of_ble_eq_true rfl), (Nat.le_of_ble_eq_true rfl)⟩) (fun x9 E9 H9 ht9 hE9 => tx_prop hlocks hce hE9 (Nat.le_refl _) (fun _ _ => rfl) (Or.inr (Or.inl (⟨ht9.1, by unfold spReadFrame; rw [if_neg (fun h8 => h8 hir), if_pos ht9.2]⟩))) (fun q h => by cases h)) (fun hr15 => ?_)
  have hji : ¬ j = i := fun q9 => hr15 (by rw [hxj, hxi, q9])
  obtain ⟨c4_, c5_, c6_, c7_, c8_, c9_, hi1, hi2, ho1, ho2⟩ := dk_2 D vCl cR cB h ra g M y b σ hj hi hji
  have hP : va_P D vCl [(y j, .inr (1, [.ref (b j), .int (nI (σ j).2.1), .int (nI (σ j).2.2)])), (b j, .inl (cB, M, .inl (fun j9 => sb_b ((σ j).1 j9)))), (y i, .inr (1, [.ref (b i), .int (nI (σ i).2.1), .int (nI (σ i).2.2)])), (b i, .inl (cB, M, .inl (fun j9 => sb_b ((σ i).1 j9)))), c4_, c5_, c6_, c7_, c8_, c9_] s.heap := hi1 _ hP
  have hD : va_D A [(y j, .inr (1, [.ref (b j), .int (nI (σ j).2.1), .int (nI (σ j).2.2)])), (b j, .inl (cB, M, .inl (fun j9 => sb_b ((σ j).1 j9)))), (y i, .inr (1, [.ref (b i), .int (nI (σ i).2.1), .int (nI (σ i).2.2)])), (b i, .inl (cB, M, .inl (fun j9 => sb_b ((σ i).1 j9)))), c4_, c5_, c6_, c7_, c8_, c9_] := hi2 _ hD
  obtain ⟨⟨B, n, p⟩, hρ⟩ : ∃ ρ, σ j = ρ := ⟨_, rfl⟩
  obtain ⟨⟨C, n2, p2⟩, hρ2⟩ : ∃ ρ, σ i = ρ := ⟨_, rfl⟩
  have hk := hσ.2 j hj
  have hk2 := hσ.2 i hi
  have hM := hσ.1
  rw [hρ] at hk
  rw [hρ2] at hk2
  rw [hρ, hρ2] at hP hD
  obtain ⟨hp, hn, hB⟩ := hk
  have hp : p ≤ n := hp
  have hn : n ≤ M := hn
  have hB : ∀ j, B j < 256 := hB
  obtain ⟨hp2, hn2, hB2⟩ := hk2
  have hp2 : p2 ≤ n2 := hp2
  have hn2 : n2 ≤ M := hn2
  have hB2 : ∀ j, C j < 256 := hB2
  have hP : va_P D vCl [((y j), .inr (1, [.ref (b j), .int (nI n), .int (nI p)])), ((b j), .inl (cB, M, .inl (fun j => sb_b (B j)))), ((y i), .inr (1, [.ref (b i), .int (nI n2), .int (nI p2)])), ((b i), .inl (cB, M, .inl (fun j => sb_b (C j)))), c4_, c5_, c6_, c7_, c8_, c9_] s.heap := hP
  have hD : va_D A [((y j), .inr (1, [.ref (b j), .int (nI n), .int (nI p)])), ((b j), .inl (cB, M, .inl (fun j => sb_b (B j)))), ((y i), .inr (1, [.ref (b i), .int (nI n2), .int (nI p2)])), ((b i), .inl (cB, M, .inl (fun j => sb_b (C j)))), c4_, c5_, c6_, c7_, c8_, c9_] := hD
  have hrj : rj x = j := by rw [hxj]; exact rj_n hj
  have hri : rj t = i := by rw [hxi]; exact rj_n hi
  have hir : isR x ∧ isR t := ⟨by rw [hxj]; exact isR_n hj, by rw [hxi]; exact isR_n hi⟩
  refine lv_aload_n hx hb d_D_readFrame_18 rfl (lv_at hl 1 rfl) ?_
  have hs2 : gw B p n 10 = -2 → (spReadFrame σ x t).1 = 2 := fun h9 => by unfold spReadFrame gmσ gwσ; simp only [hrj, hri, hρ, hρ2]; rw [if_neg (fun h8 => h8 hir), if_neg hr15, if_pos h9]
  have hs3 : gw B p n 10 = -3 → (spReadFrame σ x t).1 = 3 := fun h9 => by unfold spReadFrame gmσ gwσ; simp only [hrj, hri, hρ, hρ2]; rw [if_neg (fun h8 => h8 hir), if_neg hr15, if_neg (by rw [h9]; decide), if_pos h9]
  have hPc := hP.sub (ws' := [((y j), .inr (1, [.ref (b j), .int (nI n), .int (nI p)])), ((b j), .inl (cB, M, .inl (fun j => sb_b (B j))))]) [0, 1] rfl
  have hKc := hK.sub (tys' := [(cB, .byte)]) [0] rfl
  refine tx_si (tx_runS (As := [.ref (y j)]) (rest := []) ⟨hx, hb, hml, hown, hA⟩ (c_D_sevensWidthAtPlace l hL0 D cB (y j) (b j) M B n p hn hp hM hB) (q_D_sevensWidthAtPlace hA k2_89 rfl rfl ⟨(Nat.le_of_ble_eq_true rfl), (Nat.le_of_ble_eq_true rfl)⟩) (oxg_S hPc hKc hG (fun _ _ => rfl)) rfl rfl hl.1 rfl (lv_room (Nat.le_of_ble_eq_true rfl)) d_D_readFrame_19 ⟨(Nat.le_of_ble_eq_true rfl), (Nat.le_of_ble_eq_true rfl)⟩) (fun x9 E9 H9 ht9 hE9 => tx_prop hlocks hce hE9 (Nat.le_refl _) (fun _ _ => rfl) (ht9.elim (fun q9 => Or.inr (Or.inr (Or.inl (⟨q9.1, hs3 q9.2⟩)))) (fun q9 => Or.inr (Or.inl (⟨q9.1, hs2 q9.2⟩)))) (fun q h => by cases h)) (fun r19 hr19 => ?_)
  obtain ⟨w, hr19, hgw⟩ := hr19
  obtain ⟨hw1, hw2, hw3, hw4⟩ := gw_ok 10 w (Nat.le_refl _) hgw
  subst hr19
  have hgn : (gw B p n 10).toNat = w := by rw [hgw]; rfl
  refine lv_istore (lv' := [(5, .int (nI w)), (4, .ref (y i)), (3, .ref (y j)), (0, .ref h), (1, .int x), (2, .int t)]) hx hb d_D_readFrame_22 hl (by decide) rfl (fun ls hl => ?_)
  refine lv_aload_n hx hb d_D_readFrame_24 rfl (lv_at hl 2 rfl) ?_
  refine lv_iload hx hb d_D_readFrame_25 (lv_at hl 0 rfl) ?_
  have hPc := hP.sub (ws' := [((y j), .inr (1, [.ref (b j), .int (nI n), .int (nI p)])), ((b j), .inl (cB, M, .inl (fun j => sb_b (B j))))]) [0, 1] rfl
  have hKc := hK.sub (tys' := [(cB, .byte)]) [0] rfl
  refine tx_si (tx_runS (As := [.ref (y j), .int (nI w)]) (rest := []) ⟨hx, hb, hml, hown, hA⟩ (c_D_howManyAtPlace l hL0 D cB (y j) (b j) M B (nI n) p w hw2 (by omega) hM hB (gs_64 hw2 hw4)) (q_D_howManyAtPlace hA k2_134 rfl rfl ⟨(Nat.le_of_ble_eq_true rfl), (Nat.le_of_ble_eq_true rfl)⟩) (oxg_S hPc hKc hG (fun _ _ => rfl)) rfl rfl hl.1 rfl (lv_room (Nat.le_of_ble_eq_true rfl)) d_D_readFrame_27 ⟨(Nat.le_of_ble_eq_true rfl), (Nat.le_of_ble_eq_true rfl)⟩) (fun x9 E9 H9 ht9 hE9 => tx_prop hlocks hce hE9 (Nat.le_refl _) (fun _ _ => rfl) (Or.inr (Or.inl (⟨ht9.1, by unfold spReadFrame gmσ gwσ; simp only [hrj, hri, hρ, hρ2]; rw [if_neg (fun h8 => h8 hir), if_neg hr15, if_neg (by rw [hgw]; omega), if_neg (by rw [hgw]; omega), hgn, if_pos ht9.2]⟩))) (fun q h => by cases h)) (fun r27 hr27 => ?_)
  obtain ⟨hg6, rfl⟩ := hr27
  refine lv_istore (lv' := [(6, .int (nI (gs B p w))), (5, .int (nI w)), (4, .ref (y i)), (3, .ref (y j)), (0, .ref h), (1, .int x), (2, .int t)]) hx hb d_D_readFrame_30 hl (by decide) rfl (fun ls hl => ?_)
  refine lv_iload hx hb d_D_readFrame_32 (lv_at hl 1 rfl) ?_
  refine lv_iconst (v := 4) hx hb d_D_readFrame_34 (by decide) ?_
  refine lv_iadd hx hb d_D_readFrame_35 ?_
  refine lv_topi (fun v35 ev35 => ?_)
  have ev35 : v35 = nI (w + 4) := by rw [ev35]; exact nI_add w 4
  subst ev35
  refine lv_istore (lv' := [(7, .int (nI (w + 4))), (6, .int (nI (gs B p w))), (5, .int (nI w)), (4, .ref (y i)), (3, .ref (y j)), (0, .ref h), (1, .int x), (2, .int t)]) hx hb d_D_readFrame_36 hl (by decide) rfl (fun ls hl => ?_)
  refine lv_aload_n hx hb d_D_readFrame_38 rfl (lv_at hl 4 rfl) ?_
  refine lv_iload hx hb d_D_readFrame_39 (lv_at hl 0 rfl) ?_
  refine lv_iload hx hb d_D_readFrame_41 (lv_at hl 1 rfl) ?_
  refine lv_iadd hx hb d_D_readFrame_43 ?_
  refine lv_topi (fun v43 ev43 => ?_)
  have ev43 : v43 = nI (w + 4 + (gs B p w)) := by rw [ev43]; exact nI_add _ _
  subst ev43
  have hPc := hP.sub (ws' := [((y j), .inr (1, [.ref (b j), .int (nI n), .int (nI p)])), ((b j), .inl (cB, M, .inl (fun j => sb_b (B j))))]) [0, 1] rfl
  have hKc := hK.sub (tys' := [(cB, .byte)]) [0] rfl
  refine tx_sv (tx_runS (As := [.ref (y j), .int (nI (w + 4 + (gs B p w)))]) (rest := []) ⟨hx, hb, hml, hown, hA⟩ (c_D_needLeft l hL0 D cB (y j) (b j) M B n p hn hM hp ((w + 4) + (gs B p w)) (by omega)) (q_D_needLeft hA k2_57 rfl rfl ⟨(Nat.le_of_ble_eq_true rfl), (Nat.le_of_ble_eq_true rfl)⟩) (oxg_S hPc hKc hG (fun _ _ => rfl)) rfl rfl hl.1 rfl (lv_room (Nat.le_of_ble_eq_true rfl)) d_D_readFrame_44 ⟨(Nat.le_of_ble_eq_true rfl), (Nat.le_of_ble_eq_true rfl)⟩) (fun x9 E9 H9 ht9 hE9 => tx_prop hlocks hce hE9 (Nat.le_refl _) (fun _ _ => rfl) (Or.inr (Or.inr (Or.inl (⟨ht9.1, by unfold spReadFrame gmσ gwσ; simp only [hrj, hri, hρ, hρ2]; rw [if_neg (fun h8 => h8 hir), if_neg hr15, if_neg (by rw [hgw]; omega), if_neg (by rw [hgw]; omega), hgn, if_neg (Nat.not_lt.mpr hg6), if_pos ht9.2]⟩)))) (fun q h => by cases h)) (fun hrl => ?_)
  refine lv_aload_n hx hb d_D_readFrame_47 rfl (lv_at hl 4 rfl) ?_
  refine lv_aload_n hx hb d_D_readFrame_48 rfl (lv_at hl 4 rfl) ?_
  refine va_get (D := D) (ci := 1) (v := .int (nI p)) (C := R_R) (T := F_R) (N := 3) hx hb hA i_R hown hK hP 0 rfl rfl 2 (by decide) (hA _ k1_40) (fun _ h9 => h9) rfl d_D_readFrame_49 ?_
  refine lv_iload hx hb d_D_readFrame_52 (lv_at hl 2 rfl) ?_
  refine lv_iadd hx hb d_D_readFrame_54 ?_
  refine lv_topi (fun v54 ev54 => ?_)
  have ev54 : v54 = nI (p + w) := by rw [ev54]; exact nI_add p w
  subst ev54
  refine lv_iconst (v := 4) hx hb d_D_readFrame_55 (by decide) ?_
  refine lv_topi (fun v55 ev55 => ?_)
  have ev55 : v55 = nI 4 := by rw [ev55]; rfl
  subst ev55
  have hPc := hP.sub (ws' := [((y j), .inr (1, [.ref (b j), .int (nI n), .int (nI p)])), ((b j), .inl (cB, M, .inl (fun j => sb_b (B j))))]) [0, 1] rfl
  have hKc := hK.sub (tys' := [(cB, .byte)]) [0] rfl
  refine vp_callSl (W.runS (As := [.ref (y j), .int (nI (p + w)), .int (nI 4)]) (rest := []) ⟨hx, hb, hml, hown, hA⟩ (c_D_fixedAt l D cB (y j) (b j) M B (nI n) (nI p) (p + w) 4 (by omega) (by omega) hM hB) (q_D_fixedAt hA k2_76 rfl rfl ⟨(Nat.le_of_ble_eq_true rfl), (Nat.le_of_ble_eq_true rfl)⟩) (ox_S hPc hKc) rfl rfl hl.1 rfl (lv_room (Nat.le_of_ble_eq_true rfl)) d_D_readFrame_56 ⟨(Nat.le_of_ble_eq_true rfl), (Nat.le_of_ble_eq_true rfl)⟩) (fun r56 hr56 => ?_)
  have er56 : r56 = lN (fx B (p + w) 4) := hr56
  subst er56
  refine lv_l2i hx hb d_D_readFrame_59 rfl ?_
  refine lv_topi (fun v59 ev59 => ?_)
  subst ev59
  refine lv_istore (lv' := [(8, .int ((lN (fx B (p + w) 4)).toInt32)), (7, .int (nI (w + 4))), (6, .int (nI (gs B p w))), (5, .int (nI w)), (4, .ref (y i)), (3, .ref (y j)), (0, .ref h), (1, .int x), (2, .int t)]) hx hb d_D_readFrame_60 hl (by decide) rfl (fun ls hl => ?_)
  refine lv_iload hx hb d_D_readFrame_62 (lv_at hl 0 rfl) ?_
  refine lv_aload_n hx hb d_D_readFrame_64 rfl (lv_at hl 5 rfl) ?_
  refine lv_aload_n hx hb d_D_readFrame_65 rfl (lv_at hl 5 rfl) ?_
  refine va_get (D := D) (ci := 1) (v := .int (nI p)) (C := R_R) (T := F_R) (N := 3) hx hb hA i_R hown hK hP 0 rfl rfl 2 (by decide) (hA _ k1_40) (fun _ h9 => h9) rfl d_D_readFrame_66 ?_
  refine lv_iload hx hb d_D_readFrame_69 (lv_at hl 1 rfl) ?_
  refine lv_iadd hx hb d_D_readFrame_71 ?_
  refine lv_topi (fun v71 ev71 => ?_)
  have ev71 : v71 = nI (p + (w + 4)) := by rw [ev71]; exact nI_add p _
  subst ev71
  refine lv_iload hx hb d_D_readFrame_72 (lv_at hl 2 rfl) ?_
  have hPc := hP.sub (ws' := [((y j), .inr (1, [.ref (b j), .int (nI n), .int (nI p)])), ((b j), .inl (cB, M, .inl (fun j => sb_b (B j))))]) [0, 1] rfl
  have hKc := hK.sub (tys' := [(cB, .byte)]) [0] rfl
  refine vp_callSi (W.runS (As := [.ref (y j), .int (nI (p + (w + 4))), .int (nI (gs B p w))]) (rest := [.int ((lN (fx B (p + w) 4)).toInt32)]) ⟨hx, hb, hml, hown, hA⟩ (c_D_sumOf l D cB (y j) (b j) M B (nI n) (nI p) (p + (w + 4)) (gs B p w) (by omega) hM hB) (q_D_sumOf hA k2_18 rfl rfl ⟨(Nat.le_of_ble_eq_true rfl), (Nat.le_of_ble_eq_true rfl)⟩) (ox_S hPc hKc) rfl rfl hl.1 rfl (lv_room (Nat.le_of_ble_eq_true rfl)) d_D_readFrame_74 ⟨(Nat.le_of_ble_eq_true rfl), (Nat.le_of_ble_eq_true rfl)⟩) (fun r74 hr74 => ?_)
  have er74 : r74 = smb B (p + (w + 4)) (gs B p w) := hr74
  subst er74
  refine lv_icmp_eq (tgt := 90) hx hb d_D_readFrame_77 (by decide) (fun c77 => ?_) (fun c77 => ?_)
  · refine lv_aload_n hx hb d_D_readFrame_90 rfl (lv_at hl 5 rfl) ?_
    refine lv_aload_n hx hb d_D_readFrame_91 rfl (lv_at hl 5 rfl) ?_
    refine va_get (D := D) (ci := 1) (v := .int (nI p)) (C := R_R) (T := F_R) (N := 3) hx hb hA i_R hown hK hP 0 rfl rfl 2 (by decide) (hA _ k1_40) (fun _ h9 => h9) rfl d_D_readFrame_92 ?_
    refine lv_iload hx hb d_D_readFrame_95 (lv_at hl 1 rfl) ?_
    refine lv_iadd hx hb d_D_readFrame_97 ?_
    refine lv_topi (fun v97 ev97 => ?_)
    have ev97 : v97 = nI (p + (w + 4)) := by rw [ev97]; exact nI_add p _
    subst ev97
    refine lv_iload hx hb d_D_readFrame_98 (lv_at hl 2 rfl) ?_
    refine lv_aload hx hb d_D_readFrame_100 (lv_at hl 4 rfl) ?_
    have hPc := hP.sub (ws' := [((y j), .inr (1, [.ref (b j), .int (nI n), .int (nI p)])), ((b j), .inl (cB, M, .inl (fun j => sb_b (B j)))), ((y i), .inr (1, [.ref (b i), .int (nI n2), .int (nI p2)])), ((b i), .inl (cB, M, .inl (fun j => sb_b (C j))))]) [0, 1, 2, 3] rfl
    have hDc := hD.sub (ws' := [((y j), .inr (1, [.ref (b j), .int (nI n), .int (nI p)])), ((b j), .inl (cB, M, .inl (fun j => sb_b (B j)))), ((y i), .inr (1, [.ref (b i), .int (nI n2), .int (nI p2)])), ((b i), .inl (cB, M, .inl (fun j => sb_b (C j))))]) [0, 1, 2, 3] (by decide) rfl
    have hKc := hK.sub (tys' := [(cB, .byte)]) [0] rfl
    have hFc := va_free (wc := [((y j), .inr (1, [.ref (b j), .int (nI n), .int (nI p)])), ((b j), .inl (cB, M, .inl (fun j => sb_b (B j)))), ((y i), .inr (1, [.ref (b i), .int (nI n2), .int (nI p2)])), ((b i), .inl (cB, M, .inl (fun j => sb_b (C j))))]) hD hS hAq [0, 1, 2, 3] rfl
    refine va_callv (va_runS (As := [.ref (y j), .int (nI (p + (w + 4))), .int (nI (gs B p w)), .ref (y i)]) (rest := []) ⟨hx, hb, hml, hown, hA⟩ (c_D_moveBytes l D cB (y j) (b j) (y i) (b i) M B C n p n2 p2 s.heap.size (p + (w + 4)) (gs B p w) (by omega) hM) (q_D_moveBytes hA k2_139 rfl rfl ⟨(Nat.le_of_ble_eq_true rfl), (Nat.le_of_ble_eq_true rfl)⟩) (oxw_S hPc hKc hDc) rfl rfl hl.1 rfl (lv_room (Nat.le_of_ble_eq_true rfl)) d_D_readFrame_102 ⟨(Nat.le_of_ble_eq_true rfl), (Nat.le_of_ble_eq_true rfl)⟩) hS (fun q _ h => hFc q h) hFc (fun u9 t9 H1 locs ht9 hvm9 hw9 hB9 hz1 hk1 hS => ?_)
    obtain ⟨hP1, hK1, hD1⟩ := hB9
    rw [ht9] at hP1
    obtain ⟨hP, hD⟩ := va_join (wr := [c4_, c5_, c6_, c7_, c8_, c9_]) (w1 := [((y j), .inr (1, [.ref (b j), .int (nI n), .int (nI (p + (w + 4) + (gs B p w)))])), ((b j), .inl (cB, M, .inl (fun j => sb_b (B j)))), ((y i), .inr (1, [.ref (b i), .int (nI (gs B p w)), .int (nI 0)])), ((b i), .inl (cB, M, .inl (fun j => sb_b ((wr C 0 (gs B p w) (fun i9 => B (p + (w + 4) + i9))) j))))]) hP hD [0, 1, 2, 3] [4, 5, 6, 7, 8, 9] rfl rfl (by decide) (by decide) hk1 hFc hP1 hD1
    generalize H1 = H at hP hS ⊢
    have hP : va_P D vCl [((y j), .inr (1, [.ref (b j), .int (nI n), .int (nI (p + (w + 4) + (gs B p w)))])), ((b j), .inl (cB, M, .inl (fun j => sb_b (B j)))), ((y i), .inr (1, [.ref (b i), .int (nI (gs B p w)), .int (nI 0)])), ((b i), .inl (cB, M, .inl (fun j => sb_b ((wr C 0 (gs B p w) (fun i9 => B (p + (w + 4) + i9))) j)))), c4_, c5_, c6_, c7_, c8_, c9_] H := hP.sub [6, 7, 8, 9, 0, 1, 2, 3, 4, 5] rfl
    have hD : va_D A [((y j), .inr (1, [.ref (b j), .int (nI n), .int (nI (p + (w + 4) + (gs B p w)))])), ((b j), .inl (cB, M, .inl (fun j => sb_b (B j)))), ((y i), .inr (1, [.ref (b i), .int (nI (gs B p w)), .int (nI 0)])), ((b i), .inl (cB, M, .inl (fun j => sb_b ((wr C 0 (gs B p w) (fun i9 => B (p + (w + 4) + i9))) j)))), c4_, c5_, c6_, c7_, c8_, c9_] := hD.sub [6, 7, 8, 9, 0, 1, 2, 3, 4, 5] (by decide) rfl
    refine lv_iload hx hb d_D_readFrame_105 (lv_at hl 2 rfl) ?_
    exact tx_ret (W.iret (v := nI (gs B p w)) hx hb hr (fun t ht hW => Or.inl ⟨_, rfl, ⟨⟨_, va_up (va_up σ j (B, n, p + (w + 4) + (gs B p w))) i (wr C 0 (gs B p w) (fun i9 => B (p + (w + 4) + i9)), (gs B p w), 0), rfl, (by unfold spReadFrame gmσ gwσ; simp only [hrj, hri, hρ, hρ2]; rw [if_neg (fun h8 => h8 hir), if_neg hr15, if_neg (by rw [hgw]; omega), if_neg (by rw [hgw]; omega), hgn, if_neg (Nat.not_lt.mpr hg6), if_neg (Nat.not_lt.mpr hrl), if_neg (fun h8 => h8 c77)]; unfold mvσ gmσ gwσ; simp only [hrj, hri, hρ, hρ2]; rw [hgn]), by rw [ht]; exact ho1 (B, n, p + (w + 4) + (gs B p w)) (wr C 0 (gs B p w) (fun i9 => B (p + (w + 4) + i9)), (gs B p w), 0) _ hP, va_K.moved hW.alike hK, ho2 (B, n, p + (w + 4) + (gs B p w)) (wr C 0 (gs B p w) (fun i9 => B (p + (w + 4) + i9)), (gs B p w), 0) _ hD⟩, hS.F ht⟩⟩) hS.2.2 d_D_readFrame_107)
  · exact th_UOE hx hb hml hlocks hce htr hown hA hG hl.1 (Nat.le_of_ble_eq_true rfl) (tx := "the sum is another one") (by decide) d_D_readFrame_80 d_D_readFrame_83 d_D_readFrame_84 d_D_readFrame_86 d_D_readFrame_89 (Nat.le_of_ble_eq_true rfl) (Nat.le_of_ble_eq_true rfl) (Nat.le_of_ble_eq_true rfl) (Nat.le_of_ble_eq_true rfl) (by exact Or.inr (Or.inr (Or.inr (⟨rfl, by unfold spReadFrame gmσ gwσ; simp only [hrj, hri, hρ, hρ2]; rw [if_neg (fun h8 => h8 hir), if_neg hr15, if_neg (by rw [hgw]; omega), if_neg (by rw [hgw]; omega), hgn, if_neg (Nat.not_lt.mpr hg6), if_neg (Nat.not_lt.mpr hrl), if_pos c77]⟩))))
set_option maxHeartbeats 600000 in
set_option maxRecDepth 100000 in
/-- same -/
theorem c_D_same (l : Launch) (hL0 : l.stackTraces = false) (D : va_G) (cR cB : ClassId) (h ra : Nat) (g : Nat → Option Nat) (M : Nat) (y b : Nat → Nat) (σ : dkS) (x f : Int32) (hg : ∀ i, i < 4 → g i = some (y i)) (hσ : dkok M σ) : tx_Met l y_D_same w_D_same ({ frames := 7, cells := 1, slots := 6, locals := 111 }) (va_Pc [.ref h, .int x, .int f] (oxg D [(cB, .byte), (cR, .object "PacketDesk$Row")] [(h, .inr (0, [.ref ra])), (ra, .inl (cR, 4, .inr (.inr (.inr (.inr g))))), ((y 0), .inr (1, [.ref (b 0), .int (nI (σ 0).2.1), .int (nI (σ 0).2.2)])), ((b 0), .inl (cB, M, .inl (fun j => sb_b ((σ 0).1 j)))), ((y 1), .inr (1, [.ref (b 1), .int (nI (σ 1).2.1), .int (nI (σ 1).2.2)])), ((b 1), .inl (cB, M, .inl (fun j => sb_b ((σ 1).1 j)))), ((y 2), .inr (1, [.ref (b 2), .int (nI (σ 2).2.1), .int (nI (σ 2).2.2)])), ((b 2), .inl (cB, M, .inl (fun j => sb_b ((σ 2).1 j)))), ((y 3), .inr (1, [.ref (b 3), .int (nI (σ 3).2.1), .int (nI (σ 3).2.2)])), ((b 3), .inl (cB, M, .inl (fun j => sb_b ((σ 3).1 j))))])) (tx_Q (fun E => (E = X_IOOBE ∧ (spSame σ x f).1 = 1)) (vp_Si (fun r => spSame σ x f = (0, r, σ)))) 0 0 (fun _ => False) := by
  refine tx_ofW (cc := b_D_same) (maxL := 6) (ret := (some .boolean)) (by decide) rfl ?_
  intro p9 e9 s m args below meth c9 s₁ BL hml hce hadm hv
  obtain ⟨rfl, hP, hK, hG⟩ := hv
  have hx := BL.exec
  have hb := BL.bytes
  have hr := BL.returns
  have hts := atoms_spec (ws := w_D_same) BL.pre
  have hA : ∀ w ∈ wsA, w.before _ s = true := fun w h => hts w (List.mem_cons_of_mem _ h)
  have hown : s.vm.findClass R_D = some m.cls := findClass_of_methodNamed BL.named
  have hlocks := BL.notSynchronized
  have htr : e9.platform.stackTraces = false := by rw [hadm.platform]; exact hL0
  have hP : va_P D vCl [(h, .inr (0, [.ref ra])), (ra, .inl (cR, 4, .inr (.inr (.inr (.inr g))))), ((y 0), .inr (1, [.ref (b 0), .int (nI (σ 0).2.1), .int (nI (σ 0).2.2)])), ((b 0), .inl (cB, M, .inl (fun j => sb_b ((σ 0).1 j)))), ((y 1), .inr (1, [.ref (b 1), .int (nI (σ 1).2.1), .int (nI (σ 1).2.2)])), ((b 1), .inl (cB, M, .inl (fun j => sb_b ((σ 1).1 j)))), ((y 2), .inr (1, [.ref (b 2), .int (nI (σ 2).2.1), .int (nI (σ 2).2.2)])), ((b 2), .inl (cB, M, .inl (fun j => sb_b ((σ 2).1 j)))), ((y 3), .inr (1, [.ref (b 3), .int (nI (σ 3).2.1), .int (nI (σ 3).2.2)])), ((b 3), .inl (cB, M, .inl (fun j => sb_b ((σ 3).1 j))))] s.heap := hP
  have hl := lv_entry ([.ref h, .int x, .int f]) (n := 6) (Nat.le_of_ble_eq_true rfl)
  rw [lg_entry_eq]
  generalize (lg_sl ([.ref h, .int x, .int f]) ++ List.replicate (6 - (lg_sl ([.ref h, .int x, .int f])).length) Slot.unset).toArray = ls at hl ⊢
  have hl : lv_has ls 6 [(0, .ref h), (1, .int x), (2, .int f)] := hl
  refine lv_aload_n hx hb d_D_same_0 rfl (lv_at hl 0 rfl) ?_
  refine lv_iload_n hx hb d_D_same_1 rfl (lv_at hl 1 rfl) ?_
  have hPc := hP.sub (ws' := [(h, .inr (0, [.ref ra])), (ra, .inl (cR, 4, .inr (.inr (.inr (.inr g)))))]) [0, 1] rfl
  have hKc := hK.sub (tys' := [(cR, .object "PacketDesk$Row")]) [1] rfl
  refine tx_sr (tx_runV (As := [.int x]) (rest := []) ⟨hx, hb, hml, hown, hA⟩ (c_D_rowOf l hL0 D cR h ra g y hg x) (q_D_rowOf hA k1_66 rfl rfl ⟨(Nat.le_of_ble_eq_true rfl), (Nat.le_of_ble_eq_true rfl)⟩) (ox_V (va_recv hKc hPc (ci := 0) (q0 := 0) rfl rfl) (oxg_S hPc hKc hG (fun _ _ => rfl))) rfl rfl hl.1 rfl (lv_room (Nat.le_of_ble_eq_true rfl)) d_D_same_2 ⟨(Nat.le_of_ble_eq_true rfl), (Nat.le_of_ble_eq_true rfl)⟩) (fun x9 E9 H9 ht9 hE9 => tx_prop hlocks hce hE9 (Nat.le_refl _) (fun _ _ => rfl) (⟨ht9.1, by unfold spSame; rw [if_pos (fun h9 => ht9.2 h9.1)]⟩) (fun q h => by cases h)) (fun j hj => ?_)
  obtain ⟨hj, hxj⟩ := hj
  refine lv_astore_n (lv' := [(3, .ref (y j)), (0, .ref h), (1, .int x), (2, .int f)]) hx hb d_D_same_5 rfl hl (by decide) rfl (fun ls hl => ?_)
  refine lv_aload_n hx hb d_D_same_6 rfl (lv_at hl 1 rfl) ?_
  refine lv_iload_n hx hb d_D_same_7 rfl (lv_at hl 3 rfl) ?_
  have hPc := hP.sub (ws' := [(h, .inr (0, [.ref ra])), (ra, .inl (cR, 4, .inr (.inr (.inr (.inr g)))))]) [0, 1] rfl
  have hKc := hK.sub (tys' := [(cR, .object "PacketDesk$Row")]) [1] rfl
  refine tx_sr (tx_runV (As := [.int f]) (rest := []) ⟨hx, hb, hml, hown, hA⟩ (c_D_rowOf l hL0 D cR h ra g y hg f) (q_D_rowOf hA k1_66 rfl rfl ⟨(Nat.le_of_ble_eq_true rfl), (Nat.le_of_ble_eq_true rfl)⟩) (ox_V (va_recv hKc hPc (ci := 0) (q0 := 0) rfl rfl) (oxg_S hPc hKc hG (fun _ _ => rfl))) rfl rfl hl.1 rfl (lv_room (Nat.le_of_ble_eq_true rfl)) d_D_same_8 ⟨(Nat.le_of_ble_eq_true rfl), (Nat.le_of_ble_eq_true rfl)⟩) (fun x9 E9 H9 ht9 hE9 => tx_prop hlocks hce hE9 (Nat.le_refl _) (fun _ _ => rfl) (⟨ht9.1, by unfold spSame; rw [if_pos (fun h9 => ht9.2 h9.2)]⟩) (fun q h => by cases h)) (fun i hi => ?_)
  obtain ⟨hi, hxi⟩ := hi
  by_cases hji : j = i
  · subst hji
    obtain ⟨c2_, c3_, c4_, c5_, c6_, c7_, c8_, c9_, hi1, hi2, ho1, ho2⟩ := dk_1 D vCl cR cB h ra g M y b σ hj
    have hP : va_P D vCl [(y j, .inr (1, [.ref (b j), .int (nI (σ j).2.1), .int (nI (σ j).2.2)])), (b j, .inl (cB, M, .inl (fun j9 => sb_b ((σ j).1 j9)))), c2_, c3_, c4_, c5_, c6_, c7_, c8_, c9_] s.heap := hi1 _ hP
    obtain ⟨⟨B, n, p⟩, hρ⟩ : ∃ ρ, σ j = ρ := ⟨_, rfl⟩
    have hk := hσ.2 j hj
    have hM := hσ.1
    rw [hρ] at hP hk
    obtain ⟨hp, hn, hB⟩ := hk
    have hp : p ≤ n := hp
    have hn : n ≤ M := hn
    have hB : ∀ j, B j < 256 := hB
    have hP : va_P D vCl [((y j), .inr (1, [.ref (b j), .int (nI n), .int (nI p)])), ((b j), .inl (cB, M, .inl (fun j => sb_b (B j)))), c2_, c3_, c4_, c5_, c6_, c7_, c8_, c9_] s.heap := hP
    have hrj : rj x = j := by rw [hxj]; exact rj_n hj
    have hir : isR x := by rw [hxj]; exact isR_n hj
    have hri : rj f = j := by rw [hxi]; exact rj_n hj
    have hir : isR x ∧ isR f := ⟨hir, by rw [hxi]; exact isR_n hj⟩
    have hρ2 := hρ
    refine lv_astore (lv' := [(4, .ref (y j)), (3, .ref (y j)), (0, .ref h), (1, .int x), (2, .int f)]) hx hb d_D_same_11 hl (by decide) rfl (fun ls hl => ?_)
    refine lv_aload_n hx hb d_D_same_13 rfl (lv_at hl 1 rfl) ?_
    refine va_get (D := D) (ci := 1) (v := .int (nI n)) (C := R_R) (T := F_R) (N := 3) hx hb hA i_R hown hK hP 0 rfl rfl 1 (by decide) (hA _ k1_38) (fun _ h9 => h9) rfl d_D_same_14 ?_
    refine lv_aload hx hb d_D_same_17 (lv_at hl 0 rfl) ?_
    refine va_get (D := D) (ci := 1) (v := .int (nI n)) (C := R_R) (T := F_R) (N := 3) hx hb hA i_R hown hK hP 0 rfl rfl 1 (by decide) (hA _ k1_38) (fun _ h9 => h9) rfl d_D_same_19 ?_
    refine lv_icmp_eq (tgt := 27) hx hb d_D_same_22 (by decide) (fun c22 => ?_) (fun c22 => ?_)
    · have hnn : n = n := (nI_eq (by omega) (by omega)).mp c22
      refine lv_iconst (v := 0) hx hb d_D_same_27 (by decide) ?_
      refine lv_topi (fun v27 ev27 => ?_)
      have ev27 : v27 = nI 0 := by rw [ev27]; rfl
      subst ev27
      refine lv_istore (lv' := [(5, .int (nI 0)), (4, .ref (y j)), (3, .ref (y j)), (0, .ref h), (1, .int x), (2, .int f)]) hx hb d_D_same_28 hl (by decide) rfl (fun ls hl => ?_)
      have loop : ∀ (t q : Nat), q + t = n + 1 → q ≤ n → (∀ i9, i9 < q → B i9 = B i9) → ∀ (ls : Array Slot), lv_has ls 6 [(5, .int (nI q)), (3, .ref (y j)), (4, .ref (y j))] → W p9 l e9 (headSpec w_D_same ({ frames := 7, cells := 1, slots := 6, locals := 111 })).room s m [.ref h, .int x, .int f].toArray below meth c9 s.heap [] 0 0 (tx_MQ below (tx_Q (fun E => (E = X_IOOBE ∧ (spSame σ x f).1 = 1)) (vp_Si (fun r => spSame σ x f = (0, r, σ)))) [.ref h, .int x, .int f].toArray s 0 0 (fun _ => False)) (F0 m 30 ls []) := by
        intro t
        induction t with
        | zero =>
          intro q hq hq2 hinv ls hl
          exact absurd hq (by omega)
        | succ t ih_loop =>
          intro q hq hq2 hinv ls hl
          refine lv_iload hx hb d_D_same_30 (lv_at hl 0 rfl) ?_
          refine lv_aload_n hx hb d_D_same_32 rfl (lv_at hl 1 rfl) ?_
          refine va_get (D := D) (ci := 1) (v := .int (nI n)) (C := R_R) (T := F_R) (N := 3) hx hb hA i_R hown hK hP 0 rfl rfl 1 (by decide) (hA _ k1_38) (fun _ h9 => h9) rfl d_D_same_33 ?_
          refine lv_icmp_ge (tgt := 63) hx hb d_D_same_36 (by decide) (fun c36 => ?_) (fun c36 => ?_)
          · have hqn : q = n := by have := (nI_leI (a := n) (b := q) (by omega) (by omega)).mp c36; omega
            refine lv_iconst (v := 1) hx hb d_D_same_63 (by decide) ?_
            exact tx_ret (W.zret (v := 1) (ty := .boolean) hx hb hr (by decide) (fun t ht hW => Or.inl ⟨_, rfl, ⟨_, rfl, (by unfold spSame; rw [hrj, hri, hρ, if_neg (fun h8 => h8 hir), if_pos ⟨hnn, (show eqb B B n = true from (eqb_iff _ _ _).mpr (fun i9 h9 => hinv i9 (by omega)))⟩]), ht⟩⟩) (fun q h => by cases h) d_D_same_64)
          · have hqn : q < n := by have := mt (nI_leI (a := n) (b := q) (by omega) (by omega)).mpr c36; omega
            refine lv_aload_n hx hb d_D_same_39 rfl (lv_at hl 1 rfl) ?_
            refine lv_iload hx hb d_D_same_40 (lv_at hl 0 rfl) ?_
            have hPc := hP.sub (ws' := [((y j), .inr (1, [.ref (b j), .int (nI n), .int (nI p)])), ((b j), .inl (cB, M, .inl (fun j => sb_b (B j))))]) [0, 1] rfl
            have hKc := hK.sub (tys' := [(cB, .byte)]) [0] rfl
            refine vp_callSi (W.runV (As := [.int (nI q)]) (rest := []) ⟨hx, hb, hml, hown, hA⟩ (c_R_get l D cB (y j) (b j) M B (nI n) (nI p) q (by omega) hM hB) (q_R_get hA k2_21 rfl rfl ⟨(Nat.le_of_ble_eq_true rfl), (Nat.le_of_ble_eq_true rfl)⟩) (ox_V (va_recv hKc hPc (ci := 1) (q0 := 0) rfl rfl) (ox_S hPc hKc)) rfl rfl hl.1 rfl (lv_room (Nat.le_of_ble_eq_true rfl)) d_D_same_42 ⟨(Nat.le_of_ble_eq_true rfl), (Nat.le_of_ble_eq_true rfl)⟩) (fun r42 hr42 => ?_)
            have er42 : r42 = nI (B q) := hr42
            subst er42
            refine lv_aload hx hb d_D_same_45 (lv_at hl 2 rfl) ?_
            refine lv_iload hx hb d_D_same_47 (lv_at hl 0 rfl) ?_
            have hPc := hP.sub (ws' := [((y j), .inr (1, [.ref (b j), .int (nI n), .int (nI p)])), ((b j), .inl (cB, M, .inl (fun j => sb_b (B j))))]) [0, 1] rfl
            have hKc := hK.sub (tys' := [(cB, .byte)]) [0] rfl
            refine vp_callSi (W.runV (As := [.int (nI q)]) (rest := [.int (nI (B q))]) ⟨hx, hb, hml, hown, hA⟩ (c_R_get l D cB (y j) (b j) M B (nI n) (nI p) q (by omega) hM hB) (q_R_get hA k2_21 rfl rfl ⟨(Nat.le_of_ble_eq_true rfl), (Nat.le_of_ble_eq_true rfl)⟩) (ox_V (va_recv hKc hPc (ci := 1) (q0 := 0) rfl rfl) (ox_S hPc hKc)) rfl rfl hl.1 rfl (lv_room (Nat.le_of_ble_eq_true rfl)) d_D_same_49 ⟨(Nat.le_of_ble_eq_true rfl), (Nat.le_of_ble_eq_true rfl)⟩) (fun r49 hr49 => ?_)
            have er49 : r49 = nI (B q) := hr49
            subst er49
            refine lv_icmp_eq (tgt := 57) hx hb d_D_same_52 (by decide) (fun c52 => ?_) (fun c52 => ?_)
            · have hBC : B q = B q := rfl
              obtain ⟨v57, ev57⟩ : ∃ y : Int32, y = nI q + 1 := ⟨_, rfl⟩
              refine lv_iinc (v := v57) (lv' := [(5, .int v57), (3, .ref (y j)), (4, .ref (y j))]) hx hb d_D_same_57 hl (k := 0) rfl (by rw [ev57]; rfl) (by decide) rfl (fun ls hl => ?_)
              have ev57 : v57 = nI (q + 1) := by rw [ev57]; exact nI_1 q
              subst ev57
              refine lv_goto (tgt := 30) hx hb d_D_same_60 (by decide) ?_
              exact ih_loop (q + 1) (by omega) (by omega) (fun i9 h9 => by
                rcases Nat.lt_or_ge i9 q with q9 | q9
                · exact hinv i9 q9
                · (obtain rfl : i9 = q := by omega); exact hBC) ls (lv_sub hl [0, 1, 2] rfl)
            · refine lv_iconst (v := 0) hx hb d_D_same_55 (by decide) ?_
              exact tx_ret (W.zret (v := 0) (ty := .boolean) hx hb hr (by decide) (fun t ht hW => Or.inl ⟨_, rfl, ⟨_, rfl, (by unfold spSame; rw [hrj, hri, hρ, if_neg (fun h8 => h8 hir), if_neg (fun h8 => c52 (congrArg nI ((eqb_iff _ _ _).mp h8.2 q hqn)))]), ht⟩⟩) (fun q h => by cases h) d_D_same_56)
      exact loop (n + 1) 0 (by omega) (by omega) (fun i9 h9 => absurd h9 (by omega)) ls (lv_sub hl [0, 2, 1] rfl)
    · refine lv_iconst (v := 0) hx hb d_D_same_25 (by decide) ?_
      exact tx_ret (W.zret (v := 0) (ty := .boolean) hx hb hr (by decide) (fun t ht hW => Or.inl ⟨_, rfl, ⟨_, rfl, (by unfold spSame; rw [hrj, hri, hρ, if_neg (fun h8 => h8 hir), if_neg (fun h8 => c22 (congrArg nI h8.1))]), ht⟩⟩) (fun q h => by cases h) d_D_same_26)
  · obtain ⟨c4_, c5_, c6_, c7_, c8_, c9_, hi1, hi2, ho1, ho2⟩ := dk_2 D vCl cR cB h ra g M y b σ hj hi hji
    have hP : va_P D vCl [(y j, .inr (1, [.ref (b j), .int (nI (σ j).2.1), .int (nI (σ j).2.2)])), (b j, .inl (cB, M, .inl (fun j9 => sb_b ((σ j).1 j9)))), (y i, .inr (1, [.ref (b i), .int (nI (σ i).2.1), .int (nI (σ i).2.2)])), (b i, .inl (cB, M, .inl (fun j9 => sb_b ((σ i).1 j9)))), c4_, c5_, c6_, c7_, c8_, c9_] s.heap := hi1 _ hP
    obtain ⟨⟨B, n, p⟩, hρ⟩ : ∃ ρ, σ j = ρ := ⟨_, rfl⟩
    obtain ⟨⟨C, n2, p2⟩, hρ2⟩ : ∃ ρ, σ i = ρ := ⟨_, rfl⟩
    have hk := hσ.2 j hj
    have hk2 := hσ.2 i hi
    have hM := hσ.1
    rw [hρ] at hk
    rw [hρ2] at hk2
    rw [hρ, hρ2] at hP
    obtain ⟨hp, hn, hB⟩ := hk
    have hp : p ≤ n := hp
    have hn : n ≤ M := hn
    have hB : ∀ j, B j < 256 := hB
    obtain ⟨hp2, hn2, hB2⟩ := hk2
    have hp2 : p2 ≤ n2 := hp2
    have hn2 : n2 ≤ M := hn2
    have hB2 : ∀ j, C j < 256 := hB2
    have hP : va_P D vCl [((y j), .inr (1, [.ref (b j), .int (nI n), .int (nI p)])), ((b j), .inl (cB, M, .inl (fun j => sb_b (B j)))), ((y i), .inr (1, [.ref (b i), .int (nI n2), .int (nI p2)])), ((b i), .inl (cB, M, .inl (fun j => sb_b (C j)))), c4_, c5_, c6_, c7_, c8_, c9_] s.heap := hP
    have hrj : rj x = j := by rw [hxj]; exact rj_n hj
    have hri : rj f = i := by rw [hxi]; exact rj_n hi
    have hir : isR x ∧ isR f := ⟨by rw [hxj]; exact isR_n hj, by rw [hxi]; exact isR_n hi⟩
    refine lv_astore (lv' := [(4, .ref (y i)), (3, .ref (y j)), (0, .ref h), (1, .int x), (2, .int f)]) hx hb d_D_same_11 hl (by decide) rfl (fun ls hl => ?_)
    refine lv_aload_n hx hb d_D_same_13 rfl (lv_at hl 1 rfl) ?_
    refine va_get (D := D) (ci := 1) (v := .int (nI n)) (C := R_R) (T := F_R) (N := 3) hx hb hA i_R hown hK hP 0 rfl rfl 1 (by decide) (hA _ k1_38) (fun _ h9 => h9) rfl d_D_same_14 ?_
    refine lv_aload hx hb d_D_same_17 (lv_at hl 0 rfl) ?_
    refine va_get (D := D) (ci := 1) (v := .int (nI n2)) (C := R_R) (T := F_R) (N := 3) hx hb hA i_R hown hK hP 2 rfl rfl 1 (by decide) (hA _ k1_38) (fun _ h9 => h9) rfl d_D_same_19 ?_
    refine lv_icmp_eq (tgt := 27) hx hb d_D_same_22 (by decide) (fun c22 => ?_) (fun c22 => ?_)
    · have hnn : n = n2 := (nI_eq (by omega) (by omega)).mp c22
      refine lv_iconst (v := 0) hx hb d_D_same_27 (by decide) ?_
      refine lv_topi (fun v27 ev27 => ?_)
      have ev27 : v27 = nI 0 := by rw [ev27]; rfl
      subst ev27
      refine lv_istore (lv' := [(5, .int (nI 0)), (4, .ref (y i)), (3, .ref (y j)), (0, .ref h), (1, .int x), (2, .int f)]) hx hb d_D_same_28 hl (by decide) rfl (fun ls hl => ?_)
      have loop : ∀ (t q : Nat), q + t = n + 1 → q ≤ n → (∀ i9, i9 < q → B i9 = C i9) → ∀ (ls : Array Slot), lv_has ls 6 [(5, .int (nI q)), (3, .ref (y j)), (4, .ref (y i))] → W p9 l e9 (headSpec w_D_same ({ frames := 7, cells := 1, slots := 6, locals := 111 })).room s m [.ref h, .int x, .int f].toArray below meth c9 s.heap [] 0 0 (tx_MQ below (tx_Q (fun E => (E = X_IOOBE ∧ (spSame σ x f).1 = 1)) (vp_Si (fun r => spSame σ x f = (0, r, σ)))) [.ref h, .int x, .int f].toArray s 0 0 (fun _ => False)) (F0 m 30 ls []) := by
        intro t
        induction t with
        | zero =>
          intro q hq hq2 hinv ls hl
          exact absurd hq (by omega)
        | succ t ih_loop =>
          intro q hq hq2 hinv ls hl
          refine lv_iload hx hb d_D_same_30 (lv_at hl 0 rfl) ?_
          refine lv_aload_n hx hb d_D_same_32 rfl (lv_at hl 1 rfl) ?_
          refine va_get (D := D) (ci := 1) (v := .int (nI n)) (C := R_R) (T := F_R) (N := 3) hx hb hA i_R hown hK hP 0 rfl rfl 1 (by decide) (hA _ k1_38) (fun _ h9 => h9) rfl d_D_same_33 ?_
          refine lv_icmp_ge (tgt := 63) hx hb d_D_same_36 (by decide) (fun c36 => ?_) (fun c36 => ?_)
          · have hqn : q = n := by have := (nI_leI (a := n) (b := q) (by omega) (by omega)).mp c36; omega
            refine lv_iconst (v := 1) hx hb d_D_same_63 (by decide) ?_
            exact tx_ret (W.zret (v := 1) (ty := .boolean) hx hb hr (by decide) (fun t ht hW => Or.inl ⟨_, rfl, ⟨_, rfl, (by unfold spSame; rw [hrj, hri, hρ, hρ2, if_neg (fun h8 => h8 hir), if_pos ⟨hnn, (show eqb B C n = true from (eqb_iff _ _ _).mpr (fun i9 h9 => hinv i9 (by omega)))⟩]), ht⟩⟩) (fun q h => by cases h) d_D_same_64)
          · have hqn : q < n := by have := mt (nI_leI (a := n) (b := q) (by omega) (by omega)).mpr c36; omega
            refine lv_aload_n hx hb d_D_same_39 rfl (lv_at hl 1 rfl) ?_
            refine lv_iload hx hb d_D_same_40 (lv_at hl 0 rfl) ?_
            have hPc := hP.sub (ws' := [((y j), .inr (1, [.ref (b j), .int (nI n), .int (nI p)])), ((b j), .inl (cB, M, .inl (fun j => sb_b (B j))))]) [0, 1] rfl
            have hKc := hK.sub (tys' := [(cB, .byte)]) [0] rfl
            refine vp_callSi (W.runV (As := [.int (nI q)]) (rest := []) ⟨hx, hb, hml, hown, hA⟩ (c_R_get l D cB (y j) (b j) M B (nI n) (nI p) q (by omega) hM hB) (q_R_get hA k2_21 rfl rfl ⟨(Nat.le_of_ble_eq_true rfl), (Nat.le_of_ble_eq_true rfl)⟩) (ox_V (va_recv hKc hPc (ci := 1) (q0 := 0) rfl rfl) (ox_S hPc hKc)) rfl rfl hl.1 rfl (lv_room (Nat.le_of_ble_eq_true rfl)) d_D_same_42 ⟨(Nat.le_of_ble_eq_true rfl), (Nat.le_of_ble_eq_true rfl)⟩) (fun r42 hr42 => ?_)
            have er42 : r42 = nI (B q) := hr42
            subst er42
            refine lv_aload hx hb d_D_same_45 (lv_at hl 2 rfl) ?_
            refine lv_iload hx hb d_D_same_47 (lv_at hl 0 rfl) ?_
            have hPc := hP.sub (ws' := [((y i), .inr (1, [.ref (b i), .int (nI n2), .int (nI p2)])), ((b i), .inl (cB, M, .inl (fun j => sb_b (C j))))]) [2, 3] rfl
            have hKc := hK.sub (tys' := [(cB, .byte)]) [0] rfl
            refine vp_callSi (W.runV (As := [.int (nI q)]) (rest := [.int (nI (B q))]) ⟨hx, hb, hml, hown, hA⟩ (c_R_get l D cB (y i) (b i) M C (nI n2) (nI p2) q (by omega) hM hB2) (q_R_get hA k2_21 rfl rfl ⟨(Nat.le_of_ble_eq_true rfl), (Nat.le_of_ble_eq_true rfl)⟩) (ox_V (va_recv hKc hPc (ci := 1) (q0 := 0) rfl rfl) (ox_S hPc hKc)) rfl rfl hl.1 rfl (lv_room (Nat.le_of_ble_eq_true rfl)) d_D_same_49 ⟨(Nat.le_of_ble_eq_true rfl), (Nat.le_of_ble_eq_true rfl)⟩) (fun r49 hr49 => ?_)
            have er49 : r49 = nI (C q) := hr49
            subst er49
            refine lv_icmp_eq (tgt := 57) hx hb d_D_same_52 (by decide) (fun c52 => ?_) (fun c52 => ?_)
            · have hBC : B q = C q := by have g1 := hB q; have g2 := hB2 q; exact (nI_eq (by omega) (by omega)).mp c52
              obtain ⟨v57, ev57⟩ : ∃ y : Int32, y = nI q + 1 := ⟨_, rfl⟩
              refine lv_iinc (v := v57) (lv' := [(5, .int v57), (3, .ref (y j)), (4, .ref (y i))]) hx hb d_D_same_57 hl (k := 0) rfl (by rw [ev57]; rfl) (by decide) rfl (fun ls hl => ?_)
              have ev57 : v57 = nI (q + 1) := by rw [ev57]; exact nI_1 q
              subst ev57
              refine lv_goto (tgt := 30) hx hb d_D_same_60 (by decide) ?_
              exact ih_loop (q + 1) (by omega) (by omega) (fun i9 h9 => by
                rcases Nat.lt_or_ge i9 q with q9 | q9
                · exact hinv i9 q9
                · (obtain rfl : i9 = q := by omega); exact hBC) ls (lv_sub hl [0, 1, 2] rfl)
            · refine lv_iconst (v := 0) hx hb d_D_same_55 (by decide) ?_
              exact tx_ret (W.zret (v := 0) (ty := .boolean) hx hb hr (by decide) (fun t ht hW => Or.inl ⟨_, rfl, ⟨_, rfl, (by unfold spSame; rw [hrj, hri, hρ, hρ2, if_neg (fun h8 => h8 hir), if_neg (fun h8 => c52 (congrArg nI ((eqb_iff _ _ _).mp h8.2 q hqn)))]), ht⟩⟩) (fun q h => by cases h) d_D_same_56)
      exact loop (n + 1) 0 (by omega) (by omega) (fun i9 h9 => absurd h9 (by omega)) ls (lv_sub hl [0, 2, 1] rfl)
    · refine lv_iconst (v := 0) hx hb d_D_same_25 (by decide) ?_
      exact tx_ret (W.zret (v := 0) (ty := .boolean) hx hb hr (by decide) (fun t ht hW => Or.inl ⟨_, rfl, ⟨_, rfl, (by unfold spSame; rw [hrj, hri, hρ, hρ2, if_neg (fun h8 => h8 hir), if_neg (fun h8 => c22 (congrArg nI h8.1))]), ht⟩⟩) (fun q h => by cases h) d_D_same_26)
