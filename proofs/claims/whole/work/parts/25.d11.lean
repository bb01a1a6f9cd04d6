/-! THE CLASS: PUBLIC METHODS OF ONE ROW -/
set_option maxHeartbeats 600000 in
set_option maxRecDepth 100000 in
/-- place -/
theorem c_D_place (l : Launch) (hL0 : l.stackTraces = false) (D : va_G) (cR cB : ClassId) (h ra : Nat) (g : Nat → Option Nat) (M : Nat) (y b : Nat → Nat) (σ : dkS) (sz : Nat) (x z : Int32) (hg : ∀ i, i < 4 → g i = some (y i)) (hσ : dkok M σ) : tx_Met l y_D_place w_D_place ({ frames := 7, cells := 1, slots := 6, locals := 111 }) (va_Pc [.ref h, .int x, .int z] (oxv sz D [(cB, .byte), (cR, .object "PacketDesk$Row")] [(h, .inr (0, [.ref ra])), (ra, .inl (cR, 4, .inr (.inr (.inr (.inr g))))), ((y 0), .inr (1, [.ref (b 0), .int (nI (σ 0).2.1), .int (nI (σ 0).2.2)])), ((b 0), .inl (cB, M, .inl (fun j => sb_b ((σ 0).1 j)))), ((y 1), .inr (1, [.ref (b 1), .int (nI (σ 1).2.1), .int (nI (σ 1).2.2)])), ((b 1), .inl (cB, M, .inl (fun j => sb_b ((σ 1).1 j)))), ((y 2), .inr (1, [.ref (b 2), .int (nI (σ 2).2.1), .int (nI (σ 2).2.2)])), ((b 2), .inl (cB, M, .inl (fun j => sb_b ((σ 2).1 j)))), ((y 3), .inr (1, [.ref (b 3), .int (nI (σ 3).2.1), .int (nI (σ 3).2.2)])), ((b 3), .inl (cB, M, .inl (fun j => sb_b ((σ 3).1 j))))])) (tx_Q (fun E => (E = X_IOOBE ∧ (spPlace σ x z).1 = 1) ∨ (E = X_IAE ∧ (spPlace σ x z).1 = 2)) (va_Qi (fun r (τ : dkS) => spPlace σ x z = (0, r, τ)) (fun τ => ow D [(cB, .byte), (cR, .object "PacketDesk$Row")] (va_A [(h, .inr (0, [.ref ra])), (ra, .inl (cR, 4, .inr (.inr (.inr (.inr g))))), ((y 0), .inr (1, [.ref (b 0), .int (nI (σ 0).2.1), .int (nI (σ 0).2.2)])), ((b 0), .inl (cB, M, .inl (fun j => sb_b ((σ 0).1 j)))), ((y 1), .inr (1, [.ref (b 1), .int (nI (σ 1).2.1), .int (nI (σ 1).2.2)])), ((b 1), .inl (cB, M, .inl (fun j => sb_b ((σ 1).1 j)))), ((y 2), .inr (1, [.ref (b 2), .int (nI (σ 2).2.1), .int (nI (σ 2).2.2)])), ((b 2), .inl (cB, M, .inl (fun j => sb_b ((σ 2).1 j)))), ((y 3), .inr (1, [.ref (b 3), .int (nI (σ 3).2.1), .int (nI (σ 3).2.2)])), ((b 3), .inl (cB, M, .inl (fun j => sb_b ((σ 3).1 j))))] sz) (dk cR cB h ra g M y b τ)) (va_A [(h, .inr (0, [.ref ra])), (ra, .inl (cR, 4, .inr (.inr (.inr (.inr g))))), ((y 0), .inr (1, [.ref (b 0), .int (nI (σ 0).2.1), .int (nI (σ 0).2.2)])), ((b 0), .inl (cB, M, .inl (fun j => sb_b ((σ 0).1 j)))), ((y 1), .inr (1, [.ref (b 1), .int (nI (σ 1).2.1), .int (nI (σ 1).2.2)])), ((b 1), .inl (cB, M, .inl (fun j => sb_b ((σ 1).1 j)))), ((y 2), .inr (1, [.ref (b 2), .int (nI (σ 2).2.1), .int (nI (σ 2).2.2)])), ((b 2), .inl (cB, M, .inl (fun j => sb_b ((σ 2).1 j)))), ((y 3), .inr (1, [.ref (b 3), .int (nI (σ 3).2.1), .int (nI (σ 3).2.2)])), ((b 3), .inl (cB, M, .inl (fun j => sb_b ((σ 3).1 j))))] sz))) 0 0 (va_A [(h, .inr (0, [.ref ra])), (ra, .inl (cR, 4, .inr (.inr (.inr (.inr g))))), ((y 0), .inr (1, [.ref (b 0), .int (nI (σ 0).2.1), .int (nI (σ 0).2.2)])), ((b 0), .inl (cB, M, .inl (fun j => sb_b ((σ 0).1 j)))), ((y 1), .inr (1, [.ref (b 1), .int (nI (σ 1).2.1), .int (nI (σ 1).2.2)])), ((b 1), .inl (cB, M, .inl (fun j => sb_b ((σ 1).1 j)))), ((y 2), .inr (1, [.ref (b 2), .int (nI (σ 2).2.1), .int (nI (σ 2).2.2)])), ((b 2), .inl (cB, M, .inl (fun j => sb_b ((σ 2).1 j)))), ((y 3), .inr (1, [.ref (b 3), .int (nI (σ 3).2.1), .int (nI (σ 3).2.2)])), ((b 3), .inl (cB, M, .inl (fun j => sb_b ((σ 3).1 j))))] sz) := by
  refine tx_ofW (cc := b_D_place) (maxL := 5) (ret := (some .int)) (by decide) rfl ?_
  intro p9 e9 s m args below meth c9 s₁ BL hml hce hadm hv
  obtain ⟨rfl, hsz, hP, hK, hD0, hG⟩ := hv
  have hx := BL.exec
  have hb := BL.bytes
  have hr := BL.returns
  have hts := atoms_spec (ws := w_D_place) BL.pre
  have hA : ∀ w ∈ wsA, w.before _ s = true := fun w h => hts w (List.mem_cons_of_mem _ h)
  have hown : s.vm.findClass R_D = some m.cls := findClass_of_methodNamed BL.named
  have hlocks := BL.notSynchronized
  have htr : e9.platform.stackTraces = false := by rw [hadm.platform]; exact hL0
  subst hsz
  have hD := hD0.self (sz := s.heap.size)
  generalize hAe : va_A [(h, .inr (0, [.ref ra])), (ra, .inl (cR, 4, .inr (.inr (.inr (.inr g))))), ((y 0), .inr (1, [.ref (b 0), .int (nI (σ 0).2.1), .int (nI (σ 0).2.2)])), ((b 0), .inl (cB, M, .inl (fun j => sb_b ((σ 0).1 j)))), ((y 1), .inr (1, [.ref (b 1), .int (nI (σ 1).2.1), .int (nI (σ 1).2.2)])), ((b 1), .inl (cB, M, .inl (fun j => sb_b ((σ 1).1 j)))), ((y 2), .inr (1, [.ref (b 2), .int (nI (σ 2).2.1), .int (nI (σ 2).2.2)])), ((b 2), .inl (cB, M, .inl (fun j => sb_b ((σ 2).1 j)))), ((y 3), .inr (1, [.ref (b 3), .int (nI (σ 3).2.1), .int (nI (σ 3).2.2)])), ((b 3), .inl (cB, M, .inl (fun j => sb_b ((σ 3).1 j))))] s.heap.size = A at hD ⊢
  have hAq : ∀ q : Nat, s.heap.size ≤ q → A q := fun q h => by rw [← hAe]; exact Or.inr h
  have hS : va_S A s.heap s.heap [] := va_S.rf
  have hP : va_P D vCl [(h, .inr (0, [.ref ra])), (ra, .inl (cR, 4, .inr (.inr (.inr (.inr g))))), ((y 0), .inr (1, [.ref (b 0), .int (nI (σ 0).2.1), .int (nI (σ 0).2.2)])), ((b 0), .inl (cB, M, .inl (fun j => sb_b ((σ 0).1 j)))), ((y 1), .inr (1, [.ref (b 1), .int (nI (σ 1).2.1), .int (nI (σ 1).2.2)])), ((b 1), .inl (cB, M, .inl (fun j => sb_b ((σ 1).1 j)))), ((y 2), .inr (1, [.ref (b 2), .int (nI (σ 2).2.1), .int (nI (σ 2).2.2)])), ((b 2), .inl (cB, M, .inl (fun j => sb_b ((σ 2).1 j)))), ((y 3), .inr (1, [.ref (b 3), .int (nI (σ 3).2.1), .int (nI (σ 3).2.2)])), ((b 3), .inl (cB, M, .inl (fun j => sb_b ((σ 3).1 j))))] s.heap := hP
  have hl := lv_entry ([.ref h, .int x, .int z]) (n := 5) (Nat.le_of_ble_eq_true rfl)
  rw [lg_entry_eq]
  generalize (lg_sl ([.ref h, .int x, .int z]) ++ List.replicate (5 - (lg_sl ([.ref h, .int x, .int z])).length) Slot.unset).toArray = ls at hl ⊢
  have hl : lv_has ls 5 [(0, .ref h), (1, .int x), (2, .int z)] := hl
  refine lv_aload_n hx hb d_D_place_0 rfl (lv_at hl 0 rfl) ?_
  refine lv_iload_n hx hb d_D_place_1 rfl (lv_at hl 1 rfl) ?_
  have hPc := hP.sub (ws' := [(h, .inr (0, [.ref ra])), (ra, .inl (cR, 4, .inr (.inr (.inr (.inr g)))))]) [0, 1] rfl
  have hKc := hK.sub (tys' := [(cR, .object "PacketDesk$Row")]) [1] rfl
  refine tx_sr (tx_runV (As := [.int x]) (rest := []) ⟨hx, hb, hml, hown, hA⟩ (c_D_rowOf l hL0 D cR h ra g y hg x) (q_D_rowOf hA k1_66 rfl rfl ⟨(Nat.le_of_ble_eq_true rfl), (Nat.le_of_ble_eq_true rfl)⟩) (ox_V (va_recv hKc hPc (ci := 0) (q0 := 0) rfl rfl) (oxg_S hPc hKc hG (fun _ _ => rfl))) rfl rfl hl.1 rfl (lv_room (Nat.le_of_ble_eq_true rfl)) d_D_place_2 ⟨(Nat.le_of_ble_eq_true rfl), (Nat.le_of_ble_eq_true rfl)⟩) (fun x9 E9 H9 ht9 hE9 => tx_prop hlocks hce hE9 (Nat.le_refl _) (fun _ _ => rfl) (Or.inl (⟨ht9.1, by unfold spPlace; rw [if_pos ht9.2]⟩)) (fun q h => by cases h)) (fun j hj => ?_)
  obtain ⟨hj, hxj⟩ := hj
  refine lv_astore_n (lv' := [(3, .ref (y j)), (0, .ref h), (1, .int x), (2, .int z)]) hx hb d_D_place_5 rfl hl (by decide) rfl (fun ls hl => ?_)
  obtain ⟨c2_, c3_, c4_, c5_, c6_, c7_, c8_, c9_, hi1, hi2, ho1, ho2⟩ := dk_1 D vCl cR cB h ra g M y b σ hj
  have hP : va_P D vCl [(y j, .inr (1, [.ref (b j), .int (nI (σ j).2.1), .int (nI (σ j).2.2)])), (b j, .inl (cB, M, .inl (fun j9 => sb_b ((σ j).1 j9)))), c2_, c3_, c4_, c5_, c6_, c7_, c8_, c9_] s.heap := hi1 _ hP
  have hD : va_D A [(y j, .inr (1, [.ref (b j), .int (nI (σ j).2.1), .int (nI (σ j).2.2)])), (b j, .inl (cB, M, .inl (fun j9 => sb_b ((σ j).1 j9)))), c2_, c3_, c4_, c5_, c6_, c7_, c8_, c9_] := hi2 _ hD
  obtain ⟨⟨B, n, p⟩, hρ⟩ : ∃ ρ, σ j = ρ := ⟨_, rfl⟩
  have hk := hσ.2 j hj
  have hM := hσ.1
  rw [hρ] at hP hk hD
  obtain ⟨hp, hn, hB⟩ := hk
  have hp : p ≤ n := hp
  have hn : n ≤ M := hn
  have hB : ∀ j, B j < 256 := hB
  have hP : va_P D vCl [((y j), .inr (1, [.ref (b j), .int (nI n), .int (nI p)])), ((b j), .inl (cB, M, .inl (fun j => sb_b (B j)))), c2_, c3_, c4_, c5_, c6_, c7_, c8_, c9_] s.heap := hP
  have hD : va_D A [((y j), .inr (1, [.ref (b j), .int (nI n), .int (nI p)])), ((b j), .inl (cB, M, .inl (fun j => sb_b (B j)))), c2_, c3_, c4_, c5_, c6_, c7_, c8_, c9_] := hD
  have hrj : rj x = j := by rw [hxj]; exact rj_n hj
  have hir : isR x := by rw [hxj]; exact isR_n hj
  refine lv_iload_n hx hb d_D_place_6 rfl (lv_at hl 3 rfl) ?_
  refine lv_if_lt (tgt := 18) hx hb d_D_place_7 (by decide) (fun c7 => ?_) (fun c7 => ?_)
  · have hni : (nI n).toInt = (n : Int) := nI_toInt (by omega)
    have hz2 : ¬ (0 ≤ z.toInt ∧ z.toInt ≤ (n : Int)) := by simp only [Int32.lt_iff_toInt_lt, Int32.le_iff_toInt_le, li_0, li_1, li_2, li_3, li_4, li_8, li_10, li_16, li_63, li_127, li_128, li_191, li_192, li_194, li_224, li_240, li_244, li_255, li_2048, li_55296, li_57343, li_65536, li_1114111, li_m1, li_m2] at *; omega
    exact th_IAE hx hb hml hlocks hce htr hown hA hG hl.1 (Nat.le_of_ble_eq_true rfl) (tx := "no such place") (by decide) d_D_place_18 d_D_place_21 d_D_place_22 d_D_place_24 d_D_place_27 (Nat.le_of_ble_eq_true rfl) (Nat.le_of_ble_eq_true rfl) (Nat.le_of_ble_eq_true rfl) (Nat.le_of_ble_eq_true rfl) (by exact Or.inr (⟨rfl, by unfold spPlace; rw [if_neg (fun h9 => h9 hir), hrj, hρ, if_pos hz2]⟩))
  · refine lv_iload_n hx hb d_D_place_10 rfl (lv_at hl 3 rfl) ?_
    refine lv_aload_n hx hb d_D_place_11 rfl (lv_at hl 0 rfl) ?_
    refine va_get (D := D) (ci := 1) (v := .int (nI n)) (C := R_R) (T := F_R) (N := 3) hx hb hA i_R hown hK hP 0 rfl rfl 1 (by decide) (hA _ k1_38) (fun _ h9 => h9) rfl d_D_place_12 ?_
    refine lv_icmp_le (tgt := 28) hx hb d_D_place_15 (by decide) (fun c15 => ?_) (fun c15 => ?_)
    · have hni : (nI n).toInt = (n : Int) := nI_toInt (by omega)
      have hz2 : 0 ≤ z.toInt ∧ z.toInt ≤ (n : Int) := by simp only [Int32.lt_iff_toInt_lt, Int32.le_iff_toInt_le, li_0, li_1, li_2, li_3, li_4, li_8, li_10, li_16, li_63, li_127, li_128, li_191, li_192, li_194, li_224, li_240, li_244, li_255, li_2048, li_55296, li_57343, li_65536, li_1114111, li_m1, li_m2] at *; omega
      obtain ⟨q, hq, rfl⟩ := nI_of c7
      have hqi : (nI q).toInt = (q : Int) := nI_toInt hq
      have hqn : (nI q).toInt.toNat = q := by rw [hqi]; rfl
      refine lv_aload_n hx hb d_D_place_28 rfl (lv_at hl 0 rfl) ?_
      refine va_get (D := D) (ci := 1) (v := .int (nI p)) (C := R_R) (T := F_R) (N := 3) hx hb hA i_R hown hK hP 0 rfl rfl 2 (by decide) (hA _ k1_40) (fun _ h9 => h9) rfl d_D_place_29 ?_
      refine lv_istore (lv' := [(4, .int (nI p)), (3, .ref (y j)), (0, .ref h), (1, .int x), (2, .int (nI q))]) hx hb d_D_place_32 hl (by decide) rfl (fun ls hl => ?_)
      refine lv_aload_n hx hb d_D_place_34 rfl (lv_at hl 1 rfl) ?_
      refine lv_iload_n hx hb d_D_place_35 rfl (lv_at hl 4 rfl) ?_
      refine va_put (D := D) (ci := 1) (v := .int (nI q)) (ty := .int) (C := R_R) (T := F_R) (N := 3) hx hb hA i_R t_R t_R_ok n_R hown hK hP hD hS 0 rfl rfl 2 (by decide) (hA _ k1_40) (fun _ h9 => h9) rfl (by decide +kernel) rfl rfl (Nat.le_of_ble_eq_true rfl) d_D_place_36 (fun H locs hP hD hS => ?_)
      have hP : va_P D vCl [((y j), .inr (1, [.ref (b j), .int (nI n), .int (nI q)])), ((b j), .inl (cB, M, .inl (fun j => sb_b (B j)))), c2_, c3_, c4_, c5_, c6_, c7_, c8_, c9_] H := hP
      have hD : va_D A [((y j), .inr (1, [.ref (b j), .int (nI n), .int (nI q)])), ((b j), .inl (cB, M, .inl (fun j => sb_b (B j)))), c2_, c3_, c4_, c5_, c6_, c7_, c8_, c9_] := hD
      refine lv_iload hx hb d_D_place_39 (lv_at hl 0 rfl) ?_
      exact tx_ret (W.iret (v := nI p) hx hb hr (fun t ht hW => Or.inl ⟨_, rfl, ⟨⟨_, va_up σ j (B, n, q), rfl, (by unfold spPlace; rw [if_neg (fun h9 => h9 hir), hrj, hρ, if_neg (fun h9 => h9 hz2), hqn]), by rw [ht]; exact ho1 (B, n, q) _ hP, va_K.moved hW.alike hK, ho2 (B, n, q) _ hD⟩, hS.F ht⟩⟩) hS.2.2 d_D_place_41)
    · have hni : (nI n).toInt = (n : Int) := nI_toInt (by omega)
      have hz2 : ¬ (0 ≤ z.toInt ∧ z.toInt ≤ (n : Int)) := by simp only [Int32.lt_iff_toInt_lt, Int32.le_iff_toInt_le, li_0, li_1, li_2, li_3, li_4, li_8, li_10, li_16, li_63, li_127, li_128, li_191, li_192, li_194, li_224, li_240, li_244, li_255, li_2048, li_55296, li_57343, li_65536, li_1114111, li_m1, li_m2] at *; omega
      exact th_IAE hx hb hml hlocks hce htr hown hA hG hl.1 (Nat.le_of_ble_eq_true rfl) (tx := "no such place") (by decide) d_D_place_18 d_D_place_21 d_D_place_22 d_D_place_24 d_D_place_27 (Nat.le_of_ble_eq_true rfl) (Nat.le_of_ble_eq_true rfl) (Nat.le_of_ble_eq_true rfl) (Nat.le_of_ble_eq_true rfl) (by exact Or.inr (⟨rfl, by unfold spPlace; rw [if_neg (fun h9 => h9 hir), hrj, hρ, if_pos hz2]⟩))
