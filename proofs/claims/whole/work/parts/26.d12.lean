/-! THE CLASS: PUBLIC METHODS OF ONE ROW -/
theorem nI_xor {a b : Nat} (ha : a < 2 ^ 32) (hb : b < 2 ^ 32) : nI a ^^^ nI b = nI (a ^^^ b) := by
  apply Int32.toBitVec_inj.mp
  rw [Int32.toBitVec_xor]
  apply BitVec.eq_of_toNat_eq
  rw [BitVec.toNat_xor, pk_tn ha, pk_tn hb, pk_tn (Nat.xor_lt_two_pow ha hb)]
theorem xor_256 {a k : Nat} (ha : a < 256) (hk : k < 8) : a ^^^ 2 ^ k < 256 := Nat.xor_lt_two_pow (n := 8) ha (Nat.pow_lt_pow_right (by decide) hk)
theorem la_in {B : Nat → Nat} (hB : ∀ j, B j < 256) (a e : Nat) : la B a e = -1 ∨ la B a e = -2 ∨ (0 ≤ la B a e ∧ la B a e ≤ 1114111 ∧ ¬ (55296 ≤ la B a e ∧ la B a e ≤ 57343)) := by
  have h0 := hB a
  have h1 := hB (a + 1)
  have h2 := hB (a + 2)
  have h3 := hB (a + 3)
  unfold la
  (repeat' split) <;> omega
theorem la_len {B : Nat → Nat} (hB : ∀ j, B j < 256) {a e : Nat} (h : 0 ≤ la B a e) : 1 ≤ lwI (la B a e) ∧ a + lwI (la B a e) ≤ e := by
  have h0 := hB a
  have h1 := hB (a + 1)
  have h2 := hB (a + 2)
  have h3 := hB (a + 3)
  have hin := la_in hB a e
  have hu : lwI (la B a e) = if la B a e < 128 then 1 else if la B a e < 2048 then 2 else if la B a e < 65536 then 3 else 4 := by
    unfold lwI
    rw [if_neg (by omega)]
  rw [hu]
  clear hu
  obtain ⟨r, hr⟩ : ∃ r, la B a e = r := ⟨_, rfl⟩
  rw [hr] at h hin ⊢
  unfold la at hr
  (repeat' split at hr) <;> (repeat' split) <;> omega
theorem la_nI {B : Nat → Nat} (hB : ∀ j, B j < 256) {a e : Nat} {r : Int32} (hr : r.toInt = la B a e) (h1 : ¬ r = -1) (h2 : ¬ r = -2) : 0 ≤ la B a e ∧ r = nI (la B a e).toNat := by
  have hin := la_in hB a e
  have g1 : ¬ la B a e = -1 := fun q => h1 (Int32.toInt_inj.mp (by rw [hr, q]; rfl))
  have g2 : ¬ la B a e = -2 := fun q => h2 (Int32.toInt_inj.mp (by rw [hr, q]; rfl))
  refine ⟨by omega, Int32.toInt_inj.mp ?_⟩
  rw [hr, nI_toInt (by omega)]
  omega
set_option maxHeartbeats 600000 in
set_option maxRecDepth 100000 in
/-- cut -/
theorem c_D_cut (l : Launch) (hL0 : l.stackTraces = false) (D : va_G) (cR cB : ClassId) (h ra : Nat) (g : Nat → Option Nat) (M : Nat) (y b : Nat → Nat) (σ : dkS) (sz : Nat) (x z : Int32) (hg : ∀ i, i < 4 → g i = some (y i)) (hσ : dkok M σ) : tx_Met l y_D_cut w_D_cut ({ frames := 7, cells := 1, slots := 6, locals := 111 }) (va_Pc [.ref h, .int x, .int z] (oxv sz D [(cB, .byte), (cR, .object "PacketDesk$Row")] [(h, .inr (0, [.ref ra])), (ra, .inl (cR, 4, .inr (.inr (.inr (.inr g))))), ((y 0), .inr (1, [.ref (b 0), .int (nI (σ 0).2.1), .int (nI (σ 0).2.2)])), ((b 0), .inl (cB, M, .inl (fun j => sb_b ((σ 0).1 j)))), ((y 1), .inr (1, [.ref (b 1), .int (nI (σ 1).2.1), .int (nI (σ 1).2.2)])), ((b 1), .inl (cB, M, .inl (fun j => sb_b ((σ 1).1 j)))), ((y 2), .inr (1, [.ref (b 2), .int (nI (σ 2).2.1), .int (nI (σ 2).2.2)])), ((b 2), .inl (cB, M, .inl (fun j => sb_b ((σ 2).1 j)))), ((y 3), .inr (1, [.ref (b 3), .int (nI (σ 3).2.1), .int (nI (σ 3).2.2)])), ((b 3), .inl (cB, M, .inl (fun j => sb_b ((σ 3).1 j))))])) (tx_Q (fun E => (E = X_IOOBE ∧ (spCut σ x z).1 = 1) ∨ (E = X_IAE ∧ (spCut σ x z).1 = 2)) (va_Qi (fun r (τ : dkS) => spCut σ x z = (0, r, τ)) (fun τ => ow D [(cB, .byte), (cR, .object "PacketDesk$Row")] (va_A [(h, .inr (0, [.ref ra])), (ra, .inl (cR, 4, .inr (.inr (.inr (.inr g))))), ((y 0), .inr (1, [.ref (b 0), .int (nI (σ 0).2.1), .int (nI (σ 0).2.2)])), ((b 0), .inl (cB, M, .inl (fun j => sb_b ((σ 0).1 j)))), ((y 1), .inr (1, [.ref (b 1), .int (nI (σ 1).2.1), .int (nI (σ 1).2.2)])), ((b 1), .inl (cB, M, .inl (fun j => sb_b ((σ 1).1 j)))), ((y 2), .inr (1, [.ref (b 2), .int (nI (σ 2).2.1), .int (nI (σ 2).2.2)])), ((b 2), .inl (cB, M, .inl (fun j => sb_b ((σ 2).1 j)))), ((y 3), .inr (1, [.ref (b 3), .int (nI (σ 3).2.1), .int (nI (σ 3).2.2)])), ((b 3), .inl (cB, M, .inl (fun j => sb_b ((σ 3).1 j))))] sz) (dk cR cB h ra g M y b τ)) (va_A [(h, .inr (0, [.ref ra])), (ra, .inl (cR, 4, .inr (.inr (.inr (.inr g))))), ((y 0), .inr (1, [.ref (b 0), .int (nI (σ 0).2.1), .int (nI (σ 0).2.2)])), ((b 0), .inl (cB, M, .inl (fun j => sb_b ((σ 0).1 j)))), ((y 1), .inr (1, [.ref (b 1), .int (nI (σ 1).2.1), .int (nI (σ 1).2.2)])), ((b 1), .inl (cB, M, .inl (fun j => sb_b ((σ 1).1 j)))), ((y 2), .inr (1, [.ref (b 2), .int (nI (σ 2).2.1), .int (nI (σ 2).2.2)])), ((b 2), .inl (cB, M, .inl (fun j => sb_b ((σ 2).1 j)))), ((y 3), .inr (1, [.ref (b 3), .int (nI (σ 3).2.1), .int (nI (σ 3).2.2)])), ((b 3), .inl (cB, M, .inl (fun j => sb_b ((σ 3).1 j))))] sz))) 0 0 (va_A [(h, .inr (0, [.ref ra])), (ra, .inl (cR, 4, .inr (.inr (.inr (.inr g))))), ((y 0), .inr (1, [.ref (b 0), .int (nI (σ 0).2.1), .int (nI (σ 0).2.2)])), ((b 0), .inl (cB, M, .inl (fun j => sb_b ((σ 0).1 j)))), ((y 1), .inr (1, [.ref (b 1), .int (nI (σ 1).2.1), .int (nI (σ 1).2.2)])), ((b 1), .inl (cB, M, .inl (fun j => sb_b ((σ 1).1 j)))), ((y 2), .inr (1, [.ref (b 2), .int (nI (σ 2).2.1), .int (nI (σ 2).2.2)])), ((b 2), .inl (cB, M, .inl (fun j => sb_b ((σ 2).1 j)))), ((y 3), .inr (1, [.ref (b 3), .int (nI (σ 3).2.1), .int (nI (σ 3).2.2)])), ((b 3), .inl (cB, M, .inl (fun j => sb_b ((σ 3).1 j))))] sz) := by
  refine tx_ofW (cc := b_D_cut) (maxL := 5) (ret := (some .int)) (by decide) rfl ?_
  intro p9 e9 s m args below meth c9 s₁ BL hml hce hadm hv
  obtain ⟨rfl, hsz, hP, hK, hD0, hG⟩ := hv
  have hx := BL.exec
  have hb := BL.bytes
  have hr := BL.returns
  have hts := atoms_spec (ws := w_D_cut) BL.pre
  have hA : ∀ w ∈ wsA, w.before _ s = true := fun w h => hts w (List.mem_cons_of_mem _ h)
  have hown : s.vm.findClass R_D = some m.cls := findClass_of_methodNamed BL.named
  have hlocks := BL.notSynchronized
  have htr : e9.platform.stackTraces = false := by rw [hadm.platform]; exact hL0
  subst hsz
  have hD := hD0.self (sz := s.heap.size)
  generalize hAe : va_A [(h, .inr (0, [.ref ra])), (ra, .inl (cR, 4, .inr (.inr (.inr (.inr g))))), ((y 0), .inr (1, [.ref (b 0), .int (nI (σ 0).2.1), .int (nI (σ 0).2.2)])), ((b 0), .inl (cB, M, .inl (fun j => sb_b ((σ 0).1 j)))), ((y 1), .inr (1, [.ref (b 1), .int (nI (σ 1).2.1), .int (nI (σ 1).2.2)])), ((b 1), .inl (cB, M, .inl (fun j => sb_b ((σ 1).1 j)))), ((y 2), .inr (1, [.ref (b 2), .int (nI (σ 2).2.1), .int (nI (σ 2).2.2)])), ((b 2), .inl (cB, M, .inl (fun j => sb_b ((σ 2).1 j)))), ((y 3), .inr (1, [.ref (b 3), .int (nI (σ 3).2.1), .int (nI (σ 3).2.2)])), ((b 3), .inl (cB, M, .inl (fun j => sb_b ((σ 3).1 j))))] s.heap.size = A at hD ⊢
  have hAq : ∀ q : Nat, s.heap.size ≤ q → A q := fun q h => by rw [← hAe]; exact Or.inr h
  have hS : va_S A s.heap s.heap [] := va_S.rf
  have hP : va_P D vCl [(h, .inr (0, [.ref ra])), (ra, .inl (cR, 4, .inr (.inr (.inr (.inr g))))), ((y 0), .inr (1, [.ref (b 0), .int (nI (σ 0).2.1), .int (nI (σ 0).2.2)])), ((b 0), .inl (cB, M, .inl (fun j => sb_b ((σ 0).1 j)))), ((y 1), .inr (1, [.ref (b 1), .int (nI (σ 1).2.1), .int (nI (σ 1).2.2)])), ((b 1), .inl (cB, M, .inl (fun j => sb_b ((σ 1).1 j)))), ((y 2), .inr (1, [.ref (b 2), .int (nI (σ 2).2.1), .int (nI (σ 2).2.2)])), ((b 2), .inl (cB, M, .inl (fun j => sb_b ((σ 2).1 j)))), ((y 3), .inr (1, [.ref (b 3), .int (nI (σ 3).2.1), .int (nI (σ 3).2.2)])), ((b 3), .inl (cB, M, .inl (fun j => sb_b ((σ 3).1 j))))] s.heap := hP
  have hl := lv_entry ([.ref h, .int x, .int z]) (n := 5) (Nat.le_of_ble_eq_true rfl)
  rw [lg_entry_eq]
  generalize (lg_sl ([.ref h, .int x, .int z]) ++ List.replicate (5 - (lg_sl ([.ref h, .int x, .int z])).length) Slot.unset).toArray = ls at hl ⊢
  have hl : lv_has ls 5 [(0, .ref h), (1, .int x), (2, .int z)] := hl
  refine lv_aload_n hx hb d_D_cut_0 rfl (lv_at hl 0 rfl) ?_
  refine lv_iload_n hx hb d_D_cut_1 rfl (lv_at hl 1 rfl) ?_
  have hPc := hP.sub (ws' := [(h, .inr (0, [.ref ra])), (ra, .inl (cR, 4, .inr (.inr (.inr (.inr g)))))]) [0, 1] rfl
  have hKc := hK.sub (tys' := [(cR, .object "PacketDesk$Row")]) [1] rfl
  refine tx_sr (tx_runV (As := [.int x]) (rest := []) ⟨hx, hb, hml, hown, hA⟩ (c_D_rowOf l hL0 D cR h ra g y hg x) (q_D_rowOf hA k1_66 rfl rfl ⟨(Nat.le_of_ble_eq_true rfl), (Nat.le_of_ble_eq_true rfl)⟩) (ox_V (va_recv hKc hPc (ci := 0) (q0 := 0) rfl rfl) (oxg_S hPc hKc hG (fun _ _ => rfl))) rfl rfl hl.1 rfl (lv_room (Nat.le_of_ble_eq_true rfl)) d_D_cut_2 ⟨(Nat.le_of_ble_eq_true rfl), (Nat.le_of_ble_eq_true rfl)⟩) (fun x9 E9 H9 ht9 hE9 => tx_prop hlocks hce hE9 (Nat.le_refl _) (fun _ _ => rfl) (Or.inl (⟨ht9.1, by unfold spCut; rw [if_pos ht9.2]⟩)) (fun q h => by cases h)) (fun j hj => ?_)
  obtain ⟨hj, hxj⟩ := hj
  refine lv_astore_n (lv' := [(3, .ref (y j)), (0, .ref h), (1, .int x), (2, .int z)]) hx hb d_D_cut_5 rfl hl (by decide) rfl (fun ls hl => ?_)
  obtain ⟨c2_, c3_, c4_, c5_, c6_, c7_, c8_, c9_, hi1, hi2, ho1, ho2⟩ := dk_1 D vCl cR cB h ra g M y b σ hj
  have hP : va_P D vCl [(y j, .inr (1, [.ref (b j), .int (nI (σ j).2.1), .int (nI (σ j).2.2)])), (b j, .inl (cB, M, .inl (fun j9 => sb_b ((σ j).1 j9)))), c2_, c3_, c4_, c5_, c6_, c7_, c8_, c9_] s.heap := hi1 _ hP
  have hD : va_D A [(y j, .inr (1, [.ref (b j), .int (nI (σ j).2.1), .int (nI (σ j).2.2)])), (b j, .inl (cB, M, .inl (fun j9 => sb_b ((σ j).1 j9)))), c2_, c3_, c4_, c5_, c6_, c7_, c8_, c9_] := hi2 _ hD
  obtain ⟨⟨B, n, p⟩, hρ⟩ : ∃ ρ, σ j = ρ := ⟨_, rfl⟩
  have hk := hσ.2 j hj
  have hM := hσ.1
  rw [hρ] at hP hk hD
  obtain ⟨hp, hn, hB⟩ := hk
  have hp : p ≤ n := hp
  have hn : n ≤ M := hn
  have hB : ∀ j, B j < 256 := hB
  have hP : va_P D vCl [((y j), .inr (1, [.ref (b j), .int (nI n), .int (nI p)])), ((b j), .inl (cB, M, .inl (fun j => sb_b (B j)))), c2_, c3_, c4_, c5_, c6_, c7_, c8_, c9_] s.heap := hP
  have hD : va_D A [((y j), .inr (1, [.ref (b j), .int (nI n), .int (nI p)])), ((b j), .inl (cB, M, .inl (fun j => sb_b (B j)))), c2_, c3_, c4_, c5_, c6_, c7_, c8_, c9_] := hD
  have hrj : rj x = j := by rw [hxj]; exact rj_n hj
  have hir : isR x := by rw [hxj]; exact isR_n hj
  refine lv_iload_n hx hb d_D_cut_6 rfl (lv_at hl 3 rfl) ?_
  refine lv_if_lt (tgt := 18) hx hb d_D_cut_7 (by decide) (fun c7 => ?_) (fun c7 => ?_)
  · have hni : (nI n).toInt = (n : Int) := nI_toInt (by omega)
    have hz2 : ¬ (0 ≤ z.toInt ∧ z.toInt ≤ (n : Int)) := by simp only [Int32.lt_iff_toInt_lt, Int32.le_iff_toInt_le, li_0, li_1, li_2, li_3, li_4, li_8, li_10, li_16, li_63, li_127, li_128, li_191, li_192, li_194, li_224, li_240, li_244, li_255, li_2048, li_55296, li_57343, li_65536, li_1114111, li_m1, li_m2] at *; omega
    exact th_IAE hx hb hml hlocks hce htr hown hA hG hl.1 (Nat.le_of_ble_eq_true rfl) (tx := "the row has not so many bytes") (by decide) d_D_cut_18 d_D_cut_21 d_D_cut_22 d_D_cut_24 d_D_cut_27 (Nat.le_of_ble_eq_true rfl) (Nat.le_of_ble_eq_true rfl) (Nat.le_of_ble_eq_true rfl) (Nat.le_of_ble_eq_true rfl) (by exact Or.inr (⟨rfl, by unfold spCut; rw [if_neg (fun h9 => h9 hir), hrj, hρ, if_pos hz2]⟩))
  · refine lv_iload_n hx hb d_D_cut_10 rfl (lv_at hl 3 rfl) ?_
    refine lv_aload_n hx hb d_D_cut_11 rfl (lv_at hl 0 rfl) ?_
    refine va_get (D := D) (ci := 1) (v := .int (nI n)) (C := R_R) (T := F_R) (N := 3) hx hb hA i_R hown hK hP 0 rfl rfl 1 (by decide) (hA _ k1_38) (fun _ h9 => h9) rfl d_D_cut_12 ?_
    refine lv_icmp_le (tgt := 28) hx hb d_D_cut_15 (by decide) (fun c15 => ?_) (fun c15 => ?_)
    · have hni : (nI n).toInt = (n : Int) := nI_toInt (by omega)
      have hz2 : 0 ≤ z.toInt ∧ z.toInt ≤ (n : Int) := by simp only [Int32.lt_iff_toInt_lt, Int32.le_iff_toInt_le, li_0, li_1, li_2, li_3, li_4, li_8, li_10, li_16, li_63, li_127, li_128, li_191, li_192, li_194, li_224, li_240, li_244, li_255, li_2048, li_55296, li_57343, li_65536, li_1114111, li_m1, li_m2] at *; omega
      obtain ⟨q, hq0, rfl⟩ := nI_of c7
      have hqi : (nI q).toInt = (q : Int) := nI_toInt hq0
      have hqn : (nI q).toInt.toNat = q := by rw [hqi]; rfl
      refine lv_aload_n hx hb d_D_cut_28 rfl (lv_at hl 0 rfl) ?_
      refine va_get (D := D) (ci := 1) (v := .int (nI n)) (C := R_R) (T := F_R) (N := 3) hx hb hA i_R hown hK hP 0 rfl rfl 1 (by decide) (hA _ k1_38) (fun _ h9 => h9) rfl d_D_cut_29 ?_
      refine lv_istore (lv' := [(4, .int (nI n)), (3, .ref (y j)), (0, .ref h), (1, .int x), (2, .int (nI q))]) hx hb d_D_cut_32 hl (by decide) rfl (fun ls hl => ?_)
      refine lv_aload_n hx hb d_D_cut_34 rfl (lv_at hl 1 rfl) ?_
      refine lv_iload_n hx hb d_D_cut_35 rfl (lv_at hl 4 rfl) ?_
      refine va_put (D := D) (ci := 1) (v := .int (nI q)) (ty := .int) (C := R_R) (T := F_R) (N := 3) hx hb hA i_R t_R t_R_ok n_R hown hK hP hD hS 0 rfl rfl 1 (by decide) (hA _ k1_38) (fun _ h9 => h9) rfl (by decide +kernel) rfl rfl (Nat.le_of_ble_eq_true rfl) d_D_cut_36 (fun H locs hP hD hS => ?_)
      have hP : va_P D vCl [((y j), .inr (1, [.ref (b j), .int (nI q), .int (nI p)])), ((b j), .inl (cB, M, .inl (fun j => sb_b (B j)))), c2_, c3_, c4_, c5_, c6_, c7_, c8_, c9_] H := hP
      have hD : va_D A [((y j), .inr (1, [.ref (b j), .int (nI q), .int (nI p)])), ((b j), .inl (cB, M, .inl (fun j => sb_b (B j)))), c2_, c3_, c4_, c5_, c6_, c7_, c8_, c9_] := hD
      refine lv_aload_n hx hb d_D_cut_39 rfl (lv_at hl 1 rfl) ?_
      refine lv_aload_n hx hb d_D_cut_40 rfl (lv_at hl 1 rfl) ?_
      refine va_get (D := D) (ci := 1) (v := .int (nI p)) (C := R_R) (T := F_R) (N := 3) hx hb hA i_R hown hK hP 0 rfl rfl 2 (by decide) (hA _ k1_40) (fun _ h9 => h9) rfl d_D_cut_41 ?_
      refine lv_iload_n hx hb d_D_cut_44 rfl (lv_at hl 4 rfl) ?_
      refine va_mmin hx hb (hml.trans hl.1.symm) hown (hA _ k1_23) (hA _ k1_24) (hA _ k1_2) (hA _ k1_25) (Nat.le_of_ble_eq_true rfl) (Nat.le_of_ble_eq_true rfl) (Nat.le_of_ble_eq_true rfl) (Nat.le_of_ble_eq_true rfl) d_D_cut_45 ?_
      refine lv_topi (fun v45 ev45 => ?_)
      have ev45 : v45 = nI (min p q) := by
        rw [ev45]
        by_cases h9 : q < p
        · rw [if_pos (nI_lt h9 (by omega)), Nat.min_eq_right (by omega)]
        · rw [if_neg (nI_nlt (by omega) (by omega)), Nat.min_eq_left (by omega)]
      subst ev45
      refine va_put (D := D) (ci := 1) (v := .int (nI (min p q))) (ty := .int) (C := R_R) (T := F_R) (N := 3) hx hb hA i_R t_R t_R_ok n_R hown hK hP hD hS 0 rfl rfl 2 (by decide) (hA _ k1_40) (fun _ h9 => h9) rfl (by decide +kernel) rfl rfl (Nat.le_of_ble_eq_true rfl) d_D_cut_48 (fun H locs hP hD hS => ?_)
      have hP : va_P D vCl [((y j), .inr (1, [.ref (b j), .int (nI q), .int (nI (min p q))])), ((b j), .inl (cB, M, .inl (fun j => sb_b (B j)))), c2_, c3_, c4_, c5_, c6_, c7_, c8_, c9_] H := hP
      have hD : va_D A [((y j), .inr (1, [.ref (b j), .int (nI q), .int (nI (min p q))])), ((b j), .inl (cB, M, .inl (fun j => sb_b (B j)))), c2_, c3_, c4_, c5_, c6_, c7_, c8_, c9_] := hD
      refine lv_iload hx hb d_D_cut_51 (lv_at hl 0 rfl) ?_
      exact tx_ret (W.iret (v := nI n) hx hb hr (fun t ht hW => Or.inl ⟨_, rfl, ⟨⟨_, va_up σ j (B, q, min p q), rfl, (by unfold spCut; rw [if_neg (fun h9 => h9 hir), hrj, hρ, if_neg (fun h9 => h9 hz2), hqn]), by rw [ht]; exact ho1 (B, q, min p q) _ hP, va_K.moved hW.alike hK, ho2 (B, q, min p q) _ hD⟩, hS.F ht⟩⟩) hS.2.2 d_D_cut_53)
    · have hni : (nI n).toInt = (n : Int) := nI_toInt (by omega)
      have hz2 : ¬ (0 ≤ z.toInt ∧ z.toInt ≤ (n : Int)) := by simp only [Int32.lt_iff_toInt_lt, Int32.le_iff_toInt_le, li_0, li_1, li_2, li_3, li_4, li_8, li_10, li_16, li_63, li_127, li_128, li_191, li_192, li_194, li_224, li_240, li_244, li_255, li_2048, li_55296, li_57343, li_65536, li_1114111, li_m1, li_m2] at *; omega
      exact th_IAE hx hb hml hlocks hce htr hown hA hG hl.1 (Nat.le_of_ble_eq_true rfl) (tx := "the row has not so many bytes") (by decide) d_D_cut_18 d_D_cut_21 d_D_cut_22 d_D_cut_24 d_D_cut_27 (Nat.le_of_ble_eq_true rfl) (Nat.le_of_ble_eq_true rfl) (Nat.le_of_ble_eq_true rfl) (Nat.le_of_ble_eq_true rfl) (by exact Or.inr (⟨rfl, by unfold spCut; rw [if_neg (fun h9 => h9 hir), hrj, hρ, if_pos hz2]⟩))
set_option maxHeartbeats 600000 in
set_option maxRecDepth 100000 in
/-- turn -/
theorem c_D_turn (l : Launch) (hL0 : l.stackTraces = false) (D : va_G) (cR cB : ClassId) (h ra : Nat) (g : Nat → Option Nat) (M : Nat) (y b : Nat → Nat) (σ : dkS) (sz : Nat) (x z : Int32) (hg : ∀ i, i < 4 → g i = some (y i)) (hσ : dkok M σ) : tx_Met l y_D_turn w_D_turn ({ frames := 7, cells := 1, slots := 6, locals := 111 }) (va_Pc [.ref h, .int x, .int z] (oxv sz D [(cB, .byte), (cR, .object "PacketDesk$Row")] [(h, .inr (0, [.ref ra])), (ra, .inl (cR, 4, .inr (.inr (.inr (.inr g))))), ((y 0), .inr (1, [.ref (b 0), .int (nI (σ 0).2.1), .int (nI (σ 0).2.2)])), ((b 0), .inl (cB, M, .inl (fun j => sb_b ((σ 0).1 j)))), ((y 1), .inr (1, [.ref (b 1), .int (nI (σ 1).2.1), .int (nI (σ 1).2.2)])), ((b 1), .inl (cB, M, .inl (fun j => sb_b ((σ 1).1 j)))), ((y 2), .inr (1, [.ref (b 2), .int (nI (σ 2).2.1), .int (nI (σ 2).2.2)])), ((b 2), .inl (cB, M, .inl (fun j => sb_b ((σ 2).1 j)))), ((y 3), .inr (1, [.ref (b 3), .int (nI (σ 3).2.1), .int (nI (σ 3).2.2)])), ((b 3), .inl (cB, M, .inl (fun j => sb_b ((σ 3).1 j))))])) (tx_Q (fun E => (E = X_IOOBE ∧ (spTurn σ x z).1 = 1) ∨ (E = X_IAE ∧ (spTurn σ x z).1 = 2)) (va_Qi (fun r (τ : dkS) => spTurn σ x z = (0, r, τ)) (fun τ => ow D [(cB, .byte), (cR, .object "PacketDesk$Row")] (va_A [(h, .inr (0, [.ref ra])), (ra, .inl (cR, 4, .inr (.inr (.inr (.inr g))))), ((y 0), .inr (1, [.ref (b 0), .int (nI (σ 0).2.1), .int (nI (σ 0).2.2)])), ((b 0), .inl (cB, M, .inl (fun j => sb_b ((σ 0).1 j)))), ((y 1), .inr (1, [.ref (b 1), .int (nI (σ 1).2.1), .int (nI (σ 1).2.2)])), ((b 1), .inl (cB, M, .inl (fun j => sb_b ((σ 1).1 j)))), ((y 2), .inr (1, [.ref (b 2), .int (nI (σ 2).2.1), .int (nI (σ 2).2.2)])), ((b 2), .inl (cB, M, .inl (fun j => sb_b ((σ 2).1 j)))), ((y 3), .inr (1, [.ref (b 3), .int (nI (σ 3).2.1), .int (nI (σ 3).2.2)])), ((b 3), .inl (cB, M, .inl (fun j => sb_b ((σ 3).1 j))))] sz) (dk cR cB h ra g M y b τ)) (va_A [(h, .inr (0, [.ref ra])), (ra, .inl (cR, 4, .inr (.inr (.inr (.inr g))))), ((y 0), .inr (1, [.ref (b 0), .int (nI (σ 0).2.1), .int (nI (σ 0).2.2)])), ((b 0), .inl (cB, M, .inl (fun j => sb_b ((σ 0).1 j)))), ((y 1), .inr (1, [.ref (b 1), .int (nI (σ 1).2.1), .int (nI (σ 1).2.2)])), ((b 1), .inl (cB, M, .inl (fun j => sb_b ((σ 1).1 j)))), ((y 2), .inr (1, [.ref (b 2), .int (nI (σ 2).2.1), .int (nI (σ 2).2.2)])), ((b 2), .inl (cB, M, .inl (fun j => sb_b ((σ 2).1 j)))), ((y 3), .inr (1, [.ref (b 3), .int (nI (σ 3).2.1), .int (nI (σ 3).2.2)])), ((b 3), .inl (cB, M, .inl (fun j => sb_b ((σ 3).1 j))))] sz))) 0 0 (va_A [(h, .inr (0, [.ref ra])), (ra, .inl (cR, 4, .inr (.inr (.inr (.inr g))))), ((y 0), .inr (1, [.ref (b 0), .int (nI (σ 0).2.1), .int (nI (σ 0).2.2)])), ((b 0), .inl (cB, M, .inl (fun j => sb_b ((σ 0).1 j)))), ((y 1), .inr (1, [.ref (b 1), .int (nI (σ 1).2.1), .int (nI (σ 1).2.2)])), ((b 1), .inl (cB, M, .inl (fun j => sb_b ((σ 1).1 j)))), ((y 2), .inr (1, [.ref (b 2), .int (nI (σ 2).2.1), .int (nI (σ 2).2.2)])), ((b 2), .inl (cB, M, .inl (fun j => sb_b ((σ 2).1 j)))), ((y 3), .inr (1, [.ref (b 3), .int (nI (σ 3).2.1), .int (nI (σ 3).2.2)])), ((b 3), .inl (cB, M, .inl (fun j => sb_b ((σ 3).1 j))))] sz) := by
  refine tx_ofW (cc := b_D_turn) (maxL := 5) (ret := (some .int)) (by decide) rfl ?_
  intro p9 e9 s m args below meth c9 s₁ BL hml hce hadm hv
  obtain ⟨rfl, hsz, hP, hK, hD0, hG⟩ := hv
  have hx := BL.exec
  have hb := BL.bytes
  have hr := BL.returns
  have hts := atoms_spec (ws := w_D_turn) BL.pre
  have hA : ∀ w ∈ wsA, w.before _ s = true := fun w h => hts w (List.mem_cons_of_mem _ h)
  have hown : s.vm.findClass R_D = some m.cls := findClass_of_methodNamed BL.named
  have hlocks := BL.notSynchronized
  have htr : e9.platform.stackTraces = false := by rw [hadm.platform]; exact hL0
  subst hsz
  have hD := hD0.self (sz := s.heap.size)
  generalize hAe : va_A [(h, .inr (0, [.ref ra])), (ra, .inl (cR, 4, .inr (.inr (.inr (.inr g))))), ((y 0), .inr (1, [.ref (b 0), .int (nI (σ 0).2.1), .int (nI (σ 0).2.2)])), ((b 0), .inl (cB, M, .inl (fun j => sb_b ((σ 0).1 j)))), ((y 1), .inr (1, [.ref (b 1), .int (nI (σ 1).2.1), .int (nI (σ 1).2.2)])), ((b 1), .inl (cB, M, .inl (fun j => sb_b ((σ 1).1 j)))), ((y 2), .inr (1, [.ref (b 2), .int (nI (σ 2).2.1), .int (nI (σ 2).2.2)])), ((b 2), .inl (cB, M, .inl (fun j => sb_b ((σ 2).1 j)))), ((y 3), .inr (1, [.ref (b 3), .int (nI (σ 3).2.1), .int (nI (σ 3).2.2)])), ((b 3), .inl (cB, M, .inl (fun j => sb_b ((σ 3).1 j))))] s.heap.size = A at hD ⊢
  have hAq : ∀ q : Nat, s.heap.size ≤ q → A q := fun q h => by rw [← hAe]; exact Or.inr h
  have hS : va_S A s.heap s.heap [] := va_S.rf
  have hP : va_P D vCl [(h, .inr (0, [.ref ra])), (ra, .inl (cR, 4, .inr (.inr (.inr (.inr g))))), ((y 0), .inr (1, [.ref (b 0), .int (nI (σ 0).2.1), .int (nI (σ 0).2.2)])), ((b 0), .inl (cB, M, .inl (fun j => sb_b ((σ 0).1 j)))), ((y 1), .inr (1, [.ref (b 1), .int (nI (σ 1).2.1), .int (nI (σ 1).2.2)])), ((b 1), .inl (cB, M, .inl (fun j => sb_b ((σ 1).1 j)))), ((y 2), .inr (1, [.ref (b 2), .int (nI (σ 2).2.1), .int (nI (σ 2).2.2)])), ((b 2), .inl (cB, M, .inl (fun j => sb_b ((σ 2).1 j)))), ((y 3), .inr (1, [.ref (b 3), .int (nI (σ 3).2.1), .int (nI (σ 3).2.2)])), ((b 3), .inl (cB, M, .inl (fun j => sb_b ((σ 3).1 j))))] s.heap := hP
  have hl := lv_entry ([.ref h, .int x, .int z]) (n := 5) (Nat.le_of_ble_eq_true rfl)
  rw [lg_entry_eq]
  generalize (lg_sl ([.ref h, .int x, .int z]) ++ List.replicate (5 - (lg_sl ([.ref h, .int x, .int z])).length) Slot.unset).toArray = ls at hl ⊢
  have hl : lv_has ls 5 [(0, .ref h), (1, .int x), (2, .int z)] := hl
  refine lv_aload_n hx hb d_D_turn_0 rfl (lv_at hl 0 rfl) ?_
  refine lv_iload_n hx hb d_D_turn_1 rfl (lv_at hl 1 rfl) ?_
  have hPc := hP.sub (ws' := [(h, .inr (0, [.ref ra])), (ra, .inl (cR, 4, .inr (.inr (.inr (.inr g)))))]) [0, 1] rfl
  have hKc := hK.sub (tys' := [(cR, .object "PacketDesk$Row")]) [1] rfl
  refine tx_sr (tx_runV (As := [.int x]) (rest := []) ⟨hx, hb, hml, hown, hA⟩ (c_D_rowOf l hL0 D cR h ra g y hg x) (q_D_rowOf hA k1_66 rfl rfl ⟨(Nat.le_of_ble_eq_true rfl), (Nat.le_of_ble_eq_true rfl)⟩) (ox_V (va_recv hKc hPc (ci := 0) (q0 := 0) rfl rfl) (oxg_S hPc hKc hG (fun _ _ => rfl))) rfl rfl hl.1 rfl (lv_room (Nat.le_of_ble_eq_true rfl)) d_D_turn_2 ⟨(Nat.le_of_ble_eq_true rfl), (Nat.le_of_ble_eq_true rfl)⟩) (fun x9 E9 H9 ht9 hE9 => tx_prop hlocks hce hE9 (Nat.le_refl _) (fun _ _ => rfl) (Or.inl (⟨ht9.1, by unfold spTurn; rw [if_pos ht9.2]⟩)) (fun q h => by cases h)) (fun j hj => ?_)
  obtain ⟨hj, hxj⟩ := hj
  refine lv_astore_n (lv' := [(3, .ref (y j)), (0, .ref h), (1, .int x), (2, .int z)]) hx hb d_D_turn_5 rfl hl (by decide) rfl (fun ls hl => ?_)
  obtain ⟨c2_, c3_, c4_, c5_, c6_, c7_, c8_, c9_, hi1, hi2, ho1, ho2⟩ := dk_1 D vCl cR cB h ra g M y b σ hj
  have hP : va_P D vCl [(y j, .inr (1, [.ref (b j), .int (nI (σ j).2.1), .int (nI (σ j).2.2)])), (b j, .inl (cB, M, .inl (fun j9 => sb_b ((σ j).1 j9)))), c2_, c3_, c4_, c5_, c6_, c7_, c8_, c9_] s.heap := hi1 _ hP
  have hD : va_D A [(y j, .inr (1, [.ref (b j), .int (nI (σ j).2.1), .int (nI (σ j).2.2)])), (b j, .inl (cB, M, .inl (fun j9 => sb_b ((σ j).1 j9)))), c2_, c3_, c4_, c5_, c6_, c7_, c8_, c9_] := hi2 _ hD
  obtain ⟨⟨B, n, p⟩, hρ⟩ : ∃ ρ, σ j = ρ := ⟨_, rfl⟩
  have hk := hσ.2 j hj
  have hM := hσ.1
  rw [hρ] at hP hk hD
  obtain ⟨hp, hn, hB⟩ := hk
  have hp : p ≤ n := hp
  have hn : n ≤ M := hn
  have hB : ∀ j, B j < 256 := hB
  have hP : va_P D vCl [((y j), .inr (1, [.ref (b j), .int (nI n), .int (nI p)])), ((b j), .inl (cB, M, .inl (fun j => sb_b (B j)))), c2_, c3_, c4_, c5_, c6_, c7_, c8_, c9_] s.heap := hP
  have hD : va_D A [((y j), .inr (1, [.ref (b j), .int (nI n), .int (nI p)])), ((b j), .inl (cB, M, .inl (fun j => sb_b (B j)))), c2_, c3_, c4_, c5_, c6_, c7_, c8_, c9_] := hD
  have hrj : rj x = j := by rw [hxj]; exact rj_n hj
  have hir : isR x := by rw [hxj]; exact isR_n hj
  refine lv_iload_n hx hb d_D_turn_6 rfl (lv_at hl 3 rfl) ?_
  refine lv_if_lt (tgt := 21) hx hb d_D_turn_7 (by decide) (fun c7 => ?_) (fun c7 => ?_)
  · have hz2 : ¬ (0 ≤ z.toInt ∧ z.toInt.toNat / 8 < n) := by rw [Int32.lt_iff_toInt_lt, li_0] at c7; omega
    exact th_IAE hx hb hml hlocks hce htr hown hA hG hl.1 (Nat.le_of_ble_eq_true rfl) (tx := "no such bit") (by decide) d_D_turn_21 d_D_turn_24 d_D_turn_25 d_D_turn_27 d_D_turn_30 (Nat.le_of_ble_eq_true rfl) (Nat.le_of_ble_eq_true rfl) (Nat.le_of_ble_eq_true rfl) (Nat.le_of_ble_eq_true rfl) (by exact Or.inr (⟨rfl, by unfold spTurn; rw [if_neg (fun h9 => h9 hir), hrj, hρ, if_pos hz2]⟩))
  · obtain ⟨q, hq0, rfl⟩ := nI_of c7
    have hqi : (nI q).toInt = (q : Int) := nI_toInt hq0
    have hqn : (nI q).toInt.toNat = q := by rw [hqi]; rfl
    have hd : nI q / 8 = nI (q / 8) := pk_div (d := 8) hq0 (by decide) (by decide)
    refine lv_iload_n hx hb d_D_turn_10 rfl (lv_at hl 3 rfl) ?_
    refine lv_bipush (v := 8) hx hb d_D_turn_11 (by decide) ?_
    refine lv_idiv hx hb d_D_turn_13 (by decide) ?_
    refine lv_topi (fun v13 ev13 => ?_)
    have ev13 : v13 = nI (q / 8) := by rw [ev13]; exact hd
    subst ev13
    refine lv_aload_n hx hb d_D_turn_14 rfl (lv_at hl 0 rfl) ?_
    refine va_get (D := D) (ci := 1) (v := .int (nI n)) (C := R_R) (T := F_R) (N := 3) hx hb hA i_R hown hK hP 0 rfl rfl 1 (by decide) (hA _ k1_38) (fun _ h9 => h9) rfl d_D_turn_15 ?_
    refine lv_icmp_lt (tgt := 31) hx hb d_D_turn_18 (by decide) (fun c18 => ?_) (fun c18 => ?_)
    · have hqn8 : q / 8 < n := (nI_ltI (a := q / 8) (b := n) (by omega) (by omega)).mp c18
      have hz2 : 0 ≤ (nI q).toInt ∧ (nI q).toInt.toNat / 8 < n := by rw [hqn, hqi]; omega
      refine lv_aload_n hx hb d_D_turn_31 rfl (lv_at hl 0 rfl) ?_
      refine lv_iload_n hx hb d_D_turn_32 rfl (lv_at hl 3 rfl) ?_
      refine lv_bipush (v := 8) hx hb d_D_turn_33 (by decide) ?_
      refine lv_idiv hx hb d_D_turn_35 (by decide) ?_
      refine lv_topi (fun v35 ev35 => ?_)
      have ev35 : v35 = nI (q / 8) := by rw [ev35]; exact hd
      subst ev35
      have hPc := hP.sub (ws' := [((y j), .inr (1, [.ref (b j), .int (nI n), .int (nI p)])), ((b j), .inl (cB, M, .inl (fun j => sb_b (B j))))]) [0, 1] rfl
      have hKc := hK.sub (tys' := [(cB, .byte)]) [0] rfl
      refine vp_callSi (W.runV (As := [.int (nI (q / 8))]) (rest := []) ⟨hx, hb, hml, hown, hA⟩ (c_R_get l D cB (y j) (b j) M B (nI n) (nI p) (q / 8) (by omega) hM hB) (q_R_get hA k2_21 rfl rfl ⟨(Nat.le_of_ble_eq_true rfl), (Nat.le_of_ble_eq_true rfl)⟩) (ox_V (va_recv hKc hPc (ci := 1) (q0 := 0) rfl rfl) (ox_S hPc hKc)) rfl rfl hl.1 rfl (lv_room (Nat.le_of_ble_eq_true rfl)) d_D_turn_36 ⟨(Nat.le_of_ble_eq_true rfl), (Nat.le_of_ble_eq_true rfl)⟩) (fun r36 hr36 => ?_)
      have er36 : r36 = nI (B (q / 8)) := hr36
      subst er36
      refine lv_iconst (v := 1) hx hb d_D_turn_39 (by decide) ?_
      refine lv_iload_n hx hb d_D_turn_40 rfl (lv_at hl 3 rfl) ?_
      refine lv_bipush (v := 8) hx hb d_D_turn_41 (by decide) ?_
      refine lv_irem hx hb d_D_turn_43 (by decide) ?_
      refine lv_topi (fun v43 ev43 => ?_)
      have ev43 : v43 = nI (q % 8) := by rw [ev43]; exact pk_rem (d := 8) hq0 (by decide) (by decide)
      subst ev43
      refine lv_ishl hx hb d_D_turn_44 ?_
      refine lv_topi (fun v44 ev44 => ?_)
      have ev44 : v44 = nI (2 ^ (q % 8)) := by rw [ev44]; exact (sh_n (n := 1) (k := q % 8) (by omega) (by have : 2 ^ (q % 8) < 2 ^ 8 := Nat.pow_lt_pow_right (by decide) (by omega); omega)).trans (by rw [Nat.one_mul])
      subst ev44
      refine lv_ixor hx hb d_D_turn_45 ?_
      refine lv_topi (fun v45 ev45 => ?_)
      have hp2 : 2 ^ (q % 8) < 2 ^ 8 := Nat.pow_lt_pow_right (by decide) (by omega)
      have hB8 := hB (q / 8)
      have hx8 : (B (q / 8) ^^^ 2 ^ (q % 8)) < 256 := xor_256 hB8 (by omega)
      have ev45 : v45 = nI (B (q / 8) ^^^ 2 ^ (q % 8)) := by rw [ev45]; exact nI_xor (by omega) (by omega)
      subst ev45
      refine lv_istore (lv' := [(4, .int (nI (B (q / 8) ^^^ 2 ^ (q % 8)))), (3, .ref (y j)), (0, .ref h), (1, .int x), (2, .int (nI q))]) hx hb d_D_turn_46 hl (by decide) rfl (fun ls hl => ?_)
      refine lv_aload_n hx hb d_D_turn_48 rfl (lv_at hl 1 rfl) ?_
      refine va_get (D := D) (ci := 1) (v := .ref (b j)) (C := R_R) (T := F_R) (N := 3) hx hb hA i_R hown hK hP 0 rfl rfl 0 (by decide) (hA _ k1_37) (fun _ h9 => h9) rfl d_D_turn_49 ?_
      refine lv_iload_n hx hb d_D_turn_52 rfl (lv_at hl 4 rfl) ?_
      refine lv_bipush (v := 8) hx hb d_D_turn_53 (by decide) ?_
      refine lv_idiv hx hb d_D_turn_55 (by decide) ?_
      refine lv_topi (fun v55 ev55 => ?_)
      have ev55 : v55 = nI (q / 8) := by rw [ev55]; exact hd
      subst ev55
      refine lv_iload hx hb d_D_turn_56 (lv_at hl 0 rfl) ?_
      refine lv_i2b hx hb d_D_turn_58 rfl ?_
      refine lv_topi (fun v58 ev58 => ?_)
      subst ev58
      refine va_bast hx hb hK hP hD hS 1 0 rfl rfl (vp_in_nI (n := q / 8) (N := M) (by omega) (by omega)) d_D_turn_59 (fun H locs hP hD hS => ?_)
      have hP : va_P D vCl [((y j), .inr (1, [.ref (b j), .int (nI n), .int (nI p)])), ((b j), .inl (cB, M, .inl (upd (fun j => sb_b (B j)) (nI (q / 8)).toNatClampNeg (vp_nar .byte ((nI (B (q / 8) ^^^ 2 ^ (q % 8))).toInt8.toInt32))))), c2_, c3_, c4_, c5_, c6_, c7_, c8_, c9_] H := hP
      have hD : va_D A [((y j), .inr (1, [.ref (b j), .int (nI n), .int (nI p)])), ((b j), .inl (cB, M, .inl (upd (fun j => sb_b (B j)) (nI (q / 8)).toNatClampNeg (vp_nar .byte ((nI (B (q / 8) ^^^ 2 ^ (q % 8))).toInt8.toInt32))))), c2_, c3_, c4_, c5_, c6_, c7_, c8_, c9_] := hD
      rw [show upd (fun j => sb_b (B j)) (nI (q / 8)).toNatClampNeg (vp_nar .byte ((nI (B (q / 8) ^^^ 2 ^ (q % 8))).toInt8.toInt32)) = fun j9 => sb_b (va_up B (q / 8) (B (q / 8) ^^^ 2 ^ (q % 8)) j9) from by rw [by_up B (by omega), pk_tn (by omega), Nat.mod_eq_of_lt hx8]] at hP hD
      refine lv_iload hx hb d_D_turn_60 (lv_at hl 0 rfl) ?_
      exact tx_ret (W.iret (v := nI (B (q / 8) ^^^ 2 ^ (q % 8))) hx hb hr (fun t ht hW => Or.inl ⟨_, rfl, ⟨⟨_, va_up σ j (va_up B (q / 8) (B (q / 8) ^^^ 2 ^ (q % 8)), n, p), rfl, (by unfold spTurn; rw [if_neg (fun h9 => h9 hir), hrj, hρ, if_neg (fun h9 => h9 hz2), hqn]), by rw [ht]; exact ho1 (va_up B (q / 8) (B (q / 8) ^^^ 2 ^ (q % 8)), n, p) _ hP, va_K.moved hW.alike hK, ho2 (va_up B (q / 8) (B (q / 8) ^^^ 2 ^ (q % 8)), n, p) _ hD⟩, hS.F ht⟩⟩) hS.2.2 d_D_turn_62)
    · have hz2 : ¬ (0 ≤ (nI q).toInt ∧ (nI q).toInt.toNat / 8 < n) := by rw [hqn]; have := mt (nI_ltI (a := q / 8) (b := n) (by omega) (by omega)).mpr c18; omega
      exact th_IAE hx hb hml hlocks hce htr hown hA hG hl.1 (Nat.le_of_ble_eq_true rfl) (tx := "no such bit") (by decide) d_D_turn_21 d_D_turn_24 d_D_turn_25 d_D_turn_27 d_D_turn_30 (Nat.le_of_ble_eq_true rfl) (Nat.le_of_ble_eq_true rfl) (Nat.le_of_ble_eq_true rfl) (Nat.le_of_ble_eq_true rfl) (by exact Or.inr (⟨rfl, by unfold spTurn; rw [if_neg (fun h9 => h9 hir), hrj, hρ, if_pos hz2]⟩))
set_option maxHeartbeats 600000 in
set_option maxRecDepth 100000 in
/-- readFixed -/
theorem c_D_readFixed (l : Launch) (hL0 : l.stackTraces = false) (D : va_G) (cR cB : ClassId) (h ra : Nat) (g : Nat → Option Nat) (M : Nat) (y b : Nat → Nat) (σ : dkS) (sz : Nat) (x z : Int32) (hg : ∀ i, i < 4 → g i = some (y i)) (hσ : dkok M σ) : tx_Met l y_D_readFixed w_D_readFixed ({ frames := 7, cells := 1, slots := 6, locals := 111 }) (va_Pc [.ref h, .int x, .int z] (oxv sz D [(cB, .byte), (cR, .object "PacketDesk$Row")] [(h, .inr (0, [.ref ra])), (ra, .inl (cR, 4, .inr (.inr (.inr (.inr g))))), ((y 0), .inr (1, [.ref (b 0), .int (nI (σ 0).2.1), .int (nI (σ 0).2.2)])), ((b 0), .inl (cB, M, .inl (fun j => sb_b ((σ 0).1 j)))), ((y 1), .inr (1, [.ref (b 1), .int (nI (σ 1).2.1), .int (nI (σ 1).2.2)])), ((b 1), .inl (cB, M, .inl (fun j => sb_b ((σ 1).1 j)))), ((y 2), .inr (1, [.ref (b 2), .int (nI (σ 2).2.1), .int (nI (σ 2).2.2)])), ((b 2), .inl (cB, M, .inl (fun j => sb_b ((σ 2).1 j)))), ((y 3), .inr (1, [.ref (b 3), .int (nI (σ 3).2.1), .int (nI (σ 3).2.2)])), ((b 3), .inl (cB, M, .inl (fun j => sb_b ((σ 3).1 j))))])) (tx_Q (fun E => (E = X_IOOBE ∧ (spReadFixed σ x z).1 = 1) ∨ (E = X_IAE ∧ (spReadFixed σ x z).1 = 2) ∨ (E = X_NSEE ∧ (spReadFixed σ x z).1 = 3)) (va_Ql (fun r (τ : dkS) => spReadFixed σ x z = (0, r, τ)) (fun τ => ow D [(cB, .byte), (cR, .object "PacketDesk$Row")] (va_A [(h, .inr (0, [.ref ra])), (ra, .inl (cR, 4, .inr (.inr (.inr (.inr g))))), ((y 0), .inr (1, [.ref (b 0), .int (nI (σ 0).2.1), .int (nI (σ 0).2.2)])), ((b 0), .inl (cB, M, .inl (fun j => sb_b ((σ 0).1 j)))), ((y 1), .inr (1, [.ref (b 1), .int (nI (σ 1).2.1), .int (nI (σ 1).2.2)])), ((b 1), .inl (cB, M, .inl (fun j => sb_b ((σ 1).1 j)))), ((y 2), .inr (1, [.ref (b 2), .int (nI (σ 2).2.1), .int (nI (σ 2).2.2)])), ((b 2), .inl (cB, M, .inl (fun j => sb_b ((σ 2).1 j)))), ((y 3), .inr (1, [.ref (b 3), .int (nI (σ 3).2.1), .int (nI (σ 3).2.2)])), ((b 3), .inl (cB, M, .inl (fun j => sb_b ((σ 3).1 j))))] sz) (dk cR cB h ra g M y b τ)) (va_A [(h, .inr (0, [.ref ra])), (ra, .inl (cR, 4, .inr (.inr (.inr (.inr g))))), ((y 0), .inr (1, [.ref (b 0), .int (nI (σ 0).2.1), .int (nI (σ 0).2.2)])), ((b 0), .inl (cB, M, .inl (fun j => sb_b ((σ 0).1 j)))), ((y 1), .inr (1, [.ref (b 1), .int (nI (σ 1).2.1), .int (nI (σ 1).2.2)])), ((b 1), .inl (cB, M, .inl (fun j => sb_b ((σ 1).1 j)))), ((y 2), .inr (1, [.ref (b 2), .int (nI (σ 2).2.1), .int (nI (σ 2).2.2)])), ((b 2), .inl (cB, M, .inl (fun j => sb_b ((σ 2).1 j)))), ((y 3), .inr (1, [.ref (b 3), .int (nI (σ 3).2.1), .int (nI (σ 3).2.2)])), ((b 3), .inl (cB, M, .inl (fun j => sb_b ((σ 3).1 j))))] sz))) 0 0 (va_A [(h, .inr (0, [.ref ra])), (ra, .inl (cR, 4, .inr (.inr (.inr (.inr g))))), ((y 0), .inr (1, [.ref (b 0), .int (nI (σ 0).2.1), .int (nI (σ 0).2.2)])), ((b 0), .inl (cB, M, .inl (fun j => sb_b ((σ 0).1 j)))), ((y 1), .inr (1, [.ref (b 1), .int (nI (σ 1).2.1), .int (nI (σ 1).2.2)])), ((b 1), .inl (cB, M, .inl (fun j => sb_b ((σ 1).1 j)))), ((y 2), .inr (1, [.ref (b 2), .int (nI (σ 2).2.1), .int (nI (σ 2).2.2)])), ((b 2), .inl (cB, M, .inl (fun j => sb_b ((σ 2).1 j)))), ((y 3), .inr (1, [.ref (b 3), .int (nI (σ 3).2.1), .int (nI (σ 3).2.2)])), ((b 3), .inl (cB, M, .inl (fun j => sb_b ((σ 3).1 j))))] sz) := by
  refine tx_ofW (cc := b_D_readFixed) (maxL := 6) (ret := (some .long)) (by decide) rfl ?_
  intro p9 e9 s m args below meth c9 s₁ BL hml hce hadm hv
  obtain ⟨rfl, hsz, hP, hK, hD0, hG⟩ := hv
  have hx := BL.exec
  have hb := BL.bytes
  have hr := BL.returns
  have hts := atoms_spec (ws := w_D_readFixed) BL.pre
  have hA : ∀ w ∈ wsA, w.before _ s = true := fun w h => hts w (List.mem_cons_of_mem _ h)
  have hown : s.vm.findClass R_D = some m.cls := findClass_of_methodNamed BL.named
  have hlocks := BL.notSynchronized
  have htr : e9.platform.stackTraces = false := by rw [hadm.platform]; exact hL0
  subst hsz
  have hD := hD0.self (sz := s.heap.size)
  generalize hAe : va_A [(h, .inr (0, [.ref ra])), (ra, .inl (cR, 4, .inr (.inr (.inr (.inr g))))), ((y 0), .inr (1, [.ref (b 0), .int (nI (σ 0).2.1), .int (nI (σ 0).2.2)])), ((b 0), .inl (cB, M, .inl (fun j => sb_b ((σ 0).1 j)))), ((y 1), .inr (1, [.ref (b 1), .int (nI (σ 1).2.1), .int (nI (σ 1).2.2)])), ((b 1), .inl (cB, M, .inl (fun j => sb_b ((σ 1).1 j)))), ((y 2), .inr (1, [.ref (b 2), .int (nI (σ 2).2.1), .int (nI (σ 2).2.2)])), ((b 2), .inl (cB, M, .inl (fun j => sb_b ((σ 2).1 j)))), ((y 3), .inr (1, [.ref (b 3), .int (nI (σ 3).2.1), .int (nI (σ 3).2.2)])), ((b 3), .inl (cB, M, .inl (fun j => sb_b ((σ 3).1 j))))] s.heap.size = A at hD ⊢
  have hAq : ∀ q : Nat, s.heap.size ≤ q → A q := fun q h => by rw [← hAe]; exact Or.inr h
  have hS : va_S A s.heap s.heap [] := va_S.rf
  have hP : va_P D vCl [(h, .inr (0, [.ref ra])), (ra, .inl (cR, 4, .inr (.inr (.inr (.inr g))))), ((y 0), .inr (1, [.ref (b 0), .int (nI (σ 0).2.1), .int (nI (σ 0).2.2)])), ((b 0), .inl (cB, M, .inl (fun j => sb_b ((σ 0).1 j)))), ((y 1), .inr (1, [.ref (b 1), .int (nI (σ 1).2.1), .int (nI (σ 1).2.2)])), ((b 1), .inl (cB, M, .inl (fun j => sb_b ((σ 1).1 j)))), ((y 2), .inr (1, [.ref (b 2), .int (nI (σ 2).2.1), .int (nI (σ 2).2.2)])), ((b 2), .inl (cB, M, .inl (fun j => sb_b ((σ 2).1 j)))), ((y 3), .inr (1, [.ref (b 3), .int (nI (σ 3).2.1), .int (nI (σ 3).2.2)])), ((b 3), .inl (cB, M, .inl (fun j => sb_b ((σ 3).1 j))))] s.heap := hP
  have hl := lv_entry ([.ref h, .int x, .int z]) (n := 6) (Nat.le_of_ble_eq_true rfl)
  rw [lg_entry_eq]
  generalize (lg_sl ([.ref h, .int x, .int z]) ++ List.replicate (6 - (lg_sl ([.ref h, .int x, .int z])).length) Slot.unset).toArray = ls at hl ⊢
  have hl : lv_has ls 6 [(0, .ref h), (1, .int x), (2, .int z)] := hl
  refine lv_aload_n hx hb d_D_readFixed_0 rfl (lv_at hl 0 rfl) ?_
  refine lv_iload_n hx hb d_D_readFixed_1 rfl (lv_at hl 1 rfl) ?_
  have hPc := hP.sub (ws' := [(h, .inr (0, [.ref ra])), (ra, .inl (cR, 4, .inr (.inr (.inr (.inr g)))))]) [0, 1] rfl
  have hKc := hK.sub (tys' := [(cR, .object "PacketDesk$Row")]) [1] rfl
  refine tx_sr (tx_runV (As := [.int x]) (rest := []) ⟨hx, hb, hml, hown, hA⟩ (c_D_rowOf l hL0 D cR h ra g y hg x) (q_D_rowOf hA k1_66 rfl rfl ⟨(Nat.le_of_ble_eq_true rfl), (Nat.le_of_ble_eq_true rfl)⟩) (ox_V (va_recv hKc hPc (ci := 0) (q0 := 0) rfl rfl) (oxg_S hPc hKc hG (fun _ _ => rfl))) rfl rfl hl.1 rfl (lv_room (Nat.le_of_ble_eq_true rfl)) d_D_readFixed_2 ⟨(Nat.le_of_ble_eq_true rfl), (Nat.le_of_ble_eq_true rfl)⟩) (fun x9 E9 H9 ht9 hE9 => tx_prop hlocks hce hE9 (Nat.le_refl _) (fun _ _ => rfl) (Or.inl (⟨ht9.1, by unfold spReadFixed; rw [if_pos ht9.2]⟩)) (fun q h => by cases h)) (fun j hj => ?_)
  obtain ⟨hj, hxj⟩ := hj
  refine lv_astore_n (lv' := [(3, .ref (y j)), (0, .ref h), (1, .int x), (2, .int z)]) hx hb d_D_readFixed_5 rfl hl (by decide) rfl (fun ls hl => ?_)
  obtain ⟨c2_, c3_, c4_, c5_, c6_, c7_, c8_, c9_, hi1, hi2, ho1, ho2⟩ := dk_1 D vCl cR cB h ra g M y b σ hj
  have hP : va_P D vCl [(y j, .inr (1, [.ref (b j), .int (nI (σ j).2.1), .int (nI (σ j).2.2)])), (b j, .inl (cB, M, .inl (fun j9 => sb_b ((σ j).1 j9)))), c2_, c3_, c4_, c5_, c6_, c7_, c8_, c9_] s.heap := hi1 _ hP
  have hD : va_D A [(y j, .inr (1, [.ref (b j), .int (nI (σ j).2.1), .int (nI (σ j).2.2)])), (b j, .inl (cB, M, .inl (fun j9 => sb_b ((σ j).1 j9)))), c2_, c3_, c4_, c5_, c6_, c7_, c8_, c9_] := hi2 _ hD
  obtain ⟨⟨B, n, p⟩, hρ⟩ : ∃ ρ, σ j = ρ := ⟨_, rfl⟩
  have hk := hσ.2 j hj
  have hM := hσ.1
  rw [hρ] at hP hk hD
  obtain ⟨hp, hn, hB⟩ := hk
  have hp : p ≤ n := hp
  have hn : n ≤ M := hn
  have hB : ∀ j, B j < 256 := hB
  have hP : va_P D vCl [((y j), .inr (1, [.ref (b j), .int (nI n), .int (nI p)])), ((b j), .inl (cB, M, .inl (fun j => sb_b (B j)))), c2_, c3_, c4_, c5_, c6_, c7_, c8_, c9_] s.heap := hP
  have hD : va_D A [((y j), .inr (1, [.ref (b j), .int (nI n), .int (nI p)])), ((b j), .inl (cB, M, .inl (fun j => sb_b (B j)))), c2_, c3_, c4_, c5_, c6_, c7_, c8_, c9_] := hD
  have hrj : rj x = j := by rw [hxj]; exact rj_n hj
  have hir : isR x := by rw [hxj]; exact isR_n hj
  refine lv_iload_n hx hb d_D_readFixed_6 rfl (lv_at hl 3 rfl) ?_
  refine tx_sv (tx_runS (As := [.int z]) (rest := []) ⟨hx, hb, hml, hown, hA⟩ (c_D_needFixedWidth l hL0 z) (q_D_needFixedWidth hA k1_139 rfl rfl ⟨(Nat.le_of_ble_eq_true rfl), (Nat.le_of_ble_eq_true rfl)⟩) (g_S hG (fun _ _ => rfl)) rfl rfl hl.1 rfl (lv_room (Nat.le_of_ble_eq_true rfl)) d_D_readFixed_7 ⟨(Nat.le_of_ble_eq_true rfl), (Nat.le_of_ble_eq_true rfl)⟩) (fun x9 E9 H9 ht9 hE9 => tx_prop hlocks hce hE9 (Nat.le_refl _) (fun _ _ => rfl) (Or.inr (Or.inl (⟨ht9.1, by unfold spReadFixed; rw [if_neg (fun h9 => h9 hir), if_pos ht9.2]⟩))) (fun q h => by cases h)) (fun hr7 => ?_)
  obtain ⟨k, hk0, rfl⟩ := nI_of (show ¬ z < 0 by rw [Int32.lt_iff_toInt_lt, li_0]; omega)
  have hki : (nI k).toInt = (k : Int) := nI_toInt hk0
  have hkn : (nI k).toInt.toNat = k := by rw [hki]; rfl
  refine lv_aload_n hx hb d_D_readFixed_10 rfl (lv_at hl 0 rfl) ?_
  refine lv_iload_n hx hb d_D_readFixed_11 rfl (lv_at hl 3 rfl) ?_
  have hPc := hP.sub (ws' := [((y j), .inr (1, [.ref (b j), .int (nI n), .int (nI p)])), ((b j), .inl (cB, M, .inl (fun j => sb_b (B j))))]) [0, 1] rfl
  have hKc := hK.sub (tys' := [(cB, .byte)]) [0] rfl
  refine tx_sv (tx_runS (As := [.ref (y j), .int (nI k)]) (rest := []) ⟨hx, hb, hml, hown, hA⟩ (c_D_needLeft l hL0 D cB (y j) (b j) M B n p hn hM hp k (by omega)) (q_D_needLeft hA k2_57 rfl rfl ⟨(Nat.le_of_ble_eq_true rfl), (Nat.le_of_ble_eq_true rfl)⟩) (oxg_S hPc hKc hG (fun _ _ => rfl)) rfl rfl hl.1 rfl (lv_room (Nat.le_of_ble_eq_true rfl)) d_D_readFixed_12 ⟨(Nat.le_of_ble_eq_true rfl), (Nat.le_of_ble_eq_true rfl)⟩) (fun x9 E9 H9 ht9 hE9 => tx_prop hlocks hce hE9 (Nat.le_refl _) (fun _ _ => rfl) (Or.inr (Or.inr (⟨ht9.1, by unfold spReadFixed; rw [if_neg (fun h9 => h9 hir), if_neg (fun h9 => h9 hr7), hrj, hρ, hkn, if_pos ht9.2]⟩))) (fun q h => by cases h)) (fun hr12 => ?_)
  refine lv_aload_n hx hb d_D_readFixed_15 rfl (lv_at hl 0 rfl) ?_
  refine lv_aload_n hx hb d_D_readFixed_16 rfl (lv_at hl 0 rfl) ?_
  refine va_get (D := D) (ci := 1) (v := .int (nI p)) (C := R_R) (T := F_R) (N := 3) hx hb hA i_R hown hK hP 0 rfl rfl 2 (by decide) (hA _ k1_40) (fun _ h9 => h9) rfl d_D_readFixed_17 ?_
  refine lv_iload_n hx hb d_D_readFixed_20 rfl (lv_at hl 3 rfl) ?_
  have hPc := hP.sub (ws' := [((y j), .inr (1, [.ref (b j), .int (nI n), .int (nI p)])), ((b j), .inl (cB, M, .inl (fun j => sb_b (B j))))]) [0, 1] rfl
  have hKc := hK.sub (tys' := [(cB, .byte)]) [0] rfl
  refine vp_callSl (W.runS (As := [.ref (y j), .int (nI p), .int (nI k)]) (rest := []) ⟨hx, hb, hml, hown, hA⟩ (c_D_fixedAt l D cB (y j) (b j) M B (nI n) (nI p) p k (by omega) (by omega) hM hB) (q_D_fixedAt hA k2_76 rfl rfl ⟨(Nat.le_of_ble_eq_true rfl), (Nat.le_of_ble_eq_true rfl)⟩) (ox_S hPc hKc) rfl rfl hl.1 rfl (lv_room (Nat.le_of_ble_eq_true rfl)) d_D_readFixed_21 ⟨(Nat.le_of_ble_eq_true rfl), (Nat.le_of_ble_eq_true rfl)⟩) (fun r21 hr21 => ?_)
  have er21 : r21 = lN (fx B p k) := hr21
  subst er21
  refine lv_lstore (lv' := [(4, .long (lN (fx B p k))), (3, .ref (y j)), (0, .ref h), (1, .int x), (2, .int (nI k))]) hx hb d_D_readFixed_24 hl (by decide) rfl (fun ls hl => ?_)
  refine lv_aload_n hx hb d_D_readFixed_26 rfl (lv_at hl 1 rfl) ?_
  refine lv_dup hx hb d_D_readFixed_27 rfl ?_
  refine va_get (D := D) (ci := 1) (v := .int (nI p)) (C := R_R) (T := F_R) (N := 3) hx hb hA i_R hown hK hP 0 rfl rfl 2 (by decide) (hA _ k1_40) (fun _ h9 => h9) rfl d_D_readFixed_28 ?_
  refine lv_iload_n hx hb d_D_readFixed_31 rfl (lv_at hl 4 rfl) ?_
  refine lv_iadd hx hb d_D_readFixed_32 ?_
  refine lv_topi (fun v32 ev32 => ?_)
  have ev32 : v32 = nI (p + k) := by rw [ev32]; exact nI_add p k
  subst ev32
  refine va_put (D := D) (ci := 1) (v := .int (nI (p + k))) (ty := .int) (C := R_R) (T := F_R) (N := 3) hx hb hA i_R t_R t_R_ok n_R hown hK hP hD hS 0 rfl rfl 2 (by decide) (hA _ k1_40) (fun _ h9 => h9) rfl (by decide +kernel) rfl rfl (Nat.le_of_ble_eq_true rfl) d_D_readFixed_33 (fun H locs hP hD hS => ?_)
  have hP : va_P D vCl [((y j), .inr (1, [.ref (b j), .int (nI n), .int (nI (p + k))])), ((b j), .inl (cB, M, .inl (fun j => sb_b (B j)))), c2_, c3_, c4_, c5_, c6_, c7_, c8_, c9_] H := hP
  have hD : va_D A [((y j), .inr (1, [.ref (b j), .int (nI n), .int (nI (p + k))])), ((b j), .inl (cB, M, .inl (fun j => sb_b (B j)))), c2_, c3_, c4_, c5_, c6_, c7_, c8_, c9_] := hD
  refine lv_lload hx hb d_D_readFixed_36 (lv_at hl 0 rfl) ?_
  exact tx_ret (W.lret (v := lN (fx B p k)) hx hb hr (fun t ht hW => Or.inl ⟨_, rfl, ⟨⟨_, va_up σ j (B, n, p + k), rfl, (by unfold spReadFixed; rw [if_neg (fun h9 => h9 hir), if_neg (fun h9 => h9 hr7), hrj, hρ, hkn, if_neg (Nat.not_lt.mpr hr12)]), by rw [ht]; exact ho1 (B, n, p + k) _ hP, va_K.moved hW.alike hK, ho2 (B, n, p + k) _ hD⟩, hS.F ht⟩⟩) hS.2.2 d_D_readFixed_38)
