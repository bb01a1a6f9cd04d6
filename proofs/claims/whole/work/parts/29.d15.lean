/-! THE CLASS: COPY, BLOCK, FRAME -/
theorem va_up2 {σ : dkS} {j i : Nat} (h : ¬ j = i) {q : (Nat → Nat) × Nat × Nat} (hq : σ i = q) (r : (Nat → Nat) × Nat × Nat) : va_up (va_up σ j r) i q = va_up σ j r := by
  funext k
  unfold va_up
  by_cases h1 : k = i
  · rw [if_pos h1, if_neg (fun h2 => h (by rw [← h1, h2])), h1, hq]
  · rw [if_neg h1]
theorem wr_congr (B : Nat → Nat) (n : Nat) {k : Nat} {f g : Nat → Nat} (h : ∀ i, i < k → f i = g i) : wr B n k f = wr B n k g := by
  funext j
  unfold wr
  split
  · exact h _ (by omega)
  · rfl
theorem wr_out {B : Nat → Nat} {n k i : Nat} {f : Nat → Nat} (h : i < n) : wr B n k f i = B i := by
  unfold wr
  rw [if_neg (by omega)]
theorem crcs_congr {B C : Nat → Nat} (a : Nat) {k : Nat} (h : ∀ i, i < k → B (a + i) = C (a + i)) : crcs B a k = crcs C a k := by
  induction k with
  | zero => rfl
  | succ k ih =>
    show crc8 8 (crcs B a k ^^^ nI (B (a + k))) = crc8 8 (crcs C a k ^^^ nI (C (a + k)))
    rw [ih (fun i hi => h i (by omega)), h k (by omega)]
set_option maxHeartbeats 600000 in
set_option maxRecDepth 100000 in
/-- copy -/
theorem c_D_copy (l : Launch) (hL0 : l.stackTraces = false) (D : va_G) (cR cB : ClassId) (h ra : Nat) (g : Nat → Option Nat) (M : Nat) (y b : Nat → Nat) (σ : dkS) (sz : Nat) (x f a k : Int32) (hg : ∀ i, i < 4 → g i = some (y i)) (hσ : dkok M σ) : tx_Met l y_D_copy w_D_copy ({ frames := 7, cells := 1, slots := 6, locals := 112 }) (va_Pc [.ref h, .int x, .int f, .int a, .int k] (oxv sz D [(cB, .byte), (cR, .object "PacketDesk$Row")] [(h, .inr (0, [.ref ra])), (ra, .inl (cR, 4, .inr (.inr (.inr (.inr g))))), ((y 0), .inr (1, [.ref (b 0), .int (nI (σ 0).2.1), .int (nI (σ 0).2.2)])), ((b 0), .inl (cB, M, .inl (fun j => sb_b ((σ 0).1 j)))), ((y 1), .inr (1, [.ref (b 1), .int (nI (σ 1).2.1), .int (nI (σ 1).2.2)])), ((b 1), .inl (cB, M, .inl (fun j => sb_b ((σ 1).1 j)))), ((y 2), .inr (1, [.ref (b 2), .int (nI (σ 2).2.1), .int (nI (σ 2).2.2)])), ((b 2), .inl (cB, M, .inl (fun j => sb_b ((σ 2).1 j)))), ((y 3), .inr (1, [.ref (b 3), .int (nI (σ 3).2.1), .int (nI (σ 3).2.2)])), ((b 3), .inl (cB, M, .inl (fun j => sb_b ((σ 3).1 j))))])) (tx_Q (fun E => (E = X_IOOBE ∧ (spCopy M σ x f a k).1 = 1) ∨ (E = X_IAE ∧ (spCopy M σ x f a k).1 = 2) ∨ (E = X_ISE ∧ (spCopy M σ x f a k).1 = 3)) (va_Qi (fun r (τ : dkS) => spCopy M σ x f a k = (0, r, τ)) (fun τ => ow D [(cB, .byte), (cR, .object "PacketDesk$Row")] (va_A [(h, .inr (0, [.ref ra])), (ra, .inl (cR, 4, .inr (.inr (.inr (.inr g))))), ((y 0), .inr (1, [.ref (b 0), .int (nI (σ 0).2.1), .int (nI (σ 0).2.2)])), ((b 0), .inl (cB, M, .inl (fun j => sb_b ((σ 0).1 j)))), ((y 1), .inr (1, [.ref (b 1), .int (nI (σ 1).2.1), .int (nI (σ 1).2.2)])), ((b 1), .inl (cB, M, .inl (fun j => sb_b ((σ 1).1 j)))), ((y 2), .inr (1, [.ref (b 2), .int (nI (σ 2).2.1), .int (nI (σ 2).2.2)])), ((b 2), .inl (cB, M, .inl (fun j => sb_b ((σ 2).1 j)))), ((y 3), .inr (1, [.ref (b 3), .int (nI (σ 3).2.1), .int (nI (σ 3).2.2)])), ((b 3), .inl (cB, M, .inl (fun j => sb_b ((σ 3).1 j))))] sz) (dk cR cB h ra g M y b τ)) (va_A [(h, .inr (0, [.ref ra])), (ra, .inl (cR, 4, .inr (.inr (.inr (.inr g))))), ((y 0), .inr (1, [.ref (b 0), .int (nI (σ 0).2.1), .int (nI (σ 0).2.2)])), ((b 0), .inl (cB, M, .inl (fun j => sb_b ((σ 0).1 j)))), ((y 1), .inr (1, [.ref (b 1), .int (nI (σ 1).2.1), .int (nI (σ 1).2.2)])), ((b 1), .inl (cB, M, .inl (fun j => sb_b ((σ 1).1 j)))), ((y 2), .inr (1, [.ref (b 2), .int (nI (σ 2).2.1), .int (nI (σ 2).2.2)])), ((b 2), .inl (cB, M, .inl (fun j => sb_b ((σ 2).1 j)))), ((y 3), .inr (1, [.ref (b 3), .int (nI (σ 3).2.1), .int (nI (σ 3).2.2)])), ((b 3), .inl (cB, M, .inl (fun j => sb_b ((σ 3).1 j))))] sz))) 0 0 (va_A [(h, .inr (0, [.ref ra])), (ra, .inl (cR, 4, .inr (.inr (.inr (.inr g))))), ((y 0), .inr (1, [.ref (b 0), .int (nI (σ 0).2.1), .int (nI (σ 0).2.2)])), ((b 0), .inl (cB, M, .inl (fun j => sb_b ((σ 0).1 j)))), ((y 1), .inr (1, [.ref (b 1), .int (nI (σ 1).2.1), .int (nI (σ 1).2.2)])), ((b 1), .inl (cB, M, .inl (fun j => sb_b ((σ 1).1 j)))), ((y 2), .inr (1, [.ref (b 2), .int (nI (σ 2).2.1), .int (nI (σ 2).2.2)])), ((b 2), .inl (cB, M, .inl (fun j => sb_b ((σ 2).1 j)))), ((y 3), .inr (1, [.ref (b 3), .int (nI (σ 3).2.1), .int (nI (σ 3).2.2)])), ((b 3), .inl (cB, M, .inl (fun j => sb_b ((σ 3).1 j))))] sz) := by
  refine tx_ofW (cc := b_D_copy) (maxL := 7) (ret := (some .int)) (by decide) rfl ?_
  intro p9 e9 s m args below meth c9 s₁ BL hml hce hadm hv
  obtain ⟨rfl, hsz, hP, hK, hD0, hG⟩ := hv
  have hx := BL.exec
  have hb := BL.bytes
  have hr := BL.returns
  have hts := atoms_spec (ws := w_D_copy) BL.pre
  have hA : ∀ w ∈ wsA, w.before _ s = true := fun w h => hts w (List.mem_cons_of_mem _ h)
  have hown : s.vm.findClass R_D = some m.cls := findClass_of_methodNamed BL.named
  have hlocks := BL.notSynchronized
  have htr : e9.platform.stackTraces = false := by rw [hadm.platform]; exact hL0
  subst hsz
  have hD := hD0.self (sz := s.heap.size)
  generalize hAe : va_A [(h, .inr (0, [.ref ra])), (ra, .inl (cR, 4, .inr (.inr (.inr (.inr g))))), ((y 0), .inr (1, [.ref (b 0), .int (nI (σ 0).2.1), .int (nI (σ 0).2.2)])), ((b 0), .inl (cB, M, .inl (fun j => sb_b ((σ 0).1 j)))), ((y 1), .inr (1, [.ref (b 1), .int (nI (σ 1).2.1), .int (nI (σ 1).2.2)])), ((b 1), .inl (cB, M, .inl (fun j => sb_b ((σ 1).1 j)))), ((y 2), .inr (1, [.ref (b 2), .int (nI (σ 2).2.1), .int (nI (σ 2).2.2)])), ((b 2), .inl (cB, M, .inl (fun j => sb_b ((σ 2).1 j)))), ((y 3), .inr (1, [.ref (b 3), .int (nI (σ 3).2.1), .int (nI (σ 3).2.2)])), ((b 3), .inl (cB, M, .inl (fun j => sb_b ((σ 3).1 j))))] s.heap.size = A at hD ⊢
  have hAq : ∀ q : Nat, s.heap.size ≤ q → A q := fun q h => by rw [← hAe]; exact Or.inr h
  have hS : va_S A s.heap s.heap [] := va_S.rf
  have hP : va_P D vCl [(h, .inr (0, [.ref ra])), (ra, .inl (cR, 4, .inr (.inr (.inr (.inr g))))), ((y 0), .inr (1, [.ref (b 0), .int (nI (σ 0).2.1), .int (nI (σ 0).2.2)])), ((b 0), .inl (cB, M, .inl (fun j => sb_b ((σ 0).1 j)))), ((y 1), .inr (1, [.ref (b 1), .int (nI (σ 1).2.1), .int (nI (σ 1).2.2)])), ((b 1), .inl (cB, M, .inl (fun j => sb_b ((σ 1).1 j)))), ((y 2), .inr (1, [.ref (b 2), .int (nI (σ 2).2.1), .int (nI (σ 2).2.2)])), ((b 2), .inl (cB, M, .inl (fun j => sb_b ((σ 2).1 j)))), ((y 3), .inr (1, [.ref (b 3), .int (nI (σ 3).2.1), .int (nI (σ 3).2.2)])), ((b 3), .inl (cB, M, .inl (fun j => sb_b ((σ 3).1 j))))] s.heap := hP
  have hl := lv_entry ([.ref h, .int x, .int f, .int a, .int k]) (n := 7) (Nat.le_of_ble_eq_true rfl)
  rw [lg_entry_eq]
  generalize (lg_sl ([.ref h, .int x, .int f, .int a, .int k]) ++ List.replicate (7 - (lg_sl ([.ref h, .int x, .int f, .int a, .int k])).length) Slot.unset).toArray = ls at hl ⊢
  have hl : lv_has ls 7 [(0, .ref h), (1, .int x), (2, .int f), (3, .int a), (4, .int k)] := hl
  refine lv_aload_n hx hb d_D_copy_0 rfl (lv_at hl 0 rfl) ?_
  refine lv_iload_n hx hb d_D_copy_1 rfl (lv_at hl 1 rfl) ?_
  have hPc := hP.sub (ws' := [(h, .inr (0, [.ref ra])), (ra, .inl (cR, 4, .inr (.inr (.inr (.inr g)))))]) [0, 1] rfl
  have hKc := hK.sub (tys' := [(cR, .object "PacketDesk$Row")]) [1] rfl
  refine tx_sr (tx_runV (As := [.int x]) (rest := []) ⟨hx, hb, hml, hown, hA⟩ (c_D_rowOf l hL0 D cR h ra g y hg x) (q_D_rowOf hA k1_66 rfl rfl ⟨(Nat.le_of_ble_eq_true rfl), (Nat.le_of_ble_eq_true rfl)⟩) (ox_V (va_recv hKc hPc (ci := 0) (q0 := 0) rfl rfl) (oxg_S hPc hKc hG (fun _ _ => rfl))) rfl rfl hl.1 rfl (lv_room (Nat.le_of_ble_eq_true rfl)) d_D_copy_2 ⟨(Nat.le_of_ble_eq_true rfl), (Nat.le_of_ble_eq_true rfl)⟩) (fun x9 E9 H9 ht9 hE9 => tx_prop hlocks hce hE9 (Nat.le_refl _) (fun _ _ => rfl) (Or.inl (⟨ht9.1, by unfold spCopy; rw [if_pos (fun h9 => ht9.2 h9.1)]⟩)) (fun q h => by cases h)) (fun j hj => ?_)
  obtain ⟨hj, hxj⟩ := hj
  refine lv_astore (lv' := [(5, .ref (y j)), (0, .ref h), (1, .int x), (2, .int f), (3, .int a), (4, .int k)]) hx hb d_D_copy_5 hl (by decide) rfl (fun ls hl => ?_)
  refine lv_aload_n hx hb d_D_copy_7 rfl (lv_at hl 1 rfl) ?_
  refine lv_iload_n hx hb d_D_copy_8 rfl (lv_at hl 3 rfl) ?_
  have hPc := hP.sub (ws' := [(h, .inr (0, [.ref ra])), (ra, .inl (cR, 4, .inr (.inr (.inr (.inr g)))))]) [0, 1] rfl
  have hKc := hK.sub (tys' := [(cR, .object "PacketDesk$Row")]) [1] rfl
  refine tx_sr (tx_runV (As := [.int f]) (rest := []) ⟨hx, hb, hml, hown, hA⟩ (c_D_rowOf l hL0 D cR h ra g y hg f) (q_D_rowOf hA k1_66 rfl rfl ⟨(Nat.le_of_ble_eq_true rfl), (Nat.le_of_ble_eq_true rfl)⟩) (ox_V (va_recv hKc hPc (ci := 0) (q0 := 0) rfl rfl) (oxg_S hPc hKc hG (fun _ _ => rfl))) rfl rfl hl.1 rfl (lv_room (Nat.le_of_ble_eq_true rfl)) d_D_copy_9 ⟨(Nat.le_of_ble_eq_true rfl), (Nat.le_of_ble_eq_true rfl)⟩) (fun x9 E9 H9 ht9 hE9 => tx_prop hlocks hce hE9 (Nat.le_refl _) (fun _ _ => rfl) (Or.inl (⟨ht9.1, by unfold spCopy; rw [if_pos (fun h9 => ht9.2 h9.2)]⟩)) (fun q h => by cases h)) (fun i hi => ?_)
  obtain ⟨hi, hxi⟩ := hi
  by_cases hji : j = i
  · subst hji
    obtain ⟨c2_, c3_, c4_, c5_, c6_, c7_, c8_, c9_, hi1, hi2, ho1, ho2⟩ := dk_1 D vCl cR cB h ra g M y b σ hj
    have hP : va_P D vCl [(y j, .inr (1, [.ref (b j), .int (nI (σ j).2.1), .int (nI (σ j).2.2)])), (b j, .inl (cB, M, .inl (fun j9 => sb_b ((σ j).1 j9)))), c2_, c3_, c4_, c5_, c6_, c7_, c8_, c9_] s.heap := hi1 _ hP
    have hD : va_D A [(y j, .inr (1, [.ref (b j), .int (nI (σ j).2.1), .int (nI (σ j).2.2)])), (b j, .inl (cB, M, .inl (fun j9 => sb_b ((σ j).1 j9)))), c2_, c3_, c4_, c5_, c6_, c7_, c8_, c9_] := hi2 _ hD
    obtain ⟨⟨B, n, p⟩, hρ⟩ : ∃ ρ, σ j = ρ := ⟨_, rfl⟩
    have hk := hσ.2 j hj
    have hM := hσ.1
    rw [hρ] at hP hk hD
    obtain ⟨hp, hn, hB⟩ := hk
    have hp : p ≤ n := hp
    have hn : n ≤ M := hn
    have hB : ∀ j, B j < 256 := hB
    have hP : va_P D vCl [((y j), .inr (1, [.ref (b j), .int (nI n), .int (nI p)])), ((b j), .inl (cB, M, .inl (fun j => sb_b (B j)))), c2_, c3_, c4_, c5_, c6_, c7_, c8_, c9_] s.heap := hP
    have hD : va_D A [((y j), .inr (1, [.ref (b j), .int (nI n), .int (nI p)])), ((b j), .inl (cB, M, .inl (fun j => sb_b (B j)))), c2_, c3_, c4_, c5_, c6_, c7_, c8_, c9_] := hD
    have hrj : rj x = j := by rw [hxj]; exact rj_n hj
    have hir : isR x := by rw [hxj]; exact isR_n hj
    have hri : rj f = j := by rw [hxi]; exact rj_n hj
    have hir : isR x ∧ isR f := ⟨hir, by rw [hxi]; exact isR_n hj⟩
    have hρ2 := hρ
    refine lv_astore (lv' := [(6, .ref (y j)), (5, .ref (y j)), (0, .ref h), (1, .int x), (2, .int f), (3, .int a), (4, .int k)]) hx hb d_D_copy_12 hl (by decide) rfl (fun ls hl => ?_)
    refine lv_aload hx hb d_D_copy_14 (lv_at hl 0 rfl) ?_
    refine lv_iload_n hx hb d_D_copy_16 rfl (lv_at hl 5 rfl) ?_
    refine lv_iload hx hb d_D_copy_17 (lv_at hl 6 rfl) ?_
    have hPc := hP.sub (ws' := [((y j), .inr (1, [.ref (b j), .int (nI n), .int (nI p)])), ((b j), .inl (cB, M, .inl (fun j => sb_b (B j))))]) [0, 1] rfl
    have hKc := hK.sub (tys' := [(cB, .byte)]) [0] rfl
    refine tx_sv (tx_runS (As := [.ref (y j), .int a, .int k]) (rest := []) ⟨hx, hb, hml, hown, hA⟩ (c_D_needRange l hL0 D cB (y j) (b j) M B n p hn hM a k) (q_D_needRange hA k1_234 rfl rfl ⟨(Nat.le_of_ble_eq_true rfl), (Nat.le_of_ble_eq_true rfl)⟩) (oxg_S hPc hKc hG (fun _ _ => rfl)) rfl rfl hl.1 rfl (lv_room (Nat.le_of_ble_eq_true rfl)) d_D_copy_19 ⟨(Nat.le_of_ble_eq_true rfl), (Nat.le_of_ble_eq_true rfl)⟩) (fun x9 E9 H9 ht9 hE9 => tx_prop hlocks hce hE9 (Nat.le_refl _) (fun _ _ => rfl) (Or.inr (Or.inl (⟨ht9.1, by unfold spCopy; simp only [hrj, hri, hρ, hρ2]; rw [if_neg (fun h8 => h8 hir), if_pos ht9.2]⟩))) (fun q h => by cases h)) (fun hr19 => ?_)
    have hin : inr n a k := hr19
    obtain ⟨a1, ha10, rfl⟩ := nI_of (show ¬ a < 0 by rw [Int32.lt_iff_toInt_lt, li_0]; omega)
    have ha1i : (nI a1).toInt = (a1 : Int) := nI_toInt ha10
    have ha1n : (nI a1).toInt.toNat = a1 := by rw [ha1i]; rfl
    obtain ⟨k1, hk10, rfl⟩ := nI_of (show ¬ k < 0 by rw [Int32.lt_iff_toInt_lt, li_0]; omega)
    have hk1i : (nI k1).toInt = (k1 : Int) := nI_toInt hk10
    have hk1n : (nI k1).toInt.toNat = k1 := by rw [hk1i]; rfl
    refine lv_aload hx hb d_D_copy_22 (lv_at hl 1 rfl) ?_
    refine lv_iload hx hb d_D_copy_24 (lv_at hl 6 rfl) ?_
    have hPc := hP.sub (ws' := [((y j), .inr (1, [.ref (b j), .int (nI n), .int (nI p)])), ((b j), .inl (cB, M, .inl (fun j => sb_b (B j))))]) [0, 1] rfl
    have hKc := hK.sub (tys' := [(cB, .byte)]) [0] rfl
    refine tx_sv (tx_runS (As := [.ref (y j), .int (nI k1)]) (rest := []) ⟨hx, hb, hml, hown, hA⟩ (c_D_needRoom l hL0 D cB (y j) (b j) M B n p hn hM k1 (by omega)) (q_D_needRoom hA k1_158 rfl rfl ⟨(Nat.le_of_ble_eq_true rfl), (Nat.le_of_ble_eq_true rfl)⟩) (oxg_S hPc hKc hG (fun _ _ => rfl)) rfl rfl hl.1 rfl (lv_room (Nat.le_of_ble_eq_true rfl)) d_D_copy_26 ⟨(Nat.le_of_ble_eq_true rfl), (Nat.le_of_ble_eq_true rfl)⟩) (fun x9 E9 H9 ht9 hE9 => tx_prop hlocks hce hE9 (Nat.le_refl _) (fun _ _ => rfl) (Or.inr (Or.inr (⟨ht9.1, by unfold spCopy; simp only [hrj, hri, hρ, hρ2]; rw [if_neg (fun h8 => h8 hir), if_neg (fun h8 => h8 hin), hk1n, if_pos ht9.2]⟩))) (fun q h => by cases h)) (fun hr26 => ?_)
    refine lv_aload hx hb d_D_copy_29 (lv_at hl 1 rfl) ?_
    refine lv_aload hx hb d_D_copy_31 (lv_at hl 0 rfl) ?_
    refine lv_iload_n hx hb d_D_copy_33 rfl (lv_at hl 5 rfl) ?_
    refine lv_iload hx hb d_D_copy_34 (lv_at hl 6 rfl) ?_
    have hPc := hP.sub (ws' := [((y j), .inr (1, [.ref (b j), .int (nI n), .int (nI p)])), ((b j), .inl (cB, M, .inl (fun j => sb_b (B j))))]) [0, 1] rfl
    have hDc := hD.sub (ws' := [((y j), .inr (1, [.ref (b j), .int (nI n), .int (nI p)])), ((b j), .inl (cB, M, .inl (fun j => sb_b (B j))))]) [0, 1] (by decide) rfl
    have hKc := hK.sub (tys' := [(cB, .byte)]) [0] rfl
    have hFc := va_free (wc := [((y j), .inr (1, [.ref (b j), .int (nI n), .int (nI p)])), ((b j), .inl (cB, M, .inl (fun j => sb_b (B j))))]) hD hS hAq [0, 1] rfl
    refine va_callv (va_runS (As := [.ref (y j), .ref (y j), .int (nI a1), .int (nI k1)]) (rest := []) ⟨hx, hb, hml, hown, hA⟩ (c_D_addBytes1 l D cB (y j) (b j) M B n p s.heap.size a1 k1 hr26 (by omega) hM) (q_D_addBytes hA k1_238 rfl rfl ⟨(Nat.le_of_ble_eq_true rfl), (Nat.le_of_ble_eq_true rfl)⟩) (oxw_S hPc hKc hDc) rfl rfl hl.1 rfl (lv_room (Nat.le_of_ble_eq_true rfl)) d_D_copy_36 ⟨(Nat.le_of_ble_eq_true rfl), (Nat.le_of_ble_eq_true rfl)⟩) hS (fun q _ h => hFc q h) hFc (fun u9 t9 H1 locs ht9 hvm9 hw9 hB9 hz1 hk1 hS => ?_)
    obtain ⟨hP1, hK1, hD1⟩ := hB9
    rw [ht9] at hP1
    obtain ⟨hP, hD⟩ := va_join (wr := [c2_, c3_, c4_, c5_, c6_, c7_, c8_, c9_]) (w1 := [((y j), .inr (1, [.ref (b j), .int (nI (n + k1)), .int (nI p)])), ((b j), .inl (cB, M, .inl (fun j => sb_b ((wr B n k1 (fun i9 => B (a1 + i9))) j))))]) hP hD [0, 1] [2, 3, 4, 5, 6, 7, 8, 9] rfl rfl (by decide) (by decide) hk1 hFc hP1 hD1
    generalize H1 = H at hP hS ⊢
    have hP : va_P D vCl [((y j), .inr (1, [.ref (b j), .int (nI (n + k1)), .int (nI p)])), ((b j), .inl (cB, M, .inl (fun j => sb_b ((wr B n k1 (fun i9 => B (a1 + i9))) j)))), c2_, c3_, c4_, c5_, c6_, c7_, c8_, c9_] H := hP.sub [8, 9, 0, 1, 2, 3, 4, 5, 6, 7] rfl
    have hD : va_D A [((y j), .inr (1, [.ref (b j), .int (nI (n + k1)), .int (nI p)])), ((b j), .inl (cB, M, .inl (fun j => sb_b ((wr B n k1 (fun i9 => B (a1 + i9))) j)))), c2_, c3_, c4_, c5_, c6_, c7_, c8_, c9_] := hD.sub [8, 9, 0, 1, 2, 3, 4, 5, 6, 7] (by decide) rfl
    refine lv_aload hx hb d_D_copy_39 (lv_at hl 1 rfl) ?_
    refine va_get (D := D) (ci := 1) (v := .int (nI (n + k1))) (C := R_R) (T := F_R) (N := 3) hx hb hA i_R hown hK hP 0 rfl rfl 1 (by decide) (hA _ k1_38) (fun _ h9 => h9) rfl d_D_copy_41 ?_
    exact tx_ret (W.iret (v := nI (n + k1)) hx hb hr (fun t ht hW => Or.inl ⟨_, rfl, ⟨⟨_, va_up σ j (wr B n k1 (fun i9 => B (a1 + i9)), n + k1, p), rfl, (by unfold spCopy; simp only [hrj, hri, hρ, hρ2]; rw [if_neg (fun h8 => h8 hir), if_neg (fun h8 => h8 hin), hk1n, ha1n, if_neg (Nat.not_lt.mpr hr26)]), by rw [ht]; exact ho1 (wr B n k1 (fun i9 => B (a1 + i9)), n + k1, p) _ hP, va_K.moved hW.alike hK, ho2 (wr B n k1 (fun i9 => B (a1 + i9)), n + k1, p) _ hD⟩, hS.F ht⟩⟩) hS.2.2 d_D_copy_44)
  · obtain ⟨c4_, c5_, c6_, c7_, c8_, c9_, hi1, hi2, ho1, ho2⟩ := dk_2 D vCl cR cB h ra g M y b σ hj hi hji
    have hP : va_P D vCl [(y j, .inr (1, [.ref (b j), .int (nI (σ j).2.1), .int (nI (σ j).2.2)])), (b j, .inl (cB, M, .inl (fun j9 => sb_b ((σ j).1 j9)))), (y i, .inr (1, [.ref (b i), .int (nI (σ i).2.1), .int (nI (σ i).2.2)])), (b i, .inl (cB, M, .inl (fun j9 => sb_b ((σ i).1 j9)))), c4_, c5_, c6_, c7_, c8_, c9_] s.heap := hi1 _ hP
    have hD : va_D A [(y j, .inr (1, [.ref (b j), .int (nI (σ j).2.1), .int (nI (σ j).2.2)])), (b j, .inl (cB, M, .inl (fun j9 => sb_b ((σ j).1 j9)))), (y i, .inr (1, [.ref (b i), .int (nI (σ i).2.1), .int (nI (σ i).2.2)])), (b i, .inl (cB, M, .inl (fun j9 => sb_b ((σ i).1 j9)))), c4_, c5_, c6_, c7_, c8_, c9_] := hi2 _ hD
    obtain ⟨⟨B, n, p⟩, hρ⟩ : ∃ ρ, σ j = ρ := ⟨_, rfl⟩
    obtain ⟨⟨C, n2, p2⟩, hρ2⟩ : ∃ ρ, σ i = ρ := ⟨_, rfl⟩
    have hk := hσ.2 j hj
    have hk2 := hσ.2 i hi
    have hM := hσ.1
    rw [hρ] at hk
    rw [hρ2] at hk2
    rw [hρ, hρ2] at hP hD
    obtain ⟨hp, hn, hB⟩ := hk
    have hp : p ≤ n := hp
    have hn : n ≤ M := hn
    have hB : ∀ j, B j < 256 := hB
    obtain ⟨hp2, hn2, hB2⟩ := hk2
    have hp2 : p2 ≤ n2 := hp2
    have hn2 : n2 ≤ M := hn2
    have hB2 : ∀ j, C j < 256 := hB2
    have hP : va_P D vCl [((y j), .inr (1, [.ref (b j), .int (nI n), .int (nI p)])), ((b j), .inl (cB, M, .inl (fun j => sb_b (B j)))), ((y i), .inr (1, [.ref (b i), .int (nI n2), .int (nI p2)])), ((b i), .inl (cB, M, .inl (fun j => sb_b (C j)))), c4_, c5_, c6_, c7_, c8_, c9_] s.heap := hP
    have hD : va_D A [((y j), .inr (1, [.ref (b j), .int (nI n), .int (nI p)])), ((b j), .inl (cB, M, .inl (fun j => sb_b (B j)))), ((y i), .inr (1, [.ref (b i), .int (nI n2), .int (nI p2)])), ((b i), .inl (cB, M, .inl (fun j => sb_b (C j)))), c4_, c5_, c6_, c7_, c8_, c9_] := hD
    have hrj : rj x = j := by rw [hxj]; exact rj_n hj
    have hri : rj f = i := by rw [hxi]; exact rj_n hi
    have hir : isR x ∧ isR f := ⟨by rw [hxj]; exact isR_n hj, by rw [hxi]; exact isR_n hi⟩
    refine lv_astore (lv' := [(6, .ref (y i)), (5, .ref (y j)), (0, .ref h), (1, .int x), (2, .int f), (3, .int a), (4, .int k)]) hx hb d_D_copy_12 hl (by decide) rfl (fun ls hl => ?_)
    refine lv_aload hx hb d_D_copy_14 (lv_at hl 0 rfl) ?_
    refine lv_iload_n hx hb d_D_copy_16 rfl (lv_at hl 5 rfl) ?_
    refine lv_iload hx hb d_D_copy_17 (lv_at hl 6 rfl) ?_
    have hPc := hP.sub (ws' := [((y i), .inr (1, [.ref (b i), .int (nI n2), .int (nI p2)])), ((b i), .inl (cB, M, .inl (fun j => sb_b (C j))))]) [2, 3] rfl
    have hKc := hK.sub (tys' := [(cB, .byte)]) [0] rfl
    refine tx_sv (tx_runS (As := [.ref (y i), .int a, .int k]) (rest := []) ⟨hx, hb, hml, hown, hA⟩ (c_D_needRange l hL0 D cB (y i) (b i) M C n2 p2 hn2 hM a k) (q_D_needRange hA k1_234 rfl rfl ⟨(Nat.le_of_ble_eq_true rfl), (Nat.le_of_ble_eq_true rfl)⟩) (oxg_S hPc hKc hG (fun _ _ => rfl)) rfl rfl hl.1 rfl (lv_room (Nat.le_of_ble_eq_true rfl)) d_D_copy_19 ⟨(Nat.le_of_ble_eq_true rfl), (Nat.le_of_ble_eq_true rfl)⟩) (fun x9 E9 H9 ht9 hE9 => tx_prop hlocks hce hE9 (Nat.le_refl _) (fun _ _ => rfl) (Or.inr (Or.inl (⟨ht9.1, by unfold spCopy; simp only [hrj, hri, hρ, hρ2]; rw [if_neg (fun h8 => h8 hir), if_pos ht9.2]⟩))) (fun q h => by cases h)) (fun hr19 => ?_)
    have hin : inr n2 a k := hr19
    obtain ⟨a1, ha10, rfl⟩ := nI_of (show ¬ a < 0 by rw [Int32.lt_iff_toInt_lt, li_0]; omega)
    have ha1i : (nI a1).toInt = (a1 : Int) := nI_toInt ha10
    have ha1n : (nI a1).toInt.toNat = a1 := by rw [ha1i]; rfl
    obtain ⟨k1, hk10, rfl⟩ := nI_of (show ¬ k < 0 by rw [Int32.lt_iff_toInt_lt, li_0]; omega)
    have hk1i : (nI k1).toInt = (k1 : Int) := nI_toInt hk10
    have hk1n : (nI k1).toInt.toNat = k1 := by rw [hk1i]; rfl
    refine lv_aload hx hb d_D_copy_22 (lv_at hl 1 rfl) ?_
    refine lv_iload hx hb d_D_copy_24 (lv_at hl 6 rfl) ?_
    have hPc := hP.sub (ws' := [((y j), .inr (1, [.ref (b j), .int (nI n), .int (nI p)])), ((b j), .inl (cB, M, .inl (fun j => sb_b (B j))))]) [0, 1] rfl
    have hKc := hK.sub (tys' := [(cB, .byte)]) [0] rfl
    refine tx_sv (tx_runS (As := [.ref (y j), .int (nI k1)]) (rest := []) ⟨hx, hb, hml, hown, hA⟩ (c_D_needRoom l hL0 D cB (y j) (b j) M B n p hn hM k1 (by omega)) (q_D_needRoom hA k1_158 rfl rfl ⟨(Nat.le_of_ble_eq_true rfl), (Nat.le_of_ble_eq_true rfl)⟩) (oxg_S hPc hKc hG (fun _ _ => rfl)) rfl rfl hl.1 rfl (lv_room (Nat.le_of_ble_eq_true rfl)) d_D_copy_26 ⟨(Nat.le_of_ble_eq_true rfl), (Nat.le_of_ble_eq_true rfl)⟩) (fun x9 E9 H9 ht9 hE9 => tx_prop hlocks hce hE9 (Nat.le_refl _) (fun _ _ => rfl) (Or.inr (Or.inr (⟨ht9.1, by unfold spCopy; simp only [hrj, hri, hρ, hρ2]; rw [if_neg (fun h8 => h8 hir), if_neg (fun h8 => h8 hin), hk1n, if_pos ht9.2]⟩))) (fun q h => by cases h)) (fun hr26 => ?_)
    refine lv_aload hx hb d_D_copy_29 (lv_at hl 1 rfl) ?_
    refine lv_aload hx hb d_D_copy_31 (lv_at hl 0 rfl) ?_
    refine lv_iload_n hx hb d_D_copy_33 rfl (lv_at hl 5 rfl) ?_
    refine lv_iload hx hb d_D_copy_34 (lv_at hl 6 rfl) ?_
    have hPc := hP.sub (ws' := [((y j), .inr (1, [.ref (b j), .int (nI n), .int (nI p)])), ((b j), .inl (cB, M, .inl (fun j => sb_b (B j)))), ((y i), .inr (1, [.ref (b i), .int (nI n2), .int (nI p2)])), ((b i), .inl (cB, M, .inl (fun j => sb_b (C j))))]) [0, 1, 2, 3] rfl
    have hDc := hD.sub (ws' := [((y j), .inr (1, [.ref (b j), .int (nI n), .int (nI p)])), ((b j), .inl (cB, M, .inl (fun j => sb_b (B j)))), ((y i), .inr (1, [.ref (b i), .int (nI n2), .int (nI p2)])), ((b i), .inl (cB, M, .inl (fun j => sb_b (C j))))]) [0, 1, 2, 3] (by decide) rfl
    have hKc := hK.sub (tys' := [(cB, .byte)]) [0] rfl
    have hFc := va_free (wc := [((y j), .inr (1, [.ref (b j), .int (nI n), .int (nI p)])), ((b j), .inl (cB, M, .inl (fun j => sb_b (B j)))), ((y i), .inr (1, [.ref (b i), .int (nI n2), .int (nI p2)])), ((b i), .inl (cB, M, .inl (fun j => sb_b (C j))))]) hD hS hAq [0, 1, 2, 3] rfl
    refine va_callv (va_runS (As := [.ref (y j), .ref (y i), .int (nI a1), .int (nI k1)]) (rest := []) ⟨hx, hb, hml, hown, hA⟩ (c_D_addBytes2 l D cB (y j) (b j) (y i) (b i) M B C n p n2 p2 s.heap.size a1 k1 hr26 (by omega) hM) (q_D_addBytes hA k1_238 rfl rfl ⟨(Nat.le_of_ble_eq_true rfl), (Nat.le_of_ble_eq_true rfl)⟩) (oxw_S hPc hKc hDc) rfl rfl hl.1 rfl (lv_room (Nat.le_of_ble_eq_true rfl)) d_D_copy_36 ⟨(Nat.le_of_ble_eq_true rfl), (Nat.le_of_ble_eq_true rfl)⟩) hS (fun q _ h => hFc q h) hFc (fun u9 t9 H1 locs ht9 hvm9 hw9 hB9 hz1 hk1 hS => ?_)
    obtain ⟨hP1, hK1, hD1⟩ := hB9
    rw [ht9] at hP1
    obtain ⟨hP, hD⟩ := va_join (wr := [c4_, c5_, c6_, c7_, c8_, c9_]) (w1 := [((y j), .inr (1, [.ref (b j), .int (nI (n + k1)), .int (nI p)])), ((b j), .inl (cB, M, .inl (fun j => sb_b ((wr B n k1 (fun i9 => C (a1 + i9))) j)))), ((y i), .inr (1, [.ref (b i), .int (nI n2), .int (nI p2)])), ((b i), .inl (cB, M, .inl (fun j => sb_b (C j))))]) hP hD [0, 1, 2, 3] [4, 5, 6, 7, 8, 9] rfl rfl (by decide) (by decide) hk1 hFc hP1 hD1
    generalize H1 = H at hP hS ⊢
    have hP : va_P D vCl [((y j), .inr (1, [.ref (b j), .int (nI (n + k1)), .int (nI p)])), ((b j), .inl (cB, M, .inl (fun j => sb_b ((wr B n k1 (fun i9 => C (a1 + i9))) j)))), ((y i), .inr (1, [.ref (b i), .int (nI n2), .int (nI p2)])), ((b i), .inl (cB, M, .inl (fun j => sb_b (C j)))), c4_, c5_, c6_, c7_, c8_, c9_] H := hP.sub [6, 7, 8, 9, 0, 1, 2, 3, 4, 5] rfl
    have hD : va_D A [((y j), .inr (1, [.ref (b j), .int (nI (n + k1)), .int (nI p)])), ((b j), .inl (cB, M, .inl (fun j => sb_b ((wr B n k1 (fun i9 => C (a1 + i9))) j)))), ((y i), .inr (1, [.ref (b i), .int (nI n2), .int (nI p2)])), ((b i), .inl (cB, M, .inl (fun j => sb_b (C j)))), c4_, c5_, c6_, c7_, c8_, c9_] := hD.sub [6, 7, 8, 9, 0, 1, 2, 3, 4, 5] (by decide) rfl
    refine lv_aload hx hb d_D_copy_39 (lv_at hl 1 rfl) ?_
    refine va_get (D := D) (ci := 1) (v := .int (nI (n + k1))) (C := R_R) (T := F_R) (N := 3) hx hb hA i_R hown hK hP 0 rfl rfl 1 (by decide) (hA _ k1_38) (fun _ h9 => h9) rfl d_D_copy_41 ?_
    exact tx_ret (W.iret (v := nI (n + k1)) hx hb hr (fun t ht hW => Or.inl ⟨_, rfl, ⟨⟨_, va_up (va_up σ j (wr B n k1 (fun i9 => C (a1 + i9)), n + k1, p)) i (C, n2, p2), rfl, (by rw [va_up2 hji hρ2]; unfold spCopy; simp only [hrj, hri, hρ, hρ2]; rw [if_neg (fun h8 => h8 hir), if_neg (fun h8 => h8 hin), hk1n, ha1n, if_neg (Nat.not_lt.mpr hr26)]), by rw [ht]; exact ho1 (wr B n k1 (fun i9 => C (a1 + i9)), n + k1, p) (C, n2, p2) _ hP, va_K.moved hW.alike hK, ho2 (wr B n k1 (fun i9 => C (a1 + i9)), n + k1, p) (C, n2, p2) _ hD⟩, hS.F ht⟩⟩) hS.2.2 d_D_copy_44)
set_option maxHeartbeats 600000 in
set_option maxRecDepth 100000 in
/-- block -/
theorem c_D_block (l : Launch) (hL0 : l.stackTraces = false) (D : va_G) (cR cB : ClassId) (h ra : Nat) (g : Nat → Option Nat) (M : Nat) (y b : Nat → Nat) (σ : dkS) (sz : Nat) (x f : Int32) (hg : ∀ i, i < 4 → g i = some (y i)) (hσ : dkok M σ) : tx_Met l y_D_block w_D_block ({ frames := 7, cells := 1, slots := 6, locals := 111 }) (va_Pc [.ref h, .int x, .int f] (oxv sz D [(cB, .byte), (cR, .object "PacketDesk$Row")] [(h, .inr (0, [.ref ra])), (ra, .inl (cR, 4, .inr (.inr (.inr (.inr g))))), ((y 0), .inr (1, [.ref (b 0), .int (nI (σ 0).2.1), .int (nI (σ 0).2.2)])), ((b 0), .inl (cB, M, .inl (fun j => sb_b ((σ 0).1 j)))), ((y 1), .inr (1, [.ref (b 1), .int (nI (σ 1).2.1), .int (nI (σ 1).2.2)])), ((b 1), .inl (cB, M, .inl (fun j => sb_b ((σ 1).1 j)))), ((y 2), .inr (1, [.ref (b 2), .int (nI (σ 2).2.1), .int (nI (σ 2).2.2)])), ((b 2), .inl (cB, M, .inl (fun j => sb_b ((σ 2).1 j)))), ((y 3), .inr (1, [.ref (b 3), .int (nI (σ 3).2.1), .int (nI (σ 3).2.2)])), ((b 3), .inl (cB, M, .inl (fun j => sb_b ((σ 3).1 j))))])) (tx_Q (fun E => (E = X_IOOBE ∧ (spBlock M σ x f).1 = 1) ∨ (E = X_ISE ∧ (spBlock M σ x f).1 = 2)) (va_Qi (fun r (τ : dkS) => spBlock M σ x f = (0, r, τ)) (fun τ => ow D [(cB, .byte), (cR, .object "PacketDesk$Row")] (va_A [(h, .inr (0, [.ref ra])), (ra, .inl (cR, 4, .inr (.inr (.inr (.inr g))))), ((y 0), .inr (1, [.ref (b 0), .int (nI (σ 0).2.1), .int (nI (σ 0).2.2)])), ((b 0), .inl (cB, M, .inl (fun j => sb_b ((σ 0).1 j)))), ((y 1), .inr (1, [.ref (b 1), .int (nI (σ 1).2.1), .int (nI (σ 1).2.2)])), ((b 1), .inl (cB, M, .inl (fun j => sb_b ((σ 1).1 j)))), ((y 2), .inr (1, [.ref (b 2), .int (nI (σ 2).2.1), .int (nI (σ 2).2.2)])), ((b 2), .inl (cB, M, .inl (fun j => sb_b ((σ 2).1 j)))), ((y 3), .inr (1, [.ref (b 3), .int (nI (σ 3).2.1), .int (nI (σ 3).2.2)])), ((b 3), .inl (cB, M, .inl (fun j => sb_b ((σ 3).1 j))))] sz) (dk cR cB h ra g M y b τ)) (va_A [(h, .inr (0, [.ref ra])), (ra, .inl (cR, 4, .inr (.inr (.inr (.inr g))))), ((y 0), .inr (1, [.ref (b 0), .int (nI (σ 0).2.1), .int (nI (σ 0).2.2)])), ((b 0), .inl (cB, M, .inl (fun j => sb_b ((σ 0).1 j)))), ((y 1), .inr (1, [.ref (b 1), .int (nI (σ 1).2.1), .int (nI (σ 1).2.2)])), ((b 1), .inl (cB, M, .inl (fun j => sb_b ((σ 1).1 j)))), ((y 2), .inr (1, [.ref (b 2), .int (nI (σ 2).2.1), .int (nI (σ 2).2.2)])), ((b 2), .inl (cB, M, .inl (fun j => sb_b ((σ 2).1 j)))), ((y 3), .inr (1, [.ref (b 3), .int (nI (σ 3).2.1), .int (nI (σ 3).2.2)])), ((b 3), .inl (cB, M, .inl (fun j => sb_b ((σ 3).1 j))))] sz))) 0 0 (va_A [(h, .inr (0, [.ref ra])), (ra, .inl (cR, 4, .inr (.inr (.inr (.inr g))))), ((y 0), .inr (1, [.ref (b 0), .int (nI (σ 0).2.1), .int (nI (σ 0).2.2)])), ((b 0), .inl (cB, M, .inl (fun j => sb_b ((σ 0).1 j)))), ((y 1), .inr (1, [.ref (b 1), .int (nI (σ 1).2.1), .int (nI (σ 1).2.2)])), ((b 1), .inl (cB, M, .inl (fun j => sb_b ((σ 1).1 j)))), ((y 2), .inr (1, [.ref (b 2), .int (nI (σ 2).2.1), .int (nI (σ 2).2.2)])), ((b 2), .inl (cB, M, .inl (fun j => sb_b ((σ 2).1 j)))), ((y 3), .inr (1, [.ref (b 3), .int (nI (σ 3).2.1), .int (nI (σ 3).2.2)])), ((b 3), .inl (cB, M, .inl (fun j => sb_b ((σ 3).1 j))))] sz) := by
  refine tx_ofW (cc := b_D_block) (maxL := 7) (ret := (some .int)) (by decide) rfl ?_
  intro p9 e9 s m args below meth c9 s₁ BL hml hce hadm hv
  obtain ⟨rfl, hsz, hP, hK, hD0, hG⟩ := hv
  have hx := BL.exec
  have hb := BL.bytes
  have hr := BL.returns
  have hts := atoms_spec (ws := w_D_block) BL.pre
  have hA : ∀ w ∈ wsA, w.before _ s = true := fun w h => hts w (List.mem_cons_of_mem _ h)
  have hown : s.vm.findClass R_D = some m.cls := findClass_of_methodNamed BL.named
  have hlocks := BL.notSynchronized
  have htr : e9.platform.stackTraces = false := by rw [hadm.platform]; exact hL0
  subst hsz
  have hD := hD0.self (sz := s.heap.size)
  generalize hAe : va_A [(h, .inr (0, [.ref ra])), (ra, .inl (cR, 4, .inr (.inr (.inr (.inr g))))), ((y 0), .inr (1, [.ref (b 0), .int (nI (σ 0).2.1), .int (nI (σ 0).2.2)])), ((b 0), .inl (cB, M, .inl (fun j => sb_b ((σ 0).1 j)))), ((y 1), .inr (1, [.ref (b 1), .int (nI (σ 1).2.1), .int (nI (σ 1).2.2)])), ((b 1), .inl (cB, M, .inl (fun j => sb_b ((σ 1).1 j)))), ((y 2), .inr (1, [.ref (b 2), .int (nI (σ 2).2.1), .int (nI (σ 2).2.2)])), ((b 2), .inl (cB, M, .inl (fun j => sb_b ((σ 2).1 j)))), ((y 3), .inr (1, [.ref (b 3), .int (nI (σ 3).2.1), .int (nI (σ 3).2.2)])), ((b 3), .inl (cB, M, .inl (fun j => sb_b ((σ 3).1 j))))] s.heap.size = A at hD ⊢
  have hAq : ∀ q : Nat, s.heap.size ≤ q → A q := fun q h => by rw [← hAe]; exact Or.inr h
  have hS : va_S A s.heap s.heap [] := va_S.rf
  have hP : va_P D vCl [(h, .inr (0, [.ref ra])), (ra, .inl (cR, 4, .inr (.inr (.inr (.inr g))))), ((y 0), .inr (1, [.ref (b 0), .int (nI (σ 0).2.1), .int (nI (σ 0).2.2)])), ((b 0), .inl (cB, M, .inl (fun j => sb_b ((σ 0).1 j)))), ((y 1), .inr (1, [.ref (b 1), .int (nI (σ 1).2.1), .int (nI (σ 1).2.2)])), ((b 1), .inl (cB, M, .inl (fun j => sb_b ((σ 1).1 j)))), ((y 2), .inr (1, [.ref (b 2), .int (nI (σ 2).2.1), .int (nI (σ 2).2.2)])), ((b 2), .inl (cB, M, .inl (fun j => sb_b ((σ 2).1 j)))), ((y 3), .inr (1, [.ref (b 3), .int (nI (σ 3).2.1), .int (nI (σ 3).2.2)])), ((b 3), .inl (cB, M, .inl (fun j => sb_b ((σ 3).1 j))))] s.heap := hP
  have hl := lv_entry ([.ref h, .int x, .int f]) (n := 7) (Nat.le_of_ble_eq_true rfl)
  rw [lg_entry_eq]
  generalize (lg_sl ([.ref h, .int x, .int f]) ++ List.replicate (7 - (lg_sl ([.ref h, .int x, .int f])).length) Slot.unset).toArray = ls at hl ⊢
  have hl : lv_has ls 7 [(0, .ref h), (1, .int x), (2, .int f)] := hl
  refine lv_aload_n hx hb d_D_block_0 rfl (lv_at hl 0 rfl) ?_
  refine lv_iload_n hx hb d_D_block_1 rfl (lv_at hl 1 rfl) ?_
  have hPc := hP.sub (ws' := [(h, .inr (0, [.ref ra])), (ra, .inl (cR, 4, .inr (.inr (.inr (.inr g)))))]) [0, 1] rfl
  have hKc := hK.sub (tys' := [(cR, .object "PacketDesk$Row")]) [1] rfl
  refine tx_sr (tx_runV (As := [.int x]) (rest := []) ⟨hx, hb, hml, hown, hA⟩ (c_D_rowOf l hL0 D cR h ra g y hg x) (q_D_rowOf hA k1_66 rfl rfl ⟨(Nat.le_of_ble_eq_true rfl), (Nat.le_of_ble_eq_true rfl)⟩) (ox_V (va_recv hKc hPc (ci := 0) (q0 := 0) rfl rfl) (oxg_S hPc hKc hG (fun _ _ => rfl))) rfl rfl hl.1 rfl (lv_room (Nat.le_of_ble_eq_true rfl)) d_D_block_2 ⟨(Nat.le_of_ble_eq_true rfl), (Nat.le_of_ble_eq_true rfl)⟩) (fun x9 E9 H9 ht9 hE9 => tx_prop hlocks hce hE9 (Nat.le_refl _) (fun _ _ => rfl) (Or.inl (⟨ht9.1, by unfold spBlock; rw [if_pos (fun h9 => ht9.2 h9.1)]⟩)) (fun q h => by cases h)) (fun j hj => ?_)
  obtain ⟨hj, hxj⟩ := hj
  refine lv_astore_n (lv' := [(3, .ref (y j)), (0, .ref h), (1, .int x), (2, .int f)]) hx hb d_D_block_5 rfl hl (by decide) rfl (fun ls hl => ?_)
  refine lv_aload_n hx hb d_D_block_6 rfl (lv_at hl 1 rfl) ?_
  refine lv_iload_n hx hb d_D_block_7 rfl (lv_at hl 3 rfl) ?_
  have hPc := hP.sub (ws' := [(h, .inr (0, [.ref ra])), (ra, .inl (cR, 4, .inr (.inr (.inr (.inr g)))))]) [0, 1] rfl
  have hKc := hK.sub (tys' := [(cR, .object "PacketDesk$Row")]) [1] rfl
  refine tx_sr (tx_runV (As := [.int f]) (rest := []) ⟨hx, hb, hml, hown, hA⟩ (c_D_rowOf l hL0 D cR h ra g y hg f) (q_D_rowOf hA k1_66 rfl rfl ⟨(Nat.le_of_ble_eq_true rfl), (Nat.le_of_ble_eq_true rfl)⟩) (ox_V (va_recv hKc hPc (ci := 0) (q0 := 0) rfl rfl) (oxg_S hPc hKc hG (fun _ _ => rfl))) rfl rfl hl.1 rfl (lv_room (Nat.le_of_ble_eq_true rfl)) d_D_block_8 ⟨(Nat.le_of_ble_eq_true rfl), (Nat.le_of_ble_eq_true rfl)⟩) (fun x9 E9 H9 ht9 hE9 => tx_prop hlocks hce hE9 (Nat.le_refl _) (fun _ _ => rfl) (Or.inl (⟨ht9.1, by unfold spBlock; rw [if_pos (fun h9 => ht9.2 h9.2)]⟩)) (fun q h => by cases h)) (fun i hi => ?_)
  obtain ⟨hi, hxi⟩ := hi
  by_cases hji : j = i
  · subst hji
    obtain ⟨c2_, c3_, c4_, c5_, c6_, c7_, c8_, c9_, hi1, hi2, ho1, ho2⟩ := dk_1 D vCl cR cB h ra g M y b σ hj
    have hP : va_P D vCl [(y j, .inr (1, [.ref (b j), .int (nI (σ j).2.1), .int (nI (σ j).2.2)])), (b j, .inl (cB, M, .inl (fun j9 => sb_b ((σ j).1 j9)))), c2_, c3_, c4_, c5_, c6_, c7_, c8_, c9_] s.heap := hi1 _ hP
    have hD : va_D A [(y j, .inr (1, [.ref (b j), .int (nI (σ j).2.1), .int (nI (σ j).2.2)])), (b j, .inl (cB, M, .inl (fun j9 => sb_b ((σ j).1 j9)))), c2_, c3_, c4_, c5_, c6_, c7_, c8_, c9_] := hi2 _ hD
    obtain ⟨⟨B, n, p⟩, hρ⟩ : ∃ ρ, σ j = ρ := ⟨_, rfl⟩
    have hk := hσ.2 j hj
    have hM := hσ.1
    rw [hρ] at hP hk hD
    obtain ⟨hp, hn, hB⟩ := hk
    have hp : p ≤ n := hp
    have hn : n ≤ M := hn
    have hB : ∀ j, B j < 256 := hB
    have hP : va_P D vCl [((y j), .inr (1, [.ref (b j), .int (nI n), .int (nI p)])), ((b j), .inl (cB, M, .inl (fun j => sb_b (B j)))), c2_, c3_, c4_, c5_, c6_, c7_, c8_, c9_] s.heap := hP
    have hD : va_D A [((y j), .inr (1, [.ref (b j), .int (nI n), .int (nI p)])), ((b j), .inl (cB, M, .inl (fun j => sb_b (B j)))), c2_, c3_, c4_, c5_, c6_, c7_, c8_, c9_] := hD
    have hrj : rj x = j := by rw [hxj]; exact rj_n hj
    have hir : isR x := by rw [hxj]; exact isR_n hj
    have hri : rj f = j := by rw [hxi]; exact rj_n hj
    have hir : isR x ∧ isR f := ⟨hir, by rw [hxi]; exact isR_n hj⟩
    have hρ2 := hρ
    refine lv_astore (lv' := [(4, .ref (y j)), (3, .ref (y j)), (0, .ref h), (1, .int x), (2, .int f)]) hx hb d_D_block_11 hl (by decide) rfl (fun ls hl => ?_)
    refine lv_aload hx hb d_D_block_13 (lv_at hl 0 rfl) ?_
    refine va_get (D := D) (ci := 1) (v := .int (nI n)) (C := R_R) (T := F_R) (N := 3) hx hb hA i_R hown hK hP 0 rfl rfl 1 (by decide) (hA _ k1_38) (fun _ h9 => h9) rfl d_D_block_15 ?_
    refine lv_istore (lv' := [(5, .int (nI n)), (4, .ref (y j)), (3, .ref (y j)), (0, .ref h), (1, .int x), (2, .int f)]) hx hb d_D_block_18 hl (by decide) rfl (fun ls hl => ?_)
    refine lv_iload hx hb d_D_block_20 (lv_at hl 0 rfl) ?_
    refine lv_i2l hx hb d_D_block_22 rfl ?_
    refine lv_topl (fun v22 ev22 => ?_)
    have ev22 : v22 = lN n := by rw [ev22]; exact nI_l (by omega)
    subst ev22
    refine vp_callSi (W.runS (As := [.long (lN n)]) (rest := []) ⟨hx, hb, hml, hown, hA⟩ (c_D_sevensWidth l n (by omega)) (q_D_sevensWidth hA k1_194 rfl rfl ⟨(Nat.le_of_ble_eq_true rfl), (Nat.le_of_ble_eq_true rfl)⟩) (⟨fun a U g mk q => q, fun U hU hW => ⟨rfl, trivial⟩⟩) rfl rfl hl.1 rfl (lv_room (Nat.le_of_ble_eq_true rfl)) d_D_block_23 ⟨(Nat.le_of_ble_eq_true rfl), (Nat.le_of_ble_eq_true rfl)⟩) (fun r23 hr23 => ?_)
    have er23 : r23 = nI (sw n) := hr23
    subst er23
    have hsw := sw_in n
    refine lv_iload hx hb d_D_block_26 (lv_at hl 0 rfl) ?_
    refine lv_iadd hx hb d_D_block_28 ?_
    refine lv_topi (fun v28 ev28 => ?_)
    have ev28 : v28 = nI (sw n + n) := by rw [ev28]; exact nI_add _ _
    subst ev28
    refine lv_istore (lv' := [(6, .int (nI (sw n + n))), (5, .int (nI n)), (4, .ref (y j)), (3, .ref (y j)), (0, .ref h), (1, .int x), (2, .int f)]) hx hb d_D_block_29 hl (by decide) rfl (fun ls hl => ?_)
    refine lv_aload_n hx hb d_D_block_31 rfl (lv_at hl 3 rfl) ?_
    refine lv_iload hx hb d_D_block_32 (lv_at hl 0 rfl) ?_
    have hPc := hP.sub (ws' := [((y j), .inr (1, [.ref (b j), .int (nI n), .int (nI p)])), ((b j), .inl (cB, M, .inl (fun j => sb_b (B j))))]) [0, 1] rfl
    have hKc := hK.sub (tys' := [(cB, .byte)]) [0] rfl
    refine tx_sv (tx_runS (As := [.ref (y j), .int (nI (sw n + n))]) (rest := []) ⟨hx, hb, hml, hown, hA⟩ (c_D_needRoom l hL0 D cB (y j) (b j) M B n p hn hM (sw n + n) (by omega)) (q_D_needRoom hA k1_158 rfl rfl ⟨(Nat.le_of_ble_eq_true rfl), (Nat.le_of_ble_eq_true rfl)⟩) (oxg_S hPc hKc hG (fun _ _ => rfl)) rfl rfl hl.1 rfl (lv_room (Nat.le_of_ble_eq_true rfl)) d_D_block_34 ⟨(Nat.le_of_ble_eq_true rfl), (Nat.le_of_ble_eq_true rfl)⟩) (fun x9 E9 H9 ht9 hE9 => tx_prop hlocks hce hE9 (Nat.le_refl _) (fun _ _ => rfl) (Or.inr (⟨ht9.1, by unfold spBlock; simp only [hrj, hri, hρ, hρ2]; rw [if_neg (fun h8 => h8 hir), if_pos ht9.2]⟩)) (fun q h => by cases h)) (fun hrr => ?_)
    refine lv_aload_n hx hb d_D_block_37 rfl (lv_at hl 3 rfl) ?_
    refine lv_iload hx hb d_D_block_38 (lv_at hl 1 rfl) ?_
    refine lv_i2l hx hb d_D_block_40 rfl ?_
    refine lv_topl (fun v40 ev40 => ?_)
    have ev40 : v40 = lN n := by rw [ev40]; exact nI_l (by omega)
    subst ev40
    have hPc := hP.sub (ws' := [((y j), .inr (1, [.ref (b j), .int (nI n), .int (nI p)])), ((b j), .inl (cB, M, .inl (fun j => sb_b (B j))))]) [0, 1] rfl
    have hDc := hD.sub (ws' := [((y j), .inr (1, [.ref (b j), .int (nI n), .int (nI p)])), ((b j), .inl (cB, M, .inl (fun j => sb_b (B j))))]) [0, 1] (by decide) rfl
    have hKc := hK.sub (tys' := [(cB, .byte)]) [0] rfl
    have hFc := va_free (wc := [((y j), .inr (1, [.ref (b j), .int (nI n), .int (nI p)])), ((b j), .inl (cB, M, .inl (fun j => sb_b (B j))))]) hD hS hAq [0, 1] rfl
    refine va_callv (va_runS (As := [.ref (y j), .long (lN n)]) (rest := []) ⟨hx, hb, hml, hown, hA⟩ (c_D_addSevens l D cB (y j) (b j) M B n p s.heap.size n (by omega) (by omega) hM) (q_D_addSevens hA k1_197 rfl rfl ⟨(Nat.le_of_ble_eq_true rfl), (Nat.le_of_ble_eq_true rfl)⟩) (oxw_S hPc hKc hDc) rfl rfl hl.1 rfl (lv_room (Nat.le_of_ble_eq_true rfl)) d_D_block_41 ⟨(Nat.le_of_ble_eq_true rfl), (Nat.le_of_ble_eq_true rfl)⟩) hS (fun q _ h => hFc q h) hFc (fun u9 t9 H1 locs ht9 hvm9 hw9 hB9 hz1 hk1 hS => ?_)
    obtain ⟨hP1, hK1, hD1⟩ := hB9
    rw [ht9] at hP1
    obtain ⟨hP, hD⟩ := va_join (wr := [c2_, c3_, c4_, c5_, c6_, c7_, c8_, c9_]) (w1 := [((y j), .inr (1, [.ref (b j), .int (nI (n + sw n)), .int (nI p)])), ((b j), .inl (cB, M, .inl (fun j => sb_b ((wr B n (sw n) (sv n)) j))))]) hP hD [0, 1] [2, 3, 4, 5, 6, 7, 8, 9] rfl rfl (by decide) (by decide) hk1 hFc hP1 hD1
    generalize H1 = H at hP hS ⊢
    have hP : va_P D vCl [((y j), .inr (1, [.ref (b j), .int (nI (n + sw n)), .int (nI p)])), ((b j), .inl (cB, M, .inl (fun j => sb_b ((wr B n (sw n) (sv n)) j)))), c2_, c3_, c4_, c5_, c6_, c7_, c8_, c9_] H := hP.sub [8, 9, 0, 1, 2, 3, 4, 5, 6, 7] rfl
    have hD : va_D A [((y j), .inr (1, [.ref (b j), .int (nI (n + sw n)), .int (nI p)])), ((b j), .inl (cB, M, .inl (fun j => sb_b ((wr B n (sw n) (sv n)) j)))), c2_, c3_, c4_, c5_, c6_, c7_, c8_, c9_] := hD.sub [8, 9, 0, 1, 2, 3, 4, 5, 6, 7] (by decide) rfl
    refine lv_aload_n hx hb d_D_block_44 rfl (lv_at hl 3 rfl) ?_
    refine lv_aload hx hb d_D_block_45 (lv_at hl 2 rfl) ?_
    refine lv_iconst (v := 0) hx hb d_D_block_47 (by decide) ?_
    refine lv_topi (fun v47 ev47 => ?_)
    have ev47 : v47 = nI 0 := by rw [ev47]; rfl
    subst ev47
    refine lv_iload hx hb d_D_block_48 (lv_at hl 1 rfl) ?_
    have hPc := hP.sub (ws' := [((y j), .inr (1, [.ref (b j), .int (nI (n + sw n)), .int (nI p)])), ((b j), .inl (cB, M, .inl (fun j => sb_b ((wr B n (sw n) (sv n)) j))))]) [0, 1] rfl
    have hDc := hD.sub (ws' := [((y j), .inr (1, [.ref (b j), .int (nI (n + sw n)), .int (nI p)])), ((b j), .inl (cB, M, .inl (fun j => sb_b ((wr B n (sw n) (sv n)) j))))]) [0, 1] (by decide) rfl
    have hKc := hK.sub (tys' := [(cB, .byte)]) [0] rfl
    have hFc := va_free (wc := [((y j), .inr (1, [.ref (b j), .int (nI (n + sw n)), .int (nI p)])), ((b j), .inl (cB, M, .inl (fun j => sb_b ((wr B n (sw n) (sv n)) j))))]) hD hS hAq [0, 1] rfl
    refine va_callv (va_runS (As := [.ref (y j), .ref (y j), .int (nI 0), .int (nI n)]) (rest := []) ⟨hx, hb, hml, hown, hA⟩ (c_D_addBytes1 l D cB (y j) (b j) M (wr B n (sw n) (sv n)) (n + sw n) p H.size 0 n (by omega) (by omega) hM) (q_D_addBytes hA k1_238 rfl rfl ⟨(Nat.le_of_ble_eq_true rfl), (Nat.le_of_ble_eq_true rfl)⟩) (oxw_S hPc hKc hDc) rfl rfl hl.1 rfl (lv_room (Nat.le_of_ble_eq_true rfl)) d_D_block_50 ⟨(Nat.le_of_ble_eq_true rfl), (Nat.le_of_ble_eq_true rfl)⟩) hS (fun q _ h => hFc q h) hFc (fun u9 t9 H1 locs ht9 hvm9 hw9 hB9 hz1 hk1 hS => ?_)
    obtain ⟨hP1, hK1, hD1⟩ := hB9
    rw [ht9] at hP1
    obtain ⟨hP, hD⟩ := va_join (wr := [c2_, c3_, c4_, c5_, c6_, c7_, c8_, c9_]) (w1 := [((y j), .inr (1, [.ref (b j), .int (nI (n + sw n + n)), .int (nI p)])), ((b j), .inl (cB, M, .inl (fun j => sb_b ((wr (wr B n (sw n) (sv n)) (n + sw n) n (fun i9 => (wr B n (sw n) (sv n)) (0 + i9))) j))))]) hP hD [0, 1] [2, 3, 4, 5, 6, 7, 8, 9] rfl rfl (by decide) (by decide) hk1 hFc hP1 hD1
    generalize H1 = H at hP hS ⊢
    have hP : va_P D vCl [((y j), .inr (1, [.ref (b j), .int (nI (n + sw n + n)), .int (nI p)])), ((b j), .inl (cB, M, .inl (fun j => sb_b ((wr (wr B n (sw n) (sv n)) (n + sw n) n (fun i9 => (wr B n (sw n) (sv n)) (0 + i9))) j)))), c2_, c3_, c4_, c5_, c6_, c7_, c8_, c9_] H := hP.sub [8, 9, 0, 1, 2, 3, 4, 5, 6, 7] rfl
    have hD : va_D A [((y j), .inr (1, [.ref (b j), .int (nI (n + sw n + n)), .int (nI p)])), ((b j), .inl (cB, M, .inl (fun j => sb_b ((wr (wr B n (sw n) (sv n)) (n + sw n) n (fun i9 => (wr B n (sw n) (sv n)) (0 + i9))) j)))), c2_, c3_, c4_, c5_, c6_, c7_, c8_, c9_] := hD.sub [8, 9, 0, 1, 2, 3, 4, 5, 6, 7] (by decide) rfl
    have ew : wr (wr B n (sw n) (sv n)) (n + sw n) n (fun i9 => (wr B n (sw n) (sv n)) (0 + i9)) = wr (wr B n (sw n) (sv n)) (n + sw n) n B := wr_congr _ _ (fun i9 h9 => by rw [Nat.zero_add]; rw [wr_out (by omega)])
    rw [ew] at hP hD
    refine lv_iload hx hb d_D_block_53 (lv_at hl 0 rfl) ?_
    exact tx_ret (W.iret (v := nI (sw n + n)) hx hb hr (fun t ht hW => Or.inl ⟨_, rfl, ⟨⟨_, va_up σ j (wr (wr B n (sw n) (sv n)) (n + sw n) n B, n + sw n + n, p), rfl, (by unfold spBlock; simp only [hrj, hri, hρ, hρ2]; rw [if_neg (fun h8 => h8 hir), if_neg (Nat.not_lt.mpr hrr)]), by rw [ht]; exact ho1 (wr (wr B n (sw n) (sv n)) (n + sw n) n B, n + sw n + n, p) _ hP, va_K.moved hW.alike hK, ho2 (wr (wr B n (sw n) (sv n)) (n + sw n) n B, n + sw n + n, p) _ hD⟩, hS.F ht⟩⟩) hS.2.2 d_D_block_55)
  · obtain ⟨c4_, c5_, c6_, c7_, c8_, c9_, hi1, hi2, ho1, ho2⟩ := dk_2 D vCl cR cB h ra g M y b σ hj hi hji
    have hP : va_P D vCl [(y j, .inr (1, [.ref (b j), .int (nI (σ j).2.1), .int (nI (σ j).2.2)])), (b j, .inl (cB, M, .inl (fun j9 => sb_b ((σ j).1 j9)))), (y i, .inr (1, [.ref (b i), .int (nI (σ i).2.1), .int (nI (σ i).2.2)])), (b i, .inl (cB, M, .inl (fun j9 => sb_b ((σ i).1 j9)))), c4_, c5_, c6_, c7_, c8_, c9_] s.heap := hi1 _ hP
    have hD : va_D A [(y j, .inr (1, [.ref (b j), .int (nI (σ j).2.1), .int (nI (σ j).2.2)])), (b j, .inl (cB, M, .inl (fun j9 => sb_b ((σ j).1 j9)))), (y i, .inr (1, [.ref (b i), .int (nI (σ i).2.1), .int (nI (σ i).2.2)])), (b i, .inl (cB, M, .inl (fun j9 => sb_b ((σ i).1 j9)))), c4_, c5_, c6_, c7_, c8_, c9_] := hi2 _ hD
    obtain ⟨⟨B, n, p⟩, hρ⟩ : ∃ ρ, σ j = ρ := ⟨_, rfl⟩
    obtain ⟨⟨C, n2, p2⟩, hρ2⟩ : ∃ ρ, σ i = ρ := ⟨_, rfl⟩
    have hk := hσ.2 j hj
    have hk2 := hσ.2 i hi
    have hM := hσ.1
    rw [hρ] at hk
    rw [hρ2] at hk2
    rw [hρ, hρ2] at hP hD
    obtain ⟨hp, hn, hB⟩ := hk
    have hp : p ≤ n := hp
    have hn : n ≤ M := hn
    have hB : ∀ j, B j < 256 := hB
    obtain ⟨hp2, hn2, hB2⟩ := hk2
    have hp2 : p2 ≤ n2 := hp2
    have hn2 : n2 ≤ M := hn2
    have hB2 : ∀ j, C j < 256 := hB2
    have hP : va_P D vCl [((y j), .inr (1, [.ref (b j), .int (nI n), .int (nI p)])), ((b j), .inl (cB, M, .inl (fun j => sb_b (B j)))), ((y i), .inr (1, [.ref (b i), .int (nI n2), .int (nI p2)])), ((b i), .inl (cB, M, .inl (fun j => sb_b (C j)))), c4_, c5_, c6_, c7_, c8_, c9_] s.heap := hP
    have hD : va_D A [((y j), .inr (1, [.ref (b j), .int (nI n), .int (nI p)])), ((b j), .inl (cB, M, .inl (fun j => sb_b (B j)))), ((y i), .inr (1, [.ref (b i), .int (nI n2), .int (nI p2)])), ((b i), .inl (cB, M, .inl (fun j => sb_b (C j)))), c4_, c5_, c6_, c7_, c8_, c9_] := hD
    have hrj : rj x = j := by rw [hxj]; exact rj_n hj
    have hri : rj f = i := by rw [hxi]; exact rj_n hi
    have hir : isR x ∧ isR f := ⟨by rw [hxj]; exact isR_n hj, by rw [hxi]; exact isR_n hi⟩
    refine lv_astore (lv' := [(4, .ref (y i)), (3, .ref (y j)), (0, .ref h), (1, .int x), (2, .int f)]) hx hb d_D_block_11 hl (by decide) rfl (fun ls hl => ?_)
    refine lv_aload hx hb d_D_block_13 (lv_at hl 0 rfl) ?_
    refine va_get (D := D) (ci := 1) (v := .int (nI n2)) (C := R_R) (T := F_R) (N := 3) hx hb hA i_R hown hK hP 2 rfl rfl 1 (by decide) (hA _ k1_38) (fun _ h9 => h9) rfl d_D_block_15 ?_
    refine lv_istore (lv' := [(5, .int (nI n2)), (4, .ref (y i)), (3, .ref (y j)), (0, .ref h), (1, .int x), (2, .int f)]) hx hb d_D_block_18 hl (by decide) rfl (fun ls hl => ?_)
    refine lv_iload hx hb d_D_block_20 (lv_at hl 0 rfl) ?_
    refine lv_i2l hx hb d_D_block_22 rfl ?_
    refine lv_topl (fun v22 ev22 => ?_)
    have ev22 : v22 = lN n2 := by rw [ev22]; exact nI_l (by omega)
    subst ev22
    refine vp_callSi (W.runS (As := [.long (lN n2)]) (rest := []) ⟨hx, hb, hml, hown, hA⟩ (c_D_sevensWidth l n2 (by omega)) (q_D_sevensWidth hA k1_194 rfl rfl ⟨(Nat.le_of_ble_eq_true rfl), (Nat.le_of_ble_eq_true rfl)⟩) (⟨fun a U g mk q => q, fun U hU hW => ⟨rfl, trivial⟩⟩) rfl rfl hl.1 rfl (lv_room (Nat.le_of_ble_eq_true rfl)) d_D_block_23 ⟨(Nat.le_of_ble_eq_true rfl), (Nat.le_of_ble_eq_true rfl)⟩) (fun r23 hr23 => ?_)
    have er23 : r23 = nI (sw n2) := hr23
    subst er23
    have hsw := sw_in n2
    refine lv_iload hx hb d_D_block_26 (lv_at hl 0 rfl) ?_
    refine lv_iadd hx hb d_D_block_28 ?_
    refine lv_topi (fun v28 ev28 => ?_)
    have ev28 : v28 = nI (sw n2 + n2) := by rw [ev28]; exact nI_add _ _
    subst ev28
    refine lv_istore (lv' := [(6, .int (nI (sw n2 + n2))), (5, .int (nI n2)), (4, .ref (y i)), (3, .ref (y j)), (0, .ref h), (1, .int x), (2, .int f)]) hx hb d_D_block_29 hl (by decide) rfl (fun ls hl => ?_)
    refine lv_aload_n hx hb d_D_block_31 rfl (lv_at hl 3 rfl) ?_
    refine lv_iload hx hb d_D_block_32 (lv_at hl 0 rfl) ?_
    have hPc := hP.sub (ws' := [((y j), .inr (1, [.ref (b j), .int (nI n), .int (nI p)])), ((b j), .inl (cB, M, .inl (fun j => sb_b (B j))))]) [0, 1] rfl
    have hKc := hK.sub (tys' := [(cB, .byte)]) [0] rfl
    refine tx_sv (tx_runS (As := [.ref (y j), .int (nI (sw n2 + n2))]) (rest := []) ⟨hx, hb, hml, hown, hA⟩ (c_D_needRoom l hL0 D cB (y j) (b j) M B n p hn hM (sw n2 + n2) (by omega)) (q_D_needRoom hA k1_158 rfl rfl ⟨(Nat.le_of_ble_eq_true rfl), (Nat.le_of_ble_eq_true rfl)⟩) (oxg_S hPc hKc hG (fun _ _ => rfl)) rfl rfl hl.1 rfl (lv_room (Nat.le_of_ble_eq_true rfl)) d_D_block_34 ⟨(Nat.le_of_ble_eq_true rfl), (Nat.le_of_ble_eq_true rfl)⟩) (fun x9 E9 H9 ht9 hE9 => tx_prop hlocks hce hE9 (Nat.le_refl _) (fun _ _ => rfl) (Or.inr (⟨ht9.1, by unfold spBlock; simp only [hrj, hri, hρ, hρ2]; rw [if_neg (fun h8 => h8 hir), if_pos ht9.2]⟩)) (fun q h => by cases h)) (fun hrr => ?_)
    refine lv_aload_n hx hb d_D_block_37 rfl (lv_at hl 3 rfl) ?_
    refine lv_iload hx hb d_D_block_38 (lv_at hl 1 rfl) ?_
    refine lv_i2l hx hb d_D_block_40 rfl ?_
    refine lv_topl (fun v40 ev40 => ?_)
    have ev40 : v40 = lN n2 := by rw [ev40]; exact nI_l (by omega)
    subst ev40
    have hPc := hP.sub (ws' := [((y j), .inr (1, [.ref (b j), .int (nI n), .int (nI p)])), ((b j), .inl (cB, M, .inl (fun j => sb_b (B j))))]) [0, 1] rfl
    have hDc := hD.sub (ws' := [((y j), .inr (1, [.ref (b j), .int (nI n), .int (nI p)])), ((b j), .inl (cB, M, .inl (fun j => sb_b (B j))))]) [0, 1] (by decide) rfl
    have hKc := hK.sub (tys' := [(cB, .byte)]) [0] rfl
    have hFc := va_free (wc := [((y j), .inr (1, [.ref (b j), .int (nI n), .int (nI p)])), ((b j), .inl (cB, M, .inl (fun j => sb_b (B j))))]) hD hS hAq [0, 1] rfl
    refine va_callv (va_runS (As := [.ref (y j), .long (lN n2)]) (rest := []) ⟨hx, hb, hml, hown, hA⟩ (c_D_addSevens l D cB (y j) (b j) M B n p s.heap.size n2 (by omega) (by omega) hM) (q_D_addSevens hA k1_197 rfl rfl ⟨(Nat.le_of_ble_eq_true rfl), (Nat.le_of_ble_eq_true rfl)⟩) (oxw_S hPc hKc hDc) rfl rfl hl.1 rfl (lv_room (Nat.le_of_ble_eq_true rfl)) d_D_block_41 ⟨(Nat.le_of_ble_eq_true rfl), (Nat.le_of_ble_eq_true rfl)⟩) hS (fun q _ h => hFc q h) hFc (fun u9 t9 H1 locs ht9 hvm9 hw9 hB9 hz1 hk1 hS => ?_)
    obtain ⟨hP1, hK1, hD1⟩ := hB9
    rw [ht9] at hP1
    obtain ⟨hP, hD⟩ := va_join (wr := [((y i), .inr (1, [.ref (b i), .int (nI n2), .int (nI p2)])), ((b i), .inl (cB, M, .inl (fun j => sb_b (C j)))), c4_, c5_, c6_, c7_, c8_, c9_]) (w1 := [((y j), .inr (1, [.ref (b j), .int (nI (n + sw n2)), .int (nI p)])), ((b j), .inl (cB, M, .inl (fun j => sb_b ((wr B n (sw n2) (sv n2)) j))))]) hP hD [0, 1] [2, 3, 4, 5, 6, 7, 8, 9] rfl rfl (by decide) (by decide) hk1 hFc hP1 hD1
    generalize H1 = H at hP hS ⊢
    have hP : va_P D vCl [((y j), .inr (1, [.ref (b j), .int (nI (n + sw n2)), .int (nI p)])), ((b j), .inl (cB, M, .inl (fun j => sb_b ((wr B n (sw n2) (sv n2)) j)))), ((y i), .inr (1, [.ref (b i), .int (nI n2), .int (nI p2)])), ((b i), .inl (cB, M, .inl (fun j => sb_b (C j)))), c4_, c5_, c6_, c7_, c8_, c9_] H := hP.sub [8, 9, 0, 1, 2, 3, 4, 5, 6, 7] rfl
    have hD : va_D A [((y j), .inr (1, [.ref (b j), .int (nI (n + sw n2)), .int (nI p)])), ((b j), .inl (cB, M, .inl (fun j => sb_b ((wr B n (sw n2) (sv n2)) j)))), ((y i), .inr (1, [.ref (b i), .int (nI n2), .int (nI p2)])), ((b i), .inl (cB, M, .inl (fun j => sb_b (C j)))), c4_, c5_, c6_, c7_, c8_, c9_] := hD.sub [8, 9, 0, 1, 2, 3, 4, 5, 6, 7] (by decide) rfl
    refine lv_aload_n hx hb d_D_block_44 rfl (lv_at hl 3 rfl) ?_
    refine lv_aload hx hb d_D_block_45 (lv_at hl 2 rfl) ?_
    refine lv_iconst (v := 0) hx hb d_D_block_47 (by decide) ?_
    refine lv_topi (fun v47 ev47 => ?_)
    have ev47 : v47 = nI 0 := by rw [ev47]; rfl
    subst ev47
    refine lv_iload hx hb d_D_block_48 (lv_at hl 1 rfl) ?_
    have hPc := hP.sub (ws' := [((y j), .inr (1, [.ref (b j), .int (nI (n + sw n2)), .int (nI p)])), ((b j), .inl (cB, M, .inl (fun j => sb_b ((wr B n (sw n2) (sv n2)) j)))), ((y i), .inr (1, [.ref (b i), .int (nI n2), .int (nI p2)])), ((b i), .inl (cB, M, .inl (fun j => sb_b (C j))))]) [0, 1, 2, 3] rfl
    have hDc := hD.sub (ws' := [((y j), .inr (1, [.ref (b j), .int (nI (n + sw n2)), .int (nI p)])), ((b j), .inl (cB, M, .inl (fun j => sb_b ((wr B n (sw n2) (sv n2)) j)))), ((y i), .inr (1, [.ref (b i), .int (nI n2), .int (nI p2)])), ((b i), .inl (cB, M, .inl (fun j => sb_b (C j))))]) [0, 1, 2, 3] (by decide) rfl
    have hKc := hK.sub (tys' := [(cB, .byte)]) [0] rfl
    have hFc := va_free (wc := [((y j), .inr (1, [.ref (b j), .int (nI (n + sw n2)), .int (nI p)])), ((b j), .inl (cB, M, .inl (fun j => sb_b ((wr B n (sw n2) (sv n2)) j)))), ((y i), .inr (1, [.ref (b i), .int (nI n2), .int (nI p2)])), ((b i), .inl (cB, M, .inl (fun j => sb_b (C j))))]) hD hS hAq [0, 1, 2, 3] rfl
    refine va_callv (va_runS (As := [.ref (y j), .ref (y i), .int (nI 0), .int (nI n2)]) (rest := []) ⟨hx, hb, hml, hown, hA⟩ (c_D_addBytes2 l D cB (y j) (b j) (y i) (b i) M (wr B n (sw n2) (sv n2)) C (n + sw n2) p n2 p2 H.size 0 n2 (by omega) (by omega) hM) (q_D_addBytes hA k1_238 rfl rfl ⟨(Nat.le_of_ble_eq_true rfl), (Nat.le_of_ble_eq_true rfl)⟩) (oxw_S hPc hKc hDc) rfl rfl hl.1 rfl (lv_room (Nat.le_of_ble_eq_true rfl)) d_D_block_50 ⟨(Nat.le_of_ble_eq_true rfl), (Nat.le_of_ble_eq_true rfl)⟩) hS (fun q _ h => hFc q h) hFc (fun u9 t9 H1 locs ht9 hvm9 hw9 hB9 hz1 hk1 hS => ?_)
    obtain ⟨hP1, hK1, hD1⟩ := hB9
    rw [ht9] at hP1
    obtain ⟨hP, hD⟩ := va_join (wr := [c4_, c5_, c6_, c7_, c8_, c9_]) (w1 := [((y j), .inr (1, [.ref (b j), .int (nI (n + sw n2 + n2)), .int (nI p)])), ((b j), .inl (cB, M, .inl (fun j => sb_b ((wr (wr B n (sw n2) (sv n2)) (n + sw n2) n2 (fun i9 => C (0 + i9))) j)))), ((y i), .inr (1, [.ref (b i), .int (nI n2), .int (nI p2)])), ((b i), .inl (cB, M, .inl (fun j => sb_b (C j))))]) hP hD [0, 1, 2, 3] [4, 5, 6, 7, 8, 9] rfl rfl (by decide) (by decide) hk1 hFc hP1 hD1
    generalize H1 = H at hP hS ⊢
    have hP : va_P D vCl [((y j), .inr (1, [.ref (b j), .int (nI (n + sw n2 + n2)), .int (nI p)])), ((b j), .inl (cB, M, .inl (fun j => sb_b ((wr (wr B n (sw n2) (sv n2)) (n + sw n2) n2 (fun i9 => C (0 + i9))) j)))), ((y i), .inr (1, [.ref (b i), .int (nI n2), .int (nI p2)])), ((b i), .inl (cB, M, .inl (fun j => sb_b (C j)))), c4_, c5_, c6_, c7_, c8_, c9_] H := hP.sub [6, 7, 8, 9, 0, 1, 2, 3, 4, 5] rfl
    have hD : va_D A [((y j), .inr (1, [.ref (b j), .int (nI (n + sw n2 + n2)), .int (nI p)])), ((b j), .inl (cB, M, .inl (fun j => sb_b ((wr (wr B n (sw n2) (sv n2)) (n + sw n2) n2 (fun i9 => C (0 + i9))) j)))), ((y i), .inr (1, [.ref (b i), .int (nI n2), .int (nI p2)])), ((b i), .inl (cB, M, .inl (fun j => sb_b (C j)))), c4_, c5_, c6_, c7_, c8_, c9_] := hD.sub [6, 7, 8, 9, 0, 1, 2, 3, 4, 5] (by decide) rfl
    have ew : wr (wr B n (sw n2) (sv n2)) (n + sw n2) n2 (fun i9 => C (0 + i9)) = wr (wr B n (sw n2) (sv n2)) (n + sw n2) n2 C := wr_congr _ _ (fun i9 h9 => by rw [Nat.zero_add])
    rw [ew] at hP hD
    refine lv_iload hx hb d_D_block_53 (lv_at hl 0 rfl) ?_
    exact tx_ret (W.iret (v := nI (sw n2 + n2)) hx hb hr (fun t ht hW => Or.inl ⟨_, rfl, ⟨⟨_, va_up (va_up σ j (wr (wr B n (sw n2) (sv n2)) (n + sw n2) n2 C, n + sw n2 + n2, p)) i (C, n2, p2), rfl, (by rw [va_up2 hji hρ2]; unfold spBlock; simp only [hrj, hri, hρ, hρ2]; rw [if_neg (fun h8 => h8 hir), if_neg (Nat.not_lt.mpr hrr)]), by rw [ht]; exact ho1 (wr (wr B n (sw n2) (sv n2)) (n + sw n2) n2 C, n + sw n2 + n2, p) (C, n2, p2) _ hP, va_K.moved hW.alike hK, ho2 (wr (wr B n (sw n2) (sv n2)) (n + sw n2) n2 C, n + sw n2 + n2, p) (C, n2, p2) _ hD⟩, hS.F ht⟩⟩) hS.2.2 d_D_block_55)
set_option maxHeartbeats 600000 in
set_option maxRecDepth 100000 in
/-- frame -/
theorem c_D_frame (l : Launch) (hL0 : l.stackTraces = false) (D : va_G) (cR cB : ClassId) (h ra : Nat) (g : Nat → Option Nat) (M : Nat) (y b : Nat → Nat) (σ : dkS) (sz : Nat) (x f : Int32) (hg : ∀ i, i < 4 → g i = some (y i)) (hσ : dkok M σ) : tx_Met l y_D_frame w_D_frame ({ frames := 7, cells := 1, slots := 6, locals := 111 }) (va_Pc [.ref h, .int x, .int f] (oxv sz D [(cB, .byte), (cR, .object "PacketDesk$Row")] [(h, .inr (0, [.ref ra])), (ra, .inl (cR, 4, .inr (.inr (.inr (.inr g))))), ((y 0), .inr (1, [.ref (b 0), .int (nI (σ 0).2.1), .int (nI (σ 0).2.2)])), ((b 0), .inl (cB, M, .inl (fun j => sb_b ((σ 0).1 j)))), ((y 1), .inr (1, [.ref (b 1), .int (nI (σ 1).2.1), .int (nI (σ 1).2.2)])), ((b 1), .inl (cB, M, .inl (fun j => sb_b ((σ 1).1 j)))), ((y 2), .inr (1, [.ref (b 2), .int (nI (σ 2).2.1), .int (nI (σ 2).2.2)])), ((b 2), .inl (cB, M, .inl (fun j => sb_b ((σ 2).1 j)))), ((y 3), .inr (1, [.ref (b 3), .int (nI (σ 3).2.1), .int (nI (σ 3).2.2)])), ((b 3), .inl (cB, M, .inl (fun j => sb_b ((σ 3).1 j))))])) (tx_Q (fun E => (E = X_IOOBE ∧ (spFrame M σ x f).1 = 1) ∨ (E = X_ISE ∧ (spFrame M σ x f).1 = 2)) (va_Qi (fun r (τ : dkS) => spFrame M σ x f = (0, r, τ)) (fun τ => ow D [(cB, .byte), (cR, .object "PacketDesk$Row")] (va_A [(h, .inr (0, [.ref ra])), (ra, .inl (cR, 4, .inr (.inr (.inr (.inr g))))), ((y 0), .inr (1, [.ref (b 0), .int (nI (σ 0).2.1), .int (nI (σ 0).2.2)])), ((b 0), .inl (cB, M, .inl (fun j => sb_b ((σ 0).1 j)))), ((y 1), .inr (1, [.ref (b 1), .int (nI (σ 1).2.1), .int (nI (σ 1).2.2)])), ((b 1), .inl (cB, M, .inl (fun j => sb_b ((σ 1).1 j)))), ((y 2), .inr (1, [.ref (b 2), .int (nI (σ 2).2.1), .int (nI (σ 2).2.2)])), ((b 2), .inl (cB, M, .inl (fun j => sb_b ((σ 2).1 j)))), ((y 3), .inr (1, [.ref (b 3), .int (nI (σ 3).2.1), .int (nI (σ 3).2.2)])), ((b 3), .inl (cB, M, .inl (fun j => sb_b ((σ 3).1 j))))] sz) (dk cR cB h ra g M y b τ)) (va_A [(h, .inr (0, [.ref ra])), (ra, .inl (cR, 4, .inr (.inr (.inr (.inr g))))), ((y 0), .inr (1, [.ref (b 0), .int (nI (σ 0).2.1), .int (nI (σ 0).2.2)])), ((b 0), .inl (cB, M, .inl (fun j => sb_b ((σ 0).1 j)))), ((y 1), .inr (1, [.ref (b 1), .int (nI (σ 1).2.1), .int (nI (σ 1).2.2)])), ((b 1), .inl (cB, M, .inl (fun j => sb_b ((σ 1).1 j)))), ((y 2), .inr (1, [.ref (b 2), .int (nI (σ 2).2.1), .int (nI (σ 2).2.2)])), ((b 2), .inl (cB, M, .inl (fun j => sb_b ((σ 2).1 j)))), ((y 3), .inr (1, [.ref (b 3), .int (nI (σ 3).2.1), .int (nI (σ 3).2.2)])), ((b 3), .inl (cB, M, .inl (fun j => sb_b ((σ 3).1 j))))] sz))) 0 0 (va_A [(h, .inr (0, [.ref ra])), (ra, .inl (cR, 4, .inr (.inr (.inr (.inr g))))), ((y 0), .inr (1, [.ref (b 0), .int (nI (σ 0).2.1), .int (nI (σ 0).2.2)])), ((b 0), .inl (cB, M, .inl (fun j => sb_b ((σ 0).1 j)))), ((y 1), .inr (1, [.ref (b 1), .int (nI (σ 1).2.1), .int (nI (σ 1).2.2)])), ((b 1), .inl (cB, M, .inl (fun j => sb_b ((σ 1).1 j)))), ((y 2), .inr (1, [.ref (b 2), .int (nI (σ 2).2.1), .int (nI (σ 2).2.2)])), ((b 2), .inl (cB, M, .inl (fun j => sb_b ((σ 2).1 j)))), ((y 3), .inr (1, [.ref (b 3), .int (nI (σ 3).2.1), .int (nI (σ 3).2.2)])), ((b 3), .inl (cB, M, .inl (fun j => sb_b ((σ 3).1 j))))] sz) := by
  refine tx_ofW (cc := b_D_frame) (maxL := 7) (ret := (some .int)) (by decide) rfl ?_
  intro p9 e9 s m args below meth c9 s₁ BL hml hce hadm hv
  obtain ⟨rfl, hsz, hP, hK, hD0, hG⟩ := hv
  have hx := BL.exec
  have hb := BL.bytes
  have hr := BL.returns
  have hts := atoms_spec (ws := w_D_frame) BL.pre
  have hA : ∀ w ∈ wsA, w.before _ s = true := fun w h => hts w (List.mem_cons_of_mem _ h)
  have hown : s.vm.findClass R_D = some m.cls := findClass_of_methodNamed BL.named
  have hlocks := BL.notSynchronized
  have htr : e9.platform.stackTraces = false := by rw [hadm.platform]; exact hL0
  subst hsz
  have hD := hD0.self (sz := s.heap.size)
  generalize hAe : va_A [(h, .inr (0, [.ref ra])), (ra, .inl (cR, 4, .inr (.inr (.inr (.inr g))))), ((y 0), .inr (1, [.ref (b 0), .int (nI (σ 0).2.1), .int (nI (σ 0).2.2)])), ((b 0), .inl (cB, M, .inl (fun j => sb_b ((σ 0).1 j)))), ((y 1), .inr (1, [.ref (b 1), .int (nI (σ 1).2.1), .int (nI (σ 1).2.2)])), ((b 1), .inl (cB, M, .inl (fun j => sb_b ((σ 1).1 j)))), ((y 2), .inr (1, [.ref (b 2), .int (nI (σ 2).2.1), .int (nI (σ 2).2.2)])), ((b 2), .inl (cB, M, .inl (fun j => sb_b ((σ 2).1 j)))), ((y 3), .inr (1, [.ref (b 3), .int (nI (σ 3).2.1), .int (nI (σ 3).2.2)])), ((b 3), .inl (cB, M, .inl (fun j => sb_b ((σ 3).1 j))))] s.heap.size = A at hD ⊢
  have hAq : ∀ q : Nat, s.heap.size ≤ q → A q := fun q h => by rw [← hAe]; exact Or.inr h
  have hS : va_S A s.heap s.heap [] := va_S.rf
  have hP : va_P D vCl [(h, .inr (0, [.ref ra])), (ra, .inl (cR, 4, .inr (.inr (.inr (.inr g))))), ((y 0), .inr (1, [.ref (b 0), .int (nI (σ 0).2.1), .int (nI (σ 0).2.2)])), ((b 0), .inl (cB, M, .inl (fun j => sb_b ((σ 0).1 j)))), ((y 1), .inr (1, [.ref (b 1), .int (nI (σ 1).2.1), .int (nI (σ 1).2.2)])), ((b 1), .inl (cB, M, .inl (fun j => sb_b ((σ 1).1 j)))), ((y 2), .inr (1, [.ref (b 2), .int (nI (σ 2).2.1), .int (nI (σ 2).2.2)])), ((b 2), .inl (cB, M, .inl (fun j => sb_b ((σ 2).1 j)))), ((y 3), .inr (1, [.ref (b 3), .int (nI (σ 3).2.1), .int (nI (σ 3).2.2)])), ((b 3), .inl (cB, M, .inl (fun j => sb_b ((σ 3).1 j))))] s.heap := hP
  have hl := lv_entry ([.ref h, .int x, .int f]) (n := 7) (Nat.le_of_ble_eq_true rfl)
  rw [lg_entry_eq]
  generalize (lg_sl ([.ref h, .int x, .int f]) ++ List.replicate (7 - (lg_sl ([.ref h, .int x, .int f])).length) Slot.unset).toArray = ls at hl ⊢
  have hl : lv_has ls 7 [(0, .ref h), (1, .int x), (2, .int f)] := hl
  refine lv_aload_n hx hb d_D_frame_0 rfl (lv_at hl 0 rfl) ?_
  refine lv_iload_n hx hb d_D_frame_1 rfl (lv_at hl 1 rfl) ?_
  have hPc := hP.sub (ws' := [(h, .inr (0, [.ref ra])), (ra, .inl (cR, 4, .inr (.inr (.inr (.inr g)))))]) [0, 1] rfl
  have hKc := hK.sub (tys' := [(cR, .object "PacketDesk$Row")]) [1] rfl
  refine tx_sr (tx_runV (As := [.int x]) (rest := []) ⟨hx, hb, hml, hown, hA⟩ (c_D_rowOf l hL0 D cR h ra g y hg x) (q_D_rowOf hA k1_66 rfl rfl ⟨(Nat.le_of_ble_eq_true rfl), (Nat.le_of_ble_eq_true rfl)⟩) (ox_V (va_recv hKc hPc (ci := 0) (q0 := 0) rfl rfl) (oxg_S hPc hKc hG (fun _ _ => rfl))) rfl rfl hl.1 rfl (lv_room (Nat.le_of_ble_eq_true rfl)) d_D_frame_2 ⟨(Nat.le_of_ble_eq_true rfl), (Nat.le_of_ble_eq_true rfl)⟩) (fun x9 E9 H9 ht9 hE9 => tx_prop hlocks hce hE9 (Nat.le_refl _) (fun _ _ => rfl) (Or.inl (⟨ht9.1, by unfold spFrame; rw [if_pos (fun h9 => ht9.2 h9.1)]⟩)) (fun q h => by cases h)) (fun j hj => ?_)
  obtain ⟨hj, hxj⟩ := hj
  refine lv_astore_n (lv' := [(3, .ref (y j)), (0, .ref h), (1, .int x), (2, .int f)]) hx hb d_D_frame_5 rfl hl (by decide) rfl (fun ls hl => ?_)
  refine lv_aload_n hx hb d_D_frame_6 rfl (lv_at hl 1 rfl) ?_
  refine lv_iload_n hx hb d_D_frame_7 rfl (lv_at hl 3 rfl) ?_
  have hPc := hP.sub (ws' := [(h, .inr (0, [.ref ra])), (ra, .inl (cR, 4, .inr (.inr (.inr (.inr g)))))]) [0, 1] rfl
  have hKc := hK.sub (tys' := [(cR, .object "PacketDesk$Row")]) [1] rfl
  refine tx_sr (tx_runV (As := [.int f]) (rest := []) ⟨hx, hb, hml, hown, hA⟩ (c_D_rowOf l hL0 D cR h ra g y hg f) (q_D_rowOf hA k1_66 rfl rfl ⟨(Nat.le_of_ble_eq_true rfl), (Nat.le_of_ble_eq_true rfl)⟩) (ox_V (va_recv hKc hPc (ci := 0) (q0 := 0) rfl rfl) (oxg_S hPc hKc hG (fun _ _ => rfl))) rfl rfl hl.1 rfl (lv_room (Nat.le_of_ble_eq_true rfl)) d_D_frame_8 ⟨(Nat.le_of_ble_eq_true rfl), (Nat.le_of_ble_eq_true rfl)⟩) (fun x9 E9 H9 ht9 hE9 => tx_prop hlocks hce hE9 (Nat.le_refl _) (fun _ _ => rfl) (Or.inl (⟨ht9.1, by unfold spFrame; rw [if_pos (fun h9 => ht9.2 h9.2)]⟩)) (fun q h => by cases h)) (fun i hi => ?_)
  obtain ⟨hi, hxi⟩ := hi
  by_cases hji : j = i
  · subst hji
    obtain ⟨c2_, c3_, c4_, c5_, c6_, c7_, c8_, c9_, hi1, hi2, ho1, ho2⟩ := dk_1 D vCl cR cB h ra g M y b σ hj
    have hP : va_P D vCl [(y j, .inr (1, [.ref (b j), .int (nI (σ j).2.1), .int (nI (σ j).2.2)])), (b j, .inl (cB, M, .inl (fun j9 => sb_b ((σ j).1 j9)))), c2_, c3_, c4_, c5_, c6_, c7_, c8_, c9_] s.heap := hi1 _ hP
    have hD : va_D A [(y j, .inr (1, [.ref (b j), .int (nI (σ j).2.1), .int (nI (σ j).2.2)])), (b j, .inl (cB, M, .inl (fun j9 => sb_b ((σ j).1 j9)))), c2_, c3_, c4_, c5_, c6_, c7_, c8_, c9_] := hi2 _ hD
    obtain ⟨⟨B, n, p⟩, hρ⟩ : ∃ ρ, σ j = ρ := ⟨_, rfl⟩
    have hk := hσ.2 j hj
    have hM := hσ.1
    rw [hρ] at hP hk hD
    obtain ⟨hp, hn, hB⟩ := hk
    have hp : p ≤ n := hp
    have hn : n ≤ M := hn
    have hB : ∀ j, B j < 256 := hB
    have hP : va_P D vCl [((y j), .inr (1, [.ref (b j), .int (nI n), .int (nI p)])), ((b j), .inl (cB, M, .inl (fun j => sb_b (B j)))), c2_, c3_, c4_, c5_, c6_, c7_, c8_, c9_] s.heap := hP
    have hD : va_D A [((y j), .inr (1, [.ref (b j), .int (nI n), .int (nI p)])), ((b j), .inl (cB, M, .inl (fun j => sb_b (B j)))), c2_, c3_, c4_, c5_, c6_, c7_, c8_, c9_] := hD
    have hrj : rj x = j := by rw [hxj]; exact rj_n hj
    have hir : isR x := by rw [hxj]; exact isR_n hj
    have hri : rj f = j := by rw [hxi]; exact rj_n hj
    have hir : isR x ∧ isR f := ⟨hir, by rw [hxi]; exact isR_n hj⟩
    have hρ2 := hρ
    refine lv_astore (lv' := [(4, .ref (y j)), (3, .ref (y j)), (0, .ref h), (1, .int x), (2, .int f)]) hx hb d_D_frame_11 hl (by decide) rfl (fun ls hl => ?_)
    refine lv_aload hx hb d_D_frame_13 (lv_at hl 0 rfl) ?_
    refine va_get (D := D) (ci := 1) (v := .int (nI n)) (C := R_R) (T := F_R) (N := 3) hx hb hA i_R hown hK hP 0 rfl rfl 1 (by decide) (hA _ k1_38) (fun _ h9 => h9) rfl d_D_frame_15 ?_
    refine lv_istore (lv' := [(5, .int (nI n)), (4, .ref (y j)), (3, .ref (y j)), (0, .ref h), (1, .int x), (2, .int f)]) hx hb d_D_frame_18 hl (by decide) rfl (fun ls hl => ?_)
    refine lv_iload hx hb d_D_frame_20 (lv_at hl 0 rfl) ?_
    refine lv_i2l hx hb d_D_frame_22 rfl ?_
    refine lv_topl (fun v22 ev22 => ?_)
    have ev22 : v22 = lN n := by rw [ev22]; exact nI_l (by omega)
    subst ev22
    refine vp_callSi (W.runS (As := [.long (lN n)]) (rest := []) ⟨hx, hb, hml, hown, hA⟩ (c_D_sevensWidth l n (by omega)) (q_D_sevensWidth hA k1_194 rfl rfl ⟨(Nat.le_of_ble_eq_true rfl), (Nat.le_of_ble_eq_true rfl)⟩) (⟨fun a U g mk q => q, fun U hU hW => ⟨rfl, trivial⟩⟩) rfl rfl hl.1 rfl (lv_room (Nat.le_of_ble_eq_true rfl)) d_D_frame_23 ⟨(Nat.le_of_ble_eq_true rfl), (Nat.le_of_ble_eq_true rfl)⟩) (fun r23 hr23 => ?_)
    have er23 : r23 = nI (sw n) := hr23
    subst er23
    have hsw := sw_in n
    refine lv_iconst (v := 4) hx hb d_D_frame_26 (by decide) ?_
    refine lv_iadd hx hb d_D_frame_27 ?_
    refine lv_topi (fun v27 ev27 => ?_)
    have ev27 : v27 = nI (sw n + 4) := by rw [ev27]; exact nI_add _ 4
    subst ev27
    refine lv_iload hx hb d_D_frame_28 (lv_at hl 0 rfl) ?_
    refine lv_iadd hx hb d_D_frame_30 ?_
    refine lv_topi (fun v30 ev30 => ?_)
    have ev30 : v30 = nI (sw n + 4 + n) := by rw [ev30]; exact nI_add _ _
    subst ev30
    refine lv_istore (lv' := [(6, .int (nI (sw n + 4 + n))), (5, .int (nI n)), (4, .ref (y j)), (3, .ref (y j)), (0, .ref h), (1, .int x), (2, .int f)]) hx hb d_D_frame_31 hl (by decide) rfl (fun ls hl => ?_)
    refine lv_aload_n hx hb d_D_frame_33 rfl (lv_at hl 3 rfl) ?_
    refine lv_iload hx hb d_D_frame_34 (lv_at hl 0 rfl) ?_
    have hPc := hP.sub (ws' := [((y j), .inr (1, [.ref (b j), .int (nI n), .int (nI p)])), ((b j), .inl (cB, M, .inl (fun j => sb_b (B j))))]) [0, 1] rfl
    have hKc := hK.sub (tys' := [(cB, .byte)]) [0] rfl
    refine tx_sv (tx_runS (As := [.ref (y j), .int (nI (sw n + 4 + n))]) (rest := []) ⟨hx, hb, hml, hown, hA⟩ (c_D_needRoom l hL0 D cB (y j) (b j) M B n p hn hM (sw n + 4 + n) (by omega)) (q_D_needRoom hA k1_158 rfl rfl ⟨(Nat.le_of_ble_eq_true rfl), (Nat.le_of_ble_eq_true rfl)⟩) (oxg_S hPc hKc hG (fun _ _ => rfl)) rfl rfl hl.1 rfl (lv_room (Nat.le_of_ble_eq_true rfl)) d_D_frame_36 ⟨(Nat.le_of_ble_eq_true rfl), (Nat.le_of_ble_eq_true rfl)⟩) (fun x9 E9 H9 ht9 hE9 => tx_prop hlocks hce hE9 (Nat.le_refl _) (fun _ _ => rfl) (Or.inr (⟨ht9.1, by unfold spFrame; simp only [hrj, hri, hρ, hρ2]; rw [if_neg (fun h8 => h8 hir), if_pos ht9.2]⟩)) (fun q h => by cases h)) (fun hrr => ?_)
    refine lv_aload_n hx hb d_D_frame_39 rfl (lv_at hl 3 rfl) ?_
    refine lv_iload hx hb d_D_frame_40 (lv_at hl 1 rfl) ?_
    refine lv_i2l hx hb d_D_frame_42 rfl ?_
    refine lv_topl (fun v42 ev42 => ?_)
    have ev42 : v42 = lN n := by rw [ev42]; exact nI_l (by omega)
    subst ev42
    have hPc := hP.sub (ws' := [((y j), .inr (1, [.ref (b j), .int (nI n), .int (nI p)])), ((b j), .inl (cB, M, .inl (fun j => sb_b (B j))))]) [0, 1] rfl
    have hDc := hD.sub (ws' := [((y j), .inr (1, [.ref (b j), .int (nI n), .int (nI p)])), ((b j), .inl (cB, M, .inl (fun j => sb_b (B j))))]) [0, 1] (by decide) rfl
    have hKc := hK.sub (tys' := [(cB, .byte)]) [0] rfl
    have hFc := va_free (wc := [((y j), .inr (1, [.ref (b j), .int (nI n), .int (nI p)])), ((b j), .inl (cB, M, .inl (fun j => sb_b (B j))))]) hD hS hAq [0, 1] rfl
    refine va_callv (va_runS (As := [.ref (y j), .long (lN n)]) (rest := []) ⟨hx, hb, hml, hown, hA⟩ (c_D_addSevens l D cB (y j) (b j) M B n p s.heap.size n (by omega) (by omega) hM) (q_D_addSevens hA k1_197 rfl rfl ⟨(Nat.le_of_ble_eq_true rfl), (Nat.le_of_ble_eq_true rfl)⟩) (oxw_S hPc hKc hDc) rfl rfl hl.1 rfl (lv_room (Nat.le_of_ble_eq_true rfl)) d_D_frame_43 ⟨(Nat.le_of_ble_eq_true rfl), (Nat.le_of_ble_eq_true rfl)⟩) hS (fun q _ h => hFc q h) hFc (fun u9 t9 H1 locs ht9 hvm9 hw9 hB9 hz1 hk1 hS => ?_)
    obtain ⟨hP1, hK1, hD1⟩ := hB9
    rw [ht9] at hP1
    obtain ⟨hP, hD⟩ := va_join (wr := [c2_, c3_, c4_, c5_, c6_, c7_, c8_, c9_]) (w1 := [((y j), .inr (1, [.ref (b j), .int (nI (n + sw n)), .int (nI p)])), ((b j), .inl (cB, M, .inl (fun j => sb_b ((wr B n (sw n) (sv n)) j))))]) hP hD [0, 1] [2, 3, 4, 5, 6, 7, 8, 9] rfl rfl (by decide) (by decide) hk1 hFc hP1 hD1
    generalize H1 = H at hP hS ⊢
    have hP : va_P D vCl [((y j), .inr (1, [.ref (b j), .int (nI (n + sw n)), .int (nI p)])), ((b j), .inl (cB, M, .inl (fun j => sb_b ((wr B n (sw n) (sv n)) j)))), c2_, c3_, c4_, c5_, c6_, c7_, c8_, c9_] H := hP.sub [8, 9, 0, 1, 2, 3, 4, 5, 6, 7] rfl
    have hD : va_D A [((y j), .inr (1, [.ref (b j), .int (nI (n + sw n)), .int (nI p)])), ((b j), .inl (cB, M, .inl (fun j => sb_b ((wr B n (sw n) (sv n)) j)))), c2_, c3_, c4_, c5_, c6_, c7_, c8_, c9_] := hD.sub [8, 9, 0, 1, 2, 3, 4, 5, 6, 7] (by decide) rfl
    refine lv_aload_n hx hb d_D_frame_46 rfl (lv_at hl 3 rfl) ?_
    refine lv_aload hx hb d_D_frame_47 (lv_at hl 2 rfl) ?_
    refine lv_iconst (v := 0) hx hb d_D_frame_49 (by decide) ?_
    refine lv_topi (fun v49 ev49 => ?_)
    have ev49 : v49 = nI 0 := by rw [ev49]; rfl
    subst ev49
    refine lv_iload hx hb d_D_frame_50 (lv_at hl 1 rfl) ?_
    have hPc := hP.sub (ws' := [((y j), .inr (1, [.ref (b j), .int (nI (n + sw n)), .int (nI p)])), ((b j), .inl (cB, M, .inl (fun j => sb_b ((wr B n (sw n) (sv n)) j))))]) [0, 1] rfl
    have hKc := hK.sub (tys' := [(cB, .byte)]) [0] rfl
    refine vp_callSi (W.runS (As := [.ref (y j), .int (nI 0), .int (nI n)]) (rest := [.ref (y j)]) ⟨hx, hb, hml, hown, hA⟩ (c_D_sumOf l D cB (y j) (b j) M (wr B n (sw n) (sv n)) (nI (n + sw n)) (nI p) 0 n (by omega) hM (wr_lt hB (fun i9 _ => sv_lt n i9))) (q_D_sumOf hA k2_18 rfl rfl ⟨(Nat.le_of_ble_eq_true rfl), (Nat.le_of_ble_eq_true rfl)⟩) (ox_S hPc hKc) rfl rfl hl.1 rfl (lv_room (Nat.le_of_ble_eq_true rfl)) d_D_frame_52 ⟨(Nat.le_of_ble_eq_true rfl), (Nat.le_of_ble_eq_true rfl)⟩) (fun r52 hr52 => ?_)
    have er52 : r52 = smb B 0 n := by rw [hr52]; unfold smb; rw [crcs_congr (B := wr B n (sw n) (sv n)) (C := B) 0 (fun i9 h9 => wr_out (by omega))]
    subst er52
    refine lv_i2l hx hb d_D_frame_55 rfl ?_
    refine lv_topl (fun v55 ev55 => ?_)
    have ev55 : v55 = lN (uNl (smb B 0 n).toInt64) := by rw [lN_u, ev55]
    subst ev55
    refine lv_iconst (v := 4) hx hb d_D_frame_56 (by decide) ?_
    refine lv_topi (fun v56 ev56 => ?_)
    have ev56 : v56 = nI 4 := by rw [ev56]; rfl
    subst ev56
    have hPc := hP.sub (ws' := [((y j), .inr (1, [.ref (b j), .int (nI (n + sw n)), .int (nI p)])), ((b j), .inl (cB, M, .inl (fun j => sb_b ((wr B n (sw n) (sv n)) j))))]) [0, 1] rfl
    have hDc := hD.sub (ws' := [((y j), .inr (1, [.ref (b j), .int (nI (n + sw n)), .int (nI p)])), ((b j), .inl (cB, M, .inl (fun j => sb_b ((wr B n (sw n) (sv n)) j))))]) [0, 1] (by decide) rfl
    have hKc := hK.sub (tys' := [(cB, .byte)]) [0] rfl
    have hFc := va_free (wc := [((y j), .inr (1, [.ref (b j), .int (nI (n + sw n)), .int (nI p)])), ((b j), .inl (cB, M, .inl (fun j => sb_b ((wr B n (sw n) (sv n)) j))))]) hD hS hAq [0, 1] rfl
    refine va_callv (va_runS (As := [.ref (y j), .long (lN (uNl (smb B 0 n).toInt64)), .int (nI 4)]) (rest := []) ⟨hx, hb, hml, hown, hA⟩ (c_D_addFixed l D cB (y j) (b j) M (wr B n (sw n) (sv n)) (n + sw n) p H.size (uNl (smb B 0 n).toInt64) 4 (uNl_lt _) (by omega) (by omega) hM) (q_D_addFixed hA k1_177 rfl rfl ⟨(Nat.le_of_ble_eq_true rfl), (Nat.le_of_ble_eq_true rfl)⟩) (oxw_S hPc hKc hDc) rfl rfl hl.1 rfl (lv_room (Nat.le_of_ble_eq_true rfl)) d_D_frame_57 ⟨(Nat.le_of_ble_eq_true rfl), (Nat.le_of_ble_eq_true rfl)⟩) hS (fun q _ h => hFc q h) hFc (fun u9 t9 H1 locs ht9 hvm9 hw9 hB9 hz1 hk1 hS => ?_)
    obtain ⟨hP1, hK1, hD1⟩ := hB9
    rw [ht9] at hP1
    obtain ⟨hP, hD⟩ := va_join (wr := [c2_, c3_, c4_, c5_, c6_, c7_, c8_, c9_]) (w1 := [((y j), .inr (1, [.ref (b j), .int (nI (n + sw n + 4)), .int (nI p)])), ((b j), .inl (cB, M, .inl (fun j => sb_b ((wr2 B n (sw n) (sv n) 4 (fb (uNl (smb B 0 n).toInt64))) j))))]) hP hD [0, 1] [2, 3, 4, 5, 6, 7, 8, 9] rfl rfl (by decide) (by decide) hk1 hFc hP1 hD1
    generalize H1 = H at hP hS ⊢
    have hP : va_P D vCl [((y j), .inr (1, [.ref (b j), .int (nI (n + sw n + 4)), .int (nI p)])), ((b j), .inl (cB, M, .inl (fun j => sb_b ((wr2 B n (sw n) (sv n) 4 (fb (uNl (smb B 0 n).toInt64))) j)))), c2_, c3_, c4_, c5_, c6_, c7_, c8_, c9_] H := hP.sub [8, 9, 0, 1, 2, 3, 4, 5, 6, 7] rfl
    have hD : va_D A [((y j), .inr (1, [.ref (b j), .int (nI (n + sw n + 4)), .int (nI p)])), ((b j), .inl (cB, M, .inl (fun j => sb_b ((wr2 B n (sw n) (sv n) 4 (fb (uNl (smb B 0 n).toInt64))) j)))), c2_, c3_, c4_, c5_, c6_, c7_, c8_, c9_] := hD.sub [8, 9, 0, 1, 2, 3, 4, 5, 6, 7] (by decide) rfl
    refine lv_aload_n hx hb d_D_frame_60 rfl (lv_at hl 3 rfl) ?_
    refine lv_aload hx hb d_D_frame_61 (lv_at hl 2 rfl) ?_
    refine lv_iconst (v := 0) hx hb d_D_frame_63 (by decide) ?_
    refine lv_topi (fun v63 ev63 => ?_)
    have ev63 : v63 = nI 0 := by rw [ev63]; rfl
    subst ev63
    refine lv_iload hx hb d_D_frame_64 (lv_at hl 1 rfl) ?_
    have hPc := hP.sub (ws' := [((y j), .inr (1, [.ref (b j), .int (nI (n + sw n + 4)), .int (nI p)])), ((b j), .inl (cB, M, .inl (fun j => sb_b ((wr2 B n (sw n) (sv n) 4 (fb (uNl (smb B 0 n).toInt64))) j))))]) [0, 1] rfl
    have hDc := hD.sub (ws' := [((y j), .inr (1, [.ref (b j), .int (nI (n + sw n + 4)), .int (nI p)])), ((b j), .inl (cB, M, .inl (fun j => sb_b ((wr2 B n (sw n) (sv n) 4 (fb (uNl (smb B 0 n).toInt64))) j))))]) [0, 1] (by decide) rfl
    have hKc := hK.sub (tys' := [(cB, .byte)]) [0] rfl
    have hFc := va_free (wc := [((y j), .inr (1, [.ref (b j), .int (nI (n + sw n + 4)), .int (nI p)])), ((b j), .inl (cB, M, .inl (fun j => sb_b ((wr2 B n (sw n) (sv n) 4 (fb (uNl (smb B 0 n).toInt64))) j))))]) hD hS hAq [0, 1] rfl
    refine va_callv (va_runS (As := [.ref (y j), .ref (y j), .int (nI 0), .int (nI n)]) (rest := []) ⟨hx, hb, hml, hown, hA⟩ (c_D_addBytes1 l D cB (y j) (b j) M (wr2 B n (sw n) (sv n) 4 (fb (uNl (smb B 0 n).toInt64))) (n + sw n + 4) p H.size 0 n (by omega) (by omega) hM) (q_D_addBytes hA k1_238 rfl rfl ⟨(Nat.le_of_ble_eq_true rfl), (Nat.le_of_ble_eq_true rfl)⟩) (oxw_S hPc hKc hDc) rfl rfl hl.1 rfl (lv_room (Nat.le_of_ble_eq_true rfl)) d_D_frame_66 ⟨(Nat.le_of_ble_eq_true rfl), (Nat.le_of_ble_eq_true rfl)⟩) hS (fun q _ h => hFc q h) hFc (fun u9 t9 H1 locs ht9 hvm9 hw9 hB9 hz1 hk1 hS => ?_)
    obtain ⟨hP1, hK1, hD1⟩ := hB9
    rw [ht9] at hP1
    obtain ⟨hP, hD⟩ := va_join (wr := [c2_, c3_, c4_, c5_, c6_, c7_, c8_, c9_]) (w1 := [((y j), .inr (1, [.ref (b j), .int (nI (n + sw n + 4 + n)), .int (nI p)])), ((b j), .inl (cB, M, .inl (fun j => sb_b ((wr (wr2 B n (sw n) (sv n) 4 (fb (uNl (smb B 0 n).toInt64))) (n + sw n + 4) n (fun i9 => (wr2 B n (sw n) (sv n) 4 (fb (uNl (smb B 0 n).toInt64))) (0 + i9))) j))))]) hP hD [0, 1] [2, 3, 4, 5, 6, 7, 8, 9] rfl rfl (by decide) (by decide) hk1 hFc hP1 hD1
    generalize H1 = H at hP hS ⊢
    have hP : va_P D vCl [((y j), .inr (1, [.ref (b j), .int (nI (n + sw n + 4 + n)), .int (nI p)])), ((b j), .inl (cB, M, .inl (fun j => sb_b ((wr (wr2 B n (sw n) (sv n) 4 (fb (uNl (smb B 0 n).toInt64))) (n + sw n + 4) n (fun i9 => (wr2 B n (sw n) (sv n) 4 (fb (uNl (smb B 0 n).toInt64))) (0 + i9))) j)))), c2_, c3_, c4_, c5_, c6_, c7_, c8_, c9_] H := hP.sub [8, 9, 0, 1, 2, 3, 4, 5, 6, 7] rfl
    have hD : va_D A [((y j), .inr (1, [.ref (b j), .int (nI (n + sw n + 4 + n)), .int (nI p)])), ((b j), .inl (cB, M, .inl (fun j => sb_b ((wr (wr2 B n (sw n) (sv n) 4 (fb (uNl (smb B 0 n).toInt64))) (n + sw n + 4) n (fun i9 => (wr2 B n (sw n) (sv n) 4 (fb (uNl (smb B 0 n).toInt64))) (0 + i9))) j)))), c2_, c3_, c4_, c5_, c6_, c7_, c8_, c9_] := hD.sub [8, 9, 0, 1, 2, 3, 4, 5, 6, 7] (by decide) rfl
    have ew : wr (wr2 B n (sw n) (sv n) 4 (fb (uNl (smb B 0 n).toInt64))) (n + sw n + 4) n (fun i9 => (wr2 B n (sw n) (sv n) 4 (fb (uNl (smb B 0 n).toInt64))) (0 + i9)) = wr (wr2 B n (sw n) (sv n) 4 (fb (uNl (smb B 0 n).toInt64))) (n + sw n + 4) n B := wr_congr _ _ (fun i9 h9 => by rw [Nat.zero_add]; unfold wr2; rw [wr_out (by omega), wr_out (by omega)])
    rw [ew] at hP hD
    refine lv_iload hx hb d_D_frame_69 (lv_at hl 0 rfl) ?_
    exact tx_ret (W.iret (v := nI (sw n + 4 + n)) hx hb hr (fun t ht hW => Or.inl ⟨_, rfl, ⟨⟨_, va_up σ j (wr (wr2 B n (sw n) (sv n) 4 (fb (uNl (smb B 0 n).toInt64))) (n + sw n + 4) n B, n + sw n + 4 + n, p), rfl, (by unfold spFrame; simp only [hrj, hri, hρ, hρ2]; rw [if_neg (fun h8 => h8 hir), if_neg (Nat.not_lt.mpr hrr)]), by rw [ht]; exact ho1 (wr (wr2 B n (sw n) (sv n) 4 (fb (uNl (smb B 0 n).toInt64))) (n + sw n + 4) n B, n + sw n + 4 + n, p) _ hP, va_K.moved hW.alike hK, ho2 (wr (wr2 B n (sw n) (sv n) 4 (fb (uNl (smb B 0 n).toInt64))) (n + sw n + 4) n B, n + sw n + 4 + n, p) _ hD⟩, hS.F ht⟩⟩) hS.2.2 d_D_frame_71)
  · obtain ⟨c4_, c5_, c6_, c7_, c8_, c9_, hi1, hi2, ho1, ho2⟩ := dk_2 D vCl cR cB h ra g M y b σ hj hi hji
    have hP : va_P D vCl [(y j, .inr (1, [.ref (b j), .int (nI (σ j).2.1), .int (nI (σ j).2.2)])), (b j, .inl (cB, M, .inl (fun j9 => sb_b ((σ j).1 j9)))), (y i, .inr (1, [.ref (b i), .int (nI (σ i).2.1), .int (nI (σ i).2.2)])), (b i, .inl (cB, M, .inl (fun j9 => sb_b ((σ i).1 j9)))), c4_, c5_, c6_, c7_, c8_, c9_] s.heap := hi1 _ hP
    have hD : va_D A [(y j, .inr (1, [.ref (b j), .int (nI (σ j).2.1), .int (nI (σ j).2.2)])), (b j, .inl (cB, M, .inl (fun j9 => sb_b ((σ j).1 j9)))), (y i, .inr (1, [.ref (b i), .int (nI (σ i).2.1), .int (nI (σ i).2.2)])), (b i, .inl (cB, M, .inl (fun j9 => sb_b ((σ i).1 j9)))), c4_, c5_, c6_, c7_, c8_, c9_] := hi2 _ hD
    obtain ⟨⟨B, n, p⟩, hρ⟩ : ∃ ρ, σ j = ρ := ⟨_, rfl⟩
    obtain ⟨⟨C, n2, p2⟩, hρ2⟩ : ∃ ρ, σ i = ρ := ⟨_, rfl⟩
    have hk := hσ.2 j hj
    have hk2 := hσ.2 i hi
    have hM := hσ.1
    rw [hρ] at hk
    rw [hρ2] at hk2
    rw [hρ, hρ2] at hP hD
    obtain ⟨hp, hn, hB⟩ := hk
    have hp : p ≤ n := hp
    have hn : n ≤ M := hn
    have hB : ∀ j, B j < 256 := hB
    obtain ⟨hp2, hn2, hB2⟩ := hk2
    have hp2 : p2 ≤ n2 := hp2
    have hn2 : n2 ≤ M := hn2
    have hB2 : ∀ j, C j < 256 := hB2
    have hP : va_P D vCl [((y j), .inr (1, [.ref (b j), .int (nI n), .int (nI p)])), ((b j), .inl (cB, M, .inl (fun j => sb_b (B j)))), ((y i), .inr (1, [.ref (b i), .int (nI n2), .int (nI p2)])), ((b i), .inl (cB, M, .inl (fun j => sb_b (C j)))), c4_, c5_, c6_, c7_, c8_, c9_] s.heap := hP
    have hD : va_D A [((y j), .inr (1, [.ref (b j), .int (nI n), .int (nI p)])), ((b j), .inl (cB, M, .inl (fun j => sb_b (B j)))), ((y i), .inr (1, [.ref (b i), .int (nI n2), .int (nI p2)])), ((b i), .inl (cB, M, .inl (fun j => sb_b (C j)))), c4_, c5_, c6_, c7_, c8_, c9_] := hD
    have hrj : rj x = j := by rw [hxj]; exact rj_n hj
    have hri : rj f = i := by rw [hxi]; exact rj_n hi
    have hir : isR x ∧ isR f := ⟨by rw [hxj]; exact isR_n hj, by rw [hxi]; exact isR_n hi⟩
    refine lv_astore (lv' := [(4, .ref (y i)), (3, .ref (y j)), (0, .ref h), (1, .int x), (2, .int f)]) hx hb d_D_frame_11 hl (by decide) rfl (fun ls hl => ?_)
    refine lv_aload hx hb d_D_frame_13 (lv_at hl 0 rfl) ?_
    refine va_get (D := D) (ci := 1) (v := .int (nI n2)) (C := R_R) (T := F_R) (N := 3) hx hb hA i_R hown hK hP 2 rfl rfl 1 (by decide) (hA _ k1_38) (fun _ h9 => h9) rfl d_D_frame_15 ?_
    refine lv_istore (lv' := [(5, .int (nI n2)), (4, .ref (y i)), (3, .ref (y j)), (0, .ref h), (1, .int x), (2, .int f)]) hx hb d_D_frame_18 hl (by decide) rfl (fun ls hl => ?_)
    refine lv_iload hx hb d_D_frame_20 (lv_at hl 0 rfl) ?_
    refine lv_i2l hx hb d_D_frame_22 rfl ?_
    refine lv_topl (fun v22 ev22 => ?_)
    have ev22 : v22 = lN n2 := by rw [ev22]; exact nI_l (by omega)
    subst ev22
    refine vp_callSi (W.runS (As := [.long (lN n2)]) (rest := []) ⟨hx, hb, hml, hown, hA⟩ (c_D_sevensWidth l n2 (by omega)) (q_D_sevensWidth hA k1_194 rfl rfl ⟨(Nat.le_of_ble_eq_true rfl), (Nat.le_of_ble_eq_true rfl)⟩) (⟨fun a U g mk q => q, fun U hU hW => ⟨rfl, trivial⟩⟩) rfl rfl hl.1 rfl (lv_room (Nat.le_of_ble_eq_true rfl)) d_D_frame_23 ⟨(Nat.le_of_ble_eq_true rfl), (Nat.le_of_ble_eq_true rfl)⟩) (fun r23 hr23 => ?_)
    have er23 : r23 = nI (sw n2) := hr23
    subst er23
    have hsw := sw_in n2
    refine lv_iconst (v := 4) hx hb d_D_frame_26 (by decide) ?_
    refine lv_iadd hx hb d_D_frame_27 ?_
    refine lv_topi (fun v27 ev27 => ?_)
    have ev27 : v27 = nI (sw n2 + 4) := by rw [ev27]; exact nI_add _ 4
    subst ev27
    refine lv_iload hx hb d_D_frame_28 (lv_at hl 0 rfl) ?_
    refine lv_iadd hx hb d_D_frame_30 ?_
    refine lv_topi (fun v30 ev30 => ?_)
    have ev30 : v30 = nI (sw n2 + 4 + n2) := by rw [ev30]; exact nI_add _ _
    subst ev30
    refine lv_istore (lv' := [(6, .int (nI (sw n2 + 4 + n2))), (5, .int (nI n2)), (4, .ref (y i)), (3, .ref (y j)), (0, .ref h), (1, .int x), (2, .int f)]) hx hb d_D_frame_31 hl (by decide) rfl (fun ls hl => ?_)
    refine lv_aload_n hx hb d_D_frame_33 rfl (lv_at hl 3 rfl) ?_
    refine lv_iload hx hb d_D_frame_34 (lv_at hl 0 rfl) ?_
    have hPc := hP.sub (ws' := [((y j), .inr (1, [.ref (b j), .int (nI n), .int (nI p)])), ((b j), .inl (cB, M, .inl (fun j => sb_b (B j))))]) [0, 1] rfl
    have hKc := hK.sub (tys' := [(cB, .byte)]) [0] rfl
    refine tx_sv (tx_runS (As := [.ref (y j), .int (nI (sw n2 + 4 + n2))]) (rest := []) ⟨hx, hb, hml, hown, hA⟩ (c_D_needRoom l hL0 D cB (y j) (b j) M B n p hn hM (sw n2 + 4 + n2) (by omega)) (q_D_needRoom hA k1_158 rfl rfl ⟨(Nat.le_of_ble_eq_true rfl), (Nat.le_of_ble_eq_true rfl)⟩) (oxg_S hPc hKc hG (fun _ _ => rfl)) rfl rfl hl.1 rfl (lv_room (Nat.le_of_ble_eq_true rfl)) d_D_frame_36 ⟨(Nat.le_of_ble_eq_true rfl), (Nat.le_of_ble_eq_true rfl)⟩) (fun x9 E9 H9 ht9 hE9 => tx_prop hlocks hce hE9 (Nat.le_refl _) (fun _ _ => rfl) (Or.inr (⟨ht9.1, by unfold spFrame; simp only [hrj, hri, hρ, hρ2]; rw [if_neg (fun h8 => h8 hir), if_pos ht9.2]⟩)) (fun q h => by cases h)) (fun hrr => ?_)
    refine lv_aload_n hx hb d_D_frame_39 rfl (lv_at hl 3 rfl) ?_
    refine lv_iload hx hb d_D_frame_40 (lv_at hl 1 rfl) ?_
    refine lv_i2l hx hb d_D_frame_42 rfl ?_
    refine lv_topl (fun v42 ev42 => ?_)
    have ev42 : v42 = lN n2 := by rw [ev42]; exact nI_l (by omega)
    subst ev42
    have hPc := hP.sub (ws' := [((y j), .inr (1, [.ref (b j), .int (nI n), .int (nI p)])), ((b j), .inl (cB, M, .inl (fun j => sb_b (B j))))]) [0, 1] rfl
    have hDc := hD.sub (ws' := [((y j), .inr (1, [.ref (b j), .int (nI n), .int (nI p)])), ((b j), .inl (cB, M, .inl (fun j => sb_b (B j))))]) [0, 1] (by decide) rfl
    have hKc := hK.sub (tys' := [(cB, .byte)]) [0] rfl
    have hFc := va_free (wc := [((y j), .inr (1, [.ref (b j), .int (nI n), .int (nI p)])), ((b j), .inl (cB, M, .inl (fun j => sb_b (B j))))]) hD hS hAq [0, 1] rfl
    refine va_callv (va_runS (As := [.ref (y j), .long (lN n2)]) (rest := []) ⟨hx, hb, hml, hown, hA⟩ (c_D_addSevens l D cB (y j) (b j) M B n p s.heap.size n2 (by omega) (by omega) hM) (q_D_addSevens hA k1_197 rfl rfl ⟨(Nat.le_of_ble_eq_true rfl), (Nat.le_of_ble_eq_true rfl)⟩) (oxw_S hPc hKc hDc) rfl rfl hl.1 rfl (lv_room (Nat.le_of_ble_eq_true rfl)) d_D_frame_43 ⟨(Nat.le_of_ble_eq_true rfl), (Nat.le_of_ble_eq_true rfl)⟩) hS (fun q _ h => hFc q h) hFc (fun u9 t9 H1 locs ht9 hvm9 hw9 hB9 hz1 hk1 hS => ?_)
    obtain ⟨hP1, hK1, hD1⟩ := hB9
    rw [ht9] at hP1
    obtain ⟨hP, hD⟩ := va_join (wr := [((y i), .inr (1, [.ref (b i), .int (nI n2), .int (nI p2)])), ((b i), .inl (cB, M, .inl (fun j => sb_b (C j)))), c4_, c5_, c6_, c7_, c8_, c9_]) (w1 := [((y j), .inr (1, [.ref (b j), .int (nI (n + sw n2)), .int (nI p)])), ((b j), .inl (cB, M, .inl (fun j => sb_b ((wr B n (sw n2) (sv n2)) j))))]) hP hD [0, 1] [2, 3, 4, 5, 6, 7, 8, 9] rfl rfl (by decide) (by decide) hk1 hFc hP1 hD1
    generalize H1 = H at hP hS ⊢
    have hP : va_P D vCl [((y j), .inr (1, [.ref (b j), .int (nI (n + sw n2)), .int (nI p)])), ((b j), .inl (cB, M, .inl (fun j => sb_b ((wr B n (sw n2) (sv n2)) j)))), ((y i), .inr (1, [.ref (b i), .int (nI n2), .int (nI p2)])), ((b i), .inl (cB, M, .inl (fun j => sb_b (C j)))), c4_, c5_, c6_, c7_, c8_, c9_] H := hP.sub [8, 9, 0, 1, 2, 3, 4, 5, 6, 7] rfl
    have hD : va_D A [((y j), .inr (1, [.ref (b j), .int (nI (n + sw n2)), .int (nI p)])), ((b j), .inl (cB, M, .inl (fun j => sb_b ((wr B n (sw n2) (sv n2)) j)))), ((y i), .inr (1, [.ref (b i), .int (nI n2), .int (nI p2)])), ((b i), .inl (cB, M, .inl (fun j => sb_b (C j)))), c4_, c5_, c6_, c7_, c8_, c9_] := hD.sub [8, 9, 0, 1, 2, 3, 4, 5, 6, 7] (by decide) rfl
    refine lv_aload_n hx hb d_D_frame_46 rfl (lv_at hl 3 rfl) ?_
    refine lv_aload hx hb d_D_frame_47 (lv_at hl 2 rfl) ?_
    refine lv_iconst (v := 0) hx hb d_D_frame_49 (by decide) ?_
    refine lv_topi (fun v49 ev49 => ?_)
    have ev49 : v49 = nI 0 := by rw [ev49]; rfl
    subst ev49
    refine lv_iload hx hb d_D_frame_50 (lv_at hl 1 rfl) ?_
    have hPc := hP.sub (ws' := [((y i), .inr (1, [.ref (b i), .int (nI n2), .int (nI p2)])), ((b i), .inl (cB, M, .inl (fun j => sb_b (C j))))]) [2, 3] rfl
    have hKc := hK.sub (tys' := [(cB, .byte)]) [0] rfl
    refine vp_callSi (W.runS (As := [.ref (y i), .int (nI 0), .int (nI n2)]) (rest := [.ref (y j)]) ⟨hx, hb, hml, hown, hA⟩ (c_D_sumOf l D cB (y i) (b i) M C (nI n2) (nI p2) 0 n2 (by omega) hM hB2) (q_D_sumOf hA k2_18 rfl rfl ⟨(Nat.le_of_ble_eq_true rfl), (Nat.le_of_ble_eq_true rfl)⟩) (ox_S hPc hKc) rfl rfl hl.1 rfl (lv_room (Nat.le_of_ble_eq_true rfl)) d_D_frame_52 ⟨(Nat.le_of_ble_eq_true rfl), (Nat.le_of_ble_eq_true rfl)⟩) (fun r52 hr52 => ?_)
    have er52 : r52 = smb C 0 n2 := hr52
    subst er52
    refine lv_i2l hx hb d_D_frame_55 rfl ?_
    refine lv_topl (fun v55 ev55 => ?_)
    have ev55 : v55 = lN (uNl (smb C 0 n2).toInt64) := by rw [lN_u, ev55]
    subst ev55
    refine lv_iconst (v := 4) hx hb d_D_frame_56 (by decide) ?_
    refine lv_topi (fun v56 ev56 => ?_)
    have ev56 : v56 = nI 4 := by rw [ev56]; rfl
    subst ev56
    have hPc := hP.sub (ws' := [((y j), .inr (1, [.ref (b j), .int (nI (n + sw n2)), .int (nI p)])), ((b j), .inl (cB, M, .inl (fun j => sb_b ((wr B n (sw n2) (sv n2)) j))))]) [0, 1] rfl
    have hDc := hD.sub (ws' := [((y j), .inr (1, [.ref (b j), .int (nI (n + sw n2)), .int (nI p)])), ((b j), .inl (cB, M, .inl (fun j => sb_b ((wr B n (sw n2) (sv n2)) j))))]) [0, 1] (by decide) rfl
    have hKc := hK.sub (tys' := [(cB, .byte)]) [0] rfl
    have hFc := va_free (wc := [((y j), .inr (1, [.ref (b j), .int (nI (n + sw n2)), .int (nI p)])), ((b j), .inl (cB, M, .inl (fun j => sb_b ((wr B n (sw n2) (sv n2)) j))))]) hD hS hAq [0, 1] rfl
    refine va_callv (va_runS (As := [.ref (y j), .long (lN (uNl (smb C 0 n2).toInt64)), .int (nI 4)]) (rest := []) ⟨hx, hb, hml, hown, hA⟩ (c_D_addFixed l D cB (y j) (b j) M (wr B n (sw n2) (sv n2)) (n + sw n2) p H.size (uNl (smb C 0 n2).toInt64) 4 (uNl_lt _) (by omega) (by omega) hM) (q_D_addFixed hA k1_177 rfl rfl ⟨(Nat.le_of_ble_eq_true rfl), (Nat.le_of_ble_eq_true rfl)⟩) (oxw_S hPc hKc hDc) rfl rfl hl.1 rfl (lv_room (Nat.le_of_ble_eq_true rfl)) d_D_frame_57 ⟨(Nat.le_of_ble_eq_true rfl), (Nat.le_of_ble_eq_true rfl)⟩) hS (fun q _ h => hFc q h) hFc (fun u9 t9 H1 locs ht9 hvm9 hw9 hB9 hz1 hk1 hS => ?_)
    obtain ⟨hP1, hK1, hD1⟩ := hB9
    rw [ht9] at hP1
    obtain ⟨hP, hD⟩ := va_join (wr := [((y i), .inr (1, [.ref (b i), .int (nI n2), .int (nI p2)])), ((b i), .inl (cB, M, .inl (fun j => sb_b (C j)))), c4_, c5_, c6_, c7_, c8_, c9_]) (w1 := [((y j), .inr (1, [.ref (b j), .int (nI (n + sw n2 + 4)), .int (nI p)])), ((b j), .inl (cB, M, .inl (fun j => sb_b ((wr2 B n (sw n2) (sv n2) 4 (fb (uNl (smb C 0 n2).toInt64))) j))))]) hP hD [0, 1] [2, 3, 4, 5, 6, 7, 8, 9] rfl rfl (by decide) (by decide) hk1 hFc hP1 hD1
    generalize H1 = H at hP hS ⊢
    have hP : va_P D vCl [((y j), .inr (1, [.ref (b j), .int (nI (n + sw n2 + 4)), .int (nI p)])), ((b j), .inl (cB, M, .inl (fun j => sb_b ((wr2 B n (sw n2) (sv n2) 4 (fb (uNl (smb C 0 n2).toInt64))) j)))), ((y i), .inr (1, [.ref (b i), .int (nI n2), .int (nI p2)])), ((b i), .inl (cB, M, .inl (fun j => sb_b (C j)))), c4_, c5_, c6_, c7_, c8_, c9_] H := hP.sub [8, 9, 0, 1, 2, 3, 4, 5, 6, 7] rfl
    have hD : va_D A [((y j), .inr (1, [.ref (b j), .int (nI (n + sw n2 + 4)), .int (nI p)])), ((b j), .inl (cB, M, .inl (fun j => sb_b ((wr2 B n (sw n2) (sv n2) 4 (fb (uNl (smb C 0 n2).toInt64))) j)))), ((y i), .inr (1, [.ref (b i), .int (nI n2), .int (nI p2)])), ((b i), .inl (cB, M, .inl (fun j => sb_b (C j)))), c4_, c5_, c6_, c7_, c8_, c9_] := hD.sub [8, 9, 0, 1, 2, 3, 4, 5, 6, 7] (by decide) rfl
    refine lv_aload_n hx hb d_D_frame_60 rfl (lv_at hl 3 rfl) ?_
    refine lv_aload hx hb d_D_frame_61 (lv_at hl 2 rfl) ?_
    refine lv_iconst (v := 0) hx hb d_D_frame_63 (by decide) ?_
    refine lv_topi (fun v63 ev63 => ?_)
    have ev63 : v63 = nI 0 := by rw [ev63]; rfl
    subst ev63
    refine lv_iload hx hb d_D_frame_64 (lv_at hl 1 rfl) ?_
    have hPc := hP.sub (ws' := [((y j), .inr (1, [.ref (b j), .int (nI (n + sw n2 + 4)), .int (nI p)])), ((b j), .inl (cB, M, .inl (fun j => sb_b ((wr2 B n (sw n2) (sv n2) 4 (fb (uNl (smb C 0 n2).toInt64))) j)))), ((y i), .inr (1, [.ref (b i), .int (nI n2), .int (nI p2)])), ((b i), .inl (cB, M, .inl (fun j => sb_b (C j))))]) [0, 1, 2, 3] rfl
    have hDc := hD.sub (ws' := [((y j), .inr (1, [.ref (b j), .int (nI (n + sw n2 + 4)), .int (nI p)])), ((b j), .inl (cB, M, .inl (fun j => sb_b ((wr2 B n (sw n2) (sv n2) 4 (fb (uNl (smb C 0 n2).toInt64))) j)))), ((y i), .inr (1, [.ref (b i), .int (nI n2), .int (nI p2)])), ((b i), .inl (cB, M, .inl (fun j => sb_b (C j))))]) [0, 1, 2, 3] (by decide) rfl
    have hKc := hK.sub (tys' := [(cB, .byte)]) [0] rfl
    have hFc := va_free (wc := [((y j), .inr (1, [.ref (b j), .int (nI (n + sw n2 + 4)), .int (nI p)])), ((b j), .inl (cB, M, .inl (fun j => sb_b ((wr2 B n (sw n2) (sv n2) 4 (fb (uNl (smb C 0 n2).toInt64))) j)))), ((y i), .inr (1, [.ref (b i), .int (nI n2), .int (nI p2)])), ((b i), .inl (cB, M, .inl (fun j => sb_b (C j))))]) hD hS hAq [0, 1, 2, 3] rfl
    refine va_callv (va_runS (As := [.ref (y j), .ref (y i), .int (nI 0), .int (nI n2)]) (rest := []) ⟨hx, hb, hml, hown, hA⟩ (c_D_addBytes2 l D cB (y j) (b j) (y i) (b i) M (wr2 B n (sw n2) (sv n2) 4 (fb (uNl (smb C 0 n2).toInt64))) C (n + sw n2 + 4) p n2 p2 H.size 0 n2 (by omega) (by omega) hM) (q_D_addBytes hA k1_238 rfl rfl ⟨(Nat.le_of_ble_eq_true rfl), (Nat.le_of_ble_eq_true rfl)⟩) (oxw_S hPc hKc hDc) rfl rfl hl.1 rfl (lv_room (Nat.le_of_ble_eq_true rfl)) d_D_frame_66 ⟨(Nat.le_of_ble_eq_true rfl), (Nat.le_of_ble_eq_true rfl)⟩) hS (fun q _ h => hFc q h) hFc (fun u9 t9 H1 locs ht9 hvm9 hw9 hB9 hz1 hk1 hS => ?_)
    obtain ⟨hP1, hK1, hD1⟩ := hB9
    rw [ht9] at hP1
    obtain ⟨hP, hD⟩ := va_join (wr := [c4_, c5_, c6_, c7_, c8_, c9_]) (w1 := [((y j), .inr (1, [.ref (b j), .int (nI (n + sw n2 + 4 + n2)), .int (nI p)])), ((b j), .inl (cB, M, .inl (fun j => sb_b ((wr (wr2 B n (sw n2) (sv n2) 4 (fb (uNl (smb C 0 n2).toInt64))) (n + sw n2 + 4) n2 (fun i9 => C (0 + i9))) j)))), ((y i), .inr (1, [.ref (b i), .int (nI n2), .int (nI p2)])), ((b i), .inl (cB, M, .inl (fun j => sb_b (C j))))]) hP hD [0, 1, 2, 3] [4, 5, 6, 7, 8, 9] rfl rfl (by decide) (by decide) hk1 hFc hP1 hD1
    generalize H1 = H at hP hS ⊢
    have hP : va_P D vCl [((y j), .inr (1, [.ref (b j), .int (nI (n + sw n2 + 4 + n2)), .int (nI p)])), ((b j), .inl (cB, M, .inl (fun j => sb_b ((wr (wr2 B n (sw n2) (sv n2) 4 (fb (uNl (smb C 0 n2).toInt64))) (n + sw n2 + 4) n2 (fun i9 => C (0 + i9))) j)))), ((y i), .inr (1, [.ref (b i), .int (nI n2), .int (nI p2)])), ((b i), .inl (cB, M, .inl (fun j => sb_b (C j)))), c4_, c5_, c6_, c7_, c8_, c9_] H := hP.sub [6, 7, 8, 9, 0, 1, 2, 3, 4, 5] rfl
    have hD : va_D A [((y j), .inr (1, [.ref (b j), .int (nI (n + sw n2 + 4 + n2)), .int (nI p)])), ((b j), .inl (cB, M, .inl (fun j => sb_b ((wr (wr2 B n (sw n2) (sv n2) 4 (fb (uNl (smb C 0 n2).toInt64))) (n + sw n2 + 4) n2 (fun i9 => C (0 + i9))) j)))), ((y i), .inr (1, [.ref (b i), .int (nI n2), .int (nI p2)])), ((b i), .inl (cB, M, .inl (fun j => sb_b (C j)))), c4_, c5_, c6_, c7_, c8_, c9_] := hD.sub [6, 7, 8, 9, 0, 1, 2, 3, 4, 5] (by decide) rfl
    have ew : wr (wr2 B n (sw n2) (sv n2) 4 (fb (uNl (smb C 0 n2).toInt64))) (n + sw n2 + 4) n2 (fun i9 => C (0 + i9)) = wr (wr2 B n (sw n2) (sv n2) 4 (fb (uNl (smb C 0 n2).toInt64))) (n + sw n2 + 4) n2 C := wr_congr _ _ (fun i9 h9 => by rw [Nat.zero_add])
    rw [ew] at hP hD
    refine lv_iload hx hb d_D_frame_69 (lv_at hl 0 rfl) ?_
    exact tx_ret (W.iret (v := nI (sw n2 + 4 + n2)) hx hb hr (fun t ht hW => Or.inl ⟨_, rfl, ⟨⟨_, va_up (va_up σ j (wr (wr2 B n (sw n2) (sv n2) 4 (fb (uNl (smb C 0 n2).toInt64))) (n + sw n2 + 4) n2 C, n + sw n2 + 4 + n2, p)) i (C, n2, p2), rfl, (by rw [va_up2 hji hρ2]; unfold spFrame; simp only [hrj, hri, hρ, hρ2]; rw [if_neg (fun h8 => h8 hir), if_neg (Nat.not_lt.mpr hrr)]), by rw [ht]; exact ho1 (wr (wr2 B n (sw n2) (sv n2) 4 (fb (uNl (smb C 0 n2).toInt64))) (n + sw n2 + 4) n2 C, n + sw n2 + 4 + n2, p) (C, n2, p2) _ hP, va_K.moved hW.alike hK, ho2 (wr (wr2 B n (sw n2) (sv n2) 4 (fb (uNl (smb C 0 n2).toInt64))) (n + sw n2 + 4) n2 C, n + sw n2 + 4 + n2, p) (C, n2, p2) _ hD⟩, hS.F ht⟩⟩) hS.2.2 d_D_frame_71)
