/-! THE LAW, CASE BY CASE -/
set_option maxHeartbeats 2000000 in
set_option maxRecDepth 100000 in
/-- the law at readBlock -/
theorem k_readBlock {p : Program} {l : Launch} {e : Env} {s : State} {m : MethodId} {below : List Frame} {meth : Method} {c : Code} (hL0 : l.stackTraces = false) {b L : Nat} {xs : Nat → Int32} (hL : L ≤ 2561) (hx : p.tables.exec = Jvm.exec) (hb : c.code = code) (hml : c.maxLocals = 8) (hown : s.vm.findClass R_L = some m.cls) (hA : ∀ w ∈ wsA, w.before #[Value.ref b] s = true) (hX : va_X b L xs s s.heap) (hbl : b < s.heap.size) (hG : tx_G s) (hN : tx_N s) {D : va_G} {cR cB cL cI : ClassId} {hd ra oa hm cl sa pa : Nat} {g : Nat → Option Nat} {M : Nat} {y b2 : Nat → Nat} (hg : ∀ i, i < 4 → g i = some (y i)) (hK : va_K D vCl [(cB, .byte), (cR, .object "PacketDesk$Row"), (cL, .long), (cI, .int)] s) (σ : dkS) (f0 : Nat → Int64) (th tk : Int32) (hσ : dkok M σ) (i : Nat) (hi : i + 5 ≤ L) (cells slots : Nat) (hce : cells + 10 ≤ 601024) (hsl : slots + 100 ≤ 7293000) (H : Heap) (locs : List Loc) (hP : va_P D vCl [(hd, .inr (0, [.ref ra])), (ra, .inl (cR, 4, .inr (.inr (.inr (.inr g))))), ((y 0), .inr (1, [.ref (b2 0), .int (nI ((σ) 0).2.1), .int (nI ((σ) 0).2.2)])), ((b2 0), .inl (cB, M, .inl (fun j => sb_b (((σ) 0).1 j)))), ((y 1), .inr (1, [.ref (b2 1), .int (nI ((σ) 1).2.1), .int (nI ((σ) 1).2.2)])), ((b2 1), .inl (cB, M, .inl (fun j => sb_b (((σ) 1).1 j)))), ((y 2), .inr (1, [.ref (b2 2), .int (nI ((σ) 2).2.1), .int (nI ((σ) 2).2.2)])), ((b2 2), .inl (cB, M, .inl (fun j => sb_b (((σ) 2).1 j)))), ((y 3), .inr (1, [.ref (b2 3), .int (nI ((σ) 3).2.1), .int (nI ((σ) 3).2.2)])), ((b2 3), .inl (cB, M, .inl (fun j => sb_b (((σ) 3).1 j)))), (oa, .inl (cL, 1, .inr (.inl f0))), (hm, .inr (2, [.int th, .int (nI M), .ref cl, .ref sa, .ref pa, .int tk])), (cl, .inl (cL, 32768, .inr (.inl (pkF (σ))))), (sa, .inl (cI, 4, .inl (fun i9 => nI ((σ) i9).2.1))), (pa, .inl (cI, 4, .inl (fun i9 => nI ((σ) i9).2.2)))] H) (hD : va_D (fun q : Nat => s.heap.size ≤ q) [(hd, .inr (0, [.ref ra])), (ra, .inl (cR, 4, .inr (.inr (.inr (.inr g))))), ((y 0), .inr (1, [.ref (b2 0), .int (nI ((σ) 0).2.1), .int (nI ((σ) 0).2.2)])), ((b2 0), .inl (cB, M, .inl (fun j => sb_b (((σ) 0).1 j)))), ((y 1), .inr (1, [.ref (b2 1), .int (nI ((σ) 1).2.1), .int (nI ((σ) 1).2.2)])), ((b2 1), .inl (cB, M, .inl (fun j => sb_b (((σ) 1).1 j)))), ((y 2), .inr (1, [.ref (b2 2), .int (nI ((σ) 2).2.1), .int (nI ((σ) 2).2.2)])), ((b2 2), .inl (cB, M, .inl (fun j => sb_b (((σ) 2).1 j)))), ((y 3), .inr (1, [.ref (b2 3), .int (nI ((σ) 3).2.1), .int (nI ((σ) 3).2.2)])), ((b2 3), .inl (cB, M, .inl (fun j => sb_b (((σ) 3).1 j)))), (oa, .inl (cL, 1, .inr (.inl f0))), (hm, .inr (2, [.int th, .int (nI M), .ref cl, .ref sa, .ref pa, .int tk])), (cl, .inl (cL, 32768, .inr (.inl (pkF (σ))))), (sa, .inl (cI, 4, .inl (fun i9 => nI ((σ) i9).2.1))), (pa, .inl (cI, 4, .inl (fun i9 => nI ((σ) i9).2.2)))]) (hS : va_S (fun q : Nat => s.heap.size ≤ q) s.heap H locs) (ls : Array Slot) (hl : lv_has ls 8 [(0, .ref b), (1, .ref hd), (2, .ref hm), (3, .ref oa), (4, .int (nI i))]) (K : ∀ (σ' : dkS) (f' : Nat → Int64) (th' tk' : Int32) (H' : Heap) (locs' : List Loc), dkok M σ' → va_P D vCl [(hd, .inr (0, [.ref ra])), (ra, .inl (cR, 4, .inr (.inr (.inr (.inr g))))), ((y 0), .inr (1, [.ref (b2 0), .int (nI ((σ') 0).2.1), .int (nI ((σ') 0).2.2)])), ((b2 0), .inl (cB, M, .inl (fun j => sb_b (((σ') 0).1 j)))), ((y 1), .inr (1, [.ref (b2 1), .int (nI ((σ') 1).2.1), .int (nI ((σ') 1).2.2)])), ((b2 1), .inl (cB, M, .inl (fun j => sb_b (((σ') 1).1 j)))), ((y 2), .inr (1, [.ref (b2 2), .int (nI ((σ') 2).2.1), .int (nI ((σ') 2).2.2)])), ((b2 2), .inl (cB, M, .inl (fun j => sb_b (((σ') 2).1 j)))), ((y 3), .inr (1, [.ref (b2 3), .int (nI ((σ') 3).2.1), .int (nI ((σ') 3).2.2)])), ((b2 3), .inl (cB, M, .inl (fun j => sb_b (((σ') 3).1 j)))), (oa, .inl (cL, 1, .inr (.inl f'))), (hm, .inr (2, [.int th', .int (nI M), .ref cl, .ref sa, .ref pa, .int tk'])), (cl, .inl (cL, 32768, .inr (.inl (pkF (σ'))))), (sa, .inl (cI, 4, .inl (fun i9 => nI ((σ') i9).2.1))), (pa, .inl (cI, 4, .inl (fun i9 => nI ((σ') i9).2.2)))] H' → va_D (fun q : Nat => s.heap.size ≤ q) [(hd, .inr (0, [.ref ra])), (ra, .inl (cR, 4, .inr (.inr (.inr (.inr g))))), ((y 0), .inr (1, [.ref (b2 0), .int (nI ((σ') 0).2.1), .int (nI ((σ') 0).2.2)])), ((b2 0), .inl (cB, M, .inl (fun j => sb_b (((σ') 0).1 j)))), ((y 1), .inr (1, [.ref (b2 1), .int (nI ((σ') 1).2.1), .int (nI ((σ') 1).2.2)])), ((b2 1), .inl (cB, M, .inl (fun j => sb_b (((σ') 1).1 j)))), ((y 2), .inr (1, [.ref (b2 2), .int (nI ((σ') 2).2.1), .int (nI ((σ') 2).2.2)])), ((b2 2), .inl (cB, M, .inl (fun j => sb_b (((σ') 2).1 j)))), ((y 3), .inr (1, [.ref (b2 3), .int (nI ((σ') 3).2.1), .int (nI ((σ') 3).2.2)])), ((b2 3), .inl (cB, M, .inl (fun j => sb_b (((σ') 3).1 j)))), (oa, .inl (cL, 1, .inr (.inl f'))), (hm, .inr (2, [.int th', .int (nI M), .ref cl, .ref sa, .ref pa, .int tk'])), (cl, .inl (cL, 32768, .inr (.inl (pkF (σ'))))), (sa, .inl (cI, 4, .inl (fun i9 => nI ((σ') i9).2.1))), (pa, .inl (cI, 4, .inl (fun i9 => nI ((σ') i9).2.2)))] → va_S (fun q : Nat => s.heap.size ≤ q) s.heap H' locs' → ∀ ls' : Array Slot, lv_has ls' 8 [(0, .ref b), (1, .ref hd), (2, .ref hm), (3, .ref oa), (4, .int (nI i))] → W p l e room_1 s m #[Value.ref b] below meth c H' locs' (cells + 1) (slots + 6) (lw_Z below #[Value.ref b] s) (F0 m 1700 ls' [])) : W p l e room_1 s m #[Value.ref b] below meth c H locs cells slots (lw_Z below #[Value.ref b] s) (F0 m 1193 ls []) := by
  have hAq : ∀ q : Nat, s.heap.size ≤ q → (fun q : Nat => s.heap.size ≤ q) q := fun _ h => h
  have hbA : ¬ (fun q : Nat => s.heap.size ≤ q) b := Nat.not_le.mpr hbl
  refine lv_aload_n hx hb d_L_law_1193 rfl (lv_at hl 1 rfl) ?_
  refine lv_aload_n hx hb d_L_law_1194 rfl (lv_at hl 0 rfl) ?_
  refine lv_iload hx hb d_L_law_1195 (lv_at hl 4 rfl) ?_
  refine lv_iconst (v := 1) hx hb d_L_law_1197 (by decide) ?_
  refine lv_iadd hx hb d_L_law_1198 ?_
  refine lv_topi (fun v1198 ev1198 => ?_)
  have ev1198 : v1198 = nI (i + 1) := by rw [ev1198]; exact nI_add i 1
  subst ev1198
  refine va_sld hx hb hX hbl hbA hS (vp_in_nI (n := i + 1) (N := L) (by omega) (by omega)) d_L_law_1199 ?_
  refine lv_topi (fun v1199 ev1199 => ?_)
  have ev1199 : v1199 = xs (i + 1) := by rw [ev1199, nI_clamp (by omega)]
  subst ev1199
  refine lv_aload_n hx hb d_L_law_1200 rfl (lv_at hl 0 rfl) ?_
  refine lv_iload hx hb d_L_law_1201 (lv_at hl 4 rfl) ?_
  refine lv_iconst (v := 2) hx hb d_L_law_1203 (by decide) ?_
  refine lv_iadd hx hb d_L_law_1204 ?_
  refine lv_topi (fun v1204 ev1204 => ?_)
  have ev1204 : v1204 = nI (i + 2) := by rw [ev1204]; exact nI_add i 2
  subst ev1204
  refine va_sld hx hb hX hbl hbA hS (vp_in_nI (n := i + 2) (N := L) (by omega) (by omega)) d_L_law_1205 ?_
  refine lv_topi (fun v1205 ev1205 => ?_)
  have ev1205 : v1205 = xs (i + 2) := by rw [ev1205, nI_clamp (by omega)]
  subst ev1205
  refine lv_aload_n hx hb d_L_law_1206 rfl (lv_at hl 3 rfl) ?_
  have hPc := hP.sub (ws' := [(hd, .inr (0, [.ref ra])), (ra, .inl (cR, 4, .inr (.inr (.inr (.inr g))))), ((y 0), .inr (1, [.ref (b2 0), .int (nI ((σ) 0).2.1), .int (nI ((σ) 0).2.2)])), ((b2 0), .inl (cB, M, .inl (fun j => sb_b (((σ) 0).1 j)))), ((y 1), .inr (1, [.ref (b2 1), .int (nI ((σ) 1).2.1), .int (nI ((σ) 1).2.2)])), ((b2 1), .inl (cB, M, .inl (fun j => sb_b (((σ) 1).1 j)))), ((y 2), .inr (1, [.ref (b2 2), .int (nI ((σ) 2).2.1), .int (nI ((σ) 2).2.2)])), ((b2 2), .inl (cB, M, .inl (fun j => sb_b (((σ) 2).1 j)))), ((y 3), .inr (1, [.ref (b2 3), .int (nI ((σ) 3).2.1), .int (nI ((σ) 3).2.2)])), ((b2 3), .inl (cB, M, .inl (fun j => sb_b (((σ) 3).1 j)))), (oa, .inl (cL, 1, .inr (.inl f0)))]) [0, 1, 2, 3, 4, 5, 6, 7, 8, 9, 10] rfl
  have hDc := hD.sub (ws' := [(hd, .inr (0, [.ref ra])), (ra, .inl (cR, 4, .inr (.inr (.inr (.inr g))))), ((y 0), .inr (1, [.ref (b2 0), .int (nI ((σ) 0).2.1), .int (nI ((σ) 0).2.2)])), ((b2 0), .inl (cB, M, .inl (fun j => sb_b (((σ) 0).1 j)))), ((y 1), .inr (1, [.ref (b2 1), .int (nI ((σ) 1).2.1), .int (nI ((σ) 1).2.2)])), ((b2 1), .inl (cB, M, .inl (fun j => sb_b (((σ) 1).1 j)))), ((y 2), .inr (1, [.ref (b2 2), .int (nI ((σ) 2).2.1), .int (nI ((σ) 2).2.2)])), ((b2 2), .inl (cB, M, .inl (fun j => sb_b (((σ) 2).1 j)))), ((y 3), .inr (1, [.ref (b2 3), .int (nI ((σ) 3).2.1), .int (nI ((σ) 3).2.2)])), ((b2 3), .inl (cB, M, .inl (fun j => sb_b (((σ) 3).1 j)))), (oa, .inl (cL, 1, .inr (.inl f0)))]) [0, 1, 2, 3, 4, 5, 6, 7, 8, 9, 10] (by decide) rfl
  have hKc := hK.sub (tys' := [(cB, .byte), (cR, .object "PacketDesk$Row"), (cL, .long)]) [0, 1, 2] rfl
  have hFc := va_free (wc := [(hd, .inr (0, [.ref ra])), (ra, .inl (cR, 4, .inr (.inr (.inr (.inr g))))), ((y 0), .inr (1, [.ref (b2 0), .int (nI ((σ) 0).2.1), .int (nI ((σ) 0).2.2)])), ((b2 0), .inl (cB, M, .inl (fun j => sb_b (((σ) 0).1 j)))), ((y 1), .inr (1, [.ref (b2 1), .int (nI ((σ) 1).2.1), .int (nI ((σ) 1).2.2)])), ((b2 1), .inl (cB, M, .inl (fun j => sb_b (((σ) 1).1 j)))), ((y 2), .inr (1, [.ref (b2 2), .int (nI ((σ) 2).2.1), .int (nI ((σ) 2).2.2)])), ((b2 2), .inl (cB, M, .inl (fun j => sb_b (((σ) 2).1 j)))), ((y 3), .inr (1, [.ref (b2 3), .int (nI ((σ) 3).2.1), .int (nI ((σ) 3).2.2)])), ((b2 3), .inl (cB, M, .inl (fun j => sb_b (((σ) 3).1 j)))), (oa, .inl (cL, 1, .inr (.inl f0)))]) hD hS hAq [0, 1, 2, 3, 4, 5, 6, 7, 8, 9, 10] rfl
  have hh9 : ∀ q : Nat, q < s.heap.size → H[q]? = s.heap[q]? := fun q h => hS.2.1 q h (Nat.not_le.mpr h)
  refine lx_wi (lx_runS (As := [.ref hd, .int (xs (i + 1)), .int (xs (i + 2)), .ref oa]) (rest := []) ⟨hx, hb, hml, hown, hA⟩ (c_L_readBlock l hL0 D cR cB cL hd ra oa g M y b2 σ f0 H.size (xs (i + 1)) (xs (i + 2)) hg hσ) (q_L_readBlock hA k2_123 rfl rfl ⟨(Nat.le_of_ble_eq_true rfl), (Nat.le_of_ble_eq_true rfl)⟩) (oxn_S hPc hKc hDc hG hh9 hN) rfl rfl hl.1 rfl (lv_room (Nat.le_of_ble_eq_true rfl)) d_L_law_1207 ⟨(by show cells + 2 ≤ 601024; omega), (by show slots + 12 ≤ 7293000; omega)⟩) hS (fun q _ h => hFc q h) hFc (fun r5 u5 t9 H1 locs ht9 hvm9 hw5 hB9 hz1 hk1 hS => ?_)
  obtain ⟨τ5, f5⟩ := u5
  obtain ⟨hP1, hK1, hD1⟩ := hB9
  rw [ht9] at hP1
  obtain ⟨hP, hD⟩ := va_join (wr := [(hm, .inr (2, [.int th, .int (nI M), .ref cl, .ref sa, .ref pa, .int tk])), (cl, .inl (cL, 32768, .inr (.inl (pkF (σ))))), (sa, .inl (cI, 4, .inl (fun i9 => nI ((σ) i9).2.1))), (pa, .inl (cI, 4, .inl (fun i9 => nI ((σ) i9).2.2)))]) (w1 := [(hd, .inr (0, [.ref ra])), (ra, .inl (cR, 4, .inr (.inr (.inr (.inr g))))), ((y 0), .inr (1, [.ref (b2 0), .int (nI ((τ5) 0).2.1), .int (nI ((τ5) 0).2.2)])), ((b2 0), .inl (cB, M, .inl (fun j => sb_b (((τ5) 0).1 j)))), ((y 1), .inr (1, [.ref (b2 1), .int (nI ((τ5) 1).2.1), .int (nI ((τ5) 1).2.2)])), ((b2 1), .inl (cB, M, .inl (fun j => sb_b (((τ5) 1).1 j)))), ((y 2), .inr (1, [.ref (b2 2), .int (nI ((τ5) 2).2.1), .int (nI ((τ5) 2).2.2)])), ((b2 2), .inl (cB, M, .inl (fun j => sb_b (((τ5) 2).1 j)))), ((y 3), .inr (1, [.ref (b2 3), .int (nI ((τ5) 3).2.1), .int (nI ((τ5) 3).2.2)])), ((b2 3), .inl (cB, M, .inl (fun j => sb_b (((τ5) 3).1 j)))), (oa, .inl (cL, 1, .inr (.inl f5)))]) hP hD [0, 1, 2, 3, 4, 5, 6, 7, 8, 9, 10] [11, 12, 13, 14] rfl rfl (by decide) (by decide) hk1 hFc hP1 hD1
  generalize H1 = H at hP hS ⊢
  have hP : va_P D vCl [(hd, .inr (0, [.ref ra])), (ra, .inl (cR, 4, .inr (.inr (.inr (.inr g))))), ((y 0), .inr (1, [.ref (b2 0), .int (nI ((τ5) 0).2.1), .int (nI ((τ5) 0).2.2)])), ((b2 0), .inl (cB, M, .inl (fun j => sb_b (((τ5) 0).1 j)))), ((y 1), .inr (1, [.ref (b2 1), .int (nI ((τ5) 1).2.1), .int (nI ((τ5) 1).2.2)])), ((b2 1), .inl (cB, M, .inl (fun j => sb_b (((τ5) 1).1 j)))), ((y 2), .inr (1, [.ref (b2 2), .int (nI ((τ5) 2).2.1), .int (nI ((τ5) 2).2.2)])), ((b2 2), .inl (cB, M, .inl (fun j => sb_b (((τ5) 2).1 j)))), ((y 3), .inr (1, [.ref (b2 3), .int (nI ((τ5) 3).2.1), .int (nI ((τ5) 3).2.2)])), ((b2 3), .inl (cB, M, .inl (fun j => sb_b (((τ5) 3).1 j)))), (oa, .inl (cL, 1, .inr (.inl f5))), (hm, .inr (2, [.int th, .int (nI M), .ref cl, .ref sa, .ref pa, .int tk])), (cl, .inl (cL, 32768, .inr (.inl (pkF (σ))))), (sa, .inl (cI, 4, .inl (fun i9 => nI ((σ) i9).2.1))), (pa, .inl (cI, 4, .inl (fun i9 => nI ((σ) i9).2.2)))] H := hP.sub [4, 5, 6, 7, 8, 9, 10, 11, 12, 13, 14, 0, 1, 2, 3] rfl
  have hD : va_D (fun q : Nat => s.heap.size ≤ q) [(hd, .inr (0, [.ref ra])), (ra, .inl (cR, 4, .inr (.inr (.inr (.inr g))))), ((y 0), .inr (1, [.ref (b2 0), .int (nI ((τ5) 0).2.1), .int (nI ((τ5) 0).2.2)])), ((b2 0), .inl (cB, M, .inl (fun j => sb_b (((τ5) 0).1 j)))), ((y 1), .inr (1, [.ref (b2 1), .int (nI ((τ5) 1).2.1), .int (nI ((τ5) 1).2.2)])), ((b2 1), .inl (cB, M, .inl (fun j => sb_b (((τ5) 1).1 j)))), ((y 2), .inr (1, [.ref (b2 2), .int (nI ((τ5) 2).2.1), .int (nI ((τ5) 2).2.2)])), ((b2 2), .inl (cB, M, .inl (fun j => sb_b (((τ5) 2).1 j)))), ((y 3), .inr (1, [.ref (b2 3), .int (nI ((τ5) 3).2.1), .int (nI ((τ5) 3).2.2)])), ((b2 3), .inl (cB, M, .inl (fun j => sb_b (((τ5) 3).1 j)))), (oa, .inl (cL, 1, .inr (.inl f5))), (hm, .inr (2, [.int th, .int (nI M), .ref cl, .ref sa, .ref pa, .int tk])), (cl, .inl (cL, 32768, .inr (.inl (pkF (σ))))), (sa, .inl (cI, 4, .inl (fun i9 => nI ((σ) i9).2.1))), (pa, .inl (cI, 4, .inl (fun i9 => nI ((σ) i9).2.2)))] := hD.sub [4, 5, 6, 7, 8, 9, 10, 11, 12, 13, 14, 0, 1, 2, 3] (by decide) rfl
  obtain ⟨h51, h52, h53⟩ := hw5
  refine lv_istore (lv' := [(5, .int r5), (0, .ref b), (1, .ref hd), (2, .ref hm), (3, .ref oa), (4, .int (nI i))]) hx hb d_L_law_1210 hl (by decide) rfl (fun ls hl => ?_)
  refine lv_aload_n hx hb d_L_law_1212 rfl (lv_at hl 3 rfl) ?_
  refine lv_aload_n hx hb d_L_law_1213 rfl (lv_at hl 1 rfl) ?_
  refine lv_iload hx hb d_L_law_1214 (lv_at hl 5 rfl) ?_
  refine lv_iconst (v := 1) hx hb d_L_law_1216 (by decide) ?_
  refine lv_iadd hx hb d_L_law_1217 ?_
  refine lv_topi (fun v1217 ev1217 => ?_)
  have ev1217 : v1217 = nI (i + 1) := by rw [ev1217]; exact nI_add i 1
  subst ev1217
  refine va_sld hx hb hX hbl hbA hS (vp_in_nI (n := i + 1) (N := L) (by omega) (by omega)) d_L_law_1218 ?_
  refine lv_topi (fun v1218 ev1218 => ?_)
  have ev1218 : v1218 = xs (i + 1) := by rw [ev1218, nI_clamp (by omega)]
  subst ev1218
  refine lv_aload_n hx hb d_L_law_1219 rfl (lv_at hl 1 rfl) ?_
  refine lv_iload hx hb d_L_law_1220 (lv_at hl 5 rfl) ?_
  refine lv_iconst (v := 2) hx hb d_L_law_1222 (by decide) ?_
  refine lv_iadd hx hb d_L_law_1223 ?_
  refine lv_topi (fun v1223 ev1223 => ?_)
  have ev1223 : v1223 = nI (i + 2) := by rw [ev1223]; exact nI_add i 2
  subst ev1223
  refine va_sld hx hb hX hbl hbA hS (vp_in_nI (n := i + 2) (N := L) (by omega) (by omega)) d_L_law_1224 ?_
  refine lv_topi (fun v1224 ev1224 => ?_)
  have ev1224 : v1224 = xs (i + 2) := by rw [ev1224, nI_clamp (by omega)]
  subst ev1224
  have hPc := hP.sub (ws' := [(hm, .inr (2, [.int th, .int (nI M), .ref cl, .ref sa, .ref pa, .int tk])), (cl, .inl (cL, 32768, .inr (.inl (pkF (σ))))), (sa, .inl (cI, 4, .inl (fun i9 => nI ((σ) i9).2.1))), (pa, .inl (cI, 4, .inl (fun i9 => nI ((σ) i9).2.2)))]) [11, 12, 13, 14] rfl
  have hDc := hD.sub (ws' := [(hm, .inr (2, [.int th, .int (nI M), .ref cl, .ref sa, .ref pa, .int tk])), (cl, .inl (cL, 32768, .inr (.inl (pkF (σ))))), (sa, .inl (cI, 4, .inl (fun i9 => nI ((σ) i9).2.1))), (pa, .inl (cI, 4, .inl (fun i9 => nI ((σ) i9).2.2)))]) [11, 12, 13, 14] (by decide) rfl
  have hKc := hK.sub (tys' := [(cL, .long), (cI, .int)]) [2, 3] rfl
  have hFc := va_free (wc := [(hm, .inr (2, [.int th, .int (nI M), .ref cl, .ref sa, .ref pa, .int tk])), (cl, .inl (cL, 32768, .inr (.inl (pkF (σ))))), (sa, .inl (cI, 4, .inl (fun i9 => nI ((σ) i9).2.1))), (pa, .inl (cI, 4, .inl (fun i9 => nI ((σ) i9).2.2)))]) hD hS hAq [11, 12, 13, 14] rfl
  refine va_calli (va_runV (As := [.int (xs (i + 1)), .int (xs (i + 2))]) (rest := []) ⟨hx, hb, hml, hown, hA⟩ (c_M_readBlock l D cL cI hm cl sa pa M th tk σ H.size (xs (i + 1)) (xs (i + 2)) hσ) (q_M_readBlock hA k3_135 rfl rfl ⟨(Nat.le_of_ble_eq_true rfl), (Nat.le_of_ble_eq_true rfl)⟩) (ox_V (va_recv hKc hPc (ci := 2) (q0 := 0) rfl rfl) (oxw_S hPc hKc hDc)) rfl rfl hl.1 rfl (lv_room (Nat.le_of_ble_eq_true rfl)) d_L_law_1225 ⟨(by show cells + 1 + 0 ≤ 601024; omega), (by show slots + 6 + 0 ≤ 7293000; omega)⟩) hS (fun q _ h => hFc q h) hFc (fun r8 u8 t9 H1 locs ht9 hvm9 hw8 hB9 hz1 hk1 hS => ?_)
  obtain ⟨c8, τ8, k8⟩ := u8
  replace hw8 : spReadBlock σ (xs (i + 1)) (xs (i + 2)) = (c8, r8, τ8) := hw8
  obtain ⟨hP1, hK1, hD1⟩ := hB9
  rw [ht9] at hP1
  obtain ⟨hP, hD⟩ := va_join (wr := [(hd, .inr (0, [.ref ra])), (ra, .inl (cR, 4, .inr (.inr (.inr (.inr g))))), ((y 0), .inr (1, [.ref (b2 0), .int (nI ((τ5) 0).2.1), .int (nI ((τ5) 0).2.2)])), ((b2 0), .inl (cB, M, .inl (fun j => sb_b (((τ5) 0).1 j)))), ((y 1), .inr (1, [.ref (b2 1), .int (nI ((τ5) 1).2.1), .int (nI ((τ5) 1).2.2)])), ((b2 1), .inl (cB, M, .inl (fun j => sb_b (((τ5) 1).1 j)))), ((y 2), .inr (1, [.ref (b2 2), .int (nI ((τ5) 2).2.1), .int (nI ((τ5) 2).2.2)])), ((b2 2), .inl (cB, M, .inl (fun j => sb_b (((τ5) 2).1 j)))), ((y 3), .inr (1, [.ref (b2 3), .int (nI ((τ5) 3).2.1), .int (nI ((τ5) 3).2.2)])), ((b2 3), .inl (cB, M, .inl (fun j => sb_b (((τ5) 3).1 j)))), (oa, .inl (cL, 1, .inr (.inl f5)))]) (w1 := [(hm, .inr (2, [.int (nI c8), .int (nI M), .ref cl, .ref sa, .ref pa, .int k8])), (cl, .inl (cL, 32768, .inr (.inl (pkF (τ8))))), (sa, .inl (cI, 4, .inl (fun i9 => nI ((τ8) i9).2.1))), (pa, .inl (cI, 4, .inl (fun i9 => nI ((τ8) i9).2.2)))]) hP hD [11, 12, 13, 14] [0, 1, 2, 3, 4, 5, 6, 7, 8, 9, 10] rfl rfl (by decide) (by decide) hk1 hFc hP1 hD1
  generalize H1 = H at hP hS ⊢
  have hP : va_P D vCl [(hd, .inr (0, [.ref ra])), (ra, .inl (cR, 4, .inr (.inr (.inr (.inr g))))), ((y 0), .inr (1, [.ref (b2 0), .int (nI ((τ5) 0).2.1), .int (nI ((τ5) 0).2.2)])), ((b2 0), .inl (cB, M, .inl (fun j => sb_b (((τ5) 0).1 j)))), ((y 1), .inr (1, [.ref (b2 1), .int (nI ((τ5) 1).2.1), .int (nI ((τ5) 1).2.2)])), ((b2 1), .inl (cB, M, .inl (fun j => sb_b (((τ5) 1).1 j)))), ((y 2), .inr (1, [.ref (b2 2), .int (nI ((τ5) 2).2.1), .int (nI ((τ5) 2).2.2)])), ((b2 2), .inl (cB, M, .inl (fun j => sb_b (((τ5) 2).1 j)))), ((y 3), .inr (1, [.ref (b2 3), .int (nI ((τ5) 3).2.1), .int (nI ((τ5) 3).2.2)])), ((b2 3), .inl (cB, M, .inl (fun j => sb_b (((τ5) 3).1 j)))), (oa, .inl (cL, 1, .inr (.inl f5))), (hm, .inr (2, [.int (nI c8), .int (nI M), .ref cl, .ref sa, .ref pa, .int k8])), (cl, .inl (cL, 32768, .inr (.inl (pkF (τ8))))), (sa, .inl (cI, 4, .inl (fun i9 => nI ((τ8) i9).2.1))), (pa, .inl (cI, 4, .inl (fun i9 => nI ((τ8) i9).2.2)))] H := hP
  have hD : va_D (fun q : Nat => s.heap.size ≤ q) [(hd, .inr (0, [.ref ra])), (ra, .inl (cR, 4, .inr (.inr (.inr (.inr g))))), ((y 0), .inr (1, [.ref (b2 0), .int (nI ((τ5) 0).2.1), .int (nI ((τ5) 0).2.2)])), ((b2 0), .inl (cB, M, .inl (fun j => sb_b (((τ5) 0).1 j)))), ((y 1), .inr (1, [.ref (b2 1), .int (nI ((τ5) 1).2.1), .int (nI ((τ5) 1).2.2)])), ((b2 1), .inl (cB, M, .inl (fun j => sb_b (((τ5) 1).1 j)))), ((y 2), .inr (1, [.ref (b2 2), .int (nI ((τ5) 2).2.1), .int (nI ((τ5) 2).2.2)])), ((b2 2), .inl (cB, M, .inl (fun j => sb_b (((τ5) 2).1 j)))), ((y 3), .inr (1, [.ref (b2 3), .int (nI ((τ5) 3).2.1), .int (nI ((τ5) 3).2.2)])), ((b2 3), .inl (cB, M, .inl (fun j => sb_b (((τ5) 3).1 j)))), (oa, .inl (cL, 1, .inr (.inl f5))), (hm, .inr (2, [.int (nI c8), .int (nI M), .ref cl, .ref sa, .ref pa, .int k8])), (cl, .inl (cL, 32768, .inr (.inl (pkF (τ8))))), (sa, .inl (cI, 4, .inl (fun i9 => nI ((τ8) i9).2.1))), (pa, .inl (cI, 4, .inl (fun i9 => nI ((τ8) i9).2.2)))] := hD
  have hc8 : c8 ≤ 4 := by have h9 := le_spReadBlock σ (xs (i + 1)) (xs (i + 2)); rw [hw8] at h9; exact h9
  have hσ8 : dkok M τ8 := by have h9 := ok_spReadBlock (M := M) (σ := σ) (xs (i + 1)) (xs (i + 2)) hσ; rw [hw8] at h9; exact h9
  rw [hw8] at h51 h52 h53
  have h51 : r5 = nI c8 := h51
  have h52 : τ5 = τ8 := h52
  have h53 : c8 = 0 → f5 0 = r8.toInt64 := h53
  subst h51
  subst h52
  refine lv_istore (lv' := [(6, .int r8), (5, .int (nI c8)), (0, .ref b), (1, .ref hd), (2, .ref hm), (3, .ref oa), (4, .int (nI i))]) hx hb d_L_law_1228 hl (by decide) rfl (fun ls hl => ?_)
  refine lv_aload_n hx hb d_L_law_1230 rfl (lv_at hl 4 rfl) ?_
  have hPc := hP.sub (ws' := [(hm, .inr (2, [.int (nI c8), .int (nI M), .ref cl, .ref sa, .ref pa, .int k8])), (cl, .inl (cL, 32768, .inr (.inl (pkF (τ5))))), (sa, .inl (cI, 4, .inl (fun i9 => nI ((τ5) i9).2.1))), (pa, .inl (cI, 4, .inl (fun i9 => nI ((τ5) i9).2.2)))]) [11, 12, 13, 14] rfl
  have hKc := hK.sub (tys' := [(cL, .long), (cI, .int)]) [2, 3] rfl
  refine vp_callSi (W.runV (As := []) (rest := []) ⟨hx, hb, hml, hown, hA⟩ (c_M_thrown l D cL cI hm cl sa pa M (nI c8) k8 τ5) (q_M_thrown hA k2_233 rfl rfl ⟨(Nat.le_of_ble_eq_true rfl), (Nat.le_of_ble_eq_true rfl)⟩) (ox_V (va_recv hKc hPc (ci := 2) (q0 := 0) rfl rfl) (ox_S hPc hKc)) rfl rfl hl.1 rfl (lv_room (Nat.le_of_ble_eq_true rfl)) d_L_law_1231 ⟨(by show cells + 1 + 0 + 0 ≤ 601024; omega), (by show slots + 6 + 0 + 0 ≤ 7293000; omega)⟩) (fun r7 hr7 => ?_)
  subst hr7
  refine lv_iload hx hb d_L_law_1234 (lv_at hl 1 rfl) ?_
  refine lv_icmp_eq (tgt := 1241) hx hb d_L_law_1236 (by decide) (fun _ => ?_) (fun q9 => absurd rfl q9)
  refine lv_iload hx hb d_L_law_1241 (lv_at hl 1 rfl) ?_
  refine lv_if_ne (tgt := 1258) hx hb d_L_law_1243 (by decide) (fun c1243 => ?_) (fun c1243 => ?_)
  · refine lv_goto (tgt := 1700) hx hb d_L_law_1258 (by decide) ?_
    exact K τ5 f5 (nI c8) k8 H locs hσ8 hP hD hS ls (lv_sub hl [2, 3, 4, 5, 6] rfl)
  · refine lv_aload_n hx hb d_L_law_1246 rfl (lv_at hl 5 rfl) ?_
    refine lv_iconst (v := 0) hx hb d_L_law_1247 (by decide) ?_
    have hc0 : c8 = 0 := (nI_eq (b := 0) (by omega) (by omega)).mp c1243
    have h53 := h53 hc0
    refine va_lald hx hb hK hP 10 2 rfl rfl (by unfold vp_in; decide) d_L_law_1248 ?_
    refine lv_topl (fun v1248 ev1248 => ?_)
    have ev1248 : v1248 = r8.toInt64 := by rw [ev1248, sb_cl0]; exact h53
    subst ev1248
    refine lv_iload hx hb d_L_law_1249 (lv_at hl 0 rfl) ?_
    refine lv_i2l hx hb d_L_law_1251 rfl ?_
    refine lv_topl (fun v1251 ev1251 => ?_)
    refine W.lcmp hx hb d_L_law_1252 ?_
    refine lv_topi (fun v1252 ev1252 => ?_)
    refine lv_if_eq (tgt := 1258) hx hb d_L_law_1253 (by decide) (fun _ => ?_) (fun q9 => absurd (by rw [ev1252, ev1251]; exact (lg_cmp_eq _ _).mpr rfl) q9)
    refine lv_goto (tgt := 1700) hx hb d_L_law_1258 (by decide) ?_
    exact K τ5 f5 (nI c8) k8 H locs hσ8 hP hD hS ls (lv_sub hl [2, 3, 4, 5, 6] rfl)
set_option maxHeartbeats 2000000 in
set_option maxRecDepth 100000 in
/-- the law at readFrame -/
theorem k_readFrame {p : Program} {l : Launch} {e : Env} {s : State} {m : MethodId} {below : List Frame} {meth : Method} {c : Code} (hL0 : l.stackTraces = false) {b L : Nat} {xs : Nat → Int32} (hL : L ≤ 2561) (hx : p.tables.exec = Jvm.exec) (hb : c.code = code) (hml : c.maxLocals = 8) (hown : s.vm.findClass R_L = some m.cls) (hA : ∀ w ∈ wsA, w.before #[Value.ref b] s = true) (hX : va_X b L xs s s.heap) (hbl : b < s.heap.size) (hG : tx_G s) (hN : tx_N s) {D : va_G} {cR cB cL cI : ClassId} {hd ra oa hm cl sa pa : Nat} {g : Nat → Option Nat} {M : Nat} {y b2 : Nat → Nat} (hg : ∀ i, i < 4 → g i = some (y i)) (hK : va_K D vCl [(cB, .byte), (cR, .object "PacketDesk$Row"), (cL, .long), (cI, .int)] s) (σ : dkS) (f0 : Nat → Int64) (th tk : Int32) (hσ : dkok M σ) (i : Nat) (hi : i + 5 ≤ L) (cells slots : Nat) (hce : cells + 10 ≤ 601024) (hsl : slots + 100 ≤ 7293000) (H : Heap) (locs : List Loc) (hP : va_P D vCl [(hd, .inr (0, [.ref ra])), (ra, .inl (cR, 4, .inr (.inr (.inr (.inr g))))), ((y 0), .inr (1, [.ref (b2 0), .int (nI ((σ) 0).2.1), .int (nI ((σ) 0).2.2)])), ((b2 0), .inl (cB, M, .inl (fun j => sb_b (((σ) 0).1 j)))), ((y 1), .inr (1, [.ref (b2 1), .int (nI ((σ) 1).2.1), .int (nI ((σ) 1).2.2)])), ((b2 1), .inl (cB, M, .inl (fun j => sb_b (((σ) 1).1 j)))), ((y 2), .inr (1, [.ref (b2 2), .int (nI ((σ) 2).2.1), .int (nI ((σ) 2).2.2)])), ((b2 2), .inl (cB, M, .inl (fun j => sb_b (((σ) 2).1 j)))), ((y 3), .inr (1, [.ref (b2 3), .int (nI ((σ) 3).2.1), .int (nI ((σ) 3).2.2)])), ((b2 3), .inl (cB, M, .inl (fun j => sb_b (((σ) 3).1 j)))), (oa, .inl (cL, 1, .inr (.inl f0))), (hm, .inr (2, [.int th, .int (nI M), .ref cl, .ref sa, .ref pa, .int tk])), (cl, .inl (cL, 32768, .inr (.inl (pkF (σ))))), (sa, .inl (cI, 4, .inl (fun i9 => nI ((σ) i9).2.1))), (pa, .inl (cI, 4, .inl (fun i9 => nI ((σ) i9).2.2)))] H) (hD : va_D (fun q : Nat => s.heap.size ≤ q) [(hd, .inr (0, [.ref ra])), (ra, .inl (cR, 4, .inr (.inr (.inr (.inr g))))), ((y 0), .inr (1, [.ref (b2 0), .int (nI ((σ) 0).2.1), .int (nI ((σ) 0).2.2)])), ((b2 0), .inl (cB, M, .inl (fun j => sb_b (((σ) 0).1 j)))), ((y 1), .inr (1, [.ref (b2 1), .int (nI ((σ) 1).2.1), .int (nI ((σ) 1).2.2)])), ((b2 1), .inl (cB, M, .inl (fun j => sb_b (((σ) 1).1 j)))), ((y 2), .inr (1, [.ref (b2 2), .int (nI ((σ) 2).2.1), .int (nI ((σ) 2).2.2)])), ((b2 2), .inl (cB, M, .inl (fun j => sb_b (((σ) 2).1 j)))), ((y 3), .inr (1, [.ref (b2 3), .int (nI ((σ) 3).2.1), .int (nI ((σ) 3).2.2)])), ((b2 3), .inl (cB, M, .inl (fun j => sb_b (((σ) 3).1 j)))), (oa, .inl (cL, 1, .inr (.inl f0))), (hm, .inr (2, [.int th, .int (nI M), .ref cl, .ref sa, .ref pa, .int tk])), (cl, .inl (cL, 32768, .inr (.inl (pkF (σ))))), (sa, .inl (cI, 4, .inl (fun i9 => nI ((σ) i9).2.1))), (pa, .inl (cI, 4, .inl (fun i9 => nI ((σ) i9).2.2)))]) (hS : va_S (fun q : Nat => s.heap.size ≤ q) s.heap H locs) (ls : Array Slot) (hl : lv_has ls 8 [(0, .ref b), (1, .ref hd), (2, .ref hm), (3, .ref oa), (4, .int (nI i))]) (K : ∀ (σ' : dkS) (f' : Nat → Int64) (th' tk' : Int32) (H' : Heap) (locs' : List Loc), dkok M σ' → va_P D vCl [(hd, .inr (0, [.ref ra])), (ra, .inl (cR, 4, .inr (.inr (.inr (.inr g))))), ((y 0), .inr (1, [.ref (b2 0), .int (nI ((σ') 0).2.1), .int (nI ((σ') 0).2.2)])), ((b2 0), .inl (cB, M, .inl (fun j => sb_b (((σ') 0).1 j)))), ((y 1), .inr (1, [.ref (b2 1), .int (nI ((σ') 1).2.1), .int (nI ((σ') 1).2.2)])), ((b2 1), .inl (cB, M, .inl (fun j => sb_b (((σ') 1).1 j)))), ((y 2), .inr (1, [.ref (b2 2), .int (nI ((σ') 2).2.1), .int (nI ((σ') 2).2.2)])), ((b2 2), .inl (cB, M, .inl (fun j => sb_b (((σ') 2).1 j)))), ((y 3), .inr (1, [.ref (b2 3), .int (nI ((σ') 3).2.1), .int (nI ((σ') 3).2.2)])), ((b2 3), .inl (cB, M, .inl (fun j => sb_b (((σ') 3).1 j)))), (oa, .inl (cL, 1, .inr (.inl f'))), (hm, .inr (2, [.int th', .int (nI M), .ref cl, .ref sa, .ref pa, .int tk'])), (cl, .inl (cL, 32768, .inr (.inl (pkF (σ'))))), (sa, .inl (cI, 4, .inl (fun i9 => nI ((σ') i9).2.1))), (pa, .inl (cI, 4, .inl (fun i9 => nI ((σ') i9).2.2)))] H' → va_D (fun q : Nat => s.heap.size ≤ q) [(hd, .inr (0, [.ref ra])), (ra, .inl (cR, 4, .inr (.inr (.inr (.inr g))))), ((y 0), .inr (1, [.ref (b2 0), .int (nI ((σ') 0).2.1), .int (nI ((σ') 0).2.2)])), ((b2 0), .inl (cB, M, .inl (fun j => sb_b (((σ') 0).1 j)))), ((y 1), .inr (1, [.ref (b2 1), .int (nI ((σ') 1).2.1), .int (nI ((σ') 1).2.2)])), ((b2 1), .inl (cB, M, .inl (fun j => sb_b (((σ') 1).1 j)))), ((y 2), .inr (1, [.ref (b2 2), .int (nI ((σ') 2).2.1), .int (nI ((σ') 2).2.2)])), ((b2 2), .inl (cB, M, .inl (fun j => sb_b (((σ') 2).1 j)))), ((y 3), .inr (1, [.ref (b2 3), .int (nI ((σ') 3).2.1), .int (nI ((σ') 3).2.2)])), ((b2 3), .inl (cB, M, .inl (fun j => sb_b (((σ') 3).1 j)))), (oa, .inl (cL, 1, .inr (.inl f'))), (hm, .inr (2, [.int th', .int (nI M), .ref cl, .ref sa, .ref pa, .int tk'])), (cl, .inl (cL, 32768, .inr (.inl (pkF (σ'))))), (sa, .inl (cI, 4, .inl (fun i9 => nI ((σ') i9).2.1))), (pa, .inl (cI, 4, .inl (fun i9 => nI ((σ') i9).2.2)))] → va_S (fun q : Nat => s.heap.size ≤ q) s.heap H' locs' → ∀ ls' : Array Slot, lv_has ls' 8 [(0, .ref b), (1, .ref hd), (2, .ref hm), (3, .ref oa), (4, .int (nI i))] → W p l e room_1 s m #[Value.ref b] below meth c H' locs' (cells + 1) (slots + 6) (lw_Z below #[Value.ref b] s) (F0 m 1700 ls' [])) : W p l e room_1 s m #[Value.ref b] below meth c H locs cells slots (lw_Z below #[Value.ref b] s) (F0 m 1261 ls []) := by
  have hAq : ∀ q : Nat, s.heap.size ≤ q → (fun q : Nat => s.heap.size ≤ q) q := fun _ h => h
  have hbA : ¬ (fun q : Nat => s.heap.size ≤ q) b := Nat.not_le.mpr hbl
  refine lv_aload_n hx hb d_L_law_1261 rfl (lv_at hl 1 rfl) ?_
  refine lv_aload_n hx hb d_L_law_1262 rfl (lv_at hl 0 rfl) ?_
  refine lv_iload hx hb d_L_law_1263 (lv_at hl 4 rfl) ?_
  refine lv_iconst (v := 1) hx hb d_L_law_1265 (by decide) ?_
  refine lv_iadd hx hb d_L_law_1266 ?_
  refine lv_topi (fun v1266 ev1266 => ?_)
  have ev1266 : v1266 = nI (i + 1) := by rw [ev1266]; exact nI_add i 1
  subst ev1266
  refine va_sld hx hb hX hbl hbA hS (vp_in_nI (n := i + 1) (N := L) (by omega) (by omega)) d_L_law_1267 ?_
  refine lv_topi (fun v1267 ev1267 => ?_)
  have ev1267 : v1267 = xs (i + 1) := by rw [ev1267, nI_clamp (by omega)]
  subst ev1267
  refine lv_aload_n hx hb d_L_law_1268 rfl (lv_at hl 0 rfl) ?_
  refine lv_iload hx hb d_L_law_1269 (lv_at hl 4 rfl) ?_
  refine lv_iconst (v := 2) hx hb d_L_law_1271 (by decide) ?_
  refine lv_iadd hx hb d_L_law_1272 ?_
  refine lv_topi (fun v1272 ev1272 => ?_)
  have ev1272 : v1272 = nI (i + 2) := by rw [ev1272]; exact nI_add i 2
  subst ev1272
  refine va_sld hx hb hX hbl hbA hS (vp_in_nI (n := i + 2) (N := L) (by omega) (by omega)) d_L_law_1273 ?_
  refine lv_topi (fun v1273 ev1273 => ?_)
  have ev1273 : v1273 = xs (i + 2) := by rw [ev1273, nI_clamp (by omega)]
  subst ev1273
  refine lv_aload_n hx hb d_L_law_1274 rfl (lv_at hl 3 rfl) ?_
  have hPc := hP.sub (ws' := [(hd, .inr (0, [.ref ra])), (ra, .inl (cR, 4, .inr (.inr (.inr (.inr g))))), ((y 0), .inr (1, [.ref (b2 0), .int (nI ((σ) 0).2.1), .int (nI ((σ) 0).2.2)])), ((b2 0), .inl (cB, M, .inl (fun j => sb_b (((σ) 0).1 j)))), ((y 1), .inr (1, [.ref (b2 1), .int (nI ((σ) 1).2.1), .int (nI ((σ) 1).2.2)])), ((b2 1), .inl (cB, M, .inl (fun j => sb_b (((σ) 1).1 j)))), ((y 2), .inr (1, [.ref (b2 2), .int (nI ((σ) 2).2.1), .int (nI ((σ) 2).2.2)])), ((b2 2), .inl (cB, M, .inl (fun j => sb_b (((σ) 2).1 j)))), ((y 3), .inr (1, [.ref (b2 3), .int (nI ((σ) 3).2.1), .int (nI ((σ) 3).2.2)])), ((b2 3), .inl (cB, M, .inl (fun j => sb_b (((σ) 3).1 j)))), (oa, .inl (cL, 1, .inr (.inl f0)))]) [0, 1, 2, 3, 4, 5, 6, 7, 8, 9, 10] rfl
  have hDc := hD.sub (ws' := [(hd, .inr (0, [.ref ra])), (ra, .inl (cR, 4, .inr (.inr (.inr (.inr g))))), ((y 0), .inr (1, [.ref (b2 0), .int (nI ((σ) 0).2.1), .int (nI ((σ) 0).2.2)])), ((b2 0), .inl (cB, M, .inl (fun j => sb_b (((σ) 0).1 j)))), ((y 1), .inr (1, [.ref (b2 1), .int (nI ((σ) 1).2.1), .int (nI ((σ) 1).2.2)])), ((b2 1), .inl (cB, M, .inl (fun j => sb_b (((σ) 1).1 j)))), ((y 2), .inr (1, [.ref (b2 2), .int (nI ((σ) 2).2.1), .int (nI ((σ) 2).2.2)])), ((b2 2), .inl (cB, M, .inl (fun j => sb_b (((σ) 2).1 j)))), ((y 3), .inr (1, [.ref (b2 3), .int (nI ((σ) 3).2.1), .int (nI ((σ) 3).2.2)])), ((b2 3), .inl (cB, M, .inl (fun j => sb_b (((σ) 3).1 j)))), (oa, .inl (cL, 1, .inr (.inl f0)))]) [0, 1, 2, 3, 4, 5, 6, 7, 8, 9, 10] (by decide) rfl
  have hKc := hK.sub (tys' := [(cB, .byte), (cR, .object "PacketDesk$Row"), (cL, .long)]) [0, 1, 2] rfl
  have hFc := va_free (wc := [(hd, .inr (0, [.ref ra])), (ra, .inl (cR, 4, .inr (.inr (.inr (.inr g))))), ((y 0), .inr (1, [.ref (b2 0), .int (nI ((σ) 0).2.1), .int (nI ((σ) 0).2.2)])), ((b2 0), .inl (cB, M, .inl (fun j => sb_b (((σ) 0).1 j)))), ((y 1), .inr (1, [.ref (b2 1), .int (nI ((σ) 1).2.1), .int (nI ((σ) 1).2.2)])), ((b2 1), .inl (cB, M, .inl (fun j => sb_b (((σ) 1).1 j)))), ((y 2), .inr (1, [.ref (b2 2), .int (nI ((σ) 2).2.1), .int (nI ((σ) 2).2.2)])), ((b2 2), .inl (cB, M, .inl (fun j => sb_b (((σ) 2).1 j)))), ((y 3), .inr (1, [.ref (b2 3), .int (nI ((σ) 3).2.1), .int (nI ((σ) 3).2.2)])), ((b2 3), .inl (cB, M, .inl (fun j => sb_b (((σ) 3).1 j)))), (oa, .inl (cL, 1, .inr (.inl f0)))]) hD hS hAq [0, 1, 2, 3, 4, 5, 6, 7, 8, 9, 10] rfl
  have hh9 : ∀ q : Nat, q < s.heap.size → H[q]? = s.heap[q]? := fun q h => hS.2.1 q h (Nat.not_le.mpr h)
  refine lx_wi (lx_runS (As := [.ref hd, .int (xs (i + 1)), .int (xs (i + 2)), .ref oa]) (rest := []) ⟨hx, hb, hml, hown, hA⟩ (c_L_readFrame l hL0 D cR cB cL hd ra oa g M y b2 σ f0 H.size (xs (i + 1)) (xs (i + 2)) hg hσ) (q_L_readFrame hA k2_142 rfl rfl ⟨(Nat.le_of_ble_eq_true rfl), (Nat.le_of_ble_eq_true rfl)⟩) (oxn_S hPc hKc hDc hG hh9 hN) rfl rfl hl.1 rfl (lv_room (Nat.le_of_ble_eq_true rfl)) d_L_law_1275 ⟨(by show cells + 2 ≤ 601024; omega), (by show slots + 12 ≤ 7293000; omega)⟩) hS (fun q _ h => hFc q h) hFc (fun r5 u5 t9 H1 locs ht9 hvm9 hw5 hB9 hz1 hk1 hS => ?_)
  obtain ⟨τ5, f5⟩ := u5
  obtain ⟨hP1, hK1, hD1⟩ := hB9
  rw [ht9] at hP1
  obtain ⟨hP, hD⟩ := va_join (wr := [(hm, .inr (2, [.int th, .int (nI M), .ref cl, .ref sa, .ref pa, .int tk])), (cl, .inl (cL, 32768, .inr (.inl (pkF (σ))))), (sa, .inl (cI, 4, .inl (fun i9 => nI ((σ) i9).2.1))), (pa, .inl (cI, 4, .inl (fun i9 => nI ((σ) i9).2.2)))]) (w1 := [(hd, .inr (0, [.ref ra])), (ra, .inl (cR, 4, .inr (.inr (.inr (.inr g))))), ((y 0), .inr (1, [.ref (b2 0), .int (nI ((τ5) 0).2.1), .int (nI ((τ5) 0).2.2)])), ((b2 0), .inl (cB, M, .inl (fun j => sb_b (((τ5) 0).1 j)))), ((y 1), .inr (1, [.ref (b2 1), .int (nI ((τ5) 1).2.1), .int (nI ((τ5) 1).2.2)])), ((b2 1), .inl (cB, M, .inl (fun j => sb_b (((τ5) 1).1 j)))), ((y 2), .inr (1, [.ref (b2 2), .int (nI ((τ5) 2).2.1), .int (nI ((τ5) 2).2.2)])), ((b2 2), .inl (cB, M, .inl (fun j => sb_b (((τ5) 2).1 j)))), ((y 3), .inr (1, [.ref (b2 3), .int (nI ((τ5) 3).2.1), .int (nI ((τ5) 3).2.2)])), ((b2 3), .inl (cB, M, .inl (fun j => sb_b (((τ5) 3).1 j)))), (oa, .inl (cL, 1, .inr (.inl f5)))]) hP hD [0, 1, 2, 3, 4, 5, 6, 7, 8, 9, 10] [11, 12, 13, 14] rfl rfl (by decide) (by decide) hk1 hFc hP1 hD1
  generalize H1 = H at hP hS ⊢
  have hP : va_P D vCl [(hd, .inr (0, [.ref ra])), (ra, .inl (cR, 4, .inr (.inr (.inr (.inr g))))), ((y 0), .inr (1, [.ref (b2 0), .int (nI ((τ5) 0).2.1), .int (nI ((τ5) 0).2.2)])), ((b2 0), .inl (cB, M, .inl (fun j => sb_b (((τ5) 0).1 j)))), ((y 1), .inr (1, [.ref (b2 1), .int (nI ((τ5) 1).2.1), .int (nI ((τ5) 1).2.2)])), ((b2 1), .inl (cB, M, .inl (fun j => sb_b (((τ5) 1).1 j)))), ((y 2), .inr (1, [.ref (b2 2), .int (nI ((τ5) 2).2.1), .int (nI ((τ5) 2).2.2)])), ((b2 2), .inl (cB, M, .inl (fun j => sb_b (((τ5) 2).1 j)))), ((y 3), .inr (1, [.ref (b2 3), .int (nI ((τ5) 3).2.1), .int (nI ((τ5) 3).2.2)])), ((b2 3), .inl (cB, M, .inl (fun j => sb_b (((τ5) 3).1 j)))), (oa, .inl (cL, 1, .inr (.inl f5))), (hm, .inr (2, [.int th, .int (nI M), .ref cl, .ref sa, .ref pa, .int tk])), (cl, .inl (cL, 32768, .inr (.inl (pkF (σ))))), (sa, .inl (cI, 4, .inl (fun i9 => nI ((σ) i9).2.1))), (pa, .inl (cI, 4, .inl (fun i9 => nI ((σ) i9).2.2)))] H := hP.sub [4, 5, 6, 7, 8, 9, 10, 11, 12, 13, 14, 0, 1, 2, 3] rfl
  have hD : va_D (fun q : Nat => s.heap.size ≤ q) [(hd, .inr (0, [.ref ra])), (ra, .inl (cR, 4, .inr (.inr (.inr (.inr g))))), ((y 0), .inr (1, [.ref (b2 0), .int (nI ((τ5) 0).2.1), .int (nI ((τ5) 0).2.2)])), ((b2 0), .inl (cB, M, .inl (fun j => sb_b (((τ5) 0).1 j)))), ((y 1), .inr (1, [.ref (b2 1), .int (nI ((τ5) 1).2.1), .int (nI ((τ5) 1).2.2)])), ((b2 1), .inl (cB, M, .inl (fun j => sb_b (((τ5) 1).1 j)))), ((y 2), .inr (1, [.ref (b2 2), .int (nI ((τ5) 2).2.1), .int (nI ((τ5) 2).2.2)])), ((b2 2), .inl (cB, M, .inl (fun j => sb_b (((τ5) 2).1 j)))), ((y 3), .inr (1, [.ref (b2 3), .int (nI ((τ5) 3).2.1), .int (nI ((τ5) 3).2.2)])), ((b2 3), .inl (cB, M, .inl (fun j => sb_b (((τ5) 3).1 j)))), (oa, .inl (cL, 1, .inr (.inl f5))), (hm, .inr (2, [.int th, .int (nI M), .ref cl, .ref sa, .ref pa, .int tk])), (cl, .inl (cL, 32768, .inr (.inl (pkF (σ))))), (sa, .inl (cI, 4, .inl (fun i9 => nI ((σ) i9).2.1))), (pa, .inl (cI, 4, .inl (fun i9 => nI ((σ) i9).2.2)))] := hD.sub [4, 5, 6, 7, 8, 9, 10, 11, 12, 13, 14, 0, 1, 2, 3] (by decide) rfl
  obtain ⟨h51, h52, h53⟩ := hw5
  refine lv_istore (lv' := [(5, .int r5), (0, .ref b), (1, .ref hd), (2, .ref hm), (3, .ref oa), (4, .int (nI i))]) hx hb d_L_law_1278 hl (by decide) rfl (fun ls hl => ?_)
  refine lv_aload_n hx hb d_L_law_1280 rfl (lv_at hl 3 rfl) ?_
  refine lv_aload_n hx hb d_L_law_1281 rfl (lv_at hl 1 rfl) ?_
  refine lv_iload hx hb d_L_law_1282 (lv_at hl 5 rfl) ?_
  refine lv_iconst (v := 1) hx hb d_L_law_1284 (by decide) ?_
  refine lv_iadd hx hb d_L_law_1285 ?_
  refine lv_topi (fun v1285 ev1285 => ?_)
  have ev1285 : v1285 = nI (i + 1) := by rw [ev1285]; exact nI_add i 1
  subst ev1285
  refine va_sld hx hb hX hbl hbA hS (vp_in_nI (n := i + 1) (N := L) (by omega) (by omega)) d_L_law_1286 ?_
  refine lv_topi (fun v1286 ev1286 => ?_)
  have ev1286 : v1286 = xs (i + 1) := by rw [ev1286, nI_clamp (by omega)]
  subst ev1286
  refine lv_aload_n hx hb d_L_law_1287 rfl (lv_at hl 1 rfl) ?_
  refine lv_iload hx hb d_L_law_1288 (lv_at hl 5 rfl) ?_
  refine lv_iconst (v := 2) hx hb d_L_law_1290 (by decide) ?_
  refine lv_iadd hx hb d_L_law_1291 ?_
  refine lv_topi (fun v1291 ev1291 => ?_)
  have ev1291 : v1291 = nI (i + 2) := by rw [ev1291]; exact nI_add i 2
  subst ev1291
  refine va_sld hx hb hX hbl hbA hS (vp_in_nI (n := i + 2) (N := L) (by omega) (by omega)) d_L_law_1292 ?_
  refine lv_topi (fun v1292 ev1292 => ?_)
  have ev1292 : v1292 = xs (i + 2) := by rw [ev1292, nI_clamp (by omega)]
  subst ev1292
  have hPc := hP.sub (ws' := [(hm, .inr (2, [.int th, .int (nI M), .ref cl, .ref sa, .ref pa, .int tk])), (cl, .inl (cL, 32768, .inr (.inl (pkF (σ))))), (sa, .inl (cI, 4, .inl (fun i9 => nI ((σ) i9).2.1))), (pa, .inl (cI, 4, .inl (fun i9 => nI ((σ) i9).2.2)))]) [11, 12, 13, 14] rfl
  have hDc := hD.sub (ws' := [(hm, .inr (2, [.int th, .int (nI M), .ref cl, .ref sa, .ref pa, .int tk])), (cl, .inl (cL, 32768, .inr (.inl (pkF (σ))))), (sa, .inl (cI, 4, .inl (fun i9 => nI ((σ) i9).2.1))), (pa, .inl (cI, 4, .inl (fun i9 => nI ((σ) i9).2.2)))]) [11, 12, 13, 14] (by decide) rfl
  have hKc := hK.sub (tys' := [(cL, .long), (cI, .int)]) [2, 3] rfl
  have hFc := va_free (wc := [(hm, .inr (2, [.int th, .int (nI M), .ref cl, .ref sa, .ref pa, .int tk])), (cl, .inl (cL, 32768, .inr (.inl (pkF (σ))))), (sa, .inl (cI, 4, .inl (fun i9 => nI ((σ) i9).2.1))), (pa, .inl (cI, 4, .inl (fun i9 => nI ((σ) i9).2.2)))]) hD hS hAq [11, 12, 13, 14] rfl
  refine va_calli (va_runV (As := [.int (xs (i + 1)), .int (xs (i + 2))]) (rest := []) ⟨hx, hb, hml, hown, hA⟩ (c_M_readFrame l D cL cI hm cl sa pa M th tk σ H.size (xs (i + 1)) (xs (i + 2)) hσ) (q_M_readFrame hA k3_144 rfl rfl ⟨(Nat.le_of_ble_eq_true rfl), (Nat.le_of_ble_eq_true rfl)⟩) (ox_V (va_recv hKc hPc (ci := 2) (q0 := 0) rfl rfl) (oxw_S hPc hKc hDc)) rfl rfl hl.1 rfl (lv_room (Nat.le_of_ble_eq_true rfl)) d_L_law_1293 ⟨(by show cells + 1 + 0 ≤ 601024; omega), (by show slots + 6 + 0 ≤ 7293000; omega)⟩) hS (fun q _ h => hFc q h) hFc (fun r8 u8 t9 H1 locs ht9 hvm9 hw8 hB9 hz1 hk1 hS => ?_)
  obtain ⟨c8, τ8, k8⟩ := u8
  replace hw8 : spReadFrame σ (xs (i + 1)) (xs (i + 2)) = (c8, r8, τ8) := hw8
  obtain ⟨hP1, hK1, hD1⟩ := hB9
  rw [ht9] at hP1
  obtain ⟨hP, hD⟩ := va_join (wr := [(hd, .inr (0, [.ref ra])), (ra, .inl (cR, 4, .inr (.inr (.inr (.inr g))))), ((y 0), .inr (1, [.ref (b2 0), .int (nI ((τ5) 0).2.1), .int (nI ((τ5) 0).2.2)])), ((b2 0), .inl (cB, M, .inl (fun j => sb_b (((τ5) 0).1 j)))), ((y 1), .inr (1, [.ref (b2 1), .int (nI ((τ5) 1).2.1), .int (nI ((τ5) 1).2.2)])), ((b2 1), .inl (cB, M, .inl (fun j => sb_b (((τ5) 1).1 j)))), ((y 2), .inr (1, [.ref (b2 2), .int (nI ((τ5) 2).2.1), .int (nI ((τ5) 2).2.2)])), ((b2 2), .inl (cB, M, .inl (fun j => sb_b (((τ5) 2).1 j)))), ((y 3), .inr (1, [.ref (b2 3), .int (nI ((τ5) 3).2.1), .int (nI ((τ5) 3).2.2)])), ((b2 3), .inl (cB, M, .inl (fun j => sb_b (((τ5) 3).1 j)))), (oa, .inl (cL, 1, .inr (.inl f5)))]) (w1 := [(hm, .inr (2, [.int (nI c8), .int (nI M), .ref cl, .ref sa, .ref pa, .int k8])), (cl, .inl (cL, 32768, .inr (.inl (pkF (τ8))))), (sa, .inl (cI, 4, .inl (fun i9 => nI ((τ8) i9).2.1))), (pa, .inl (cI, 4, .inl (fun i9 => nI ((τ8) i9).2.2)))]) hP hD [11, 12, 13, 14] [0, 1, 2, 3, 4, 5, 6, 7, 8, 9, 10] rfl rfl (by decide) (by decide) hk1 hFc hP1 hD1
  generalize H1 = H at hP hS ⊢
  have hP : va_P D vCl [(hd, .inr (0, [.ref ra])), (ra, .inl (cR, 4, .inr (.inr (.inr (.inr g))))), ((y 0), .inr (1, [.ref (b2 0), .int (nI ((τ5) 0).2.1), .int (nI ((τ5) 0).2.2)])), ((b2 0), .inl (cB, M, .inl (fun j => sb_b (((τ5) 0).1 j)))), ((y 1), .inr (1, [.ref (b2 1), .int (nI ((τ5) 1).2.1), .int (nI ((τ5) 1).2.2)])), ((b2 1), .inl (cB, M, .inl (fun j => sb_b (((τ5) 1).1 j)))), ((y 2), .inr (1, [.ref (b2 2), .int (nI ((τ5) 2).2.1), .int (nI ((τ5) 2).2.2)])), ((b2 2), .inl (cB, M, .inl (fun j => sb_b (((τ5) 2).1 j)))), ((y 3), .inr (1, [.ref (b2 3), .int (nI ((τ5) 3).2.1), .int (nI ((τ5) 3).2.2)])), ((b2 3), .inl (cB, M, .inl (fun j => sb_b (((τ5) 3).1 j)))), (oa, .inl (cL, 1, .inr (.inl f5))), (hm, .inr (2, [.int (nI c8), .int (nI M), .ref cl, .ref sa, .ref pa, .int k8])), (cl, .inl (cL, 32768, .inr (.inl (pkF (τ8))))), (sa, .inl (cI, 4, .inl (fun i9 => nI ((τ8) i9).2.1))), (pa, .inl (cI, 4, .inl (fun i9 => nI ((τ8) i9).2.2)))] H := hP
  have hD : va_D (fun q : Nat => s.heap.size ≤ q) [(hd, .inr (0, [.ref ra])), (ra, .inl (cR, 4, .inr (.inr (.inr (.inr g))))), ((y 0), .inr (1, [.ref (b2 0), .int (nI ((τ5) 0).2.1), .int (nI ((τ5) 0).2.2)])), ((b2 0), .inl (cB, M, .inl (fun j => sb_b (((τ5) 0).1 j)))), ((y 1), .inr (1, [.ref (b2 1), .int (nI ((τ5) 1).2.1), .int (nI ((τ5) 1).2.2)])), ((b2 1), .inl (cB, M, .inl (fun j => sb_b (((τ5) 1).1 j)))), ((y 2), .inr (1, [.ref (b2 2), .int (nI ((τ5) 2).2.1), .int (nI ((τ5) 2).2.2)])), ((b2 2), .inl (cB, M, .inl (fun j => sb_b (((τ5) 2).1 j)))), ((y 3), .inr (1, [.ref (b2 3), .int (nI ((τ5) 3).2.1), .int (nI ((τ5) 3).2.2)])), ((b2 3), .inl (cB, M, .inl (fun j => sb_b (((τ5) 3).1 j)))), (oa, .inl (cL, 1, .inr (.inl f5))), (hm, .inr (2, [.int (nI c8), .int (nI M), .ref cl, .ref sa, .ref pa, .int k8])), (cl, .inl (cL, 32768, .inr (.inl (pkF (τ8))))), (sa, .inl (cI, 4, .inl (fun i9 => nI ((τ8) i9).2.1))), (pa, .inl (cI, 4, .inl (fun i9 => nI ((τ8) i9).2.2)))] := hD
  have hc8 : c8 ≤ 4 := by have h9 := le_spReadFrame σ (xs (i + 1)) (xs (i + 2)); rw [hw8] at h9; exact h9
  have hσ8 : dkok M τ8 := by have h9 := ok_spReadFrame (M := M) (σ := σ) (xs (i + 1)) (xs (i + 2)) hσ; rw [hw8] at h9; exact h9
  rw [hw8] at h51 h52 h53
  have h51 : r5 = nI c8 := h51
  have h52 : τ5 = τ8 := h52
  have h53 : c8 = 0 → f5 0 = r8.toInt64 := h53
  subst h51
  subst h52
  refine lv_istore (lv' := [(6, .int r8), (5, .int (nI c8)), (0, .ref b), (1, .ref hd), (2, .ref hm), (3, .ref oa), (4, .int (nI i))]) hx hb d_L_law_1296 hl (by decide) rfl (fun ls hl => ?_)
  refine lv_aload_n hx hb d_L_law_1298 rfl (lv_at hl 4 rfl) ?_
  have hPc := hP.sub (ws' := [(hm, .inr (2, [.int (nI c8), .int (nI M), .ref cl, .ref sa, .ref pa, .int k8])), (cl, .inl (cL, 32768, .inr (.inl (pkF (τ5))))), (sa, .inl (cI, 4, .inl (fun i9 => nI ((τ5) i9).2.1))), (pa, .inl (cI, 4, .inl (fun i9 => nI ((τ5) i9).2.2)))]) [11, 12, 13, 14] rfl
  have hKc := hK.sub (tys' := [(cL, .long), (cI, .int)]) [2, 3] rfl
  refine vp_callSi (W.runV (As := []) (rest := []) ⟨hx, hb, hml, hown, hA⟩ (c_M_thrown l D cL cI hm cl sa pa M (nI c8) k8 τ5) (q_M_thrown hA k2_233 rfl rfl ⟨(Nat.le_of_ble_eq_true rfl), (Nat.le_of_ble_eq_true rfl)⟩) (ox_V (va_recv hKc hPc (ci := 2) (q0 := 0) rfl rfl) (ox_S hPc hKc)) rfl rfl hl.1 rfl (lv_room (Nat.le_of_ble_eq_true rfl)) d_L_law_1299 ⟨(by show cells + 1 + 0 + 0 ≤ 601024; omega), (by show slots + 6 + 0 + 0 ≤ 7293000; omega)⟩) (fun r7 hr7 => ?_)
  subst hr7
  refine lv_iload hx hb d_L_law_1302 (lv_at hl 1 rfl) ?_
  refine lv_icmp_eq (tgt := 1309) hx hb d_L_law_1304 (by decide) (fun _ => ?_) (fun q9 => absurd rfl q9)
  refine lv_iload hx hb d_L_law_1309 (lv_at hl 1 rfl) ?_
  refine lv_if_ne (tgt := 1326) hx hb d_L_law_1311 (by decide) (fun c1311 => ?_) (fun c1311 => ?_)
  · refine lv_goto (tgt := 1700) hx hb d_L_law_1326 (by decide) ?_
    exact K τ5 f5 (nI c8) k8 H locs hσ8 hP hD hS ls (lv_sub hl [2, 3, 4, 5, 6] rfl)
  · refine lv_aload_n hx hb d_L_law_1314 rfl (lv_at hl 5 rfl) ?_
    refine lv_iconst (v := 0) hx hb d_L_law_1315 (by decide) ?_
    have hc0 : c8 = 0 := (nI_eq (b := 0) (by omega) (by omega)).mp c1311
    have h53 := h53 hc0
    refine va_lald hx hb hK hP 10 2 rfl rfl (by unfold vp_in; decide) d_L_law_1316 ?_
    refine lv_topl (fun v1316 ev1316 => ?_)
    have ev1316 : v1316 = r8.toInt64 := by rw [ev1316, sb_cl0]; exact h53
    subst ev1316
    refine lv_iload hx hb d_L_law_1317 (lv_at hl 0 rfl) ?_
    refine lv_i2l hx hb d_L_law_1319 rfl ?_
    refine lv_topl (fun v1319 ev1319 => ?_)
    refine W.lcmp hx hb d_L_law_1320 ?_
    refine lv_topi (fun v1320 ev1320 => ?_)
    refine lv_if_eq (tgt := 1326) hx hb d_L_law_1321 (by decide) (fun _ => ?_) (fun q9 => absurd (by rw [ev1320, ev1319]; exact (lg_cmp_eq _ _).mpr rfl) q9)
    refine lv_goto (tgt := 1700) hx hb d_L_law_1326 (by decide) ?_
    exact K τ5 f5 (nI c8) k8 H locs hσ8 hP hD hS ls (lv_sub hl [2, 3, 4, 5, 6] rfl)
set_option maxHeartbeats 2000000 in
set_option maxRecDepth 100000 in
/-- the law at letters -/
theorem k_letters {p : Program} {l : Launch} {e : Env} {s : State} {m : MethodId} {below : List Frame} {meth : Method} {c : Code} (hL0 : l.stackTraces = false) {b L : Nat} {xs : Nat → Int32} (hL : L ≤ 2561) (hx : p.tables.exec = Jvm.exec) (hb : c.code = code) (hml : c.maxLocals = 8) (hown : s.vm.findClass R_L = some m.cls) (hA : ∀ w ∈ wsA, w.before #[Value.ref b] s = true) (hX : va_X b L xs s s.heap) (hbl : b < s.heap.size) (hG : tx_G s) (hN : tx_N s) {D : va_G} {cR cB cL cI : ClassId} {hd ra oa hm cl sa pa : Nat} {g : Nat → Option Nat} {M : Nat} {y b2 : Nat → Nat} (hg : ∀ i, i < 4 → g i = some (y i)) (hK : va_K D vCl [(cB, .byte), (cR, .object "PacketDesk$Row"), (cL, .long), (cI, .int)] s) (σ : dkS) (f0 : Nat → Int64) (th tk : Int32) (hσ : dkok M σ) (i : Nat) (hi : i + 5 ≤ L) (cells slots : Nat) (hce : cells + 10 ≤ 601024) (hsl : slots + 100 ≤ 7293000) (H : Heap) (locs : List Loc) (hP : va_P D vCl [(hd, .inr (0, [.ref ra])), (ra, .inl (cR, 4, .inr (.inr (.inr (.inr g))))), ((y 0), .inr (1, [.ref (b2 0), .int (nI ((σ) 0).2.1), .int (nI ((σ) 0).2.2)])), ((b2 0), .inl (cB, M, .inl (fun j => sb_b (((σ) 0).1 j)))), ((y 1), .inr (1, [.ref (b2 1), .int (nI ((σ) 1).2.1), .int (nI ((σ) 1).2.2)])), ((b2 1), .inl (cB, M, .inl (fun j => sb_b (((σ) 1).1 j)))), ((y 2), .inr (1, [.ref (b2 2), .int (nI ((σ) 2).2.1), .int (nI ((σ) 2).2.2)])), ((b2 2), .inl (cB, M, .inl (fun j => sb_b (((σ) 2).1 j)))), ((y 3), .inr (1, [.ref (b2 3), .int (nI ((σ) 3).2.1), .int (nI ((σ) 3).2.2)])), ((b2 3), .inl (cB, M, .inl (fun j => sb_b (((σ) 3).1 j)))), (oa, .inl (cL, 1, .inr (.inl f0))), (hm, .inr (2, [.int th, .int (nI M), .ref cl, .ref sa, .ref pa, .int tk])), (cl, .inl (cL, 32768, .inr (.inl (pkF (σ))))), (sa, .inl (cI, 4, .inl (fun i9 => nI ((σ) i9).2.1))), (pa, .inl (cI, 4, .inl (fun i9 => nI ((σ) i9).2.2)))] H) (hD : va_D (fun q : Nat => s.heap.size ≤ q) [(hd, .inr (0, [.ref ra])), (ra, .inl (cR, 4, .inr (.inr (.inr (.inr g))))), ((y 0), .inr (1, [.ref (b2 0), .int (nI ((σ) 0).2.1), .int (nI ((σ) 0).2.2)])), ((b2 0), .inl (cB, M, .inl (fun j => sb_b (((σ) 0).1 j)))), ((y 1), .inr (1, [.ref (b2 1), .int (nI ((σ) 1).2.1), .int (nI ((σ) 1).2.2)])), ((b2 1), .inl (cB, M, .inl (fun j => sb_b (((σ) 1).1 j)))), ((y 2), .inr (1, [.ref (b2 2), .int (nI ((σ) 2).2.1), .int (nI ((σ) 2).2.2)])), ((b2 2), .inl (cB, M, .inl (fun j => sb_b (((σ) 2).1 j)))), ((y 3), .inr (1, [.ref (b2 3), .int (nI ((σ) 3).2.1), .int (nI ((σ) 3).2.2)])), ((b2 3), .inl (cB, M, .inl (fun j => sb_b (((σ) 3).1 j)))), (oa, .inl (cL, 1, .inr (.inl f0))), (hm, .inr (2, [.int th, .int (nI M), .ref cl, .ref sa, .ref pa, .int tk])), (cl, .inl (cL, 32768, .inr (.inl (pkF (σ))))), (sa, .inl (cI, 4, .inl (fun i9 => nI ((σ) i9).2.1))), (pa, .inl (cI, 4, .inl (fun i9 => nI ((σ) i9).2.2)))]) (hS : va_S (fun q : Nat => s.heap.size ≤ q) s.heap H locs) (ls : Array Slot) (hl : lv_has ls 8 [(0, .ref b), (1, .ref hd), (2, .ref hm), (3, .ref oa), (4, .int (nI i))]) (K : ∀ (σ' : dkS) (f' : Nat → Int64) (th' tk' : Int32) (H' : Heap) (locs' : List Loc), dkok M σ' → va_P D vCl [(hd, .inr (0, [.ref ra])), (ra, .inl (cR, 4, .inr (.inr (.inr (.inr g))))), ((y 0), .inr (1, [.ref (b2 0), .int (nI ((σ') 0).2.1), .int (nI ((σ') 0).2.2)])), ((b2 0), .inl (cB, M, .inl (fun j => sb_b (((σ') 0).1 j)))), ((y 1), .inr (1, [.ref (b2 1), .int (nI ((σ') 1).2.1), .int (nI ((σ') 1).2.2)])), ((b2 1), .inl (cB, M, .inl (fun j => sb_b (((σ') 1).1 j)))), ((y 2), .inr (1, [.ref (b2 2), .int (nI ((σ') 2).2.1), .int (nI ((σ') 2).2.2)])), ((b2 2), .inl (cB, M, .inl (fun j => sb_b (((σ') 2).1 j)))), ((y 3), .inr (1, [.ref (b2 3), .int (nI ((σ') 3).2.1), .int (nI ((σ') 3).2.2)])), ((b2 3), .inl (cB, M, .inl (fun j => sb_b (((σ') 3).1 j)))), (oa, .inl (cL, 1, .inr (.inl f'))), (hm, .inr (2, [.int th', .int (nI M), .ref cl, .ref sa, .ref pa, .int tk'])), (cl, .inl (cL, 32768, .inr (.inl (pkF (σ'))))), (sa, .inl (cI, 4, .inl (fun i9 => nI ((σ') i9).2.1))), (pa, .inl (cI, 4, .inl (fun i9 => nI ((σ') i9).2.2)))] H' → va_D (fun q : Nat => s.heap.size ≤ q) [(hd, .inr (0, [.ref ra])), (ra, .inl (cR, 4, .inr (.inr (.inr (.inr g))))), ((y 0), .inr (1, [.ref (b2 0), .int (nI ((σ') 0).2.1), .int (nI ((σ') 0).2.2)])), ((b2 0), .inl (cB, M, .inl (fun j => sb_b (((σ') 0).1 j)))), ((y 1), .inr (1, [.ref (b2 1), .int (nI ((σ') 1).2.1), .int (nI ((σ') 1).2.2)])), ((b2 1), .inl (cB, M, .inl (fun j => sb_b (((σ') 1).1 j)))), ((y 2), .inr (1, [.ref (b2 2), .int (nI ((σ') 2).2.1), .int (nI ((σ') 2).2.2)])), ((b2 2), .inl (cB, M, .inl (fun j => sb_b (((σ') 2).1 j)))), ((y 3), .inr (1, [.ref (b2 3), .int (nI ((σ') 3).2.1), .int (nI ((σ') 3).2.2)])), ((b2 3), .inl (cB, M, .inl (fun j => sb_b (((σ') 3).1 j)))), (oa, .inl (cL, 1, .inr (.inl f'))), (hm, .inr (2, [.int th', .int (nI M), .ref cl, .ref sa, .ref pa, .int tk'])), (cl, .inl (cL, 32768, .inr (.inl (pkF (σ'))))), (sa, .inl (cI, 4, .inl (fun i9 => nI ((σ') i9).2.1))), (pa, .inl (cI, 4, .inl (fun i9 => nI ((σ') i9).2.2)))] → va_S (fun q : Nat => s.heap.size ≤ q) s.heap H' locs' → ∀ ls' : Array Slot, lv_has ls' 8 [(0, .ref b), (1, .ref hd), (2, .ref hm), (3, .ref oa), (4, .int (nI i))] → W p l e room_1 s m #[Value.ref b] below meth c H' locs' (cells + 1) (slots + 6) (lw_Z below #[Value.ref b] s) (F0 m 1700 ls' [])) : W p l e room_1 s m #[Value.ref b] below meth c H locs cells slots (lw_Z below #[Value.ref b] s) (F0 m 1329 ls []) := by
  have hAq : ∀ q : Nat, s.heap.size ≤ q → (fun q : Nat => s.heap.size ≤ q) q := fun _ h => h
  have hbA : ¬ (fun q : Nat => s.heap.size ≤ q) b := Nat.not_le.mpr hbl
  refine lv_aload_n hx hb d_L_law_1329 rfl (lv_at hl 1 rfl) ?_
  refine lv_aload_n hx hb d_L_law_1330 rfl (lv_at hl 0 rfl) ?_
  refine lv_iload hx hb d_L_law_1331 (lv_at hl 4 rfl) ?_
  refine lv_iconst (v := 1) hx hb d_L_law_1333 (by decide) ?_
  refine lv_iadd hx hb d_L_law_1334 ?_
  refine lv_topi (fun v1334 ev1334 => ?_)
  have ev1334 : v1334 = nI (i + 1) := by rw [ev1334]; exact nI_add i 1
  subst ev1334
  refine va_sld hx hb hX hbl hbA hS (vp_in_nI (n := i + 1) (N := L) (by omega) (by omega)) d_L_law_1335 ?_
  refine lv_topi (fun v1335 ev1335 => ?_)
  have ev1335 : v1335 = xs (i + 1) := by rw [ev1335, nI_clamp (by omega)]
  subst ev1335
  refine lv_aload_n hx hb d_L_law_1336 rfl (lv_at hl 0 rfl) ?_
  refine lv_iload hx hb d_L_law_1337 (lv_at hl 4 rfl) ?_
  refine lv_iconst (v := 2) hx hb d_L_law_1339 (by decide) ?_
  refine lv_iadd hx hb d_L_law_1340 ?_
  refine lv_topi (fun v1340 ev1340 => ?_)
  have ev1340 : v1340 = nI (i + 2) := by rw [ev1340]; exact nI_add i 2
  subst ev1340
  refine va_sld hx hb hX hbl hbA hS (vp_in_nI (n := i + 2) (N := L) (by omega) (by omega)) d_L_law_1341 ?_
  refine lv_topi (fun v1341 ev1341 => ?_)
  have ev1341 : v1341 = xs (i + 2) := by rw [ev1341, nI_clamp (by omega)]
  subst ev1341
  refine lv_aload_n hx hb d_L_law_1342 rfl (lv_at hl 0 rfl) ?_
  refine lv_iload hx hb d_L_law_1343 (lv_at hl 4 rfl) ?_
  refine lv_iconst (v := 3) hx hb d_L_law_1345 (by decide) ?_
  refine lv_iadd hx hb d_L_law_1346 ?_
  refine lv_topi (fun v1346 ev1346 => ?_)
  have ev1346 : v1346 = nI (i + 3) := by rw [ev1346]; exact nI_add i 3
  subst ev1346
  refine va_sld hx hb hX hbl hbA hS (vp_in_nI (n := i + 3) (N := L) (by omega) (by omega)) d_L_law_1347 ?_
  refine lv_topi (fun v1347 ev1347 => ?_)
  have ev1347 : v1347 = xs (i + 3) := by rw [ev1347, nI_clamp (by omega)]
  subst ev1347
  refine lv_aload_n hx hb d_L_law_1348 rfl (lv_at hl 3 rfl) ?_
  have hPc := hP.sub (ws' := [(hd, .inr (0, [.ref ra])), (ra, .inl (cR, 4, .inr (.inr (.inr (.inr g))))), ((y 0), .inr (1, [.ref (b2 0), .int (nI ((σ) 0).2.1), .int (nI ((σ) 0).2.2)])), ((b2 0), .inl (cB, M, .inl (fun j => sb_b (((σ) 0).1 j)))), ((y 1), .inr (1, [.ref (b2 1), .int (nI ((σ) 1).2.1), .int (nI ((σ) 1).2.2)])), ((b2 1), .inl (cB, M, .inl (fun j => sb_b (((σ) 1).1 j)))), ((y 2), .inr (1, [.ref (b2 2), .int (nI ((σ) 2).2.1), .int (nI ((σ) 2).2.2)])), ((b2 2), .inl (cB, M, .inl (fun j => sb_b (((σ) 2).1 j)))), ((y 3), .inr (1, [.ref (b2 3), .int (nI ((σ) 3).2.1), .int (nI ((σ) 3).2.2)])), ((b2 3), .inl (cB, M, .inl (fun j => sb_b (((σ) 3).1 j)))), (oa, .inl (cL, 1, .inr (.inl f0)))]) [0, 1, 2, 3, 4, 5, 6, 7, 8, 9, 10] rfl
  have hDc := hD.sub (ws' := [(hd, .inr (0, [.ref ra])), (ra, .inl (cR, 4, .inr (.inr (.inr (.inr g))))), ((y 0), .inr (1, [.ref (b2 0), .int (nI ((σ) 0).2.1), .int (nI ((σ) 0).2.2)])), ((b2 0), .inl (cB, M, .inl (fun j => sb_b (((σ) 0).1 j)))), ((y 1), .inr (1, [.ref (b2 1), .int (nI ((σ) 1).2.1), .int (nI ((σ) 1).2.2)])), ((b2 1), .inl (cB, M, .inl (fun j => sb_b (((σ) 1).1 j)))), ((y 2), .inr (1, [.ref (b2 2), .int (nI ((σ) 2).2.1), .int (nI ((σ) 2).2.2)])), ((b2 2), .inl (cB, M, .inl (fun j => sb_b (((σ) 2).1 j)))), ((y 3), .inr (1, [.ref (b2 3), .int (nI ((σ) 3).2.1), .int (nI ((σ) 3).2.2)])), ((b2 3), .inl (cB, M, .inl (fun j => sb_b (((σ) 3).1 j)))), (oa, .inl (cL, 1, .inr (.inl f0)))]) [0, 1, 2, 3, 4, 5, 6, 7, 8, 9, 10] (by decide) rfl
  have hKc := hK.sub (tys' := [(cB, .byte), (cR, .object "PacketDesk$Row"), (cL, .long)]) [0, 1, 2] rfl
  have hFc := va_free (wc := [(hd, .inr (0, [.ref ra])), (ra, .inl (cR, 4, .inr (.inr (.inr (.inr g))))), ((y 0), .inr (1, [.ref (b2 0), .int (nI ((σ) 0).2.1), .int (nI ((σ) 0).2.2)])), ((b2 0), .inl (cB, M, .inl (fun j => sb_b (((σ) 0).1 j)))), ((y 1), .inr (1, [.ref (b2 1), .int (nI ((σ) 1).2.1), .int (nI ((σ) 1).2.2)])), ((b2 1), .inl (cB, M, .inl (fun j => sb_b (((σ) 1).1 j)))), ((y 2), .inr (1, [.ref (b2 2), .int (nI ((σ) 2).2.1), .int (nI ((σ) 2).2.2)])), ((b2 2), .inl (cB, M, .inl (fun j => sb_b (((σ) 2).1 j)))), ((y 3), .inr (1, [.ref (b2 3), .int (nI ((σ) 3).2.1), .int (nI ((σ) 3).2.2)])), ((b2 3), .inl (cB, M, .inl (fun j => sb_b (((σ) 3).1 j)))), (oa, .inl (cL, 1, .inr (.inl f0)))]) hD hS hAq [0, 1, 2, 3, 4, 5, 6, 7, 8, 9, 10] rfl
  have hh9 : ∀ q : Nat, q < s.heap.size → H[q]? = s.heap[q]? := fun q h => hS.2.1 q h (Nat.not_le.mpr h)
  refine lx_wi (lx_runS (As := [.ref hd, .int (xs (i + 1)), .int (xs (i + 2)), .int (xs (i + 3)), .ref oa]) (rest := []) ⟨hx, hb, hml, hown, hA⟩ (c_L_letters l hL0 D cR cB cL hd ra oa g M y b2 σ f0 H.size (xs (i + 1)) (xs (i + 2)) (xs (i + 3)) hg hσ) (q_L_letters hA k2_166 rfl rfl ⟨(Nat.le_of_ble_eq_true rfl), (Nat.le_of_ble_eq_true rfl)⟩) (oxn_S hPc hKc hDc hG hh9 hN) rfl rfl hl.1 rfl (lv_room (Nat.le_of_ble_eq_true rfl)) d_L_law_1349 ⟨(by show cells + 2 ≤ 601024; omega), (by show slots + 12 ≤ 7293000; omega)⟩) hS (fun q _ h => hFc q h) hFc (fun r5 u5 t9 H1 locs ht9 hvm9 hw5 hB9 hz1 hk1 hS => ?_)
  obtain ⟨τ5, f5⟩ := u5
  obtain ⟨hP1, hK1, hD1⟩ := hB9
  rw [ht9] at hP1
  obtain ⟨hP, hD⟩ := va_join (wr := [(hm, .inr (2, [.int th, .int (nI M), .ref cl, .ref sa, .ref pa, .int tk])), (cl, .inl (cL, 32768, .inr (.inl (pkF (σ))))), (sa, .inl (cI, 4, .inl (fun i9 => nI ((σ) i9).2.1))), (pa, .inl (cI, 4, .inl (fun i9 => nI ((σ) i9).2.2)))]) (w1 := [(hd, .inr (0, [.ref ra])), (ra, .inl (cR, 4, .inr (.inr (.inr (.inr g))))), ((y 0), .inr (1, [.ref (b2 0), .int (nI ((τ5) 0).2.1), .int (nI ((τ5) 0).2.2)])), ((b2 0), .inl (cB, M, .inl (fun j => sb_b (((τ5) 0).1 j)))), ((y 1), .inr (1, [.ref (b2 1), .int (nI ((τ5) 1).2.1), .int (nI ((τ5) 1).2.2)])), ((b2 1), .inl (cB, M, .inl (fun j => sb_b (((τ5) 1).1 j)))), ((y 2), .inr (1, [.ref (b2 2), .int (nI ((τ5) 2).2.1), .int (nI ((τ5) 2).2.2)])), ((b2 2), .inl (cB, M, .inl (fun j => sb_b (((τ5) 2).1 j)))), ((y 3), .inr (1, [.ref (b2 3), .int (nI ((τ5) 3).2.1), .int (nI ((τ5) 3).2.2)])), ((b2 3), .inl (cB, M, .inl (fun j => sb_b (((τ5) 3).1 j)))), (oa, .inl (cL, 1, .inr (.inl f5)))]) hP hD [0, 1, 2, 3, 4, 5, 6, 7, 8, 9, 10] [11, 12, 13, 14] rfl rfl (by decide) (by decide) hk1 hFc hP1 hD1
  generalize H1 = H at hP hS ⊢
  have hP : va_P D vCl [(hd, .inr (0, [.ref ra])), (ra, .inl (cR, 4, .inr (.inr (.inr (.inr g))))), ((y 0), .inr (1, [.ref (b2 0), .int (nI ((τ5) 0).2.1), .int (nI ((τ5) 0).2.2)])), ((b2 0), .inl (cB, M, .inl (fun j => sb_b (((τ5) 0).1 j)))), ((y 1), .inr (1, [.ref (b2 1), .int (nI ((τ5) 1).2.1), .int (nI ((τ5) 1).2.2)])), ((b2 1), .inl (cB, M, .inl (fun j => sb_b (((τ5) 1).1 j)))), ((y 2), .inr (1, [.ref (b2 2), .int (nI ((τ5) 2).2.1), .int (nI ((τ5) 2).2.2)])), ((b2 2), .inl (cB, M, .inl (fun j => sb_b (((τ5) 2).1 j)))), ((y 3), .inr (1, [.ref (b2 3), .int (nI ((τ5) 3).2.1), .int (nI ((τ5) 3).2.2)])), ((b2 3), .inl (cB, M, .inl (fun j => sb_b (((τ5) 3).1 j)))), (oa, .inl (cL, 1, .inr (.inl f5))), (hm, .inr (2, [.int th, .int (nI M), .ref cl, .ref sa, .ref pa, .int tk])), (cl, .inl (cL, 32768, .inr (.inl (pkF (σ))))), (sa, .inl (cI, 4, .inl (fun i9 => nI ((σ) i9).2.1))), (pa, .inl (cI, 4, .inl (fun i9 => nI ((σ) i9).2.2)))] H := hP.sub [4, 5, 6, 7, 8, 9, 10, 11, 12, 13, 14, 0, 1, 2, 3] rfl
  have hD : va_D (fun q : Nat => s.heap.size ≤ q) [(hd, .inr (0, [.ref ra])), (ra, .inl (cR, 4, .inr (.inr (.inr (.inr g))))), ((y 0), .inr (1, [.ref (b2 0), .int (nI ((τ5) 0).2.1), .int (nI ((τ5) 0).2.2)])), ((b2 0), .inl (cB, M, .inl (fun j => sb_b (((τ5) 0).1 j)))), ((y 1), .inr (1, [.ref (b2 1), .int (nI ((τ5) 1).2.1), .int (nI ((τ5) 1).2.2)])), ((b2 1), .inl (cB, M, .inl (fun j => sb_b (((τ5) 1).1 j)))), ((y 2), .inr (1, [.ref (b2 2), .int (nI ((τ5) 2).2.1), .int (nI ((τ5) 2).2.2)])), ((b2 2), .inl (cB, M, .inl (fun j => sb_b (((τ5) 2).1 j)))), ((y 3), .inr (1, [.ref (b2 3), .int (nI ((τ5) 3).2.1), .int (nI ((τ5) 3).2.2)])), ((b2 3), .inl (cB, M, .inl (fun j => sb_b (((τ5) 3).1 j)))), (oa, .inl (cL, 1, .inr (.inl f5))), (hm, .inr (2, [.int th, .int (nI M), .ref cl, .ref sa, .ref pa, .int tk])), (cl, .inl (cL, 32768, .inr (.inl (pkF (σ))))), (sa, .inl (cI, 4, .inl (fun i9 => nI ((σ) i9).2.1))), (pa, .inl (cI, 4, .inl (fun i9 => nI ((σ) i9).2.2)))] := hD.sub [4, 5, 6, 7, 8, 9, 10, 11, 12, 13, 14, 0, 1, 2, 3] (by decide) rfl
  obtain ⟨h51, h52, h53⟩ := hw5
  refine lv_istore (lv' := [(5, .int r5), (0, .ref b), (1, .ref hd), (2, .ref hm), (3, .ref oa), (4, .int (nI i))]) hx hb d_L_law_1352 hl (by decide) rfl (fun ls hl => ?_)
  refine lv_aload_n hx hb d_L_law_1354 rfl (lv_at hl 3 rfl) ?_
  refine lv_aload_n hx hb d_L_law_1355 rfl (lv_at hl 1 rfl) ?_
  refine lv_iload hx hb d_L_law_1356 (lv_at hl 5 rfl) ?_
  refine lv_iconst (v := 1) hx hb d_L_law_1358 (by decide) ?_
  refine lv_iadd hx hb d_L_law_1359 ?_
  refine lv_topi (fun v1359 ev1359 => ?_)
  have ev1359 : v1359 = nI (i + 1) := by rw [ev1359]; exact nI_add i 1
  subst ev1359
  refine va_sld hx hb hX hbl hbA hS (vp_in_nI (n := i + 1) (N := L) (by omega) (by omega)) d_L_law_1360 ?_
  refine lv_topi (fun v1360 ev1360 => ?_)
  have ev1360 : v1360 = xs (i + 1) := by rw [ev1360, nI_clamp (by omega)]
  subst ev1360
  refine lv_aload_n hx hb d_L_law_1361 rfl (lv_at hl 1 rfl) ?_
  refine lv_iload hx hb d_L_law_1362 (lv_at hl 5 rfl) ?_
  refine lv_iconst (v := 2) hx hb d_L_law_1364 (by decide) ?_
  refine lv_iadd hx hb d_L_law_1365 ?_
  refine lv_topi (fun v1365 ev1365 => ?_)
  have ev1365 : v1365 = nI (i + 2) := by rw [ev1365]; exact nI_add i 2
  subst ev1365
  refine va_sld hx hb hX hbl hbA hS (vp_in_nI (n := i + 2) (N := L) (by omega) (by omega)) d_L_law_1366 ?_
  refine lv_topi (fun v1366 ev1366 => ?_)
  have ev1366 : v1366 = xs (i + 2) := by rw [ev1366, nI_clamp (by omega)]
  subst ev1366
  refine lv_aload_n hx hb d_L_law_1367 rfl (lv_at hl 1 rfl) ?_
  refine lv_iload hx hb d_L_law_1368 (lv_at hl 5 rfl) ?_
  refine lv_iconst (v := 3) hx hb d_L_law_1370 (by decide) ?_
  refine lv_iadd hx hb d_L_law_1371 ?_
  refine lv_topi (fun v1371 ev1371 => ?_)
  have ev1371 : v1371 = nI (i + 3) := by rw [ev1371]; exact nI_add i 3
  subst ev1371
  refine va_sld hx hb hX hbl hbA hS (vp_in_nI (n := i + 3) (N := L) (by omega) (by omega)) d_L_law_1372 ?_
  refine lv_topi (fun v1372 ev1372 => ?_)
  have ev1372 : v1372 = xs (i + 3) := by rw [ev1372, nI_clamp (by omega)]
  subst ev1372
  have hPc := hP.sub (ws' := [(hm, .inr (2, [.int th, .int (nI M), .ref cl, .ref sa, .ref pa, .int tk])), (cl, .inl (cL, 32768, .inr (.inl (pkF (σ))))), (sa, .inl (cI, 4, .inl (fun i9 => nI ((σ) i9).2.1))), (pa, .inl (cI, 4, .inl (fun i9 => nI ((σ) i9).2.2)))]) [11, 12, 13, 14] rfl
  have hDc := hD.sub (ws' := [(hm, .inr (2, [.int th, .int (nI M), .ref cl, .ref sa, .ref pa, .int tk])), (cl, .inl (cL, 32768, .inr (.inl (pkF (σ))))), (sa, .inl (cI, 4, .inl (fun i9 => nI ((σ) i9).2.1))), (pa, .inl (cI, 4, .inl (fun i9 => nI ((σ) i9).2.2)))]) [11, 12, 13, 14] (by decide) rfl
  have hKc := hK.sub (tys' := [(cL, .long), (cI, .int)]) [2, 3] rfl
  have hFc := va_free (wc := [(hm, .inr (2, [.int th, .int (nI M), .ref cl, .ref sa, .ref pa, .int tk])), (cl, .inl (cL, 32768, .inr (.inl (pkF (σ))))), (sa, .inl (cI, 4, .inl (fun i9 => nI ((σ) i9).2.1))), (pa, .inl (cI, 4, .inl (fun i9 => nI ((σ) i9).2.2)))]) hD hS hAq [11, 12, 13, 14] rfl
  refine va_calli (va_runV (As := [.int (xs (i + 1)), .int (xs (i + 2)), .int (xs (i + 3))]) (rest := []) ⟨hx, hb, hml, hown, hA⟩ (c_M_letters l D cL cI hm cl sa pa M th tk σ H.size (xs (i + 1)) (xs (i + 2)) (xs (i + 3)) hσ) (q_M_letters hA k3_148 rfl rfl ⟨(Nat.le_of_ble_eq_true rfl), (Nat.le_of_ble_eq_true rfl)⟩) (ox_V (va_recv hKc hPc (ci := 2) (q0 := 0) rfl rfl) (oxw_S hPc hKc hDc)) rfl rfl hl.1 rfl (lv_room (Nat.le_of_ble_eq_true rfl)) d_L_law_1373 ⟨(by show cells + 1 + 0 ≤ 601024; omega), (by show slots + 6 + 0 ≤ 7293000; omega)⟩) hS (fun q _ h => hFc q h) hFc (fun r8 u8 t9 H1 locs ht9 hvm9 hw8 hB9 hz1 hk1 hS => ?_)
  obtain ⟨c8, τ8, k8⟩ := u8
  replace hw8 : spLetters σ (xs (i + 1)) (xs (i + 2)) (xs (i + 3)) = (c8, r8, τ8) := hw8
  obtain ⟨hP1, hK1, hD1⟩ := hB9
  rw [ht9] at hP1
  obtain ⟨hP, hD⟩ := va_join (wr := [(hd, .inr (0, [.ref ra])), (ra, .inl (cR, 4, .inr (.inr (.inr (.inr g))))), ((y 0), .inr (1, [.ref (b2 0), .int (nI ((τ5) 0).2.1), .int (nI ((τ5) 0).2.2)])), ((b2 0), .inl (cB, M, .inl (fun j => sb_b (((τ5) 0).1 j)))), ((y 1), .inr (1, [.ref (b2 1), .int (nI ((τ5) 1).2.1), .int (nI ((τ5) 1).2.2)])), ((b2 1), .inl (cB, M, .inl (fun j => sb_b (((τ5) 1).1 j)))), ((y 2), .inr (1, [.ref (b2 2), .int (nI ((τ5) 2).2.1), .int (nI ((τ5) 2).2.2)])), ((b2 2), .inl (cB, M, .inl (fun j => sb_b (((τ5) 2).1 j)))), ((y 3), .inr (1, [.ref (b2 3), .int (nI ((τ5) 3).2.1), .int (nI ((τ5) 3).2.2)])), ((b2 3), .inl (cB, M, .inl (fun j => sb_b (((τ5) 3).1 j)))), (oa, .inl (cL, 1, .inr (.inl f5)))]) (w1 := [(hm, .inr (2, [.int (nI c8), .int (nI M), .ref cl, .ref sa, .ref pa, .int k8])), (cl, .inl (cL, 32768, .inr (.inl (pkF (τ8))))), (sa, .inl (cI, 4, .inl (fun i9 => nI ((τ8) i9).2.1))), (pa, .inl (cI, 4, .inl (fun i9 => nI ((τ8) i9).2.2)))]) hP hD [11, 12, 13, 14] [0, 1, 2, 3, 4, 5, 6, 7, 8, 9, 10] rfl rfl (by decide) (by decide) hk1 hFc hP1 hD1
  generalize H1 = H at hP hS ⊢
  have hP : va_P D vCl [(hd, .inr (0, [.ref ra])), (ra, .inl (cR, 4, .inr (.inr (.inr (.inr g))))), ((y 0), .inr (1, [.ref (b2 0), .int (nI ((τ5) 0).2.1), .int (nI ((τ5) 0).2.2)])), ((b2 0), .inl (cB, M, .inl (fun j => sb_b (((τ5) 0).1 j)))), ((y 1), .inr (1, [.ref (b2 1), .int (nI ((τ5) 1).2.1), .int (nI ((τ5) 1).2.2)])), ((b2 1), .inl (cB, M, .inl (fun j => sb_b (((τ5) 1).1 j)))), ((y 2), .inr (1, [.ref (b2 2), .int (nI ((τ5) 2).2.1), .int (nI ((τ5) 2).2.2)])), ((b2 2), .inl (cB, M, .inl (fun j => sb_b (((τ5) 2).1 j)))), ((y 3), .inr (1, [.ref (b2 3), .int (nI ((τ5) 3).2.1), .int (nI ((τ5) 3).2.2)])), ((b2 3), .inl (cB, M, .inl (fun j => sb_b (((τ5) 3).1 j)))), (oa, .inl (cL, 1, .inr (.inl f5))), (hm, .inr (2, [.int (nI c8), .int (nI M), .ref cl, .ref sa, .ref pa, .int k8])), (cl, .inl (cL, 32768, .inr (.inl (pkF (τ8))))), (sa, .inl (cI, 4, .inl (fun i9 => nI ((τ8) i9).2.1))), (pa, .inl (cI, 4, .inl (fun i9 => nI ((τ8) i9).2.2)))] H := hP
  have hD : va_D (fun q : Nat => s.heap.size ≤ q) [(hd, .inr (0, [.ref ra])), (ra, .inl (cR, 4, .inr (.inr (.inr (.inr g))))), ((y 0), .inr (1, [.ref (b2 0), .int (nI ((τ5) 0).2.1), .int (nI ((τ5) 0).2.2)])), ((b2 0), .inl (cB, M, .inl (fun j => sb_b (((τ5) 0).1 j)))), ((y 1), .inr (1, [.ref (b2 1), .int (nI ((τ5) 1).2.1), .int (nI ((τ5) 1).2.2)])), ((b2 1), .inl (cB, M, .inl (fun j => sb_b (((τ5) 1).1 j)))), ((y 2), .inr (1, [.ref (b2 2), .int (nI ((τ5) 2).2.1), .int (nI ((τ5) 2).2.2)])), ((b2 2), .inl (cB, M, .inl (fun j => sb_b (((τ5) 2).1 j)))), ((y 3), .inr (1, [.ref (b2 3), .int (nI ((τ5) 3).2.1), .int (nI ((τ5) 3).2.2)])), ((b2 3), .inl (cB, M, .inl (fun j => sb_b (((τ5) 3).1 j)))), (oa, .inl (cL, 1, .inr (.inl f5))), (hm, .inr (2, [.int (nI c8), .int (nI M), .ref cl, .ref sa, .ref pa, .int k8])), (cl, .inl (cL, 32768, .inr (.inl (pkF (τ8))))), (sa, .inl (cI, 4, .inl (fun i9 => nI ((τ8) i9).2.1))), (pa, .inl (cI, 4, .inl (fun i9 => nI ((τ8) i9).2.2)))] := hD
  have hc8 : c8 ≤ 4 := by have h9 := le_spLetters σ (xs (i + 1)) (xs (i + 2)) (xs (i + 3)); rw [hw8] at h9; exact h9
  have hσ8 : dkok M τ8 := by have h9 := id_spLetters σ (xs (i + 1)) (xs (i + 2)) (xs (i + 3)); rw [hw8] at h9; rw [show τ8 = σ from h9]; exact hσ
  rw [hw8] at h51 h52 h53
  have h51 : r5 = nI c8 := h51
  have h52 : τ5 = τ8 := h52
  have h53 : c8 = 0 → f5 0 = r8.toInt64 := h53
  subst h51
  subst h52
  refine lv_istore (lv' := [(6, .int r8), (5, .int (nI c8)), (0, .ref b), (1, .ref hd), (2, .ref hm), (3, .ref oa), (4, .int (nI i))]) hx hb d_L_law_1376 hl (by decide) rfl (fun ls hl => ?_)
  refine lv_aload_n hx hb d_L_law_1378 rfl (lv_at hl 4 rfl) ?_
  have hPc := hP.sub (ws' := [(hm, .inr (2, [.int (nI c8), .int (nI M), .ref cl, .ref sa, .ref pa, .int k8])), (cl, .inl (cL, 32768, .inr (.inl (pkF (τ5))))), (sa, .inl (cI, 4, .inl (fun i9 => nI ((τ5) i9).2.1))), (pa, .inl (cI, 4, .inl (fun i9 => nI ((τ5) i9).2.2)))]) [11, 12, 13, 14] rfl
  have hKc := hK.sub (tys' := [(cL, .long), (cI, .int)]) [2, 3] rfl
  refine vp_callSi (W.runV (As := []) (rest := []) ⟨hx, hb, hml, hown, hA⟩ (c_M_thrown l D cL cI hm cl sa pa M (nI c8) k8 τ5) (q_M_thrown hA k2_233 rfl rfl ⟨(Nat.le_of_ble_eq_true rfl), (Nat.le_of_ble_eq_true rfl)⟩) (ox_V (va_recv hKc hPc (ci := 2) (q0 := 0) rfl rfl) (ox_S hPc hKc)) rfl rfl hl.1 rfl (lv_room (Nat.le_of_ble_eq_true rfl)) d_L_law_1379 ⟨(by show cells + 1 + 0 + 0 ≤ 601024; omega), (by show slots + 6 + 0 + 0 ≤ 7293000; omega)⟩) (fun r7 hr7 => ?_)
  subst hr7
  refine lv_iload hx hb d_L_law_1382 (lv_at hl 1 rfl) ?_
  refine lv_icmp_eq (tgt := 1389) hx hb d_L_law_1384 (by decide) (fun _ => ?_) (fun q9 => absurd rfl q9)
  refine lv_iload hx hb d_L_law_1389 (lv_at hl 1 rfl) ?_
  refine lv_if_ne (tgt := 1406) hx hb d_L_law_1391 (by decide) (fun c1391 => ?_) (fun c1391 => ?_)
  · refine lv_goto (tgt := 1700) hx hb d_L_law_1406 (by decide) ?_
    exact K τ5 f5 (nI c8) k8 H locs hσ8 hP hD hS ls (lv_sub hl [2, 3, 4, 5, 6] rfl)
  · refine lv_aload_n hx hb d_L_law_1394 rfl (lv_at hl 5 rfl) ?_
    refine lv_iconst (v := 0) hx hb d_L_law_1395 (by decide) ?_
    have hc0 : c8 = 0 := (nI_eq (b := 0) (by omega) (by omega)).mp c1391
    have h53 := h53 hc0
    refine va_lald hx hb hK hP 10 2 rfl rfl (by unfold vp_in; decide) d_L_law_1396 ?_
    refine lv_topl (fun v1396 ev1396 => ?_)
    have ev1396 : v1396 = r8.toInt64 := by rw [ev1396, sb_cl0]; exact h53
    subst ev1396
    refine lv_iload hx hb d_L_law_1397 (lv_at hl 0 rfl) ?_
    refine lv_i2l hx hb d_L_law_1399 rfl ?_
    refine lv_topl (fun v1399 ev1399 => ?_)
    refine W.lcmp hx hb d_L_law_1400 ?_
    refine lv_topi (fun v1400 ev1400 => ?_)
    refine lv_if_eq (tgt := 1406) hx hb d_L_law_1401 (by decide) (fun _ => ?_) (fun q9 => absurd (by rw [ev1400, ev1399]; exact (lg_cmp_eq _ _).mpr rfl) q9)
    refine lv_goto (tgt := 1700) hx hb d_L_law_1406 (by decide) ?_
    exact K τ5 f5 (nI c8) k8 H locs hσ8 hP hD hS ls (lv_sub hl [2, 3, 4, 5, 6] rfl)
set_option maxHeartbeats 2000000 in
set_option maxRecDepth 100000 in
/-- the law at sum -/
theorem k_sum {p : Program} {l : Launch} {e : Env} {s : State} {m : MethodId} {below : List Frame} {meth : Method} {c : Code} (hL0 : l.stackTraces = false) {b L : Nat} {xs : Nat → Int32} (hL : L ≤ 2561) (hx : p.tables.exec = Jvm.exec) (hb : c.code = code) (hml : c.maxLocals = 8) (hown : s.vm.findClass R_L = some m.cls) (hA : ∀ w ∈ wsA, w.before #[Value.ref b] s = true) (hX : va_X b L xs s s.heap) (hbl : b < s.heap.size) (hG : tx_G s) (hN : tx_N s) {D : va_G} {cR cB cL cI : ClassId} {hd ra oa hm cl sa pa : Nat} {g : Nat → Option Nat} {M : Nat} {y b2 : Nat → Nat} (hg : ∀ i, i < 4 → g i = some (y i)) (hK : va_K D vCl [(cB, .byte), (cR, .object "PacketDesk$Row"), (cL, .long), (cI, .int)] s) (σ : dkS) (f0 : Nat → Int64) (th tk : Int32) (hσ : dkok M σ) (i : Nat) (hi : i + 5 ≤ L) (cells slots : Nat) (hce : cells + 10 ≤ 601024) (hsl : slots + 100 ≤ 7293000) (H : Heap) (locs : List Loc) (hP : va_P D vCl [(hd, .inr (0, [.ref ra])), (ra, .inl (cR, 4, .inr (.inr (.inr (.inr g))))), ((y 0), .inr (1, [.ref (b2 0), .int (nI ((σ) 0).2.1), .int (nI ((σ) 0).2.2)])), ((b2 0), .inl (cB, M, .inl (fun j => sb_b (((σ) 0).1 j)))), ((y 1), .inr (1, [.ref (b2 1), .int (nI ((σ) 1).2.1), .int (nI ((σ) 1).2.2)])), ((b2 1), .inl (cB, M, .inl (fun j => sb_b (((σ) 1).1 j)))), ((y 2), .inr (1, [.ref (b2 2), .int (nI ((σ) 2).2.1), .int (nI ((σ) 2).2.2)])), ((b2 2), .inl (cB, M, .inl (fun j => sb_b (((σ) 2).1 j)))), ((y 3), .inr (1, [.ref (b2 3), .int (nI ((σ) 3).2.1), .int (nI ((σ) 3).2.2)])), ((b2 3), .inl (cB, M, .inl (fun j => sb_b (((σ) 3).1 j)))), (oa, .inl (cL, 1, .inr (.inl f0))), (hm, .inr (2, [.int th, .int (nI M), .ref cl, .ref sa, .ref pa, .int tk])), (cl, .inl (cL, 32768, .inr (.inl (pkF (σ))))), (sa, .inl (cI, 4, .inl (fun i9 => nI ((σ) i9).2.1))), (pa, .inl (cI, 4, .inl (fun i9 => nI ((σ) i9).2.2)))] H) (hD : va_D (fun q : Nat => s.heap.size ≤ q) [(hd, .inr (0, [.ref ra])), (ra, .inl (cR, 4, .inr (.inr (.inr (.inr g))))), ((y 0), .inr (1, [.ref (b2 0), .int (nI ((σ) 0).2.1), .int (nI ((σ) 0).2.2)])), ((b2 0), .inl (cB, M, .inl (fun j => sb_b (((σ) 0).1 j)))), ((y 1), .inr (1, [.ref (b2 1), .int (nI ((σ) 1).2.1), .int (nI ((σ) 1).2.2)])), ((b2 1), .inl (cB, M, .inl (fun j => sb_b (((σ) 1).1 j)))), ((y 2), .inr (1, [.ref (b2 2), .int (nI ((σ) 2).2.1), .int (nI ((σ) 2).2.2)])), ((b2 2), .inl (cB, M, .inl (fun j => sb_b (((σ) 2).1 j)))), ((y 3), .inr (1, [.ref (b2 3), .int (nI ((σ) 3).2.1), .int (nI ((σ) 3).2.2)])), ((b2 3), .inl (cB, M, .inl (fun j => sb_b (((σ) 3).1 j)))), (oa, .inl (cL, 1, .inr (.inl f0))), (hm, .inr (2, [.int th, .int (nI M), .ref cl, .ref sa, .ref pa, .int tk])), (cl, .inl (cL, 32768, .inr (.inl (pkF (σ))))), (sa, .inl (cI, 4, .inl (fun i9 => nI ((σ) i9).2.1))), (pa, .inl (cI, 4, .inl (fun i9 => nI ((σ) i9).2.2)))]) (hS : va_S (fun q : Nat => s.heap.size ≤ q) s.heap H locs) (ls : Array Slot) (hl : lv_has ls 8 [(0, .ref b), (1, .ref hd), (2, .ref hm), (3, .ref oa), (4, .int (nI i))]) (K : ∀ (σ' : dkS) (f' : Nat → Int64) (th' tk' : Int32) (H' : Heap) (locs' : List Loc), dkok M σ' → va_P D vCl [(hd, .inr (0, [.ref ra])), (ra, .inl (cR, 4, .inr (.inr (.inr (.inr g))))), ((y 0), .inr (1, [.ref (b2 0), .int (nI ((σ') 0).2.1), .int (nI ((σ') 0).2.2)])), ((b2 0), .inl (cB, M, .inl (fun j => sb_b (((σ') 0).1 j)))), ((y 1), .inr (1, [.ref (b2 1), .int (nI ((σ') 1).2.1), .int (nI ((σ') 1).2.2)])), ((b2 1), .inl (cB, M, .inl (fun j => sb_b (((σ') 1).1 j)))), ((y 2), .inr (1, [.ref (b2 2), .int (nI ((σ') 2).2.1), .int (nI ((σ') 2).2.2)])), ((b2 2), .inl (cB, M, .inl (fun j => sb_b (((σ') 2).1 j)))), ((y 3), .inr (1, [.ref (b2 3), .int (nI ((σ') 3).2.1), .int (nI ((σ') 3).2.2)])), ((b2 3), .inl (cB, M, .inl (fun j => sb_b (((σ') 3).1 j)))), (oa, .inl (cL, 1, .inr (.inl f'))), (hm, .inr (2, [.int th', .int (nI M), .ref cl, .ref sa, .ref pa, .int tk'])), (cl, .inl (cL, 32768, .inr (.inl (pkF (σ'))))), (sa, .inl (cI, 4, .inl (fun i9 => nI ((σ') i9).2.1))), (pa, .inl (cI, 4, .inl (fun i9 => nI ((σ') i9).2.2)))] H' → va_D (fun q : Nat => s.heap.size ≤ q) [(hd, .inr (0, [.ref ra])), (ra, .inl (cR, 4, .inr (.inr (.inr (.inr g))))), ((y 0), .inr (1, [.ref (b2 0), .int (nI ((σ') 0).2.1), .int (nI ((σ') 0).2.2)])), ((b2 0), .inl (cB, M, .inl (fun j => sb_b (((σ') 0).1 j)))), ((y 1), .inr (1, [.ref (b2 1), .int (nI ((σ') 1).2.1), .int (nI ((σ') 1).2.2)])), ((b2 1), .inl (cB, M, .inl (fun j => sb_b (((σ') 1).1 j)))), ((y 2), .inr (1, [.ref (b2 2), .int (nI ((σ') 2).2.1), .int (nI ((σ') 2).2.2)])), ((b2 2), .inl (cB, M, .inl (fun j => sb_b (((σ') 2).1 j)))), ((y 3), .inr (1, [.ref (b2 3), .int (nI ((σ') 3).2.1), .int (nI ((σ') 3).2.2)])), ((b2 3), .inl (cB, M, .inl (fun j => sb_b (((σ') 3).1 j)))), (oa, .inl (cL, 1, .inr (.inl f'))), (hm, .inr (2, [.int th', .int (nI M), .ref cl, .ref sa, .ref pa, .int tk'])), (cl, .inl (cL, 32768, .inr (.inl (pkF (σ'))))), (sa, .inl (cI, 4, .inl (fun i9 => nI ((σ') i9).2.1))), (pa, .inl (cI, 4, .inl (fun i9 => nI ((σ') i9).2.2)))] → va_S (fun q : Nat => s.heap.size ≤ q) s.heap H' locs' → ∀ ls' : Array Slot, lv_has ls' 8 [(0, .ref b), (1, .ref hd), (2, .ref hm), (3, .ref oa), (4, .int (nI i))] → W p l e room_1 s m #[Value.ref b] below meth c H' locs' (cells + 1) (slots + 6) (lw_Z below #[Value.ref b] s) (F0 m 1700 ls' [])) : W p l e room_1 s m #[Value.ref b] below meth c H locs cells slots (lw_Z below #[Value.ref b] s) (F0 m 1409 ls []) := by
  have hAq : ∀ q : Nat, s.heap.size ≤ q → (fun q : Nat => s.heap.size ≤ q) q := fun _ h => h
  have hbA : ¬ (fun q : Nat => s.heap.size ≤ q) b := Nat.not_le.mpr hbl
  refine lv_aload_n hx hb d_L_law_1409 rfl (lv_at hl 1 rfl) ?_
  refine lv_aload_n hx hb d_L_law_1410 rfl (lv_at hl 0 rfl) ?_
  refine lv_iload hx hb d_L_law_1411 (lv_at hl 4 rfl) ?_
  refine lv_iconst (v := 1) hx hb d_L_law_1413 (by decide) ?_
  refine lv_iadd hx hb d_L_law_1414 ?_
  refine lv_topi (fun v1414 ev1414 => ?_)
  have ev1414 : v1414 = nI (i + 1) := by rw [ev1414]; exact nI_add i 1
  subst ev1414
  refine va_sld hx hb hX hbl hbA hS (vp_in_nI (n := i + 1) (N := L) (by omega) (by omega)) d_L_law_1415 ?_
  refine lv_topi (fun v1415 ev1415 => ?_)
  have ev1415 : v1415 = xs (i + 1) := by rw [ev1415, nI_clamp (by omega)]
  subst ev1415
  refine lv_aload_n hx hb d_L_law_1416 rfl (lv_at hl 0 rfl) ?_
  refine lv_iload hx hb d_L_law_1417 (lv_at hl 4 rfl) ?_
  refine lv_iconst (v := 2) hx hb d_L_law_1419 (by decide) ?_
  refine lv_iadd hx hb d_L_law_1420 ?_
  refine lv_topi (fun v1420 ev1420 => ?_)
  have ev1420 : v1420 = nI (i + 2) := by rw [ev1420]; exact nI_add i 2
  subst ev1420
  refine va_sld hx hb hX hbl hbA hS (vp_in_nI (n := i + 2) (N := L) (by omega) (by omega)) d_L_law_1421 ?_
  refine lv_topi (fun v1421 ev1421 => ?_)
  have ev1421 : v1421 = xs (i + 2) := by rw [ev1421, nI_clamp (by omega)]
  subst ev1421
  refine lv_aload_n hx hb d_L_law_1422 rfl (lv_at hl 0 rfl) ?_
  refine lv_iload hx hb d_L_law_1423 (lv_at hl 4 rfl) ?_
  refine lv_iconst (v := 3) hx hb d_L_law_1425 (by decide) ?_
  refine lv_iadd hx hb d_L_law_1426 ?_
  refine lv_topi (fun v1426 ev1426 => ?_)
  have ev1426 : v1426 = nI (i + 3) := by rw [ev1426]; exact nI_add i 3
  subst ev1426
  refine va_sld hx hb hX hbl hbA hS (vp_in_nI (n := i + 3) (N := L) (by omega) (by omega)) d_L_law_1427 ?_
  refine lv_topi (fun v1427 ev1427 => ?_)
  have ev1427 : v1427 = xs (i + 3) := by rw [ev1427, nI_clamp (by omega)]
  subst ev1427
  refine lv_aload_n hx hb d_L_law_1428 rfl (lv_at hl 3 rfl) ?_
  have hPc := hP.sub (ws' := [(hd, .inr (0, [.ref ra])), (ra, .inl (cR, 4, .inr (.inr (.inr (.inr g))))), ((y 0), .inr (1, [.ref (b2 0), .int (nI ((σ) 0).2.1), .int (nI ((σ) 0).2.2)])), ((b2 0), .inl (cB, M, .inl (fun j => sb_b (((σ) 0).1 j)))), ((y 1), .inr (1, [.ref (b2 1), .int (nI ((σ) 1).2.1), .int (nI ((σ) 1).2.2)])), ((b2 1), .inl (cB, M, .inl (fun j => sb_b (((σ) 1).1 j)))), ((y 2), .inr (1, [.ref (b2 2), .int (nI ((σ) 2).2.1), .int (nI ((σ) 2).2.2)])), ((b2 2), .inl (cB, M, .inl (fun j => sb_b (((σ) 2).1 j)))), ((y 3), .inr (1, [.ref (b2 3), .int (nI ((σ) 3).2.1), .int (nI ((σ) 3).2.2)])), ((b2 3), .inl (cB, M, .inl (fun j => sb_b (((σ) 3).1 j)))), (oa, .inl (cL, 1, .inr (.inl f0)))]) [0, 1, 2, 3, 4, 5, 6, 7, 8, 9, 10] rfl
  have hDc := hD.sub (ws' := [(hd, .inr (0, [.ref ra])), (ra, .inl (cR, 4, .inr (.inr (.inr (.inr g))))), ((y 0), .inr (1, [.ref (b2 0), .int (nI ((σ) 0).2.1), .int (nI ((σ) 0).2.2)])), ((b2 0), .inl (cB, M, .inl (fun j => sb_b (((σ) 0).1 j)))), ((y 1), .inr (1, [.ref (b2 1), .int (nI ((σ) 1).2.1), .int (nI ((σ) 1).2.2)])), ((b2 1), .inl (cB, M, .inl (fun j => sb_b (((σ) 1).1 j)))), ((y 2), .inr (1, [.ref (b2 2), .int (nI ((σ) 2).2.1), .int (nI ((σ) 2).2.2)])), ((b2 2), .inl (cB, M, .inl (fun j => sb_b (((σ) 2).1 j)))), ((y 3), .inr (1, [.ref (b2 3), .int (nI ((σ) 3).2.1), .int (nI ((σ) 3).2.2)])), ((b2 3), .inl (cB, M, .inl (fun j => sb_b (((σ) 3).1 j)))), (oa, .inl (cL, 1, .inr (.inl f0)))]) [0, 1, 2, 3, 4, 5, 6, 7, 8, 9, 10] (by decide) rfl
  have hKc := hK.sub (tys' := [(cB, .byte), (cR, .object "PacketDesk$Row"), (cL, .long)]) [0, 1, 2] rfl
  have hFc := va_free (wc := [(hd, .inr (0, [.ref ra])), (ra, .inl (cR, 4, .inr (.inr (.inr (.inr g))))), ((y 0), .inr (1, [.ref (b2 0), .int (nI ((σ) 0).2.1), .int (nI ((σ) 0).2.2)])), ((b2 0), .inl (cB, M, .inl (fun j => sb_b (((σ) 0).1 j)))), ((y 1), .inr (1, [.ref (b2 1), .int (nI ((σ) 1).2.1), .int (nI ((σ) 1).2.2)])), ((b2 1), .inl (cB, M, .inl (fun j => sb_b (((σ) 1).1 j)))), ((y 2), .inr (1, [.ref (b2 2), .int (nI ((σ) 2).2.1), .int (nI ((σ) 2).2.2)])), ((b2 2), .inl (cB, M, .inl (fun j => sb_b (((σ) 2).1 j)))), ((y 3), .inr (1, [.ref (b2 3), .int (nI ((σ) 3).2.1), .int (nI ((σ) 3).2.2)])), ((b2 3), .inl (cB, M, .inl (fun j => sb_b (((σ) 3).1 j)))), (oa, .inl (cL, 1, .inr (.inl f0)))]) hD hS hAq [0, 1, 2, 3, 4, 5, 6, 7, 8, 9, 10] rfl
  have hh9 : ∀ q : Nat, q < s.heap.size → H[q]? = s.heap[q]? := fun q h => hS.2.1 q h (Nat.not_le.mpr h)
  refine lx_wi (lx_runS (As := [.ref hd, .int (xs (i + 1)), .int (xs (i + 2)), .int (xs (i + 3)), .ref oa]) (rest := []) ⟨hx, hb, hml, hown, hA⟩ (c_L_sum l hL0 D cR cB cL hd ra oa g M y b2 σ f0 H.size (xs (i + 1)) (xs (i + 2)) (xs (i + 3)) hg hσ) (q_L_sum hA k2_174 rfl rfl ⟨(Nat.le_of_ble_eq_true rfl), (Nat.le_of_ble_eq_true rfl)⟩) (oxn_S hPc hKc hDc hG hh9 hN) rfl rfl hl.1 rfl (lv_room (Nat.le_of_ble_eq_true rfl)) d_L_law_1429 ⟨(by show cells + 2 ≤ 601024; omega), (by show slots + 12 ≤ 7293000; omega)⟩) hS (fun q _ h => hFc q h) hFc (fun r5 u5 t9 H1 locs ht9 hvm9 hw5 hB9 hz1 hk1 hS => ?_)
  obtain ⟨τ5, f5⟩ := u5
  obtain ⟨hP1, hK1, hD1⟩ := hB9
  rw [ht9] at hP1
  obtain ⟨hP, hD⟩ := va_join (wr := [(hm, .inr (2, [.int th, .int (nI M), .ref cl, .ref sa, .ref pa, .int tk])), (cl, .inl (cL, 32768, .inr (.inl (pkF (σ))))), (sa, .inl (cI, 4, .inl (fun i9 => nI ((σ) i9).2.1))), (pa, .inl (cI, 4, .inl (fun i9 => nI ((σ) i9).2.2)))]) (w1 := [(hd, .inr (0, [.ref ra])), (ra, .inl (cR, 4, .inr (.inr (.inr (.inr g))))), ((y 0), .inr (1, [.ref (b2 0), .int (nI ((τ5) 0).2.1), .int (nI ((τ5) 0).2.2)])), ((b2 0), .inl (cB, M, .inl (fun j => sb_b (((τ5) 0).1 j)))), ((y 1), .inr (1, [.ref (b2 1), .int (nI ((τ5) 1).2.1), .int (nI ((τ5) 1).2.2)])), ((b2 1), .inl (cB, M, .inl (fun j => sb_b (((τ5) 1).1 j)))), ((y 2), .inr (1, [.ref (b2 2), .int (nI ((τ5) 2).2.1), .int (nI ((τ5) 2).2.2)])), ((b2 2), .inl (cB, M, .inl (fun j => sb_b (((τ5) 2).1 j)))), ((y 3), .inr (1, [.ref (b2 3), .int (nI ((τ5) 3).2.1), .int (nI ((τ5) 3).2.2)])), ((b2 3), .inl (cB, M, .inl (fun j => sb_b (((τ5) 3).1 j)))), (oa, .inl (cL, 1, .inr (.inl f5)))]) hP hD [0, 1, 2, 3, 4, 5, 6, 7, 8, 9, 10] [11, 12, 13, 14] rfl rfl (by decide) (by decide) hk1 hFc hP1 hD1
  generalize H1 = H at hP hS ⊢
  have hP : va_P D vCl [(hd, .inr (0, [.ref ra])), (ra, .inl (cR, 4, .inr (.inr (.inr (.inr g))))), ((y 0), .inr (1, [.ref (b2 0), .int (nI ((τ5) 0).2.1), .int (nI ((τ5) 0).2.2)])), ((b2 0), .inl (cB, M, .inl (fun j => sb_b (((τ5) 0).1 j)))), ((y 1), .inr (1, [.ref (b2 1), .int (nI ((τ5) 1).2.1), .int (nI ((τ5) 1).2.2)])), ((b2 1), .inl (cB, M, .inl (fun j => sb_b (((τ5) 1).1 j)))), ((y 2), .inr (1, [.ref (b2 2), .int (nI ((τ5) 2).2.1), .int (nI ((τ5) 2).2.2)])), ((b2 2), .inl (cB, M, .inl (fun j => sb_b (((τ5) 2).1 j)))), ((y 3), .inr (1, [.ref (b2 3), .int (nI ((τ5) 3).2.1), .int (nI ((τ5) 3).2.2)])), ((b2 3), .inl (cB, M, .inl (fun j => sb_b (((τ5) 3).1 j)))), (oa, .inl (cL, 1, .inr (.inl f5))), (hm, .inr (2, [.int th, .int (nI M), .ref cl, .ref sa, .ref pa, .int tk])), (cl, .inl (cL, 32768, .inr (.inl (pkF (σ))))), (sa, .inl (cI, 4, .inl (fun i9 => nI ((σ) i9).2.1))), (pa, .inl (cI, 4, .inl (fun i9 => nI ((σ) i9).2.2)))] H := hP.sub [4, 5, 6, 7, 8, 9, 10, 11, 12, 13, 14, 0, 1, 2, 3] rfl
  have hD : va_D (fun q : Nat => s.heap.size ≤ q) [(hd, .inr (0, [.ref ra])), (ra, .inl (cR, 4, .inr (.inr (.inr (.inr g))))), ((y 0), .inr (1, [.ref (b2 0), .int (nI ((τ5) 0).2.1), .int (nI ((τ5) 0).2.2)])), ((b2 0), .inl (cB, M, .inl (fun j => sb_b (((τ5) 0).1 j)))), ((y 1), .inr (1, [.ref (b2 1), .int (nI ((τ5) 1).2.1), .int (nI ((τ5) 1).2.2)])), ((b2 1), .inl (cB, M, .inl (fun j => sb_b (((τ5) 1).1 j)))), ((y 2), .inr (1, [.ref (b2 2), .int (nI ((τ5) 2).2.1), .int (nI ((τ5) 2).2.2)])), ((b2 2), .inl (cB, M, .inl (fun j => sb_b (((τ5) 2).1 j)))), ((y 3), .inr (1, [.ref (b2 3), .int (nI ((τ5) 3).2.1), .int (nI ((τ5) 3).2.2)])), ((b2 3), .inl (cB, M, .inl (fun j => sb_b (((τ5) 3).1 j)))), (oa, .inl (cL, 1, .inr (.inl f5))), (hm, .inr (2, [.int th, .int (nI M), .ref cl, .ref sa, .ref pa, .int tk])), (cl, .inl (cL, 32768, .inr (.inl (pkF (σ))))), (sa, .inl (cI, 4, .inl (fun i9 => nI ((σ) i9).2.1))), (pa, .inl (cI, 4, .inl (fun i9 => nI ((σ) i9).2.2)))] := hD.sub [4, 5, 6, 7, 8, 9, 10, 11, 12, 13, 14, 0, 1, 2, 3] (by decide) rfl
  obtain ⟨h51, h52, h53⟩ := hw5
  refine lv_istore (lv' := [(5, .int r5), (0, .ref b), (1, .ref hd), (2, .ref hm), (3, .ref oa), (4, .int (nI i))]) hx hb d_L_law_1432 hl (by decide) rfl (fun ls hl => ?_)
  refine lv_aload_n hx hb d_L_law_1434 rfl (lv_at hl 3 rfl) ?_
  refine lv_aload_n hx hb d_L_law_1435 rfl (lv_at hl 1 rfl) ?_
  refine lv_iload hx hb d_L_law_1436 (lv_at hl 5 rfl) ?_
  refine lv_iconst (v := 1) hx hb d_L_law_1438 (by decide) ?_
  refine lv_iadd hx hb d_L_law_1439 ?_
  refine lv_topi (fun v1439 ev1439 => ?_)
  have ev1439 : v1439 = nI (i + 1) := by rw [ev1439]; exact nI_add i 1
  subst ev1439
  refine va_sld hx hb hX hbl hbA hS (vp_in_nI (n := i + 1) (N := L) (by omega) (by omega)) d_L_law_1440 ?_
  refine lv_topi (fun v1440 ev1440 => ?_)
  have ev1440 : v1440 = xs (i + 1) := by rw [ev1440, nI_clamp (by omega)]
  subst ev1440
  refine lv_aload_n hx hb d_L_law_1441 rfl (lv_at hl 1 rfl) ?_
  refine lv_iload hx hb d_L_law_1442 (lv_at hl 5 rfl) ?_
  refine lv_iconst (v := 2) hx hb d_L_law_1444 (by decide) ?_
  refine lv_iadd hx hb d_L_law_1445 ?_
  refine lv_topi (fun v1445 ev1445 => ?_)
  have ev1445 : v1445 = nI (i + 2) := by rw [ev1445]; exact nI_add i 2
  subst ev1445
  refine va_sld hx hb hX hbl hbA hS (vp_in_nI (n := i + 2) (N := L) (by omega) (by omega)) d_L_law_1446 ?_
  refine lv_topi (fun v1446 ev1446 => ?_)
  have ev1446 : v1446 = xs (i + 2) := by rw [ev1446, nI_clamp (by omega)]
  subst ev1446
  refine lv_aload_n hx hb d_L_law_1447 rfl (lv_at hl 1 rfl) ?_
  refine lv_iload hx hb d_L_law_1448 (lv_at hl 5 rfl) ?_
  refine lv_iconst (v := 3) hx hb d_L_law_1450 (by decide) ?_
  refine lv_iadd hx hb d_L_law_1451 ?_
  refine lv_topi (fun v1451 ev1451 => ?_)
  have ev1451 : v1451 = nI (i + 3) := by rw [ev1451]; exact nI_add i 3
  subst ev1451
  refine va_sld hx hb hX hbl hbA hS (vp_in_nI (n := i + 3) (N := L) (by omega) (by omega)) d_L_law_1452 ?_
  refine lv_topi (fun v1452 ev1452 => ?_)
  have ev1452 : v1452 = xs (i + 3) := by rw [ev1452, nI_clamp (by omega)]
  subst ev1452
  have hPc := hP.sub (ws' := [(hm, .inr (2, [.int th, .int (nI M), .ref cl, .ref sa, .ref pa, .int tk])), (cl, .inl (cL, 32768, .inr (.inl (pkF (σ))))), (sa, .inl (cI, 4, .inl (fun i9 => nI ((σ) i9).2.1))), (pa, .inl (cI, 4, .inl (fun i9 => nI ((σ) i9).2.2)))]) [11, 12, 13, 14] rfl
  have hDc := hD.sub (ws' := [(hm, .inr (2, [.int th, .int (nI M), .ref cl, .ref sa, .ref pa, .int tk])), (cl, .inl (cL, 32768, .inr (.inl (pkF (σ))))), (sa, .inl (cI, 4, .inl (fun i9 => nI ((σ) i9).2.1))), (pa, .inl (cI, 4, .inl (fun i9 => nI ((σ) i9).2.2)))]) [11, 12, 13, 14] (by decide) rfl
  have hKc := hK.sub (tys' := [(cL, .long), (cI, .int)]) [2, 3] rfl
  have hFc := va_free (wc := [(hm, .inr (2, [.int th, .int (nI M), .ref cl, .ref sa, .ref pa, .int tk])), (cl, .inl (cL, 32768, .inr (.inl (pkF (σ))))), (sa, .inl (cI, 4, .inl (fun i9 => nI ((σ) i9).2.1))), (pa, .inl (cI, 4, .inl (fun i9 => nI ((σ) i9).2.2)))]) hD hS hAq [11, 12, 13, 14] rfl
  refine va_calli (va_runV (As := [.int (xs (i + 1)), .int (xs (i + 2)), .int (xs (i + 3))]) (rest := []) ⟨hx, hb, hml, hown, hA⟩ (c_M_sum l D cL cI hm cl sa pa M th tk σ H.size (xs (i + 1)) (xs (i + 2)) (xs (i + 3)) hσ) (q_M_sum hA k3_152 rfl rfl ⟨(Nat.le_of_ble_eq_true rfl), (Nat.le_of_ble_eq_true rfl)⟩) (ox_V (va_recv hKc hPc (ci := 2) (q0 := 0) rfl rfl) (oxw_S hPc hKc hDc)) rfl rfl hl.1 rfl (lv_room (Nat.le_of_ble_eq_true rfl)) d_L_law_1453 ⟨(by show cells + 1 + 0 ≤ 601024; omega), (by show slots + 6 + 0 ≤ 7293000; omega)⟩) hS (fun q _ h => hFc q h) hFc (fun r8 u8 t9 H1 locs ht9 hvm9 hw8 hB9 hz1 hk1 hS => ?_)
  obtain ⟨c8, τ8, k8⟩ := u8
  replace hw8 : spSum σ (xs (i + 1)) (xs (i + 2)) (xs (i + 3)) = (c8, r8, τ8) := hw8
  obtain ⟨hP1, hK1, hD1⟩ := hB9
  rw [ht9] at hP1
  obtain ⟨hP, hD⟩ := va_join (wr := [(hd, .inr (0, [.ref ra])), (ra, .inl (cR, 4, .inr (.inr (.inr (.inr g))))), ((y 0), .inr (1, [.ref (b2 0), .int (nI ((τ5) 0).2.1), .int (nI ((τ5) 0).2.2)])), ((b2 0), .inl (cB, M, .inl (fun j => sb_b (((τ5) 0).1 j)))), ((y 1), .inr (1, [.ref (b2 1), .int (nI ((τ5) 1).2.1), .int (nI ((τ5) 1).2.2)])), ((b2 1), .inl (cB, M, .inl (fun j => sb_b (((τ5) 1).1 j)))), ((y 2), .inr (1, [.ref (b2 2), .int (nI ((τ5) 2).2.1), .int (nI ((τ5) 2).2.2)])), ((b2 2), .inl (cB, M, .inl (fun j => sb_b (((τ5) 2).1 j)))), ((y 3), .inr (1, [.ref (b2 3), .int (nI ((τ5) 3).2.1), .int (nI ((τ5) 3).2.2)])), ((b2 3), .inl (cB, M, .inl (fun j => sb_b (((τ5) 3).1 j)))), (oa, .inl (cL, 1, .inr (.inl f5)))]) (w1 := [(hm, .inr (2, [.int (nI c8), .int (nI M), .ref cl, .ref sa, .ref pa, .int k8])), (cl, .inl (cL, 32768, .inr (.inl (pkF (τ8))))), (sa, .inl (cI, 4, .inl (fun i9 => nI ((τ8) i9).2.1))), (pa, .inl (cI, 4, .inl (fun i9 => nI ((τ8) i9).2.2)))]) hP hD [11, 12, 13, 14] [0, 1, 2, 3, 4, 5, 6, 7, 8, 9, 10] rfl rfl (by decide) (by decide) hk1 hFc hP1 hD1
  generalize H1 = H at hP hS ⊢
  have hP : va_P D vCl [(hd, .inr (0, [.ref ra])), (ra, .inl (cR, 4, .inr (.inr (.inr (.inr g))))), ((y 0), .inr (1, [.ref (b2 0), .int (nI ((τ5) 0).2.1), .int (nI ((τ5) 0).2.2)])), ((b2 0), .inl (cB, M, .inl (fun j => sb_b (((τ5) 0).1 j)))), ((y 1), .inr (1, [.ref (b2 1), .int (nI ((τ5) 1).2.1), .int (nI ((τ5) 1).2.2)])), ((b2 1), .inl (cB, M, .inl (fun j => sb_b (((τ5) 1).1 j)))), ((y 2), .inr (1, [.ref (b2 2), .int (nI ((τ5) 2).2.1), .int (nI ((τ5) 2).2.2)])), ((b2 2), .inl (cB, M, .inl (fun j => sb_b (((τ5) 2).1 j)))), ((y 3), .inr (1, [.ref (b2 3), .int (nI ((τ5) 3).2.1), .int (nI ((τ5) 3).2.2)])), ((b2 3), .inl (cB, M, .inl (fun j => sb_b (((τ5) 3).1 j)))), (oa, .inl (cL, 1, .inr (.inl f5))), (hm, .inr (2, [.int (nI c8), .int (nI M), .ref cl, .ref sa, .ref pa, .int k8])), (cl, .inl (cL, 32768, .inr (.inl (pkF (τ8))))), (sa, .inl (cI, 4, .inl (fun i9 => nI ((τ8) i9).2.1))), (pa, .inl (cI, 4, .inl (fun i9 => nI ((τ8) i9).2.2)))] H := hP
  have hD : va_D (fun q : Nat => s.heap.size ≤ q) [(hd, .inr (0, [.ref ra])), (ra, .inl (cR, 4, .inr (.inr (.inr (.inr g))))), ((y 0), .inr (1, [.ref (b2 0), .int (nI ((τ5) 0).2.1), .int (nI ((τ5) 0).2.2)])), ((b2 0), .inl (cB, M, .inl (fun j => sb_b (((τ5) 0).1 j)))), ((y 1), .inr (1, [.ref (b2 1), .int (nI ((τ5) 1).2.1), .int (nI ((τ5) 1).2.2)])), ((b2 1), .inl (cB, M, .inl (fun j => sb_b (((τ5) 1).1 j)))), ((y 2), .inr (1, [.ref (b2 2), .int (nI ((τ5) 2).2.1), .int (nI ((τ5) 2).2.2)])), ((b2 2), .inl (cB, M, .inl (fun j => sb_b (((τ5) 2).1 j)))), ((y 3), .inr (1, [.ref (b2 3), .int (nI ((τ5) 3).2.1), .int (nI ((τ5) 3).2.2)])), ((b2 3), .inl (cB, M, .inl (fun j => sb_b (((τ5) 3).1 j)))), (oa, .inl (cL, 1, .inr (.inl f5))), (hm, .inr (2, [.int (nI c8), .int (nI M), .ref cl, .ref sa, .ref pa, .int k8])), (cl, .inl (cL, 32768, .inr (.inl (pkF (τ8))))), (sa, .inl (cI, 4, .inl (fun i9 => nI ((τ8) i9).2.1))), (pa, .inl (cI, 4, .inl (fun i9 => nI ((τ8) i9).2.2)))] := hD
  have hc8 : c8 ≤ 4 := by have h9 := le_spSum σ (xs (i + 1)) (xs (i + 2)) (xs (i + 3)); rw [hw8] at h9; exact h9
  have hσ8 : dkok M τ8 := by have h9 := id_spSum σ (xs (i + 1)) (xs (i + 2)) (xs (i + 3)); rw [hw8] at h9; rw [show τ8 = σ from h9]; exact hσ
  rw [hw8] at h51 h52 h53
  have h51 : r5 = nI c8 := h51
  have h52 : τ5 = τ8 := h52
  have h53 : c8 = 0 → f5 0 = r8.toInt64 := h53
  subst h51
  subst h52
  refine lv_istore (lv' := [(6, .int r8), (5, .int (nI c8)), (0, .ref b), (1, .ref hd), (2, .ref hm), (3, .ref oa), (4, .int (nI i))]) hx hb d_L_law_1456 hl (by decide) rfl (fun ls hl => ?_)
  refine lv_aload_n hx hb d_L_law_1458 rfl (lv_at hl 4 rfl) ?_
  have hPc := hP.sub (ws' := [(hm, .inr (2, [.int (nI c8), .int (nI M), .ref cl, .ref sa, .ref pa, .int k8])), (cl, .inl (cL, 32768, .inr (.inl (pkF (τ5))))), (sa, .inl (cI, 4, .inl (fun i9 => nI ((τ5) i9).2.1))), (pa, .inl (cI, 4, .inl (fun i9 => nI ((τ5) i9).2.2)))]) [11, 12, 13, 14] rfl
  have hKc := hK.sub (tys' := [(cL, .long), (cI, .int)]) [2, 3] rfl
  refine vp_callSi (W.runV (As := []) (rest := []) ⟨hx, hb, hml, hown, hA⟩ (c_M_thrown l D cL cI hm cl sa pa M (nI c8) k8 τ5) (q_M_thrown hA k2_233 rfl rfl ⟨(Nat.le_of_ble_eq_true rfl), (Nat.le_of_ble_eq_true rfl)⟩) (ox_V (va_recv hKc hPc (ci := 2) (q0 := 0) rfl rfl) (ox_S hPc hKc)) rfl rfl hl.1 rfl (lv_room (Nat.le_of_ble_eq_true rfl)) d_L_law_1459 ⟨(by show cells + 1 + 0 + 0 ≤ 601024; omega), (by show slots + 6 + 0 + 0 ≤ 7293000; omega)⟩) (fun r7 hr7 => ?_)
  subst hr7
  refine lv_iload hx hb d_L_law_1462 (lv_at hl 1 rfl) ?_
  refine lv_icmp_eq (tgt := 1469) hx hb d_L_law_1464 (by decide) (fun _ => ?_) (fun q9 => absurd rfl q9)
  refine lv_iload hx hb d_L_law_1469 (lv_at hl 1 rfl) ?_
  refine lv_if_ne (tgt := 1486) hx hb d_L_law_1471 (by decide) (fun c1471 => ?_) (fun c1471 => ?_)
  · refine lv_goto (tgt := 1700) hx hb d_L_law_1486 (by decide) ?_
    exact K τ5 f5 (nI c8) k8 H locs hσ8 hP hD hS ls (lv_sub hl [2, 3, 4, 5, 6] rfl)
  · refine lv_aload_n hx hb d_L_law_1474 rfl (lv_at hl 5 rfl) ?_
    refine lv_iconst (v := 0) hx hb d_L_law_1475 (by decide) ?_
    have hc0 : c8 = 0 := (nI_eq (b := 0) (by omega) (by omega)).mp c1471
    have h53 := h53 hc0
    refine va_lald hx hb hK hP 10 2 rfl rfl (by unfold vp_in; decide) d_L_law_1476 ?_
    refine lv_topl (fun v1476 ev1476 => ?_)
    have ev1476 : v1476 = r8.toInt64 := by rw [ev1476, sb_cl0]; exact h53
    subst ev1476
    refine lv_iload hx hb d_L_law_1477 (lv_at hl 0 rfl) ?_
    refine lv_i2l hx hb d_L_law_1479 rfl ?_
    refine lv_topl (fun v1479 ev1479 => ?_)
    refine W.lcmp hx hb d_L_law_1480 ?_
    refine lv_topi (fun v1480 ev1480 => ?_)
    refine lv_if_eq (tgt := 1486) hx hb d_L_law_1481 (by decide) (fun _ => ?_) (fun q9 => absurd (by rw [ev1480, ev1479]; exact (lg_cmp_eq _ _).mpr rfl) q9)
    refine lv_goto (tgt := 1700) hx hb d_L_law_1486 (by decide) ?_
    exact K τ5 f5 (nI c8) k8 H locs hσ8 hP hD hS ls (lv_sub hl [2, 3, 4, 5, 6] rfl)
set_option maxHeartbeats 2000000 in
set_option maxRecDepth 100000 in
/-- the law at same -/
theorem k_same {p : Program} {l : Launch} {e : Env} {s : State} {m : MethodId} {below : List Frame} {meth : Method} {c : Code} (hL0 : l.stackTraces = false) {b L : Nat} {xs : Nat → Int32} (hL : L ≤ 2561) (hx : p.tables.exec = Jvm.exec) (hb : c.code = code) (hml : c.maxLocals = 8) (hown : s.vm.findClass R_L = some m.cls) (hA : ∀ w ∈ wsA, w.before #[Value.ref b] s = true) (hX : va_X b L xs s s.heap) (hbl : b < s.heap.size) (hG : tx_G s) (hN : tx_N s) {D : va_G} {cR cB cL cI : ClassId} {hd ra oa hm cl sa pa : Nat} {g : Nat → Option Nat} {M : Nat} {y b2 : Nat → Nat} (hg : ∀ i, i < 4 → g i = some (y i)) (hK : va_K D vCl [(cB, .byte), (cR, .object "PacketDesk$Row"), (cL, .long), (cI, .int)] s) (σ : dkS) (f0 : Nat → Int64) (th tk : Int32) (hσ : dkok M σ) (i : Nat) (hi : i + 5 ≤ L) (cells slots : Nat) (hce : cells + 10 ≤ 601024) (hsl : slots + 100 ≤ 7293000) (H : Heap) (locs : List Loc) (hP : va_P D vCl [(hd, .inr (0, [.ref ra])), (ra, .inl (cR, 4, .inr (.inr (.inr (.inr g))))), ((y 0), .inr (1, [.ref (b2 0), .int (nI ((σ) 0).2.1), .int (nI ((σ) 0).2.2)])), ((b2 0), .inl (cB, M, .inl (fun j => sb_b (((σ) 0).1 j)))), ((y 1), .inr (1, [.ref (b2 1), .int (nI ((σ) 1).2.1), .int (nI ((σ) 1).2.2)])), ((b2 1), .inl (cB, M, .inl (fun j => sb_b (((σ) 1).1 j)))), ((y 2), .inr (1, [.ref (b2 2), .int (nI ((σ) 2).2.1), .int (nI ((σ) 2).2.2)])), ((b2 2), .inl (cB, M, .inl (fun j => sb_b (((σ) 2).1 j)))), ((y 3), .inr (1, [.ref (b2 3), .int (nI ((σ) 3).2.1), .int (nI ((σ) 3).2.2)])), ((b2 3), .inl (cB, M, .inl (fun j => sb_b (((σ) 3).1 j)))), (oa, .inl (cL, 1, .inr (.inl f0))), (hm, .inr (2, [.int th, .int (nI M), .ref cl, .ref sa, .ref pa, .int tk])), (cl, .inl (cL, 32768, .inr (.inl (pkF (σ))))), (sa, .inl (cI, 4, .inl (fun i9 => nI ((σ) i9).2.1))), (pa, .inl (cI, 4, .inl (fun i9 => nI ((σ) i9).2.2)))] H) (hD : va_D (fun q : Nat => s.heap.size ≤ q) [(hd, .inr (0, [.ref ra])), (ra, .inl (cR, 4, .inr (.inr (.inr (.inr g))))), ((y 0), .inr (1, [.ref (b2 0), .int (nI ((σ) 0).2.1), .int (nI ((σ) 0).2.2)])), ((b2 0), .inl (cB, M, .inl (fun j => sb_b (((σ) 0).1 j)))), ((y 1), .inr (1, [.ref (b2 1), .int (nI ((σ) 1).2.1), .int (nI ((σ) 1).2.2)])), ((b2 1), .inl (cB, M, .inl (fun j => sb_b (((σ) 1).1 j)))), ((y 2), .inr (1, [.ref (b2 2), .int (nI ((σ) 2).2.1), .int (nI ((σ) 2).2.2)])), ((b2 2), .inl (cB, M, .inl (fun j => sb_b (((σ) 2).1 j)))), ((y 3), .inr (1, [.ref (b2 3), .int (nI ((σ) 3).2.1), .int (nI ((σ) 3).2.2)])), ((b2 3), .inl (cB, M, .inl (fun j => sb_b (((σ) 3).1 j)))), (oa, .inl (cL, 1, .inr (.inl f0))), (hm, .inr (2, [.int th, .int (nI M), .ref cl, .ref sa, .ref pa, .int tk])), (cl, .inl (cL, 32768, .inr (.inl (pkF (σ))))), (sa, .inl (cI, 4, .inl (fun i9 => nI ((σ) i9).2.1))), (pa, .inl (cI, 4, .inl (fun i9 => nI ((σ) i9).2.2)))]) (hS : va_S (fun q : Nat => s.heap.size ≤ q) s.heap H locs) (ls : Array Slot) (hl : lv_has ls 8 [(0, .ref b), (1, .ref hd), (2, .ref hm), (3, .ref oa), (4, .int (nI i))]) (K : ∀ (σ' : dkS) (f' : Nat → Int64) (th' tk' : Int32) (H' : Heap) (locs' : List Loc), dkok M σ' → va_P D vCl [(hd, .inr (0, [.ref ra])), (ra, .inl (cR, 4, .inr (.inr (.inr (.inr g))))), ((y 0), .inr (1, [.ref (b2 0), .int (nI ((σ') 0).2.1), .int (nI ((σ') 0).2.2)])), ((b2 0), .inl (cB, M, .inl (fun j => sb_b (((σ') 0).1 j)))), ((y 1), .inr (1, [.ref (b2 1), .int (nI ((σ') 1).2.1), .int (nI ((σ') 1).2.2)])), ((b2 1), .inl (cB, M, .inl (fun j => sb_b (((σ') 1).1 j)))), ((y 2), .inr (1, [.ref (b2 2), .int (nI ((σ') 2).2.1), .int (nI ((σ') 2).2.2)])), ((b2 2), .inl (cB, M, .inl (fun j => sb_b (((σ') 2).1 j)))), ((y 3), .inr (1, [.ref (b2 3), .int (nI ((σ') 3).2.1), .int (nI ((σ') 3).2.2)])), ((b2 3), .inl (cB, M, .inl (fun j => sb_b (((σ') 3).1 j)))), (oa, .inl (cL, 1, .inr (.inl f'))), (hm, .inr (2, [.int th', .int (nI M), .ref cl, .ref sa, .ref pa, .int tk'])), (cl, .inl (cL, 32768, .inr (.inl (pkF (σ'))))), (sa, .inl (cI, 4, .inl (fun i9 => nI ((σ') i9).2.1))), (pa, .inl (cI, 4, .inl (fun i9 => nI ((σ') i9).2.2)))] H' → va_D (fun q : Nat => s.heap.size ≤ q) [(hd, .inr (0, [.ref ra])), (ra, .inl (cR, 4, .inr (.inr (.inr (.inr g))))), ((y 0), .inr (1, [.ref (b2 0), .int (nI ((σ') 0).2.1), .int (nI ((σ') 0).2.2)])), ((b2 0), .inl (cB, M, .inl (fun j => sb_b (((σ') 0).1 j)))), ((y 1), .inr (1, [.ref (b2 1), .int (nI ((σ') 1).2.1), .int (nI ((σ') 1).2.2)])), ((b2 1), .inl (cB, M, .inl (fun j => sb_b (((σ') 1).1 j)))), ((y 2), .inr (1, [.ref (b2 2), .int (nI ((σ') 2).2.1), .int (nI ((σ') 2).2.2)])), ((b2 2), .inl (cB, M, .inl (fun j => sb_b (((σ') 2).1 j)))), ((y 3), .inr (1, [.ref (b2 3), .int (nI ((σ') 3).2.1), .int (nI ((σ') 3).2.2)])), ((b2 3), .inl (cB, M, .inl (fun j => sb_b (((σ') 3).1 j)))), (oa, .inl (cL, 1, .inr (.inl f'))), (hm, .inr (2, [.int th', .int (nI M), .ref cl, .ref sa, .ref pa, .int tk'])), (cl, .inl (cL, 32768, .inr (.inl (pkF (σ'))))), (sa, .inl (cI, 4, .inl (fun i9 => nI ((σ') i9).2.1))), (pa, .inl (cI, 4, .inl (fun i9 => nI ((σ') i9).2.2)))] → va_S (fun q : Nat => s.heap.size ≤ q) s.heap H' locs' → ∀ ls' : Array Slot, lv_has ls' 8 [(0, .ref b), (1, .ref hd), (2, .ref hm), (3, .ref oa), (4, .int (nI i))] → W p l e room_1 s m #[Value.ref b] below meth c H' locs' (cells + 1) (slots + 6) (lw_Z below #[Value.ref b] s) (F0 m 1700 ls' [])) : W p l e room_1 s m #[Value.ref b] below meth c H locs cells slots (lw_Z below #[Value.ref b] s) (F0 m 1489 ls []) := by
  have hAq : ∀ q : Nat, s.heap.size ≤ q → (fun q : Nat => s.heap.size ≤ q) q := fun _ h => h
  have hbA : ¬ (fun q : Nat => s.heap.size ≤ q) b := Nat.not_le.mpr hbl
  refine lv_aload_n hx hb d_L_law_1489 rfl (lv_at hl 1 rfl) ?_
  refine lv_aload_n hx hb d_L_law_1490 rfl (lv_at hl 0 rfl) ?_
  refine lv_iload hx hb d_L_law_1491 (lv_at hl 4 rfl) ?_
  refine lv_iconst (v := 1) hx hb d_L_law_1493 (by decide) ?_
  refine lv_iadd hx hb d_L_law_1494 ?_
  refine lv_topi (fun v1494 ev1494 => ?_)
  have ev1494 : v1494 = nI (i + 1) := by rw [ev1494]; exact nI_add i 1
  subst ev1494
  refine va_sld hx hb hX hbl hbA hS (vp_in_nI (n := i + 1) (N := L) (by omega) (by omega)) d_L_law_1495 ?_
  refine lv_topi (fun v1495 ev1495 => ?_)
  have ev1495 : v1495 = xs (i + 1) := by rw [ev1495, nI_clamp (by omega)]
  subst ev1495
  refine lv_aload_n hx hb d_L_law_1496 rfl (lv_at hl 0 rfl) ?_
  refine lv_iload hx hb d_L_law_1497 (lv_at hl 4 rfl) ?_
  refine lv_iconst (v := 2) hx hb d_L_law_1499 (by decide) ?_
  refine lv_iadd hx hb d_L_law_1500 ?_
  refine lv_topi (fun v1500 ev1500 => ?_)
  have ev1500 : v1500 = nI (i + 2) := by rw [ev1500]; exact nI_add i 2
  subst ev1500
  refine va_sld hx hb hX hbl hbA hS (vp_in_nI (n := i + 2) (N := L) (by omega) (by omega)) d_L_law_1501 ?_
  refine lv_topi (fun v1501 ev1501 => ?_)
  have ev1501 : v1501 = xs (i + 2) := by rw [ev1501, nI_clamp (by omega)]
  subst ev1501
  refine lv_aload_n hx hb d_L_law_1502 rfl (lv_at hl 3 rfl) ?_
  have hPc := hP.sub (ws' := [(hd, .inr (0, [.ref ra])), (ra, .inl (cR, 4, .inr (.inr (.inr (.inr g))))), ((y 0), .inr (1, [.ref (b2 0), .int (nI ((σ) 0).2.1), .int (nI ((σ) 0).2.2)])), ((b2 0), .inl (cB, M, .inl (fun j => sb_b (((σ) 0).1 j)))), ((y 1), .inr (1, [.ref (b2 1), .int (nI ((σ) 1).2.1), .int (nI ((σ) 1).2.2)])), ((b2 1), .inl (cB, M, .inl (fun j => sb_b (((σ) 1).1 j)))), ((y 2), .inr (1, [.ref (b2 2), .int (nI ((σ) 2).2.1), .int (nI ((σ) 2).2.2)])), ((b2 2), .inl (cB, M, .inl (fun j => sb_b (((σ) 2).1 j)))), ((y 3), .inr (1, [.ref (b2 3), .int (nI ((σ) 3).2.1), .int (nI ((σ) 3).2.2)])), ((b2 3), .inl (cB, M, .inl (fun j => sb_b (((σ) 3).1 j)))), (oa, .inl (cL, 1, .inr (.inl f0)))]) [0, 1, 2, 3, 4, 5, 6, 7, 8, 9, 10] rfl
  have hDc := hD.sub (ws' := [(hd, .inr (0, [.ref ra])), (ra, .inl (cR, 4, .inr (.inr (.inr (.inr g))))), ((y 0), .inr (1, [.ref (b2 0), .int (nI ((σ) 0).2.1), .int (nI ((σ) 0).2.2)])), ((b2 0), .inl (cB, M, .inl (fun j => sb_b (((σ) 0).1 j)))), ((y 1), .inr (1, [.ref (b2 1), .int (nI ((σ) 1).2.1), .int (nI ((σ) 1).2.2)])), ((b2 1), .inl (cB, M, .inl (fun j => sb_b (((σ) 1).1 j)))), ((y 2), .inr (1, [.ref (b2 2), .int (nI ((σ) 2).2.1), .int (nI ((σ) 2).2.2)])), ((b2 2), .inl (cB, M, .inl (fun j => sb_b (((σ) 2).1 j)))), ((y 3), .inr (1, [.ref (b2 3), .int (nI ((σ) 3).2.1), .int (nI ((σ) 3).2.2)])), ((b2 3), .inl (cB, M, .inl (fun j => sb_b (((σ) 3).1 j)))), (oa, .inl (cL, 1, .inr (.inl f0)))]) [0, 1, 2, 3, 4, 5, 6, 7, 8, 9, 10] (by decide) rfl
  have hKc := hK.sub (tys' := [(cB, .byte), (cR, .object "PacketDesk$Row"), (cL, .long)]) [0, 1, 2] rfl
  have hFc := va_free (wc := [(hd, .inr (0, [.ref ra])), (ra, .inl (cR, 4, .inr (.inr (.inr (.inr g))))), ((y 0), .inr (1, [.ref (b2 0), .int (nI ((σ) 0).2.1), .int (nI ((σ) 0).2.2)])), ((b2 0), .inl (cB, M, .inl (fun j => sb_b (((σ) 0).1 j)))), ((y 1), .inr (1, [.ref (b2 1), .int (nI ((σ) 1).2.1), .int (nI ((σ) 1).2.2)])), ((b2 1), .inl (cB, M, .inl (fun j => sb_b (((σ) 1).1 j)))), ((y 2), .inr (1, [.ref (b2 2), .int (nI ((σ) 2).2.1), .int (nI ((σ) 2).2.2)])), ((b2 2), .inl (cB, M, .inl (fun j => sb_b (((σ) 2).1 j)))), ((y 3), .inr (1, [.ref (b2 3), .int (nI ((σ) 3).2.1), .int (nI ((σ) 3).2.2)])), ((b2 3), .inl (cB, M, .inl (fun j => sb_b (((σ) 3).1 j)))), (oa, .inl (cL, 1, .inr (.inl f0)))]) hD hS hAq [0, 1, 2, 3, 4, 5, 6, 7, 8, 9, 10] rfl
  have hh9 : ∀ q : Nat, q < s.heap.size → H[q]? = s.heap[q]? := fun q h => hS.2.1 q h (Nat.not_le.mpr h)
  refine lx_wi (lx_runS (As := [.ref hd, .int (xs (i + 1)), .int (xs (i + 2)), .ref oa]) (rest := []) ⟨hx, hb, hml, hown, hA⟩ (c_L_same l hL0 D cR cB cL hd ra oa g M y b2 σ f0 H.size (xs (i + 1)) (xs (i + 2)) hg hσ) (q_L_same hA k2_181 rfl rfl ⟨(Nat.le_of_ble_eq_true rfl), (Nat.le_of_ble_eq_true rfl)⟩) (oxn_S hPc hKc hDc hG hh9 hN) rfl rfl hl.1 rfl (lv_room (Nat.le_of_ble_eq_true rfl)) d_L_law_1503 ⟨(by show cells + 2 ≤ 601024; omega), (by show slots + 12 ≤ 7293000; omega)⟩) hS (fun q _ h => hFc q h) hFc (fun r5 u5 t9 H1 locs ht9 hvm9 hw5 hB9 hz1 hk1 hS => ?_)
  obtain ⟨τ5, f5⟩ := u5
  obtain ⟨hP1, hK1, hD1⟩ := hB9
  rw [ht9] at hP1
  obtain ⟨hP, hD⟩ := va_join (wr := [(hm, .inr (2, [.int th, .int (nI M), .ref cl, .ref sa, .ref pa, .int tk])), (cl, .inl (cL, 32768, .inr (.inl (pkF (σ))))), (sa, .inl (cI, 4, .inl (fun i9 => nI ((σ) i9).2.1))), (pa, .inl (cI, 4, .inl (fun i9 => nI ((σ) i9).2.2)))]) (w1 := [(hd, .inr (0, [.ref ra])), (ra, .inl (cR, 4, .inr (.inr (.inr (.inr g))))), ((y 0), .inr (1, [.ref (b2 0), .int (nI ((τ5) 0).2.1), .int (nI ((τ5) 0).2.2)])), ((b2 0), .inl (cB, M, .inl (fun j => sb_b (((τ5) 0).1 j)))), ((y 1), .inr (1, [.ref (b2 1), .int (nI ((τ5) 1).2.1), .int (nI ((τ5) 1).2.2)])), ((b2 1), .inl (cB, M, .inl (fun j => sb_b (((τ5) 1).1 j)))), ((y 2), .inr (1, [.ref (b2 2), .int (nI ((τ5) 2).2.1), .int (nI ((τ5) 2).2.2)])), ((b2 2), .inl (cB, M, .inl (fun j => sb_b (((τ5) 2).1 j)))), ((y 3), .inr (1, [.ref (b2 3), .int (nI ((τ5) 3).2.1), .int (nI ((τ5) 3).2.2)])), ((b2 3), .inl (cB, M, .inl (fun j => sb_b (((τ5) 3).1 j)))), (oa, .inl (cL, 1, .inr (.inl f5)))]) hP hD [0, 1, 2, 3, 4, 5, 6, 7, 8, 9, 10] [11, 12, 13, 14] rfl rfl (by decide) (by decide) hk1 hFc hP1 hD1
  generalize H1 = H at hP hS ⊢
  have hP : va_P D vCl [(hd, .inr (0, [.ref ra])), (ra, .inl (cR, 4, .inr (.inr (.inr (.inr g))))), ((y 0), .inr (1, [.ref (b2 0), .int (nI ((τ5) 0).2.1), .int (nI ((τ5) 0).2.2)])), ((b2 0), .inl (cB, M, .inl (fun j => sb_b (((τ5) 0).1 j)))), ((y 1), .inr (1, [.ref (b2 1), .int (nI ((τ5) 1).2.1), .int (nI ((τ5) 1).2.2)])), ((b2 1), .inl (cB, M, .inl (fun j => sb_b (((τ5) 1).1 j)))), ((y 2), .inr (1, [.ref (b2 2), .int (nI ((τ5) 2).2.1), .int (nI ((τ5) 2).2.2)])), ((b2 2), .inl (cB, M, .inl (fun j => sb_b (((τ5) 2).1 j)))), ((y 3), .inr (1, [.ref (b2 3), .int (nI ((τ5) 3).2.1), .int (nI ((τ5) 3).2.2)])), ((b2 3), .inl (cB, M, .inl (fun j => sb_b (((τ5) 3).1 j)))), (oa, .inl (cL, 1, .inr (.inl f5))), (hm, .inr (2, [.int th, .int (nI M), .ref cl, .ref sa, .ref pa, .int tk])), (cl, .inl (cL, 32768, .inr (.inl (pkF (σ))))), (sa, .inl (cI, 4, .inl (fun i9 => nI ((σ) i9).2.1))), (pa, .inl (cI, 4, .inl (fun i9 => nI ((σ) i9).2.2)))] H := hP.sub [4, 5, 6, 7, 8, 9, 10, 11, 12, 13, 14, 0, 1, 2, 3] rfl
  have hD : va_D (fun q : Nat => s.heap.size ≤ q) [(hd, .inr (0, [.ref ra])), (ra, .inl (cR, 4, .inr (.inr (.inr (.inr g))))), ((y 0), .inr (1, [.ref (b2 0), .int (nI ((τ5) 0).2.1), .int (nI ((τ5) 0).2.2)])), ((b2 0), .inl (cB, M, .inl (fun j => sb_b (((τ5) 0).1 j)))), ((y 1), .inr (1, [.ref (b2 1), .int (nI ((τ5) 1).2.1), .int (nI ((τ5) 1).2.2)])), ((b2 1), .inl (cB, M, .inl (fun j => sb_b (((τ5) 1).1 j)))), ((y 2), .inr (1, [.ref (b2 2), .int (nI ((τ5) 2).2.1), .int (nI ((τ5) 2).2.2)])), ((b2 2), .inl (cB, M, .inl (fun j => sb_b (((τ5) 2).1 j)))), ((y 3), .inr (1, [.ref (b2 3), .int (nI ((τ5) 3).2.1), .int (nI ((τ5) 3).2.2)])), ((b2 3), .inl (cB, M, .inl (fun j => sb_b (((τ5) 3).1 j)))), (oa, .inl (cL, 1, .inr (.inl f5))), (hm, .inr (2, [.int th, .int (nI M), .ref cl, .ref sa, .ref pa, .int tk])), (cl, .inl (cL, 32768, .inr (.inl (pkF (σ))))), (sa, .inl (cI, 4, .inl (fun i9 => nI ((σ) i9).2.1))), (pa, .inl (cI, 4, .inl (fun i9 => nI ((σ) i9).2.2)))] := hD.sub [4, 5, 6, 7, 8, 9, 10, 11, 12, 13, 14, 0, 1, 2, 3] (by decide) rfl
  obtain ⟨h51, h52, h53⟩ := hw5
  refine lv_istore (lv' := [(5, .int r5), (0, .ref b), (1, .ref hd), (2, .ref hm), (3, .ref oa), (4, .int (nI i))]) hx hb d_L_law_1506 hl (by decide) rfl (fun ls hl => ?_)
  refine lv_aload_n hx hb d_L_law_1508 rfl (lv_at hl 3 rfl) ?_
  refine lv_aload_n hx hb d_L_law_1509 rfl (lv_at hl 1 rfl) ?_
  refine lv_iload hx hb d_L_law_1510 (lv_at hl 5 rfl) ?_
  refine lv_iconst (v := 1) hx hb d_L_law_1512 (by decide) ?_
  refine lv_iadd hx hb d_L_law_1513 ?_
  refine lv_topi (fun v1513 ev1513 => ?_)
  have ev1513 : v1513 = nI (i + 1) := by rw [ev1513]; exact nI_add i 1
  subst ev1513
  refine va_sld hx hb hX hbl hbA hS (vp_in_nI (n := i + 1) (N := L) (by omega) (by omega)) d_L_law_1514 ?_
  refine lv_topi (fun v1514 ev1514 => ?_)
  have ev1514 : v1514 = xs (i + 1) := by rw [ev1514, nI_clamp (by omega)]
  subst ev1514
  refine lv_aload_n hx hb d_L_law_1515 rfl (lv_at hl 1 rfl) ?_
  refine lv_iload hx hb d_L_law_1516 (lv_at hl 5 rfl) ?_
  refine lv_iconst (v := 2) hx hb d_L_law_1518 (by decide) ?_
  refine lv_iadd hx hb d_L_law_1519 ?_
  refine lv_topi (fun v1519 ev1519 => ?_)
  have ev1519 : v1519 = nI (i + 2) := by rw [ev1519]; exact nI_add i 2
  subst ev1519
  refine va_sld hx hb hX hbl hbA hS (vp_in_nI (n := i + 2) (N := L) (by omega) (by omega)) d_L_law_1520 ?_
  refine lv_topi (fun v1520 ev1520 => ?_)
  have ev1520 : v1520 = xs (i + 2) := by rw [ev1520, nI_clamp (by omega)]
  subst ev1520
  have hPc := hP.sub (ws' := [(hm, .inr (2, [.int th, .int (nI M), .ref cl, .ref sa, .ref pa, .int tk])), (cl, .inl (cL, 32768, .inr (.inl (pkF (σ))))), (sa, .inl (cI, 4, .inl (fun i9 => nI ((σ) i9).2.1))), (pa, .inl (cI, 4, .inl (fun i9 => nI ((σ) i9).2.2)))]) [11, 12, 13, 14] rfl
  have hDc := hD.sub (ws' := [(hm, .inr (2, [.int th, .int (nI M), .ref cl, .ref sa, .ref pa, .int tk])), (cl, .inl (cL, 32768, .inr (.inl (pkF (σ))))), (sa, .inl (cI, 4, .inl (fun i9 => nI ((σ) i9).2.1))), (pa, .inl (cI, 4, .inl (fun i9 => nI ((σ) i9).2.2)))]) [11, 12, 13, 14] (by decide) rfl
  have hKc := hK.sub (tys' := [(cL, .long), (cI, .int)]) [2, 3] rfl
  have hFc := va_free (wc := [(hm, .inr (2, [.int th, .int (nI M), .ref cl, .ref sa, .ref pa, .int tk])), (cl, .inl (cL, 32768, .inr (.inl (pkF (σ))))), (sa, .inl (cI, 4, .inl (fun i9 => nI ((σ) i9).2.1))), (pa, .inl (cI, 4, .inl (fun i9 => nI ((σ) i9).2.2)))]) hD hS hAq [11, 12, 13, 14] rfl
  refine va_calli (va_runV (As := [.int (xs (i + 1)), .int (xs (i + 2))]) (rest := []) ⟨hx, hb, hml, hown, hA⟩ (c_M_same l D cL cI hm cl sa pa M th tk σ H.size (xs (i + 1)) (xs (i + 2)) hσ) (q_M_same hA k3_156 rfl rfl ⟨(Nat.le_of_ble_eq_true rfl), (Nat.le_of_ble_eq_true rfl)⟩) (ox_V (va_recv hKc hPc (ci := 2) (q0 := 0) rfl rfl) (oxw_S hPc hKc hDc)) rfl rfl hl.1 rfl (lv_room (Nat.le_of_ble_eq_true rfl)) d_L_law_1521 ⟨(by show cells + 1 + 0 ≤ 601024; omega), (by show slots + 6 + 0 ≤ 7293000; omega)⟩) hS (fun q _ h => hFc q h) hFc (fun r8 u8 t9 H1 locs ht9 hvm9 hw8 hB9 hz1 hk1 hS => ?_)
  obtain ⟨c8, τ8, k8⟩ := u8
  replace hw8 : spSame σ (xs (i + 1)) (xs (i + 2)) = (c8, r8, τ8) := hw8
  obtain ⟨hP1, hK1, hD1⟩ := hB9
  rw [ht9] at hP1
  obtain ⟨hP, hD⟩ := va_join (wr := [(hd, .inr (0, [.ref ra])), (ra, .inl (cR, 4, .inr (.inr (.inr (.inr g))))), ((y 0), .inr (1, [.ref (b2 0), .int (nI ((τ5) 0).2.1), .int (nI ((τ5) 0).2.2)])), ((b2 0), .inl (cB, M, .inl (fun j => sb_b (((τ5) 0).1 j)))), ((y 1), .inr (1, [.ref (b2 1), .int (nI ((τ5) 1).2.1), .int (nI ((τ5) 1).2.2)])), ((b2 1), .inl (cB, M, .inl (fun j => sb_b (((τ5) 1).1 j)))), ((y 2), .inr (1, [.ref (b2 2), .int (nI ((τ5) 2).2.1), .int (nI ((τ5) 2).2.2)])), ((b2 2), .inl (cB, M, .inl (fun j => sb_b (((τ5) 2).1 j)))), ((y 3), .inr (1, [.ref (b2 3), .int (nI ((τ5) 3).2.1), .int (nI ((τ5) 3).2.2)])), ((b2 3), .inl (cB, M, .inl (fun j => sb_b (((τ5) 3).1 j)))), (oa, .inl (cL, 1, .inr (.inl f5)))]) (w1 := [(hm, .inr (2, [.int (nI c8), .int (nI M), .ref cl, .ref sa, .ref pa, .int k8])), (cl, .inl (cL, 32768, .inr (.inl (pkF (τ8))))), (sa, .inl (cI, 4, .inl (fun i9 => nI ((τ8) i9).2.1))), (pa, .inl (cI, 4, .inl (fun i9 => nI ((τ8) i9).2.2)))]) hP hD [11, 12, 13, 14] [0, 1, 2, 3, 4, 5, 6, 7, 8, 9, 10] rfl rfl (by decide) (by decide) hk1 hFc hP1 hD1
  generalize H1 = H at hP hS ⊢
  have hP : va_P D vCl [(hd, .inr (0, [.ref ra])), (ra, .inl (cR, 4, .inr (.inr (.inr (.inr g))))), ((y 0), .inr (1, [.ref (b2 0), .int (nI ((τ5) 0).2.1), .int (nI ((τ5) 0).2.2)])), ((b2 0), .inl (cB, M, .inl (fun j => sb_b (((τ5) 0).1 j)))), ((y 1), .inr (1, [.ref (b2 1), .int (nI ((τ5) 1).2.1), .int (nI ((τ5) 1).2.2)])), ((b2 1), .inl (cB, M, .inl (fun j => sb_b (((τ5) 1).1 j)))), ((y 2), .inr (1, [.ref (b2 2), .int (nI ((τ5) 2).2.1), .int (nI ((τ5) 2).2.2)])), ((b2 2), .inl (cB, M, .inl (fun j => sb_b (((τ5) 2).1 j)))), ((y 3), .inr (1, [.ref (b2 3), .int (nI ((τ5) 3).2.1), .int (nI ((τ5) 3).2.2)])), ((b2 3), .inl (cB, M, .inl (fun j => sb_b (((τ5) 3).1 j)))), (oa, .inl (cL, 1, .inr (.inl f5))), (hm, .inr (2, [.int (nI c8), .int (nI M), .ref cl, .ref sa, .ref pa, .int k8])), (cl, .inl (cL, 32768, .inr (.inl (pkF (τ8))))), (sa, .inl (cI, 4, .inl (fun i9 => nI ((τ8) i9).2.1))), (pa, .inl (cI, 4, .inl (fun i9 => nI ((τ8) i9).2.2)))] H := hP
  have hD : va_D (fun q : Nat => s.heap.size ≤ q) [(hd, .inr (0, [.ref ra])), (ra, .inl (cR, 4, .inr (.inr (.inr (.inr g))))), ((y 0), .inr (1, [.ref (b2 0), .int (nI ((τ5) 0).2.1), .int (nI ((τ5) 0).2.2)])), ((b2 0), .inl (cB, M, .inl (fun j => sb_b (((τ5) 0).1 j)))), ((y 1), .inr (1, [.ref (b2 1), .int (nI ((τ5) 1).2.1), .int (nI ((τ5) 1).2.2)])), ((b2 1), .inl (cB, M, .inl (fun j => sb_b (((τ5) 1).1 j)))), ((y 2), .inr (1, [.ref (b2 2), .int (nI ((τ5) 2).2.1), .int (nI ((τ5) 2).2.2)])), ((b2 2), .inl (cB, M, .inl (fun j => sb_b (((τ5) 2).1 j)))), ((y 3), .inr (1, [.ref (b2 3), .int (nI ((τ5) 3).2.1), .int (nI ((τ5) 3).2.2)])), ((b2 3), .inl (cB, M, .inl (fun j => sb_b (((τ5) 3).1 j)))), (oa, .inl (cL, 1, .inr (.inl f5))), (hm, .inr (2, [.int (nI c8), .int (nI M), .ref cl, .ref sa, .ref pa, .int k8])), (cl, .inl (cL, 32768, .inr (.inl (pkF (τ8))))), (sa, .inl (cI, 4, .inl (fun i9 => nI ((τ8) i9).2.1))), (pa, .inl (cI, 4, .inl (fun i9 => nI ((τ8) i9).2.2)))] := hD
  have hc8 : c8 ≤ 4 := by have h9 := le_spSame σ (xs (i + 1)) (xs (i + 2)); rw [hw8] at h9; exact h9
  have hσ8 : dkok M τ8 := by have h9 := id_spSame σ (xs (i + 1)) (xs (i + 2)); rw [hw8] at h9; rw [show τ8 = σ from h9]; exact hσ
  rw [hw8] at h51 h52 h53
  have h51 : r5 = nI c8 := h51
  have h52 : τ5 = τ8 := h52
  have h53 : c8 = 0 → f5 0 = r8.toInt64 := h53
  subst h51
  subst h52
  refine lv_istore (lv' := [(6, .int r8), (5, .int (nI c8)), (0, .ref b), (1, .ref hd), (2, .ref hm), (3, .ref oa), (4, .int (nI i))]) hx hb d_L_law_1524 hl (by decide) rfl (fun ls hl => ?_)
  refine lv_aload_n hx hb d_L_law_1526 rfl (lv_at hl 4 rfl) ?_
  have hPc := hP.sub (ws' := [(hm, .inr (2, [.int (nI c8), .int (nI M), .ref cl, .ref sa, .ref pa, .int k8])), (cl, .inl (cL, 32768, .inr (.inl (pkF (τ5))))), (sa, .inl (cI, 4, .inl (fun i9 => nI ((τ5) i9).2.1))), (pa, .inl (cI, 4, .inl (fun i9 => nI ((τ5) i9).2.2)))]) [11, 12, 13, 14] rfl
  have hKc := hK.sub (tys' := [(cL, .long), (cI, .int)]) [2, 3] rfl
  refine vp_callSi (W.runV (As := []) (rest := []) ⟨hx, hb, hml, hown, hA⟩ (c_M_thrown l D cL cI hm cl sa pa M (nI c8) k8 τ5) (q_M_thrown hA k2_233 rfl rfl ⟨(Nat.le_of_ble_eq_true rfl), (Nat.le_of_ble_eq_true rfl)⟩) (ox_V (va_recv hKc hPc (ci := 2) (q0 := 0) rfl rfl) (ox_S hPc hKc)) rfl rfl hl.1 rfl (lv_room (Nat.le_of_ble_eq_true rfl)) d_L_law_1527 ⟨(by show cells + 1 + 0 + 0 ≤ 601024; omega), (by show slots + 6 + 0 + 0 ≤ 7293000; omega)⟩) (fun r7 hr7 => ?_)
  subst hr7
  refine lv_iload hx hb d_L_law_1530 (lv_at hl 1 rfl) ?_
  refine lv_icmp_eq (tgt := 1537) hx hb d_L_law_1532 (by decide) (fun _ => ?_) (fun q9 => absurd rfl q9)
  refine lv_iload hx hb d_L_law_1537 (lv_at hl 1 rfl) ?_
  refine lv_if_ne (tgt := 1561) hx hb d_L_law_1539 (by decide) (fun c1539 => ?_) (fun c1539 => ?_)
  · refine lv_goto (tgt := 1700) hx hb d_L_law_1561 (by decide) ?_
    exact K τ5 f5 (nI c8) k8 H locs hσ8 hP hD hS ls (lv_sub hl [2, 3, 4, 5, 6] rfl)
  · refine lv_aload_n hx hb d_L_law_1542 rfl (lv_at hl 5 rfl) ?_
    refine lv_iconst (v := 0) hx hb d_L_law_1543 (by decide) ?_
    have hc0 : c8 = 0 := (nI_eq (b := 0) (by omega) (by omega)).mp c1539
    have h53 := h53 hc0
    refine va_lald hx hb hK hP 10 2 rfl rfl (by unfold vp_in; decide) d_L_law_1544 ?_
    refine lv_topl (fun v1544 ev1544 => ?_)
    have ev1544 : v1544 = r8.toInt64 := by rw [ev1544, sb_cl0]; exact h53
    subst ev1544
    refine lv_iload hx hb d_L_law_1545 (lv_at hl 0 rfl) ?_
    refine lv_if_eq (tgt := 1554) hx hb d_L_law_1547 (by decide) (fun c1547 => ?_) (fun c1547 => ?_)
    · refine lv_lconst (v := 0) hx hb d_L_law_1554 (by decide) ?_
      refine W.lcmp hx hb d_L_law_1555 ?_
      refine lv_topi (fun v1555 ev1555 => ?_)
      have hv9 : (0 : Int64) = r8.toInt64 := by
        rw [show r8 = 0 from c1547]; decide
      refine lv_if_eq (tgt := 1561) hx hb d_L_law_1556 (by decide) (fun _ => ?_) (fun q9 => absurd (by rw [ev1555, hv9]; exact (lg_cmp_eq _ _).mpr rfl) q9)
      refine lv_goto (tgt := 1700) hx hb d_L_law_1561 (by decide) ?_
      exact K τ5 f5 (nI c8) k8 H locs hσ8 hP hD hS ls (lv_sub hl [2, 3, 4, 5, 6] rfl)
    · refine lv_lconst (v := 1) hx hb d_L_law_1550 (by decide) ?_
      refine lv_goto (tgt := 1555) hx hb d_L_law_1551 (by decide) ?_
      refine W.lcmp hx hb d_L_law_1555 ?_
      refine lv_topi (fun v1555 ev1555 => ?_)
      have hv9 : (1 : Int64) = r8.toInt64 := by
        have h01 := same_01 σ (xs (i + 1)) (xs (i + 2)); rw [hw8] at h01; rw [show r8 = 1 from h01.resolve_left c1547]; decide
      refine lv_if_eq (tgt := 1561) hx hb d_L_law_1556 (by decide) (fun _ => ?_) (fun q9 => absurd (by rw [ev1555, hv9]; exact (lg_cmp_eq _ _).mpr rfl) q9)
      refine lv_goto (tgt := 1700) hx hb d_L_law_1561 (by decide) ?_
      exact K τ5 f5 (nI c8) k8 H locs hσ8 hP hD hS ls (lv_sub hl [2, 3, 4, 5, 6] rfl)
set_option maxHeartbeats 2000000 in
set_option maxRecDepth 100000 in
/-- the law at row -/
theorem k_row {p : Program} {l : Launch} {e : Env} {s : State} {m : MethodId} {below : List Frame} {meth : Method} {c : Code} (hL0 : l.stackTraces = false) {b L : Nat} {xs : Nat → Int32} (hL : L ≤ 2561) (hx : p.tables.exec = Jvm.exec) (hb : c.code = code) (hml : c.maxLocals = 8) (hown : s.vm.findClass R_L = some m.cls) (hA : ∀ w ∈ wsA, w.before #[Value.ref b] s = true) (hX : va_X b L xs s s.heap) (hbl : b < s.heap.size) (hG : tx_G s) (hN : tx_N s) {D : va_G} {cR cB cL cI : ClassId} {hd ra oa hm cl sa pa : Nat} {g : Nat → Option Nat} {M : Nat} {y b2 : Nat → Nat} (hg : ∀ i, i < 4 → g i = some (y i)) (hK : va_K D vCl [(cB, .byte), (cR, .object "PacketDesk$Row"), (cL, .long), (cI, .int)] s) (σ : dkS) (f0 : Nat → Int64) (th tk : Int32) (hσ : dkok M σ) (i : Nat) (hi : i + 5 ≤ L) (cells slots : Nat) (hce : cells + 10 ≤ 601024) (hsl : slots + 100 ≤ 7293000) (H : Heap) (locs : List Loc) (hP : va_P D vCl [(hd, .inr (0, [.ref ra])), (ra, .inl (cR, 4, .inr (.inr (.inr (.inr g))))), ((y 0), .inr (1, [.ref (b2 0), .int (nI ((σ) 0).2.1), .int (nI ((σ) 0).2.2)])), ((b2 0), .inl (cB, M, .inl (fun j => sb_b (((σ) 0).1 j)))), ((y 1), .inr (1, [.ref (b2 1), .int (nI ((σ) 1).2.1), .int (nI ((σ) 1).2.2)])), ((b2 1), .inl (cB, M, .inl (fun j => sb_b (((σ) 1).1 j)))), ((y 2), .inr (1, [.ref (b2 2), .int (nI ((σ) 2).2.1), .int (nI ((σ) 2).2.2)])), ((b2 2), .inl (cB, M, .inl (fun j => sb_b (((σ) 2).1 j)))), ((y 3), .inr (1, [.ref (b2 3), .int (nI ((σ) 3).2.1), .int (nI ((σ) 3).2.2)])), ((b2 3), .inl (cB, M, .inl (fun j => sb_b (((σ) 3).1 j)))), (oa, .inl (cL, 1, .inr (.inl f0))), (hm, .inr (2, [.int th, .int (nI M), .ref cl, .ref sa, .ref pa, .int tk])), (cl, .inl (cL, 32768, .inr (.inl (pkF (σ))))), (sa, .inl (cI, 4, .inl (fun i9 => nI ((σ) i9).2.1))), (pa, .inl (cI, 4, .inl (fun i9 => nI ((σ) i9).2.2)))] H) (hD : va_D (fun q : Nat => s.heap.size ≤ q) [(hd, .inr (0, [.ref ra])), (ra, .inl (cR, 4, .inr (.inr (.inr (.inr g))))), ((y 0), .inr (1, [.ref (b2 0), .int (nI ((σ) 0).2.1), .int (nI ((σ) 0).2.2)])), ((b2 0), .inl (cB, M, .inl (fun j => sb_b (((σ) 0).1 j)))), ((y 1), .inr (1, [.ref (b2 1), .int (nI ((σ) 1).2.1), .int (nI ((σ) 1).2.2)])), ((b2 1), .inl (cB, M, .inl (fun j => sb_b (((σ) 1).1 j)))), ((y 2), .inr (1, [.ref (b2 2), .int (nI ((σ) 2).2.1), .int (nI ((σ) 2).2.2)])), ((b2 2), .inl (cB, M, .inl (fun j => sb_b (((σ) 2).1 j)))), ((y 3), .inr (1, [.ref (b2 3), .int (nI ((σ) 3).2.1), .int (nI ((σ) 3).2.2)])), ((b2 3), .inl (cB, M, .inl (fun j => sb_b (((σ) 3).1 j)))), (oa, .inl (cL, 1, .inr (.inl f0))), (hm, .inr (2, [.int th, .int (nI M), .ref cl, .ref sa, .ref pa, .int tk])), (cl, .inl (cL, 32768, .inr (.inl (pkF (σ))))), (sa, .inl (cI, 4, .inl (fun i9 => nI ((σ) i9).2.1))), (pa, .inl (cI, 4, .inl (fun i9 => nI ((σ) i9).2.2)))]) (hS : va_S (fun q : Nat => s.heap.size ≤ q) s.heap H locs) (ls : Array Slot) (hl : lv_has ls 8 [(0, .ref b), (1, .ref hd), (2, .ref hm), (3, .ref oa), (4, .int (nI i))]) (K : ∀ (σ' : dkS) (f' : Nat → Int64) (th' tk' : Int32) (H' : Heap) (locs' : List Loc), dkok M σ' → va_P D vCl [(hd, .inr (0, [.ref ra])), (ra, .inl (cR, 4, .inr (.inr (.inr (.inr g))))), ((y 0), .inr (1, [.ref (b2 0), .int (nI ((σ') 0).2.1), .int (nI ((σ') 0).2.2)])), ((b2 0), .inl (cB, M, .inl (fun j => sb_b (((σ') 0).1 j)))), ((y 1), .inr (1, [.ref (b2 1), .int (nI ((σ') 1).2.1), .int (nI ((σ') 1).2.2)])), ((b2 1), .inl (cB, M, .inl (fun j => sb_b (((σ') 1).1 j)))), ((y 2), .inr (1, [.ref (b2 2), .int (nI ((σ') 2).2.1), .int (nI ((σ') 2).2.2)])), ((b2 2), .inl (cB, M, .inl (fun j => sb_b (((σ') 2).1 j)))), ((y 3), .inr (1, [.ref (b2 3), .int (nI ((σ') 3).2.1), .int (nI ((σ') 3).2.2)])), ((b2 3), .inl (cB, M, .inl (fun j => sb_b (((σ') 3).1 j)))), (oa, .inl (cL, 1, .inr (.inl f'))), (hm, .inr (2, [.int th', .int (nI M), .ref cl, .ref sa, .ref pa, .int tk'])), (cl, .inl (cL, 32768, .inr (.inl (pkF (σ'))))), (sa, .inl (cI, 4, .inl (fun i9 => nI ((σ') i9).2.1))), (pa, .inl (cI, 4, .inl (fun i9 => nI ((σ') i9).2.2)))] H' → va_D (fun q : Nat => s.heap.size ≤ q) [(hd, .inr (0, [.ref ra])), (ra, .inl (cR, 4, .inr (.inr (.inr (.inr g))))), ((y 0), .inr (1, [.ref (b2 0), .int (nI ((σ') 0).2.1), .int (nI ((σ') 0).2.2)])), ((b2 0), .inl (cB, M, .inl (fun j => sb_b (((σ') 0).1 j)))), ((y 1), .inr (1, [.ref (b2 1), .int (nI ((σ') 1).2.1), .int (nI ((σ') 1).2.2)])), ((b2 1), .inl (cB, M, .inl (fun j => sb_b (((σ') 1).1 j)))), ((y 2), .inr (1, [.ref (b2 2), .int (nI ((σ') 2).2.1), .int (nI ((σ') 2).2.2)])), ((b2 2), .inl (cB, M, .inl (fun j => sb_b (((σ') 2).1 j)))), ((y 3), .inr (1, [.ref (b2 3), .int (nI ((σ') 3).2.1), .int (nI ((σ') 3).2.2)])), ((b2 3), .inl (cB, M, .inl (fun j => sb_b (((σ') 3).1 j)))), (oa, .inl (cL, 1, .inr (.inl f'))), (hm, .inr (2, [.int th', .int (nI M), .ref cl, .ref sa, .ref pa, .int tk'])), (cl, .inl (cL, 32768, .inr (.inl (pkF (σ'))))), (sa, .inl (cI, 4, .inl (fun i9 => nI ((σ') i9).2.1))), (pa, .inl (cI, 4, .inl (fun i9 => nI ((σ') i9).2.2)))] → va_S (fun q : Nat => s.heap.size ≤ q) s.heap H' locs' → ∀ ls' : Array Slot, lv_has ls' 8 [(0, .ref b), (1, .ref hd), (2, .ref hm), (3, .ref oa), (4, .int (nI i))] → W p l e room_1 s m #[Value.ref b] below meth c H' locs' (cells + 1) (slots + 6) (lw_Z below #[Value.ref b] s) (F0 m 1700 ls' [])) : W p l e room_1 s m #[Value.ref b] below meth c H locs cells slots (lw_Z below #[Value.ref b] s) (F0 m 1564 ls []) := by
  have hAq : ∀ q : Nat, s.heap.size ≤ q → (fun q : Nat => s.heap.size ≤ q) q := fun _ h => h
  have hbA : ¬ (fun q : Nat => s.heap.size ≤ q) b := Nat.not_le.mpr hbl
  refine lv_aload_n hx hb d_L_law_1564 rfl (lv_at hl 1 rfl) ?_
  refine lv_aload_n hx hb d_L_law_1565 rfl (lv_at hl 0 rfl) ?_
  refine lv_iload hx hb d_L_law_1566 (lv_at hl 4 rfl) ?_
  refine lv_iconst (v := 1) hx hb d_L_law_1568 (by decide) ?_
  refine lv_iadd hx hb d_L_law_1569 ?_
  refine lv_topi (fun v1569 ev1569 => ?_)
  have ev1569 : v1569 = nI (i + 1) := by rw [ev1569]; exact nI_add i 1
  subst ev1569
  refine va_sld hx hb hX hbl hbA hS (vp_in_nI (n := i + 1) (N := L) (by omega) (by omega)) d_L_law_1570 ?_
  refine lv_topi (fun v1570 ev1570 => ?_)
  have ev1570 : v1570 = xs (i + 1) := by rw [ev1570, nI_clamp (by omega)]
  subst ev1570
  refine lv_aload_n hx hb d_L_law_1571 rfl (lv_at hl 0 rfl) ?_
  refine lv_iload hx hb d_L_law_1572 (lv_at hl 4 rfl) ?_
  refine lv_iconst (v := 2) hx hb d_L_law_1574 (by decide) ?_
  refine lv_iadd hx hb d_L_law_1575 ?_
  refine lv_topi (fun v1575 ev1575 => ?_)
  have ev1575 : v1575 = nI (i + 2) := by rw [ev1575]; exact nI_add i 2
  subst ev1575
  refine va_sld hx hb hX hbl hbA hS (vp_in_nI (n := i + 2) (N := L) (by omega) (by omega)) d_L_law_1576 ?_
  refine lv_topi (fun v1576 ev1576 => ?_)
  have ev1576 : v1576 = xs (i + 2) := by rw [ev1576, nI_clamp (by omega)]
  subst ev1576
  refine lv_aload_n hx hb d_L_law_1577 rfl (lv_at hl 3 rfl) ?_
  have hPc := hP.sub (ws' := [(hd, .inr (0, [.ref ra])), (ra, .inl (cR, 4, .inr (.inr (.inr (.inr g))))), ((y 0), .inr (1, [.ref (b2 0), .int (nI ((σ) 0).2.1), .int (nI ((σ) 0).2.2)])), ((b2 0), .inl (cB, M, .inl (fun j => sb_b (((σ) 0).1 j)))), ((y 1), .inr (1, [.ref (b2 1), .int (nI ((σ) 1).2.1), .int (nI ((σ) 1).2.2)])), ((b2 1), .inl (cB, M, .inl (fun j => sb_b (((σ) 1).1 j)))), ((y 2), .inr (1, [.ref (b2 2), .int (nI ((σ) 2).2.1), .int (nI ((σ) 2).2.2)])), ((b2 2), .inl (cB, M, .inl (fun j => sb_b (((σ) 2).1 j)))), ((y 3), .inr (1, [.ref (b2 3), .int (nI ((σ) 3).2.1), .int (nI ((σ) 3).2.2)])), ((b2 3), .inl (cB, M, .inl (fun j => sb_b (((σ) 3).1 j)))), (oa, .inl (cL, 1, .inr (.inl f0)))]) [0, 1, 2, 3, 4, 5, 6, 7, 8, 9, 10] rfl
  have hDc := hD.sub (ws' := [(hd, .inr (0, [.ref ra])), (ra, .inl (cR, 4, .inr (.inr (.inr (.inr g))))), ((y 0), .inr (1, [.ref (b2 0), .int (nI ((σ) 0).2.1), .int (nI ((σ) 0).2.2)])), ((b2 0), .inl (cB, M, .inl (fun j => sb_b (((σ) 0).1 j)))), ((y 1), .inr (1, [.ref (b2 1), .int (nI ((σ) 1).2.1), .int (nI ((σ) 1).2.2)])), ((b2 1), .inl (cB, M, .inl (fun j => sb_b (((σ) 1).1 j)))), ((y 2), .inr (1, [.ref (b2 2), .int (nI ((σ) 2).2.1), .int (nI ((σ) 2).2.2)])), ((b2 2), .inl (cB, M, .inl (fun j => sb_b (((σ) 2).1 j)))), ((y 3), .inr (1, [.ref (b2 3), .int (nI ((σ) 3).2.1), .int (nI ((σ) 3).2.2)])), ((b2 3), .inl (cB, M, .inl (fun j => sb_b (((σ) 3).1 j)))), (oa, .inl (cL, 1, .inr (.inl f0)))]) [0, 1, 2, 3, 4, 5, 6, 7, 8, 9, 10] (by decide) rfl
  have hKc := hK.sub (tys' := [(cB, .byte), (cR, .object "PacketDesk$Row"), (cL, .long)]) [0, 1, 2] rfl
  have hFc := va_free (wc := [(hd, .inr (0, [.ref ra])), (ra, .inl (cR, 4, .inr (.inr (.inr (.inr g))))), ((y 0), .inr (1, [.ref (b2 0), .int (nI ((σ) 0).2.1), .int (nI ((σ) 0).2.2)])), ((b2 0), .inl (cB, M, .inl (fun j => sb_b (((σ) 0).1 j)))), ((y 1), .inr (1, [.ref (b2 1), .int (nI ((σ) 1).2.1), .int (nI ((σ) 1).2.2)])), ((b2 1), .inl (cB, M, .inl (fun j => sb_b (((σ) 1).1 j)))), ((y 2), .inr (1, [.ref (b2 2), .int (nI ((σ) 2).2.1), .int (nI ((σ) 2).2.2)])), ((b2 2), .inl (cB, M, .inl (fun j => sb_b (((σ) 2).1 j)))), ((y 3), .inr (1, [.ref (b2 3), .int (nI ((σ) 3).2.1), .int (nI ((σ) 3).2.2)])), ((b2 3), .inl (cB, M, .inl (fun j => sb_b (((σ) 3).1 j)))), (oa, .inl (cL, 1, .inr (.inl f0)))]) hD hS hAq [0, 1, 2, 3, 4, 5, 6, 7, 8, 9, 10] rfl
  have hh9 : ∀ q : Nat, q < s.heap.size → H[q]? = s.heap[q]? := fun q h => hS.2.1 q h (Nat.not_le.mpr h)
  refine lx_wi (lx_runS (As := [.ref hd, .int (xs (i + 1)), .int (xs (i + 2)), .ref oa]) (rest := []) ⟨hx, hb, hml, hown, hA⟩ (c_L_row l hL0 D cR cB cL hd ra oa g M y b2 σ f0 H.size (xs (i + 1)) (xs (i + 2)) hg hσ) (q_L_row hA k2_188 rfl rfl ⟨(Nat.le_of_ble_eq_true rfl), (Nat.le_of_ble_eq_true rfl)⟩) (oxn_S hPc hKc hDc hG hh9 hN) rfl rfl hl.1 rfl (lv_room (Nat.le_of_ble_eq_true rfl)) d_L_law_1578 ⟨(by show cells + 2 ≤ 601024; omega), (by show slots + 12 ≤ 7293000; omega)⟩) hS (fun q _ h => hFc q h) hFc (fun r5 u5 t9 H1 locs ht9 hvm9 hw5 hB9 hz1 hk1 hS => ?_)
  obtain ⟨τ5, f5⟩ := u5
  obtain ⟨hP1, hK1, hD1⟩ := hB9
  rw [ht9] at hP1
  obtain ⟨hP, hD⟩ := va_join (wr := [(hm, .inr (2, [.int th, .int (nI M), .ref cl, .ref sa, .ref pa, .int tk])), (cl, .inl (cL, 32768, .inr (.inl (pkF (σ))))), (sa, .inl (cI, 4, .inl (fun i9 => nI ((σ) i9).2.1))), (pa, .inl (cI, 4, .inl (fun i9 => nI ((σ) i9).2.2)))]) (w1 := [(hd, .inr (0, [.ref ra])), (ra, .inl (cR, 4, .inr (.inr (.inr (.inr g))))), ((y 0), .inr (1, [.ref (b2 0), .int (nI ((τ5) 0).2.1), .int (nI ((τ5) 0).2.2)])), ((b2 0), .inl (cB, M, .inl (fun j => sb_b (((τ5) 0).1 j)))), ((y 1), .inr (1, [.ref (b2 1), .int (nI ((τ5) 1).2.1), .int (nI ((τ5) 1).2.2)])), ((b2 1), .inl (cB, M, .inl (fun j => sb_b (((τ5) 1).1 j)))), ((y 2), .inr (1, [.ref (b2 2), .int (nI ((τ5) 2).2.1), .int (nI ((τ5) 2).2.2)])), ((b2 2), .inl (cB, M, .inl (fun j => sb_b (((τ5) 2).1 j)))), ((y 3), .inr (1, [.ref (b2 3), .int (nI ((τ5) 3).2.1), .int (nI ((τ5) 3).2.2)])), ((b2 3), .inl (cB, M, .inl (fun j => sb_b (((τ5) 3).1 j)))), (oa, .inl (cL, 1, .inr (.inl f5)))]) hP hD [0, 1, 2, 3, 4, 5, 6, 7, 8, 9, 10] [11, 12, 13, 14] rfl rfl (by decide) (by decide) hk1 hFc hP1 hD1
  generalize H1 = H at hP hS ⊢
  have hP : va_P D vCl [(hd, .inr (0, [.ref ra])), (ra, .inl (cR, 4, .inr (.inr (.inr (.inr g))))), ((y 0), .inr (1, [.ref (b2 0), .int (nI ((τ5) 0).2.1), .int (nI ((τ5) 0).2.2)])), ((b2 0), .inl (cB, M, .inl (fun j => sb_b (((τ5) 0).1 j)))), ((y 1), .inr (1, [.ref (b2 1), .int (nI ((τ5) 1).2.1), .int (nI ((τ5) 1).2.2)])), ((b2 1), .inl (cB, M, .inl (fun j => sb_b (((τ5) 1).1 j)))), ((y 2), .inr (1, [.ref (b2 2), .int (nI ((τ5) 2).2.1), .int (nI ((τ5) 2).2.2)])), ((b2 2), .inl (cB, M, .inl (fun j => sb_b (((τ5) 2).1 j)))), ((y 3), .inr (1, [.ref (b2 3), .int (nI ((τ5) 3).2.1), .int (nI ((τ5) 3).2.2)])), ((b2 3), .inl (cB, M, .inl (fun j => sb_b (((τ5) 3).1 j)))), (oa, .inl (cL, 1, .inr (.inl f5))), (hm, .inr (2, [.int th, .int (nI M), .ref cl, .ref sa, .ref pa, .int tk])), (cl, .inl (cL, 32768, .inr (.inl (pkF (σ))))), (sa, .inl (cI, 4, .inl (fun i9 => nI ((σ) i9).2.1))), (pa, .inl (cI, 4, .inl (fun i9 => nI ((σ) i9).2.2)))] H := hP.sub [4, 5, 6, 7, 8, 9, 10, 11, 12, 13, 14, 0, 1, 2, 3] rfl
  have hD : va_D (fun q : Nat => s.heap.size ≤ q) [(hd, .inr (0, [.ref ra])), (ra, .inl (cR, 4, .inr (.inr (.inr (.inr g))))), ((y 0), .inr (1, [.ref (b2 0), .int (nI ((τ5) 0).2.1), .int (nI ((τ5) 0).2.2)])), ((b2 0), .inl (cB, M, .inl (fun j => sb_b (((τ5) 0).1 j)))), ((y 1), .inr (1, [.ref (b2 1), .int (nI ((τ5) 1).2.1), .int (nI ((τ5) 1).2.2)])), ((b2 1), .inl (cB, M, .inl (fun j => sb_b (((τ5) 1).1 j)))), ((y 2), .inr (1, [.ref (b2 2), .int (nI ((τ5) 2).2.1), .int (nI ((τ5) 2).2.2)])), ((b2 2), .inl (cB, M, .inl (fun j => sb_b (((τ5) 2).1 j)))), ((y 3), .inr (1, [.ref (b2 3), .int (nI ((τ5) 3).2.1), .int (nI ((τ5) 3).2.2)])), ((b2 3), .inl (cB, M, .inl (fun j => sb_b (((τ5) 3).1 j)))), (oa, .inl (cL, 1, .inr (.inl f5))), (hm, .inr (2, [.int th, .int (nI M), .ref cl, .ref sa, .ref pa, .int tk])), (cl, .inl (cL, 32768, .inr (.inl (pkF (σ))))), (sa, .inl (cI, 4, .inl (fun i9 => nI ((σ) i9).2.1))), (pa, .inl (cI, 4, .inl (fun i9 => nI ((σ) i9).2.2)))] := hD.sub [4, 5, 6, 7, 8, 9, 10, 11, 12, 13, 14, 0, 1, 2, 3] (by decide) rfl
  obtain ⟨h51, h52, h53⟩ := hw5
  refine lv_istore (lv' := [(5, .int r5), (0, .ref b), (1, .ref hd), (2, .ref hm), (3, .ref oa), (4, .int (nI i))]) hx hb d_L_law_1581 hl (by decide) rfl (fun ls hl => ?_)
  refine lv_aload_n hx hb d_L_law_1583 rfl (lv_at hl 3 rfl) ?_
  refine lv_aload_n hx hb d_L_law_1584 rfl (lv_at hl 1 rfl) ?_
  refine lv_iload hx hb d_L_law_1585 (lv_at hl 5 rfl) ?_
  refine lv_iconst (v := 1) hx hb d_L_law_1587 (by decide) ?_
  refine lv_iadd hx hb d_L_law_1588 ?_
  refine lv_topi (fun v1588 ev1588 => ?_)
  have ev1588 : v1588 = nI (i + 1) := by rw [ev1588]; exact nI_add i 1
  subst ev1588
  refine va_sld hx hb hX hbl hbA hS (vp_in_nI (n := i + 1) (N := L) (by omega) (by omega)) d_L_law_1589 ?_
  refine lv_topi (fun v1589 ev1589 => ?_)
  have ev1589 : v1589 = xs (i + 1) := by rw [ev1589, nI_clamp (by omega)]
  subst ev1589
  refine lv_aload_n hx hb d_L_law_1590 rfl (lv_at hl 1 rfl) ?_
  refine lv_iload hx hb d_L_law_1591 (lv_at hl 5 rfl) ?_
  refine lv_iconst (v := 2) hx hb d_L_law_1593 (by decide) ?_
  refine lv_iadd hx hb d_L_law_1594 ?_
  refine lv_topi (fun v1594 ev1594 => ?_)
  have ev1594 : v1594 = nI (i + 2) := by rw [ev1594]; exact nI_add i 2
  subst ev1594
  refine va_sld hx hb hX hbl hbA hS (vp_in_nI (n := i + 2) (N := L) (by omega) (by omega)) d_L_law_1595 ?_
  refine lv_topi (fun v1595 ev1595 => ?_)
  have ev1595 : v1595 = xs (i + 2) := by rw [ev1595, nI_clamp (by omega)]
  subst ev1595
  have hPc := hP.sub (ws' := [(hm, .inr (2, [.int th, .int (nI M), .ref cl, .ref sa, .ref pa, .int tk])), (cl, .inl (cL, 32768, .inr (.inl (pkF (σ))))), (sa, .inl (cI, 4, .inl (fun i9 => nI ((σ) i9).2.1))), (pa, .inl (cI, 4, .inl (fun i9 => nI ((σ) i9).2.2)))]) [11, 12, 13, 14] rfl
  have hDc := hD.sub (ws' := [(hm, .inr (2, [.int th, .int (nI M), .ref cl, .ref sa, .ref pa, .int tk])), (cl, .inl (cL, 32768, .inr (.inl (pkF (σ))))), (sa, .inl (cI, 4, .inl (fun i9 => nI ((σ) i9).2.1))), (pa, .inl (cI, 4, .inl (fun i9 => nI ((σ) i9).2.2)))]) [11, 12, 13, 14] (by decide) rfl
  have hKc := hK.sub (tys' := [(cL, .long), (cI, .int)]) [2, 3] rfl
  have hFc := va_free (wc := [(hm, .inr (2, [.int th, .int (nI M), .ref cl, .ref sa, .ref pa, .int tk])), (cl, .inl (cL, 32768, .inr (.inl (pkF (σ))))), (sa, .inl (cI, 4, .inl (fun i9 => nI ((σ) i9).2.1))), (pa, .inl (cI, 4, .inl (fun i9 => nI ((σ) i9).2.2)))]) hD hS hAq [11, 12, 13, 14] rfl
  refine va_calli (va_runV (As := [.int (xs (i + 1)), .int (xs (i + 2))]) (rest := []) ⟨hx, hb, hml, hown, hA⟩ (c_M_row l D cL cI hm cl sa pa M th tk σ H.size (xs (i + 1)) (xs (i + 2)) hσ) (q_M_row hA k3_160 rfl rfl ⟨(Nat.le_of_ble_eq_true rfl), (Nat.le_of_ble_eq_true rfl)⟩) (ox_V (va_recv hKc hPc (ci := 2) (q0 := 0) rfl rfl) (oxw_S hPc hKc hDc)) rfl rfl hl.1 rfl (lv_room (Nat.le_of_ble_eq_true rfl)) d_L_law_1596 ⟨(by show cells + 1 + 0 ≤ 601024; omega), (by show slots + 6 + 0 ≤ 7293000; omega)⟩) hS (fun q _ h => hFc q h) hFc (fun r8 u8 t9 H1 locs ht9 hvm9 hw8 hB9 hz1 hk1 hS => ?_)
  obtain ⟨c8, τ8, k8⟩ := u8
  replace hw8 : spRow σ (xs (i + 1)) (xs (i + 2)) = (c8, r8, τ8) := hw8
  obtain ⟨hP1, hK1, hD1⟩ := hB9
  rw [ht9] at hP1
  obtain ⟨hP, hD⟩ := va_join (wr := [(hd, .inr (0, [.ref ra])), (ra, .inl (cR, 4, .inr (.inr (.inr (.inr g))))), ((y 0), .inr (1, [.ref (b2 0), .int (nI ((τ5) 0).2.1), .int (nI ((τ5) 0).2.2)])), ((b2 0), .inl (cB, M, .inl (fun j => sb_b (((τ5) 0).1 j)))), ((y 1), .inr (1, [.ref (b2 1), .int (nI ((τ5) 1).2.1), .int (nI ((τ5) 1).2.2)])), ((b2 1), .inl (cB, M, .inl (fun j => sb_b (((τ5) 1).1 j)))), ((y 2), .inr (1, [.ref (b2 2), .int (nI ((τ5) 2).2.1), .int (nI ((τ5) 2).2.2)])), ((b2 2), .inl (cB, M, .inl (fun j => sb_b (((τ5) 2).1 j)))), ((y 3), .inr (1, [.ref (b2 3), .int (nI ((τ5) 3).2.1), .int (nI ((τ5) 3).2.2)])), ((b2 3), .inl (cB, M, .inl (fun j => sb_b (((τ5) 3).1 j)))), (oa, .inl (cL, 1, .inr (.inl f5)))]) (w1 := [(hm, .inr (2, [.int (nI c8), .int (nI M), .ref cl, .ref sa, .ref pa, .int k8])), (cl, .inl (cL, 32768, .inr (.inl (pkF (τ8))))), (sa, .inl (cI, 4, .inl (fun i9 => nI ((τ8) i9).2.1))), (pa, .inl (cI, 4, .inl (fun i9 => nI ((τ8) i9).2.2)))]) hP hD [11, 12, 13, 14] [0, 1, 2, 3, 4, 5, 6, 7, 8, 9, 10] rfl rfl (by decide) (by decide) hk1 hFc hP1 hD1
  generalize H1 = H at hP hS ⊢
  have hP : va_P D vCl [(hd, .inr (0, [.ref ra])), (ra, .inl (cR, 4, .inr (.inr (.inr (.inr g))))), ((y 0), .inr (1, [.ref (b2 0), .int (nI ((τ5) 0).2.1), .int (nI ((τ5) 0).2.2)])), ((b2 0), .inl (cB, M, .inl (fun j => sb_b (((τ5) 0).1 j)))), ((y 1), .inr (1, [.ref (b2 1), .int (nI ((τ5) 1).2.1), .int (nI ((τ5) 1).2.2)])), ((b2 1), .inl (cB, M, .inl (fun j => sb_b (((τ5) 1).1 j)))), ((y 2), .inr (1, [.ref (b2 2), .int (nI ((τ5) 2).2.1), .int (nI ((τ5) 2).2.2)])), ((b2 2), .inl (cB, M, .inl (fun j => sb_b (((τ5) 2).1 j)))), ((y 3), .inr (1, [.ref (b2 3), .int (nI ((τ5) 3).2.1), .int (nI ((τ5) 3).2.2)])), ((b2 3), .inl (cB, M, .inl (fun j => sb_b (((τ5) 3).1 j)))), (oa, .inl (cL, 1, .inr (.inl f5))), (hm, .inr (2, [.int (nI c8), .int (nI M), .ref cl, .ref sa, .ref pa, .int k8])), (cl, .inl (cL, 32768, .inr (.inl (pkF (τ8))))), (sa, .inl (cI, 4, .inl (fun i9 => nI ((τ8) i9).2.1))), (pa, .inl (cI, 4, .inl (fun i9 => nI ((τ8) i9).2.2)))] H := hP
  have hD : va_D (fun q : Nat => s.heap.size ≤ q) [(hd, .inr (0, [.ref ra])), (ra, .inl (cR, 4, .inr (.inr (.inr (.inr g))))), ((y 0), .inr (1, [.ref (b2 0), .int (nI ((τ5) 0).2.1), .int (nI ((τ5) 0).2.2)])), ((b2 0), .inl (cB, M, .inl (fun j => sb_b (((τ5) 0).1 j)))), ((y 1), .inr (1, [.ref (b2 1), .int (nI ((τ5) 1).2.1), .int (nI ((τ5) 1).2.2)])), ((b2 1), .inl (cB, M, .inl (fun j => sb_b (((τ5) 1).1 j)))), ((y 2), .inr (1, [.ref (b2 2), .int (nI ((τ5) 2).2.1), .int (nI ((τ5) 2).2.2)])), ((b2 2), .inl (cB, M, .inl (fun j => sb_b (((τ5) 2).1 j)))), ((y 3), .inr (1, [.ref (b2 3), .int (nI ((τ5) 3).2.1), .int (nI ((τ5) 3).2.2)])), ((b2 3), .inl (cB, M, .inl (fun j => sb_b (((τ5) 3).1 j)))), (oa, .inl (cL, 1, .inr (.inl f5))), (hm, .inr (2, [.int (nI c8), .int (nI M), .ref cl, .ref sa, .ref pa, .int k8])), (cl, .inl (cL, 32768, .inr (.inl (pkF (τ8))))), (sa, .inl (cI, 4, .inl (fun i9 => nI ((τ8) i9).2.1))), (pa, .inl (cI, 4, .inl (fun i9 => nI ((τ8) i9).2.2)))] := hD
  have hc8 : c8 ≤ 4 := by have h9 := le_spRow σ (xs (i + 1)) (xs (i + 2)); rw [hw8] at h9; exact h9
  have hσ8 : dkok M τ8 := by have h9 := id_spRow σ (xs (i + 1)) (xs (i + 2)); rw [hw8] at h9; rw [show τ8 = σ from h9]; exact hσ
  rw [hw8] at h51 h52 h53
  have h51 : r5 = nI c8 := h51
  have h52 : τ5 = τ8 := h52
  have h53 : c8 = 0 → f5 0 = r8.toInt64 := h53
  subst h51
  subst h52
  refine lv_istore (lv' := [(6, .int r8), (5, .int (nI c8)), (0, .ref b), (1, .ref hd), (2, .ref hm), (3, .ref oa), (4, .int (nI i))]) hx hb d_L_law_1599 hl (by decide) rfl (fun ls hl => ?_)
  refine lv_aload_n hx hb d_L_law_1601 rfl (lv_at hl 4 rfl) ?_
  have hPc := hP.sub (ws' := [(hm, .inr (2, [.int (nI c8), .int (nI M), .ref cl, .ref sa, .ref pa, .int k8])), (cl, .inl (cL, 32768, .inr (.inl (pkF (τ5))))), (sa, .inl (cI, 4, .inl (fun i9 => nI ((τ5) i9).2.1))), (pa, .inl (cI, 4, .inl (fun i9 => nI ((τ5) i9).2.2)))]) [11, 12, 13, 14] rfl
  have hKc := hK.sub (tys' := [(cL, .long), (cI, .int)]) [2, 3] rfl
  refine vp_callSi (W.runV (As := []) (rest := []) ⟨hx, hb, hml, hown, hA⟩ (c_M_thrown l D cL cI hm cl sa pa M (nI c8) k8 τ5) (q_M_thrown hA k2_233 rfl rfl ⟨(Nat.le_of_ble_eq_true rfl), (Nat.le_of_ble_eq_true rfl)⟩) (ox_V (va_recv hKc hPc (ci := 2) (q0 := 0) rfl rfl) (ox_S hPc hKc)) rfl rfl hl.1 rfl (lv_room (Nat.le_of_ble_eq_true rfl)) d_L_law_1602 ⟨(by show cells + 1 + 0 + 0 ≤ 601024; omega), (by show slots + 6 + 0 + 0 ≤ 7293000; omega)⟩) (fun r7 hr7 => ?_)
  subst hr7
  refine lv_iload hx hb d_L_law_1605 (lv_at hl 1 rfl) ?_
  refine lv_icmp_eq (tgt := 1612) hx hb d_L_law_1607 (by decide) (fun _ => ?_) (fun q9 => absurd rfl q9)
  refine lv_iload hx hb d_L_law_1612 (lv_at hl 1 rfl) ?_
  refine lv_if_ne (tgt := 1629) hx hb d_L_law_1614 (by decide) (fun c1614 => ?_) (fun c1614 => ?_)
  · refine lv_goto (tgt := 1700) hx hb d_L_law_1629 (by decide) ?_
    exact K τ5 f5 (nI c8) k8 H locs hσ8 hP hD hS ls (lv_sub hl [2, 3, 4, 5, 6] rfl)
  · refine lv_aload_n hx hb d_L_law_1617 rfl (lv_at hl 5 rfl) ?_
    refine lv_iconst (v := 0) hx hb d_L_law_1618 (by decide) ?_
    have hc0 : c8 = 0 := (nI_eq (b := 0) (by omega) (by omega)).mp c1614
    have h53 := h53 hc0
    refine va_lald hx hb hK hP 10 2 rfl rfl (by unfold vp_in; decide) d_L_law_1619 ?_
    refine lv_topl (fun v1619 ev1619 => ?_)
    have ev1619 : v1619 = r8.toInt64 := by rw [ev1619, sb_cl0]; exact h53
    subst ev1619
    refine lv_iload hx hb d_L_law_1620 (lv_at hl 0 rfl) ?_
    refine lv_i2l hx hb d_L_law_1622 rfl ?_
    refine lv_topl (fun v1622 ev1622 => ?_)
    refine W.lcmp hx hb d_L_law_1623 ?_
    refine lv_topi (fun v1623 ev1623 => ?_)
    refine lv_if_eq (tgt := 1629) hx hb d_L_law_1624 (by decide) (fun _ => ?_) (fun q9 => absurd (by rw [ev1623, ev1622]; exact (lg_cmp_eq _ _).mpr rfl) q9)
    refine lv_goto (tgt := 1700) hx hb d_L_law_1629 (by decide) ?_
    exact K τ5 f5 (nI c8) k8 H locs hσ8 hP hD hS ls (lv_sub hl [2, 3, 4, 5, 6] rfl)
set_option maxHeartbeats 2000000 in
set_option maxRecDepth 100000 in
/-- the law at byteAt -/
theorem k_byteAt {p : Program} {l : Launch} {e : Env} {s : State} {m : MethodId} {below : List Frame} {meth : Method} {c : Code} (hL0 : l.stackTraces = false) {b L : Nat} {xs : Nat → Int32} (hL : L ≤ 2561) (hx : p.tables.exec = Jvm.exec) (hb : c.code = code) (hml : c.maxLocals = 8) (hown : s.vm.findClass R_L = some m.cls) (hA : ∀ w ∈ wsA, w.before #[Value.ref b] s = true) (hX : va_X b L xs s s.heap) (hbl : b < s.heap.size) (hG : tx_G s) (hN : tx_N s) {D : va_G} {cR cB cL cI : ClassId} {hd ra oa hm cl sa pa : Nat} {g : Nat → Option Nat} {M : Nat} {y b2 : Nat → Nat} (hg : ∀ i, i < 4 → g i = some (y i)) (hK : va_K D vCl [(cB, .byte), (cR, .object "PacketDesk$Row"), (cL, .long), (cI, .int)] s) (σ : dkS) (f0 : Nat → Int64) (th tk : Int32) (hσ : dkok M σ) (i : Nat) (hi : i + 5 ≤ L) (cells slots : Nat) (hce : cells + 10 ≤ 601024) (hsl : slots + 100 ≤ 7293000) (H : Heap) (locs : List Loc) (hP : va_P D vCl [(hd, .inr (0, [.ref ra])), (ra, .inl (cR, 4, .inr (.inr (.inr (.inr g))))), ((y 0), .inr (1, [.ref (b2 0), .int (nI ((σ) 0).2.1), .int (nI ((σ) 0).2.2)])), ((b2 0), .inl (cB, M, .inl (fun j => sb_b (((σ) 0).1 j)))), ((y 1), .inr (1, [.ref (b2 1), .int (nI ((σ) 1).2.1), .int (nI ((σ) 1).2.2)])), ((b2 1), .inl (cB, M, .inl (fun j => sb_b (((σ) 1).1 j)))), ((y 2), .inr (1, [.ref (b2 2), .int (nI ((σ) 2).2.1), .int (nI ((σ) 2).2.2)])), ((b2 2), .inl (cB, M, .inl (fun j => sb_b (((σ) 2).1 j)))), ((y 3), .inr (1, [.ref (b2 3), .int (nI ((σ) 3).2.1), .int (nI ((σ) 3).2.2)])), ((b2 3), .inl (cB, M, .inl (fun j => sb_b (((σ) 3).1 j)))), (oa, .inl (cL, 1, .inr (.inl f0))), (hm, .inr (2, [.int th, .int (nI M), .ref cl, .ref sa, .ref pa, .int tk])), (cl, .inl (cL, 32768, .inr (.inl (pkF (σ))))), (sa, .inl (cI, 4, .inl (fun i9 => nI ((σ) i9).2.1))), (pa, .inl (cI, 4, .inl (fun i9 => nI ((σ) i9).2.2)))] H) (hD : va_D (fun q : Nat => s.heap.size ≤ q) [(hd, .inr (0, [.ref ra])), (ra, .inl (cR, 4, .inr (.inr (.inr (.inr g))))), ((y 0), .inr (1, [.ref (b2 0), .int (nI ((σ) 0).2.1), .int (nI ((σ) 0).2.2)])), ((b2 0), .inl (cB, M, .inl (fun j => sb_b (((σ) 0).1 j)))), ((y 1), .inr (1, [.ref (b2 1), .int (nI ((σ) 1).2.1), .int (nI ((σ) 1).2.2)])), ((b2 1), .inl (cB, M, .inl (fun j => sb_b (((σ) 1).1 j)))), ((y 2), .inr (1, [.ref (b2 2), .int (nI ((σ) 2).2.1), .int (nI ((σ) 2).2.2)])), ((b2 2), .inl (cB, M, .inl (fun j => sb_b (((σ) 2).1 j)))), ((y 3), .inr (1, [.ref (b2 3), .int (nI ((σ) 3).2.1), .int (nI ((σ) 3).2.2)])), ((b2 3), .inl (cB, M, .inl (fun j => sb_b (((σ) 3).1 j)))), (oa, .inl (cL, 1, .inr (.inl f0))), (hm, .inr (2, [.int th, .int (nI M), .ref cl, .ref sa, .ref pa, .int tk])), (cl, .inl (cL, 32768, .inr (.inl (pkF (σ))))), (sa, .inl (cI, 4, .inl (fun i9 => nI ((σ) i9).2.1))), (pa, .inl (cI, 4, .inl (fun i9 => nI ((σ) i9).2.2)))]) (hS : va_S (fun q : Nat => s.heap.size ≤ q) s.heap H locs) (ls : Array Slot) (hl : lv_has ls 8 [(0, .ref b), (1, .ref hd), (2, .ref hm), (3, .ref oa), (4, .int (nI i))]) (K : ∀ (σ' : dkS) (f' : Nat → Int64) (th' tk' : Int32) (H' : Heap) (locs' : List Loc), dkok M σ' → va_P D vCl [(hd, .inr (0, [.ref ra])), (ra, .inl (cR, 4, .inr (.inr (.inr (.inr g))))), ((y 0), .inr (1, [.ref (b2 0), .int (nI ((σ') 0).2.1), .int (nI ((σ') 0).2.2)])), ((b2 0), .inl (cB, M, .inl (fun j => sb_b (((σ') 0).1 j)))), ((y 1), .inr (1, [.ref (b2 1), .int (nI ((σ') 1).2.1), .int (nI ((σ') 1).2.2)])), ((b2 1), .inl (cB, M, .inl (fun j => sb_b (((σ') 1).1 j)))), ((y 2), .inr (1, [.ref (b2 2), .int (nI ((σ') 2).2.1), .int (nI ((σ') 2).2.2)])), ((b2 2), .inl (cB, M, .inl (fun j => sb_b (((σ') 2).1 j)))), ((y 3), .inr (1, [.ref (b2 3), .int (nI ((σ') 3).2.1), .int (nI ((σ') 3).2.2)])), ((b2 3), .inl (cB, M, .inl (fun j => sb_b (((σ') 3).1 j)))), (oa, .inl (cL, 1, .inr (.inl f'))), (hm, .inr (2, [.int th', .int (nI M), .ref cl, .ref sa, .ref pa, .int tk'])), (cl, .inl (cL, 32768, .inr (.inl (pkF (σ'))))), (sa, .inl (cI, 4, .inl (fun i9 => nI ((σ') i9).2.1))), (pa, .inl (cI, 4, .inl (fun i9 => nI ((σ') i9).2.2)))] H' → va_D (fun q : Nat => s.heap.size ≤ q) [(hd, .inr (0, [.ref ra])), (ra, .inl (cR, 4, .inr (.inr (.inr (.inr g))))), ((y 0), .inr (1, [.ref (b2 0), .int (nI ((σ') 0).2.1), .int (nI ((σ') 0).2.2)])), ((b2 0), .inl (cB, M, .inl (fun j => sb_b (((σ') 0).1 j)))), ((y 1), .inr (1, [.ref (b2 1), .int (nI ((σ') 1).2.1), .int (nI ((σ') 1).2.2)])), ((b2 1), .inl (cB, M, .inl (fun j => sb_b (((σ') 1).1 j)))), ((y 2), .inr (1, [.ref (b2 2), .int (nI ((σ') 2).2.1), .int (nI ((σ') 2).2.2)])), ((b2 2), .inl (cB, M, .inl (fun j => sb_b (((σ') 2).1 j)))), ((y 3), .inr (1, [.ref (b2 3), .int (nI ((σ') 3).2.1), .int (nI ((σ') 3).2.2)])), ((b2 3), .inl (cB, M, .inl (fun j => sb_b (((σ') 3).1 j)))), (oa, .inl (cL, 1, .inr (.inl f'))), (hm, .inr (2, [.int th', .int (nI M), .ref cl, .ref sa, .ref pa, .int tk'])), (cl, .inl (cL, 32768, .inr (.inl (pkF (σ'))))), (sa, .inl (cI, 4, .inl (fun i9 => nI ((σ') i9).2.1))), (pa, .inl (cI, 4, .inl (fun i9 => nI ((σ') i9).2.2)))] → va_S (fun q : Nat => s.heap.size ≤ q) s.heap H' locs' → ∀ ls' : Array Slot, lv_has ls' 8 [(0, .ref b), (1, .ref hd), (2, .ref hm), (3, .ref oa), (4, .int (nI i))] → W p l e room_1 s m #[Value.ref b] below meth c H' locs' (cells + 1) (slots + 6) (lw_Z below #[Value.ref b] s) (F0 m 1700 ls' [])) : W p l e room_1 s m #[Value.ref b] below meth c H locs cells slots (lw_Z below #[Value.ref b] s) (F0 m 1632 ls []) := by
  have hAq : ∀ q : Nat, s.heap.size ≤ q → (fun q : Nat => s.heap.size ≤ q) q := fun _ h => h
  have hbA : ¬ (fun q : Nat => s.heap.size ≤ q) b := Nat.not_le.mpr hbl
  refine lv_aload_n hx hb d_L_law_1632 rfl (lv_at hl 1 rfl) ?_
  refine lv_aload_n hx hb d_L_law_1633 rfl (lv_at hl 0 rfl) ?_
  refine lv_iload hx hb d_L_law_1634 (lv_at hl 4 rfl) ?_
  refine lv_iconst (v := 1) hx hb d_L_law_1636 (by decide) ?_
  refine lv_iadd hx hb d_L_law_1637 ?_
  refine lv_topi (fun v1637 ev1637 => ?_)
  have ev1637 : v1637 = nI (i + 1) := by rw [ev1637]; exact nI_add i 1
  subst ev1637
  refine va_sld hx hb hX hbl hbA hS (vp_in_nI (n := i + 1) (N := L) (by omega) (by omega)) d_L_law_1638 ?_
  refine lv_topi (fun v1638 ev1638 => ?_)
  have ev1638 : v1638 = xs (i + 1) := by rw [ev1638, nI_clamp (by omega)]
  subst ev1638
  refine lv_aload_n hx hb d_L_law_1639 rfl (lv_at hl 0 rfl) ?_
  refine lv_iload hx hb d_L_law_1640 (lv_at hl 4 rfl) ?_
  refine lv_iconst (v := 2) hx hb d_L_law_1642 (by decide) ?_
  refine lv_iadd hx hb d_L_law_1643 ?_
  refine lv_topi (fun v1643 ev1643 => ?_)
  have ev1643 : v1643 = nI (i + 2) := by rw [ev1643]; exact nI_add i 2
  subst ev1643
  refine va_sld hx hb hX hbl hbA hS (vp_in_nI (n := i + 2) (N := L) (by omega) (by omega)) d_L_law_1644 ?_
  refine lv_topi (fun v1644 ev1644 => ?_)
  have ev1644 : v1644 = xs (i + 2) := by rw [ev1644, nI_clamp (by omega)]
  subst ev1644
  refine lv_aload_n hx hb d_L_law_1645 rfl (lv_at hl 3 rfl) ?_
  have hPc := hP.sub (ws' := [(hd, .inr (0, [.ref ra])), (ra, .inl (cR, 4, .inr (.inr (.inr (.inr g))))), ((y 0), .inr (1, [.ref (b2 0), .int (nI ((σ) 0).2.1), .int (nI ((σ) 0).2.2)])), ((b2 0), .inl (cB, M, .inl (fun j => sb_b (((σ) 0).1 j)))), ((y 1), .inr (1, [.ref (b2 1), .int (nI ((σ) 1).2.1), .int (nI ((σ) 1).2.2)])), ((b2 1), .inl (cB, M, .inl (fun j => sb_b (((σ) 1).1 j)))), ((y 2), .inr (1, [.ref (b2 2), .int (nI ((σ) 2).2.1), .int (nI ((σ) 2).2.2)])), ((b2 2), .inl (cB, M, .inl (fun j => sb_b (((σ) 2).1 j)))), ((y 3), .inr (1, [.ref (b2 3), .int (nI ((σ) 3).2.1), .int (nI ((σ) 3).2.2)])), ((b2 3), .inl (cB, M, .inl (fun j => sb_b (((σ) 3).1 j)))), (oa, .inl (cL, 1, .inr (.inl f0)))]) [0, 1, 2, 3, 4, 5, 6, 7, 8, 9, 10] rfl
  have hDc := hD.sub (ws' := [(hd, .inr (0, [.ref ra])), (ra, .inl (cR, 4, .inr (.inr (.inr (.inr g))))), ((y 0), .inr (1, [.ref (b2 0), .int (nI ((σ) 0).2.1), .int (nI ((σ) 0).2.2)])), ((b2 0), .inl (cB, M, .inl (fun j => sb_b (((σ) 0).1 j)))), ((y 1), .inr (1, [.ref (b2 1), .int (nI ((σ) 1).2.1), .int (nI ((σ) 1).2.2)])), ((b2 1), .inl (cB, M, .inl (fun j => sb_b (((σ) 1).1 j)))), ((y 2), .inr (1, [.ref (b2 2), .int (nI ((σ) 2).2.1), .int (nI ((σ) 2).2.2)])), ((b2 2), .inl (cB, M, .inl (fun j => sb_b (((σ) 2).1 j)))), ((y 3), .inr (1, [.ref (b2 3), .int (nI ((σ) 3).2.1), .int (nI ((σ) 3).2.2)])), ((b2 3), .inl (cB, M, .inl (fun j => sb_b (((σ) 3).1 j)))), (oa, .inl (cL, 1, .inr (.inl f0)))]) [0, 1, 2, 3, 4, 5, 6, 7, 8, 9, 10] (by decide) rfl
  have hKc := hK.sub (tys' := [(cB, .byte), (cR, .object "PacketDesk$Row"), (cL, .long)]) [0, 1, 2] rfl
  have hFc := va_free (wc := [(hd, .inr (0, [.ref ra])), (ra, .inl (cR, 4, .inr (.inr (.inr (.inr g))))), ((y 0), .inr (1, [.ref (b2 0), .int (nI ((σ) 0).2.1), .int (nI ((σ) 0).2.2)])), ((b2 0), .inl (cB, M, .inl (fun j => sb_b (((σ) 0).1 j)))), ((y 1), .inr (1, [.ref (b2 1), .int (nI ((σ) 1).2.1), .int (nI ((σ) 1).2.2)])), ((b2 1), .inl (cB, M, .inl (fun j => sb_b (((σ) 1).1 j)))), ((y 2), .inr (1, [.ref (b2 2), .int (nI ((σ) 2).2.1), .int (nI ((σ) 2).2.2)])), ((b2 2), .inl (cB, M, .inl (fun j => sb_b (((σ) 2).1 j)))), ((y 3), .inr (1, [.ref (b2 3), .int (nI ((σ) 3).2.1), .int (nI ((σ) 3).2.2)])), ((b2 3), .inl (cB, M, .inl (fun j => sb_b (((σ) 3).1 j)))), (oa, .inl (cL, 1, .inr (.inl f0)))]) hD hS hAq [0, 1, 2, 3, 4, 5, 6, 7, 8, 9, 10] rfl
  have hh9 : ∀ q : Nat, q < s.heap.size → H[q]? = s.heap[q]? := fun q h => hS.2.1 q h (Nat.not_le.mpr h)
  refine lx_wi (lx_runS (As := [.ref hd, .int (xs (i + 1)), .int (xs (i + 2)), .ref oa]) (rest := []) ⟨hx, hb, hml, hown, hA⟩ (c_L_byteAt l hL0 D cR cB cL hd ra oa g M y b2 σ f0 H.size (xs (i + 1)) (xs (i + 2)) hg hσ) (q_L_byteAt hA k2_196 rfl rfl ⟨(Nat.le_of_ble_eq_true rfl), (Nat.le_of_ble_eq_true rfl)⟩) (oxn_S hPc hKc hDc hG hh9 hN) rfl rfl hl.1 rfl (lv_room (Nat.le_of_ble_eq_true rfl)) d_L_law_1646 ⟨(by show cells + 2 ≤ 601024; omega), (by show slots + 12 ≤ 7293000; omega)⟩) hS (fun q _ h => hFc q h) hFc (fun r5 u5 t9 H1 locs ht9 hvm9 hw5 hB9 hz1 hk1 hS => ?_)
  obtain ⟨τ5, f5⟩ := u5
  obtain ⟨hP1, hK1, hD1⟩ := hB9
  rw [ht9] at hP1
  obtain ⟨hP, hD⟩ := va_join (wr := [(hm, .inr (2, [.int th, .int (nI M), .ref cl, .ref sa, .ref pa, .int tk])), (cl, .inl (cL, 32768, .inr (.inl (pkF (σ))))), (sa, .inl (cI, 4, .inl (fun i9 => nI ((σ) i9).2.1))), (pa, .inl (cI, 4, .inl (fun i9 => nI ((σ) i9).2.2)))]) (w1 := [(hd, .inr (0, [.ref ra])), (ra, .inl (cR, 4, .inr (.inr (.inr (.inr g))))), ((y 0), .inr (1, [.ref (b2 0), .int (nI ((τ5) 0).2.1), .int (nI ((τ5) 0).2.2)])), ((b2 0), .inl (cB, M, .inl (fun j => sb_b (((τ5) 0).1 j)))), ((y 1), .inr (1, [.ref (b2 1), .int (nI ((τ5) 1).2.1), .int (nI ((τ5) 1).2.2)])), ((b2 1), .inl (cB, M, .inl (fun j => sb_b (((τ5) 1).1 j)))), ((y 2), .inr (1, [.ref (b2 2), .int (nI ((τ5) 2).2.1), .int (nI ((τ5) 2).2.2)])), ((b2 2), .inl (cB, M, .inl (fun j => sb_b (((τ5) 2).1 j)))), ((y 3), .inr (1, [.ref (b2 3), .int (nI ((τ5) 3).2.1), .int (nI ((τ5) 3).2.2)])), ((b2 3), .inl (cB, M, .inl (fun j => sb_b (((τ5) 3).1 j)))), (oa, .inl (cL, 1, .inr (.inl f5)))]) hP hD [0, 1, 2, 3, 4, 5, 6, 7, 8, 9, 10] [11, 12, 13, 14] rfl rfl (by decide) (by decide) hk1 hFc hP1 hD1
  generalize H1 = H at hP hS ⊢
  have hP : va_P D vCl [(hd, .inr (0, [.ref ra])), (ra, .inl (cR, 4, .inr (.inr (.inr (.inr g))))), ((y 0), .inr (1, [.ref (b2 0), .int (nI ((τ5) 0).2.1), .int (nI ((τ5) 0).2.2)])), ((b2 0), .inl (cB, M, .inl (fun j => sb_b (((τ5) 0).1 j)))), ((y 1), .inr (1, [.ref (b2 1), .int (nI ((τ5) 1).2.1), .int (nI ((τ5) 1).2.2)])), ((b2 1), .inl (cB, M, .inl (fun j => sb_b (((τ5) 1).1 j)))), ((y 2), .inr (1, [.ref (b2 2), .int (nI ((τ5) 2).2.1), .int (nI ((τ5) 2).2.2)])), ((b2 2), .inl (cB, M, .inl (fun j => sb_b (((τ5) 2).1 j)))), ((y 3), .inr (1, [.ref (b2 3), .int (nI ((τ5) 3).2.1), .int (nI ((τ5) 3).2.2)])), ((b2 3), .inl (cB, M, .inl (fun j => sb_b (((τ5) 3).1 j)))), (oa, .inl (cL, 1, .inr (.inl f5))), (hm, .inr (2, [.int th, .int (nI M), .ref cl, .ref sa, .ref pa, .int tk])), (cl, .inl (cL, 32768, .inr (.inl (pkF (σ))))), (sa, .inl (cI, 4, .inl (fun i9 => nI ((σ) i9).2.1))), (pa, .inl (cI, 4, .inl (fun i9 => nI ((σ) i9).2.2)))] H := hP.sub [4, 5, 6, 7, 8, 9, 10, 11, 12, 13, 14, 0, 1, 2, 3] rfl
  have hD : va_D (fun q : Nat => s.heap.size ≤ q) [(hd, .inr (0, [.ref ra])), (ra, .inl (cR, 4, .inr (.inr (.inr (.inr g))))), ((y 0), .inr (1, [.ref (b2 0), .int (nI ((τ5) 0).2.1), .int (nI ((τ5) 0).2.2)])), ((b2 0), .inl (cB, M, .inl (fun j => sb_b (((τ5) 0).1 j)))), ((y 1), .inr (1, [.ref (b2 1), .int (nI ((τ5) 1).2.1), .int (nI ((τ5) 1).2.2)])), ((b2 1), .inl (cB, M, .inl (fun j => sb_b (((τ5) 1).1 j)))), ((y 2), .inr (1, [.ref (b2 2), .int (nI ((τ5) 2).2.1), .int (nI ((τ5) 2).2.2)])), ((b2 2), .inl (cB, M, .inl (fun j => sb_b (((τ5) 2).1 j)))), ((y 3), .inr (1, [.ref (b2 3), .int (nI ((τ5) 3).2.1), .int (nI ((τ5) 3).2.2)])), ((b2 3), .inl (cB, M, .inl (fun j => sb_b (((τ5) 3).1 j)))), (oa, .inl (cL, 1, .inr (.inl f5))), (hm, .inr (2, [.int th, .int (nI M), .ref cl, .ref sa, .ref pa, .int tk])), (cl, .inl (cL, 32768, .inr (.inl (pkF (σ))))), (sa, .inl (cI, 4, .inl (fun i9 => nI ((σ) i9).2.1))), (pa, .inl (cI, 4, .inl (fun i9 => nI ((σ) i9).2.2)))] := hD.sub [4, 5, 6, 7, 8, 9, 10, 11, 12, 13, 14, 0, 1, 2, 3] (by decide) rfl
  obtain ⟨h51, h52, h53⟩ := hw5
  refine lv_istore (lv' := [(5, .int r5), (0, .ref b), (1, .ref hd), (2, .ref hm), (3, .ref oa), (4, .int (nI i))]) hx hb d_L_law_1649 hl (by decide) rfl (fun ls hl => ?_)
  refine lv_aload_n hx hb d_L_law_1651 rfl (lv_at hl 3 rfl) ?_
  refine lv_aload_n hx hb d_L_law_1652 rfl (lv_at hl 1 rfl) ?_
  refine lv_iload hx hb d_L_law_1653 (lv_at hl 5 rfl) ?_
  refine lv_iconst (v := 1) hx hb d_L_law_1655 (by decide) ?_
  refine lv_iadd hx hb d_L_law_1656 ?_
  refine lv_topi (fun v1656 ev1656 => ?_)
  have ev1656 : v1656 = nI (i + 1) := by rw [ev1656]; exact nI_add i 1
  subst ev1656
  refine va_sld hx hb hX hbl hbA hS (vp_in_nI (n := i + 1) (N := L) (by omega) (by omega)) d_L_law_1657 ?_
  refine lv_topi (fun v1657 ev1657 => ?_)
  have ev1657 : v1657 = xs (i + 1) := by rw [ev1657, nI_clamp (by omega)]
  subst ev1657
  refine lv_aload_n hx hb d_L_law_1658 rfl (lv_at hl 1 rfl) ?_
  refine lv_iload hx hb d_L_law_1659 (lv_at hl 5 rfl) ?_
  refine lv_iconst (v := 2) hx hb d_L_law_1661 (by decide) ?_
  refine lv_iadd hx hb d_L_law_1662 ?_
  refine lv_topi (fun v1662 ev1662 => ?_)
  have ev1662 : v1662 = nI (i + 2) := by rw [ev1662]; exact nI_add i 2
  subst ev1662
  refine va_sld hx hb hX hbl hbA hS (vp_in_nI (n := i + 2) (N := L) (by omega) (by omega)) d_L_law_1663 ?_
  refine lv_topi (fun v1663 ev1663 => ?_)
  have ev1663 : v1663 = xs (i + 2) := by rw [ev1663, nI_clamp (by omega)]
  subst ev1663
  have hPc := hP.sub (ws' := [(hm, .inr (2, [.int th, .int (nI M), .ref cl, .ref sa, .ref pa, .int tk])), (cl, .inl (cL, 32768, .inr (.inl (pkF (σ))))), (sa, .inl (cI, 4, .inl (fun i9 => nI ((σ) i9).2.1))), (pa, .inl (cI, 4, .inl (fun i9 => nI ((σ) i9).2.2)))]) [11, 12, 13, 14] rfl
  have hDc := hD.sub (ws' := [(hm, .inr (2, [.int th, .int (nI M), .ref cl, .ref sa, .ref pa, .int tk])), (cl, .inl (cL, 32768, .inr (.inl (pkF (σ))))), (sa, .inl (cI, 4, .inl (fun i9 => nI ((σ) i9).2.1))), (pa, .inl (cI, 4, .inl (fun i9 => nI ((σ) i9).2.2)))]) [11, 12, 13, 14] (by decide) rfl
  have hKc := hK.sub (tys' := [(cL, .long), (cI, .int)]) [2, 3] rfl
  have hFc := va_free (wc := [(hm, .inr (2, [.int th, .int (nI M), .ref cl, .ref sa, .ref pa, .int tk])), (cl, .inl (cL, 32768, .inr (.inl (pkF (σ))))), (sa, .inl (cI, 4, .inl (fun i9 => nI ((σ) i9).2.1))), (pa, .inl (cI, 4, .inl (fun i9 => nI ((σ) i9).2.2)))]) hD hS hAq [11, 12, 13, 14] rfl
  refine va_calli (va_runV (As := [.int (xs (i + 1)), .int (xs (i + 2))]) (rest := []) ⟨hx, hb, hml, hown, hA⟩ (c_M_byteAt l D cL cI hm cl sa pa M th tk σ H.size (xs (i + 1)) (xs (i + 2)) hσ) (q_M_byteAt hA k3_164 rfl rfl ⟨(Nat.le_of_ble_eq_true rfl), (Nat.le_of_ble_eq_true rfl)⟩) (ox_V (va_recv hKc hPc (ci := 2) (q0 := 0) rfl rfl) (oxw_S hPc hKc hDc)) rfl rfl hl.1 rfl (lv_room (Nat.le_of_ble_eq_true rfl)) d_L_law_1664 ⟨(by show cells + 1 + 0 ≤ 601024; omega), (by show slots + 6 + 0 ≤ 7293000; omega)⟩) hS (fun q _ h => hFc q h) hFc (fun r8 u8 t9 H1 locs ht9 hvm9 hw8 hB9 hz1 hk1 hS => ?_)
  obtain ⟨c8, τ8, k8⟩ := u8
  replace hw8 : spByteAt σ (xs (i + 1)) (xs (i + 2)) = (c8, r8, τ8) := hw8
  obtain ⟨hP1, hK1, hD1⟩ := hB9
  rw [ht9] at hP1
  obtain ⟨hP, hD⟩ := va_join (wr := [(hd, .inr (0, [.ref ra])), (ra, .inl (cR, 4, .inr (.inr (.inr (.inr g))))), ((y 0), .inr (1, [.ref (b2 0), .int (nI ((τ5) 0).2.1), .int (nI ((τ5) 0).2.2)])), ((b2 0), .inl (cB, M, .inl (fun j => sb_b (((τ5) 0).1 j)))), ((y 1), .inr (1, [.ref (b2 1), .int (nI ((τ5) 1).2.1), .int (nI ((τ5) 1).2.2)])), ((b2 1), .inl (cB, M, .inl (fun j => sb_b (((τ5) 1).1 j)))), ((y 2), .inr (1, [.ref (b2 2), .int (nI ((τ5) 2).2.1), .int (nI ((τ5) 2).2.2)])), ((b2 2), .inl (cB, M, .inl (fun j => sb_b (((τ5) 2).1 j)))), ((y 3), .inr (1, [.ref (b2 3), .int (nI ((τ5) 3).2.1), .int (nI ((τ5) 3).2.2)])), ((b2 3), .inl (cB, M, .inl (fun j => sb_b (((τ5) 3).1 j)))), (oa, .inl (cL, 1, .inr (.inl f5)))]) (w1 := [(hm, .inr (2, [.int (nI c8), .int (nI M), .ref cl, .ref sa, .ref pa, .int k8])), (cl, .inl (cL, 32768, .inr (.inl (pkF (τ8))))), (sa, .inl (cI, 4, .inl (fun i9 => nI ((τ8) i9).2.1))), (pa, .inl (cI, 4, .inl (fun i9 => nI ((τ8) i9).2.2)))]) hP hD [11, 12, 13, 14] [0, 1, 2, 3, 4, 5, 6, 7, 8, 9, 10] rfl rfl (by decide) (by decide) hk1 hFc hP1 hD1
  generalize H1 = H at hP hS ⊢
  have hP : va_P D vCl [(hd, .inr (0, [.ref ra])), (ra, .inl (cR, 4, .inr (.inr (.inr (.inr g))))), ((y 0), .inr (1, [.ref (b2 0), .int (nI ((τ5) 0).2.1), .int (nI ((τ5) 0).2.2)])), ((b2 0), .inl (cB, M, .inl (fun j => sb_b (((τ5) 0).1 j)))), ((y 1), .inr (1, [.ref (b2 1), .int (nI ((τ5) 1).2.1), .int (nI ((τ5) 1).2.2)])), ((b2 1), .inl (cB, M, .inl (fun j => sb_b (((τ5) 1).1 j)))), ((y 2), .inr (1, [.ref (b2 2), .int (nI ((τ5) 2).2.1), .int (nI ((τ5) 2).2.2)])), ((b2 2), .inl (cB, M, .inl (fun j => sb_b (((τ5) 2).1 j)))), ((y 3), .inr (1, [.ref (b2 3), .int (nI ((τ5) 3).2.1), .int (nI ((τ5) 3).2.2)])), ((b2 3), .inl (cB, M, .inl (fun j => sb_b (((τ5) 3).1 j)))), (oa, .inl (cL, 1, .inr (.inl f5))), (hm, .inr (2, [.int (nI c8), .int (nI M), .ref cl, .ref sa, .ref pa, .int k8])), (cl, .inl (cL, 32768, .inr (.inl (pkF (τ8))))), (sa, .inl (cI, 4, .inl (fun i9 => nI ((τ8) i9).2.1))), (pa, .inl (cI, 4, .inl (fun i9 => nI ((τ8) i9).2.2)))] H := hP
  have hD : va_D (fun q : Nat => s.heap.size ≤ q) [(hd, .inr (0, [.ref ra])), (ra, .inl (cR, 4, .inr (.inr (.inr (.inr g))))), ((y 0), .inr (1, [.ref (b2 0), .int (nI ((τ5) 0).2.1), .int (nI ((τ5) 0).2.2)])), ((b2 0), .inl (cB, M, .inl (fun j => sb_b (((τ5) 0).1 j)))), ((y 1), .inr (1, [.ref (b2 1), .int (nI ((τ5) 1).2.1), .int (nI ((τ5) 1).2.2)])), ((b2 1), .inl (cB, M, .inl (fun j => sb_b (((τ5) 1).1 j)))), ((y 2), .inr (1, [.ref (b2 2), .int (nI ((τ5) 2).2.1), .int (nI ((τ5) 2).2.2)])), ((b2 2), .inl (cB, M, .inl (fun j => sb_b (((τ5) 2).1 j)))), ((y 3), .inr (1, [.ref (b2 3), .int (nI ((τ5) 3).2.1), .int (nI ((τ5) 3).2.2)])), ((b2 3), .inl (cB, M, .inl (fun j => sb_b (((τ5) 3).1 j)))), (oa, .inl (cL, 1, .inr (.inl f5))), (hm, .inr (2, [.int (nI c8), .int (nI M), .ref cl, .ref sa, .ref pa, .int k8])), (cl, .inl (cL, 32768, .inr (.inl (pkF (τ8))))), (sa, .inl (cI, 4, .inl (fun i9 => nI ((τ8) i9).2.1))), (pa, .inl (cI, 4, .inl (fun i9 => nI ((τ8) i9).2.2)))] := hD
  have hc8 : c8 ≤ 4 := by have h9 := le_spByteAt σ (xs (i + 1)) (xs (i + 2)); rw [hw8] at h9; exact h9
  have hσ8 : dkok M τ8 := by have h9 := id_spByteAt σ (xs (i + 1)) (xs (i + 2)); rw [hw8] at h9; rw [show τ8 = σ from h9]; exact hσ
  rw [hw8] at h51 h52 h53
  have h51 : r5 = nI c8 := h51
  have h52 : τ5 = τ8 := h52
  have h53 : c8 = 0 → f5 0 = r8.toInt64 := h53
  subst h51
  subst h52
  refine lv_istore (lv' := [(6, .int r8), (5, .int (nI c8)), (0, .ref b), (1, .ref hd), (2, .ref hm), (3, .ref oa), (4, .int (nI i))]) hx hb d_L_law_1667 hl (by decide) rfl (fun ls hl => ?_)
  refine lv_aload_n hx hb d_L_law_1669 rfl (lv_at hl 4 rfl) ?_
  have hPc := hP.sub (ws' := [(hm, .inr (2, [.int (nI c8), .int (nI M), .ref cl, .ref sa, .ref pa, .int k8])), (cl, .inl (cL, 32768, .inr (.inl (pkF (τ5))))), (sa, .inl (cI, 4, .inl (fun i9 => nI ((τ5) i9).2.1))), (pa, .inl (cI, 4, .inl (fun i9 => nI ((τ5) i9).2.2)))]) [11, 12, 13, 14] rfl
  have hKc := hK.sub (tys' := [(cL, .long), (cI, .int)]) [2, 3] rfl
  refine vp_callSi (W.runV (As := []) (rest := []) ⟨hx, hb, hml, hown, hA⟩ (c_M_thrown l D cL cI hm cl sa pa M (nI c8) k8 τ5) (q_M_thrown hA k2_233 rfl rfl ⟨(Nat.le_of_ble_eq_true rfl), (Nat.le_of_ble_eq_true rfl)⟩) (ox_V (va_recv hKc hPc (ci := 2) (q0 := 0) rfl rfl) (ox_S hPc hKc)) rfl rfl hl.1 rfl (lv_room (Nat.le_of_ble_eq_true rfl)) d_L_law_1670 ⟨(by show cells + 1 + 0 + 0 ≤ 601024; omega), (by show slots + 6 + 0 + 0 ≤ 7293000; omega)⟩) (fun r7 hr7 => ?_)
  subst hr7
  refine lv_iload hx hb d_L_law_1673 (lv_at hl 1 rfl) ?_
  refine lv_icmp_eq (tgt := 1680) hx hb d_L_law_1675 (by decide) (fun _ => ?_) (fun q9 => absurd rfl q9)
  refine lv_iload hx hb d_L_law_1680 (lv_at hl 1 rfl) ?_
  refine lv_if_ne (tgt := 1697) hx hb d_L_law_1682 (by decide) (fun c1682 => ?_) (fun c1682 => ?_)
  · refine lv_goto (tgt := 1700) hx hb d_L_law_1697 (by decide) ?_
    exact K τ5 f5 (nI c8) k8 H locs hσ8 hP hD hS ls (lv_sub hl [2, 3, 4, 5, 6] rfl)
  · refine lv_aload_n hx hb d_L_law_1685 rfl (lv_at hl 5 rfl) ?_
    refine lv_iconst (v := 0) hx hb d_L_law_1686 (by decide) ?_
    have hc0 : c8 = 0 := (nI_eq (b := 0) (by omega) (by omega)).mp c1682
    have h53 := h53 hc0
    refine va_lald hx hb hK hP 10 2 rfl rfl (by unfold vp_in; decide) d_L_law_1687 ?_
    refine lv_topl (fun v1687 ev1687 => ?_)
    have ev1687 : v1687 = r8.toInt64 := by rw [ev1687, sb_cl0]; exact h53
    subst ev1687
    refine lv_iload hx hb d_L_law_1688 (lv_at hl 0 rfl) ?_
    refine lv_i2l hx hb d_L_law_1690 rfl ?_
    refine lv_topl (fun v1690 ev1690 => ?_)
    refine W.lcmp hx hb d_L_law_1691 ?_
    refine lv_topi (fun v1691 ev1691 => ?_)
    refine lv_if_eq (tgt := 1697) hx hb d_L_law_1692 (by decide) (fun _ => ?_) (fun q9 => absurd (by rw [ev1691, ev1690]; exact (lg_cmp_eq _ _).mpr rfl) q9)
    refine lv_goto (tgt := 1700) hx hb d_L_law_1697 (by decide) ?_
    exact K τ5 f5 (nI c8) k8 H locs hσ8 hP hD hS ls (lv_sub hl [2, 3, 4, 5, 6] rfl)
