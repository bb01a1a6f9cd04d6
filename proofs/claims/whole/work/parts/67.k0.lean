/-! THE LAW, CASE BY CASE -/
set_option maxHeartbeats 2000000 in
set_option maxRecDepth 100000 in
/-- the law at fixed -/
theorem k_fixed {p : Program} {l : Launch} {e : Env} {s : State} {m : MethodId} {below : List Frame} {meth : Method} {c : Code} (hL0 : l.stackTraces = false) {b L : Nat} {xs : Nat → Int32} (hL : L ≤ 2561) (hx : p.tables.exec = Jvm.exec) (hb : c.code = code) (hml : c.maxLocals = 8) (hown : s.vm.findClass R_L = some m.cls) (hA : ∀ w ∈ wsA, w.before #[Value.ref b] s = true) (hX : va_X b L xs s s.heap) (hbl : b < s.heap.size) (hG : tx_G s) (hN : tx_N s) {D : va_G} {cR cB cL cI : ClassId} {hd ra oa hm cl sa pa : Nat} {g : Nat → Option Nat} {M : Nat} {y b2 : Nat → Nat} (hg : ∀ i, i < 4 → g i = some (y i)) (hK : va_K D vCl [(cB, .byte), (cR, .object "PacketDesk$Row"), (cL, .long), (cI, .int)] s) (σ : dkS) (f0 : Nat → Int64) (th tk : Int32) (hσ : dkok M σ) (i : Nat) (hi : i + 5 ≤ L) (cells slots : Nat) (hce : cells + 10 ≤ 601024) (hsl : slots + 100 ≤ 7293000) (H : Heap) (locs : List Loc) (hP : va_P D vCl [(hd, .inr (0, [.ref ra])), (ra, .inl (cR, 4, .inr (.inr (.inr (.inr g))))), ((y 0), .inr (1, [.ref (b2 0), .int (nI ((σ) 0).2.1), .int (nI ((σ) 0).2.2)])), ((b2 0), .inl (cB, M, .inl (fun j => sb_b (((σ) 0).1 j)))), ((y 1), .inr (1, [.ref (b2 1), .int (nI ((σ) 1).2.1), .int (nI ((σ) 1).2.2)])), ((b2 1), .inl (cB, M, .inl (fun j => sb_b (((σ) 1).1 j)))), ((y 2), .inr (1, [.ref (b2 2), .int (nI ((σ) 2).2.1), .int (nI ((σ) 2).2.2)])), ((b2 2), .inl (cB, M, .inl (fun j => sb_b (((σ) 2).1 j)))), ((y 3), .inr (1, [.ref (b2 3), .int (nI ((σ) 3).2.1), .int (nI ((σ) 3).2.2)])), ((b2 3), .inl (cB, M, .inl (fun j => sb_b (((σ) 3).1 j)))), (oa, .inl (cL, 1, .inr (.inl f0))), (hm, .inr (2, [.int th, .int (nI M), .ref cl, .ref sa, .ref pa, .int tk])), (cl, .inl (cL, 32768, .inr (.inl (pkF (σ))))), (sa, .inl (cI, 4, .inl (fun i9 => nI ((σ) i9).2.1))), (pa, .inl (cI, 4, .inl (fun i9 => nI ((σ) i9).2.2)))] H) (hD : va_D (fun q : Nat => s.heap.size ≤ q) [(hd, .inr (0, [.ref ra])), (ra, .inl (cR, 4, .inr (.inr (.inr (.inr g))))), ((y 0), .inr (1, [.ref (b2 0), .int (nI ((σ) 0).2.1), .int (nI ((σ) 0).2.2)])), ((b2 0), .inl (cB, M, .inl (fun j => sb_b (((σ) 0).1 j)))), ((y 1), .inr (1, [.ref (b2 1), .int (nI ((σ) 1).2.1), .int (nI ((σ) 1).2.2)])), ((b2 1), .inl (cB, M, .inl (fun j => sb_b (((σ) 1).1 j)))), ((y 2), .inr (1, [.ref (b2 2), .int (nI ((σ) 2).2.1), .int (nI ((σ) 2).2.2)])), ((b2 2), .inl (cB, M, .inl (fun j => sb_b (((σ) 2).1 j)))), ((y 3), .inr (1, [.ref (b2 3), .int (nI ((σ) 3).2.1), .int (nI ((σ) 3).2.2)])), ((b2 3), .inl (cB, M, .inl (fun j => sb_b (((σ) 3).1 j)))), (oa, .inl (cL, 1, .inr (.inl f0))), (hm, .inr (2, [.int th, .int (nI M), .ref cl, .ref sa, .ref pa, .int tk])), (cl, .inl (cL, 32768, .inr (.inl (pkF (σ))))), (sa, .inl (cI, 4, .inl (fun i9 => nI ((σ) i9).2.1))), (pa, .inl (cI, 4, .inl (fun i9 => nI ((σ) i9).2.2)))]) (hS : va_S (fun q : Nat => s.heap.size ≤ q) s.heap H locs) (ls : Array Slot) (hl : lv_has ls 8 [(0, .ref b), (1, .ref hd), (2, .ref hm), (3, .ref oa), (4, .int (nI i))]) (K : ∀ (σ' : dkS) (f' : Nat → Int64) (th' tk' : Int32) (H' : Heap) (locs' : List Loc), dkok M σ' → va_P D vCl [(hd, .inr (0, [.ref ra])), (ra, .inl (cR, 4, .inr (.inr (.inr (.inr g))))), ((y 0), .inr (1, [.ref (b2 0), .int (nI ((σ') 0).2.1), .int (nI ((σ') 0).2.2)])), ((b2 0), .inl (cB, M, .inl (fun j => sb_b (((σ') 0).1 j)))), ((y 1), .inr (1, [.ref (b2 1), .int (nI ((σ') 1).2.1), .int (nI ((σ') 1).2.2)])), ((b2 1), .inl (cB, M, .inl (fun j => sb_b (((σ') 1).1 j)))), ((y 2), .inr (1, [.ref (b2 2), .int (nI ((σ') 2).2.1), .int (nI ((σ') 2).2.2)])), ((b2 2), .inl (cB, M, .inl (fun j => sb_b (((σ') 2).1 j)))), ((y 3), .inr (1, [.ref (b2 3), .int (nI ((σ') 3).2.1), .int (nI ((σ') 3).2.2)])), ((b2 3), .inl (cB, M, .inl (fun j => sb_b (((σ') 3).1 j)))), (oa, .inl (cL, 1, .inr (.inl f'))), (hm, .inr (2, [.int th', .int (nI M), .ref cl, .ref sa, .ref pa, .int tk'])), (cl, .inl (cL, 32768, .inr (.inl (pkF (σ'))))), (sa, .inl (cI, 4, .inl (fun i9 => nI ((σ') i9).2.1))), (pa, .inl (cI, 4, .inl (fun i9 => nI ((σ') i9).2.2)))] H' → va_D (fun q : Nat => s.heap.size ≤ q) [(hd, .inr (0, [.ref ra])), (ra, .inl (cR, 4, .inr (.inr (.inr (.inr g))))), ((y 0), .inr (1, [.ref (b2 0), .int (nI ((σ') 0).2.1), .int (nI ((σ') 0).2.2)])), ((b2 0), .inl (cB, M, .inl (fun j => sb_b (((σ') 0).1 j)))), ((y 1), .inr (1, [.ref (b2 1), .int (nI ((σ') 1).2.1), .int (nI ((σ') 1).2.2)])), ((b2 1), .inl (cB, M, .inl (fun j => sb_b (((σ') 1).1 j)))), ((y 2), .inr (1, [.ref (b2 2), .int (nI ((σ') 2).2.1), .int (nI ((σ') 2).2.2)])), ((b2 2), .inl (cB, M, .inl (fun j => sb_b (((σ') 2).1 j)))), ((y 3), .inr (1, [.ref (b2 3), .int (nI ((σ') 3).2.1), .int (nI ((σ') 3).2.2)])), ((b2 3), .inl (cB, M, .inl (fun j => sb_b (((σ') 3).1 j)))), (oa, .inl (cL, 1, .inr (.inl f'))), (hm, .inr (2, [.int th', .int (nI M), .ref cl, .ref sa, .ref pa, .int tk'])), (cl, .inl (cL, 32768, .inr (.inl (pkF (σ'))))), (sa, .inl (cI, 4, .inl (fun i9 => nI ((σ') i9).2.1))), (pa, .inl (cI, 4, .inl (fun i9 => nI ((σ') i9).2.2)))] → va_S (fun q : Nat => s.heap.size ≤ q) s.heap H' locs' → ∀ ls' : Array Slot, lv_has ls' 8 [(0, .ref b), (1, .ref hd), (2, .ref hm), (3, .ref oa), (4, .int (nI i))] → W p l e room_1 s m #[Value.ref b] below meth c H' locs' (cells + 1) (slots + 6) (lw_Z below #[Value.ref b] s) (F0 m 1700 ls' [])) : W p l e room_1 s m #[Value.ref b] below meth c H locs cells slots (lw_Z below #[Value.ref b] s) (F0 m 148 ls []) := by
  have hAq : ∀ q : Nat, s.heap.size ≤ q → (fun q : Nat => s.heap.size ≤ q) q := fun _ h => h
  have hbA : ¬ (fun q : Nat => s.heap.size ≤ q) b := Nat.not_le.mpr hbl
  refine lv_aload_n hx hb d_L_law_148 rfl (lv_at hl 1 rfl) ?_
  refine lv_aload_n hx hb d_L_law_149 rfl (lv_at hl 0 rfl) ?_
  refine lv_iload hx hb d_L_law_150 (lv_at hl 4 rfl) ?_
  refine lv_iconst (v := 1) hx hb d_L_law_152 (by decide) ?_
  refine lv_iadd hx hb d_L_law_153 ?_
  refine lv_topi (fun v153 ev153 => ?_)
  have ev153 : v153 = nI (i + 1) := by rw [ev153]; exact nI_add i 1
  subst ev153
  refine va_sld hx hb hX hbl hbA hS (vp_in_nI (n := i + 1) (N := L) (by omega) (by omega)) d_L_law_154 ?_
  refine lv_topi (fun v154 ev154 => ?_)
  have ev154 : v154 = xs (i + 1) := by rw [ev154, nI_clamp (by omega)]
  subst ev154
  refine lv_aload_n hx hb d_L_law_155 rfl (lv_at hl 0 rfl) ?_
  refine lv_iload hx hb d_L_law_156 (lv_at hl 4 rfl) ?_
  refine lv_iconst (v := 2) hx hb d_L_law_158 (by decide) ?_
  refine lv_iadd hx hb d_L_law_159 ?_
  refine lv_topi (fun v159 ev159 => ?_)
  have ev159 : v159 = nI (i + 2) := by rw [ev159]; exact nI_add i 2
  subst ev159
  refine va_sld hx hb hX hbl hbA hS (vp_in_nI (n := i + 2) (N := L) (by omega) (by omega)) d_L_law_160 ?_
  refine lv_topi (fun v160 ev160 => ?_)
  have ev160 : v160 = xs (i + 2) := by rw [ev160, nI_clamp (by omega)]
  subst ev160
  refine lv_i2l hx hb d_L_law_161 rfl ?_
  refine lv_topl (fun v161 ev161 => ?_)
  refine lv_bipush (v := 32) hx hb d_L_law_162 (by decide) ?_
  refine lv_lshl hx hb d_L_law_164 rfl ?_
  refine lv_topl (fun v164 ev164 => ?_)
  refine lv_aload_n hx hb d_L_law_165 rfl (lv_at hl 0 rfl) ?_
  refine lv_iload hx hb d_L_law_166 (lv_at hl 4 rfl) ?_
  refine lv_iconst (v := 3) hx hb d_L_law_168 (by decide) ?_
  refine lv_iadd hx hb d_L_law_169 ?_
  refine lv_topi (fun v169 ev169 => ?_)
  have ev169 : v169 = nI (i + 3) := by rw [ev169]; exact nI_add i 3
  subst ev169
  refine va_sld hx hb hX hbl hbA hS (vp_in_nI (n := i + 3) (N := L) (by omega) (by omega)) d_L_law_170 ?_
  refine lv_topi (fun v170 ev170 => ?_)
  have ev170 : v170 = xs (i + 3) := by rw [ev170, nI_clamp (by omega)]
  subst ev170
  refine lv_i2l hx hb d_L_law_171 rfl ?_
  refine lv_topl (fun v171 ev171 => ?_)
  refine lv_ldc2 (v := 4294967295) hx hb hown (hA _ k3_168) d_L_law_172 ?_
  refine lv_land hx hb d_L_law_175 ?_
  refine lv_topl (fun v175 ev175 => ?_)
  refine lv_lor hx hb d_L_law_176 ?_
  refine lv_topl (fun v176 ev176 => ?_)
  have ev176 : v176 = lN (uNl (lgl (xs (i + 2)) (xs (i + 3)))) := by rw [lN_u, ev176, ev164, ev161, ev175, ev171]; rfl
  subst ev176
  refine lv_aload_n hx hb d_L_law_177 rfl (lv_at hl 0 rfl) ?_
  refine lv_iload hx hb d_L_law_178 (lv_at hl 4 rfl) ?_
  refine lv_iconst (v := 4) hx hb d_L_law_180 (by decide) ?_
  refine lv_iadd hx hb d_L_law_181 ?_
  refine lv_topi (fun v181 ev181 => ?_)
  have ev181 : v181 = nI (i + 4) := by rw [ev181]; exact nI_add i 4
  subst ev181
  refine va_sld hx hb hX hbl hbA hS (vp_in_nI (n := i + 4) (N := L) (by omega) (by omega)) d_L_law_182 ?_
  refine lv_topi (fun v182 ev182 => ?_)
  have ev182 : v182 = xs (i + 4) := by rw [ev182, nI_clamp (by omega)]
  subst ev182
  refine lv_aload_n hx hb d_L_law_183 rfl (lv_at hl 3 rfl) ?_
  have hPc := hP.sub (ws' := [(hd, .inr (0, [.ref ra])), (ra, .inl (cR, 4, .inr (.inr (.inr (.inr g))))), ((y 0), .inr (1, [.ref (b2 0), .int (nI ((σ) 0).2.1), .int (nI ((σ) 0).2.2)])), ((b2 0), .inl (cB, M, .inl (fun j => sb_b (((σ) 0).1 j)))), ((y 1), .inr (1, [.ref (b2 1), .int (nI ((σ) 1).2.1), .int (nI ((σ) 1).2.2)])), ((b2 1), .inl (cB, M, .inl (fun j => sb_b (((σ) 1).1 j)))), ((y 2), .inr (1, [.ref (b2 2), .int (nI ((σ) 2).2.1), .int (nI ((σ) 2).2.2)])), ((b2 2), .inl (cB, M, .inl (fun j => sb_b (((σ) 2).1 j)))), ((y 3), .inr (1, [.ref (b2 3), .int (nI ((σ) 3).2.1), .int (nI ((σ) 3).2.2)])), ((b2 3), .inl (cB, M, .inl (fun j => sb_b (((σ) 3).1 j)))), (oa, .inl (cL, 1, .inr (.inl f0)))]) [0, 1, 2, 3, 4, 5, 6, 7, 8, 9, 10] rfl
  have hDc := hD.sub (ws' := [(hd, .inr (0, [.ref ra])), (ra, .inl (cR, 4, .inr (.inr (.inr (.inr g))))), ((y 0), .inr (1, [.ref (b2 0), .int (nI ((σ) 0).2.1), .int (nI ((σ) 0).2.2)])), ((b2 0), .inl (cB, M, .inl (fun j => sb_b (((σ) 0).1 j)))), ((y 1), .inr (1, [.ref (b2 1), .int (nI ((σ) 1).2.1), .int (nI ((σ) 1).2.2)])), ((b2 1), .inl (cB, M, .inl (fun j => sb_b (((σ) 1).1 j)))), ((y 2), .inr (1, [.ref (b2 2), .int (nI ((σ) 2).2.1), .int (nI ((σ) 2).2.2)])), ((b2 2), .inl (cB, M, .inl (fun j => sb_b (((σ) 2).1 j)))), ((y 3), .inr (1, [.ref (b2 3), .int (nI ((σ) 3).2.1), .int (nI ((σ) 3).2.2)])), ((b2 3), .inl (cB, M, .inl (fun j => sb_b (((σ) 3).1 j)))), (oa, .inl (cL, 1, .inr (.inl f0)))]) [0, 1, 2, 3, 4, 5, 6, 7, 8, 9, 10] (by decide) rfl
  have hKc := hK.sub (tys' := [(cB, .byte), (cR, .object "PacketDesk$Row"), (cL, .long)]) [0, 1, 2] rfl
  have hFc := va_free (wc := [(hd, .inr (0, [.ref ra])), (ra, .inl (cR, 4, .inr (.inr (.inr (.inr g))))), ((y 0), .inr (1, [.ref (b2 0), .int (nI ((σ) 0).2.1), .int (nI ((σ) 0).2.2)])), ((b2 0), .inl (cB, M, .inl (fun j => sb_b (((σ) 0).1 j)))), ((y 1), .inr (1, [.ref (b2 1), .int (nI ((σ) 1).2.1), .int (nI ((σ) 1).2.2)])), ((b2 1), .inl (cB, M, .inl (fun j => sb_b (((σ) 1).1 j)))), ((y 2), .inr (1, [.ref (b2 2), .int (nI ((σ) 2).2.1), .int (nI ((σ) 2).2.2)])), ((b2 2), .inl (cB, M, .inl (fun j => sb_b (((σ) 2).1 j)))), ((y 3), .inr (1, [.ref (b2 3), .int (nI ((σ) 3).2.1), .int (nI ((σ) 3).2.2)])), ((b2 3), .inl (cB, M, .inl (fun j => sb_b (((σ) 3).1 j)))), (oa, .inl (cL, 1, .inr (.inl f0)))]) hD hS hAq [0, 1, 2, 3, 4, 5, 6, 7, 8, 9, 10] rfl
  have hh9 : ∀ q : Nat, q < s.heap.size → H[q]? = s.heap[q]? := fun q h => hS.2.1 q h (Nat.not_le.mpr h)
  refine lx_wi (lx_runS (As := [.ref hd, .int (xs (i + 1)), .long (lN (uNl (lgl (xs (i + 2)) (xs (i + 3))))), .int (xs (i + 4)), .ref oa]) (rest := []) ⟨hx, hb, hml, hown, hA⟩ (c_L_fixed l hL0 D cR cB cL hd ra oa g M y b2 σ f0 H.size (xs (i + 1)) (uNl (lgl (xs (i + 2)) (xs (i + 3)))) (uNl_lt _) (xs (i + 4)) hg hσ) (q_L_fixed hA k1_56 rfl rfl ⟨(Nat.le_of_ble_eq_true rfl), (Nat.le_of_ble_eq_true rfl)⟩) (oxn_S hPc hKc hDc hG hh9 hN) rfl rfl hl.1 rfl (lv_room (Nat.le_of_ble_eq_true rfl)) d_L_law_184 ⟨(by show cells + 2 ≤ 601024; omega), (by show slots + 12 ≤ 7293000; omega)⟩) hS (fun q _ h => hFc q h) hFc (fun r5 u5 t9 H1 locs ht9 hvm9 hw5 hB9 hz1 hk1 hS => ?_)
  obtain ⟨τ5, f5⟩ := u5
  obtain ⟨hP1, hK1, hD1⟩ := hB9
  rw [ht9] at hP1
  obtain ⟨hP, hD⟩ := va_join (wr := [(hm, .inr (2, [.int th, .int (nI M), .ref cl, .ref sa, .ref pa, .int tk])), (cl, .inl (cL, 32768, .inr (.inl (pkF (σ))))), (sa, .inl (cI, 4, .inl (fun i9 => nI ((σ) i9).2.1))), (pa, .inl (cI, 4, .inl (fun i9 => nI ((σ) i9).2.2)))]) (w1 := [(hd, .inr (0, [.ref ra])), (ra, .inl (cR, 4, .inr (.inr (.inr (.inr g))))), ((y 0), .inr (1, [.ref (b2 0), .int (nI ((τ5) 0).2.1), .int (nI ((τ5) 0).2.2)])), ((b2 0), .inl (cB, M, .inl (fun j => sb_b (((τ5) 0).1 j)))), ((y 1), .inr (1, [.ref (b2 1), .int (nI ((τ5) 1).2.1), .int (nI ((τ5) 1).2.2)])), ((b2 1), .inl (cB, M, .inl (fun j => sb_b (((τ5) 1).1 j)))), ((y 2), .inr (1, [.ref (b2 2), .int (nI ((τ5) 2).2.1), .int (nI ((τ5) 2).2.2)])), ((b2 2), .inl (cB, M, .inl (fun j => sb_b (((τ5) 2).1 j)))), ((y 3), .inr (1, [.ref (b2 3), .int (nI ((τ5) 3).2.1), .int (nI ((τ5) 3).2.2)])), ((b2 3), .inl (cB, M, .inl (fun j => sb_b (((τ5) 3).1 j)))), (oa, .inl (cL, 1, .inr (.inl f5)))]) hP hD [0, 1, 2, 3, 4, 5, 6, 7, 8, 9, 10] [11, 12, 13, 14] rfl rfl (by decide) (by decide) hk1 hFc hP1 hD1
  generalize H1 = H at hP hS ⊢
  have hP : va_P D vCl [(hd, .inr (0, [.ref ra])), (ra, .inl (cR, 4, .inr (.inr (.inr (.inr g))))), ((y 0), .inr (1, [.ref (b2 0), .int (nI ((τ5) 0).2.1), .int (nI ((τ5) 0).2.2)])), ((b2 0), .inl (cB, M, .inl (fun j => sb_b (((τ5) 0).1 j)))), ((y 1), .inr (1, [.ref (b2 1), .int (nI ((τ5) 1).2.1), .int (nI ((τ5) 1).2.2)])), ((b2 1), .inl (cB, M, .inl (fun j => sb_b (((τ5) 1).1 j)))), ((y 2), .inr (1, [.ref (b2 2), .int (nI ((τ5) 2).2.1), .int (nI ((τ5) 2).2.2)])), ((b2 2), .inl (cB, M, .inl (fun j => sb_b (((τ5) 2).1 j)))), ((y 3), .inr (1, [.ref (b2 3), .int (nI ((τ5) 3).2.1), .int (nI ((τ5) 3).2.2)])), ((b2 3), .inl (cB, M, .inl (fun j => sb_b (((τ5) 3).1 j)))), (oa, .inl (cL, 1, .inr (.inl f5))), (hm, .inr (2, [.int th, .int (nI M), .ref cl, .ref sa, .ref pa, .int tk])), (cl, .inl (cL, 32768, .inr (.inl (pkF (σ))))), (sa, .inl (cI, 4, .inl (fun i9 => nI ((σ) i9).2.1))), (pa, .inl (cI, 4, .inl (fun i9 => nI ((σ) i9).2.2)))] H := hP.sub [4, 5, 6, 7, 8, 9, 10, 11, 12, 13, 14, 0, 1, 2, 3] rfl
  have hD : va_D (fun q : Nat => s.heap.size ≤ q) [(hd, .inr (0, [.ref ra])), (ra, .inl (cR, 4, .inr (.inr (.inr (.inr g))))), ((y 0), .inr (1, [.ref (b2 0), .int (nI ((τ5) 0).2.1), .int (nI ((τ5) 0).2.2)])), ((b2 0), .inl (cB, M, .inl (fun j => sb_b (((τ5) 0).1 j)))), ((y 1), .inr (1, [.ref (b2 1), .int (nI ((τ5) 1).2.1), .int (nI ((τ5) 1).2.2)])), ((b2 1), .inl (cB, M, .inl (fun j => sb_b (((τ5) 1).1 j)))), ((y 2), .inr (1, [.ref (b2 2), .int (nI ((τ5) 2).2.1), .int (nI ((τ5) 2).2.2)])), ((b2 2), .inl (cB, M, .inl (fun j => sb_b (((τ5) 2).1 j)))), ((y 3), .inr (1, [.ref (b2 3), .int (nI ((τ5) 3).2.1), .int (nI ((τ5) 3).2.2)])), ((b2 3), .inl (cB, M, .inl (fun j => sb_b (((τ5) 3).1 j)))), (oa, .inl (cL, 1, .inr (.inl f5))), (hm, .inr (2, [.int th, .int (nI M), .ref cl, .ref sa, .ref pa, .int tk])), (cl, .inl (cL, 32768, .inr (.inl (pkF (σ))))), (sa, .inl (cI, 4, .inl (fun i9 => nI ((σ) i9).2.1))), (pa, .inl (cI, 4, .inl (fun i9 => nI ((σ) i9).2.2)))] := hD.sub [4, 5, 6, 7, 8, 9, 10, 11, 12, 13, 14, 0, 1, 2, 3] (by decide) rfl
  obtain ⟨h51, h52, h53⟩ := hw5
  refine lv_istore (lv' := [(5, .int r5), (0, .ref b), (1, .ref hd), (2, .ref hm), (3, .ref oa), (4, .int (nI i))]) hx hb d_L_law_187 hl (by decide) rfl (fun ls hl => ?_)
  refine lv_aload_n hx hb d_L_law_189 rfl (lv_at hl 3 rfl) ?_
  refine lv_aload_n hx hb d_L_law_190 rfl (lv_at hl 1 rfl) ?_
  refine lv_iload hx hb d_L_law_191 (lv_at hl 5 rfl) ?_
  refine lv_iconst (v := 1) hx hb d_L_law_193 (by decide) ?_
  refine lv_iadd hx hb d_L_law_194 ?_
  refine lv_topi (fun v194 ev194 => ?_)
  have ev194 : v194 = nI (i + 1) := by rw [ev194]; exact nI_add i 1
  subst ev194
  refine va_sld hx hb hX hbl hbA hS (vp_in_nI (n := i + 1) (N := L) (by omega) (by omega)) d_L_law_195 ?_
  refine lv_topi (fun v195 ev195 => ?_)
  have ev195 : v195 = xs (i + 1) := by rw [ev195, nI_clamp (by omega)]
  subst ev195
  refine lv_aload_n hx hb d_L_law_196 rfl (lv_at hl 1 rfl) ?_
  refine lv_iload hx hb d_L_law_197 (lv_at hl 5 rfl) ?_
  refine lv_iconst (v := 2) hx hb d_L_law_199 (by decide) ?_
  refine lv_iadd hx hb d_L_law_200 ?_
  refine lv_topi (fun v200 ev200 => ?_)
  have ev200 : v200 = nI (i + 2) := by rw [ev200]; exact nI_add i 2
  subst ev200
  refine va_sld hx hb hX hbl hbA hS (vp_in_nI (n := i + 2) (N := L) (by omega) (by omega)) d_L_law_201 ?_
  refine lv_topi (fun v201 ev201 => ?_)
  have ev201 : v201 = xs (i + 2) := by rw [ev201, nI_clamp (by omega)]
  subst ev201
  refine lv_i2l hx hb d_L_law_202 rfl ?_
  refine lv_topl (fun v202 ev202 => ?_)
  refine lv_bipush (v := 32) hx hb d_L_law_203 (by decide) ?_
  refine lv_lshl hx hb d_L_law_205 rfl ?_
  refine lv_topl (fun v205 ev205 => ?_)
  refine lv_aload_n hx hb d_L_law_206 rfl (lv_at hl 1 rfl) ?_
  refine lv_iload hx hb d_L_law_207 (lv_at hl 5 rfl) ?_
  refine lv_iconst (v := 3) hx hb d_L_law_209 (by decide) ?_
  refine lv_iadd hx hb d_L_law_210 ?_
  refine lv_topi (fun v210 ev210 => ?_)
  have ev210 : v210 = nI (i + 3) := by rw [ev210]; exact nI_add i 3
  subst ev210
  refine va_sld hx hb hX hbl hbA hS (vp_in_nI (n := i + 3) (N := L) (by omega) (by omega)) d_L_law_211 ?_
  refine lv_topi (fun v211 ev211 => ?_)
  have ev211 : v211 = xs (i + 3) := by rw [ev211, nI_clamp (by omega)]
  subst ev211
  refine lv_i2l hx hb d_L_law_212 rfl ?_
  refine lv_topl (fun v212 ev212 => ?_)
  refine lv_ldc2 (v := 4294967295) hx hb hown (hA _ k3_168) d_L_law_213 ?_
  refine lv_land hx hb d_L_law_216 ?_
  refine lv_topl (fun v216 ev216 => ?_)
  refine lv_lor hx hb d_L_law_217 ?_
  refine lv_topl (fun v217 ev217 => ?_)
  have ev217 : v217 = lN (uNl (lgl (xs (i + 2)) (xs (i + 3)))) := by rw [lN_u, ev217, ev205, ev202, ev216, ev212]; rfl
  subst ev217
  refine lv_aload_n hx hb d_L_law_218 rfl (lv_at hl 1 rfl) ?_
  refine lv_iload hx hb d_L_law_219 (lv_at hl 5 rfl) ?_
  refine lv_iconst (v := 4) hx hb d_L_law_221 (by decide) ?_
  refine lv_iadd hx hb d_L_law_222 ?_
  refine lv_topi (fun v222 ev222 => ?_)
  have ev222 : v222 = nI (i + 4) := by rw [ev222]; exact nI_add i 4
  subst ev222
  refine va_sld hx hb hX hbl hbA hS (vp_in_nI (n := i + 4) (N := L) (by omega) (by omega)) d_L_law_223 ?_
  refine lv_topi (fun v223 ev223 => ?_)
  have ev223 : v223 = xs (i + 4) := by rw [ev223, nI_clamp (by omega)]
  subst ev223
  have hPc := hP.sub (ws' := [(hm, .inr (2, [.int th, .int (nI M), .ref cl, .ref sa, .ref pa, .int tk])), (cl, .inl (cL, 32768, .inr (.inl (pkF (σ))))), (sa, .inl (cI, 4, .inl (fun i9 => nI ((σ) i9).2.1))), (pa, .inl (cI, 4, .inl (fun i9 => nI ((σ) i9).2.2)))]) [11, 12, 13, 14] rfl
  have hDc := hD.sub (ws' := [(hm, .inr (2, [.int th, .int (nI M), .ref cl, .ref sa, .ref pa, .int tk])), (cl, .inl (cL, 32768, .inr (.inl (pkF (σ))))), (sa, .inl (cI, 4, .inl (fun i9 => nI ((σ) i9).2.1))), (pa, .inl (cI, 4, .inl (fun i9 => nI ((σ) i9).2.2)))]) [11, 12, 13, 14] (by decide) rfl
  have hKc := hK.sub (tys' := [(cL, .long), (cI, .int)]) [2, 3] rfl
  have hFc := va_free (wc := [(hm, .inr (2, [.int th, .int (nI M), .ref cl, .ref sa, .ref pa, .int tk])), (cl, .inl (cL, 32768, .inr (.inl (pkF (σ))))), (sa, .inl (cI, 4, .inl (fun i9 => nI ((σ) i9).2.1))), (pa, .inl (cI, 4, .inl (fun i9 => nI ((σ) i9).2.2)))]) hD hS hAq [11, 12, 13, 14] rfl
  refine va_calli (va_runV (As := [.int (xs (i + 1)), .long (lN (uNl (lgl (xs (i + 2)) (xs (i + 3))))), .int (xs (i + 4))]) (rest := []) ⟨hx, hb, hml, hown, hA⟩ (c_M_fixed l D cL cI hm cl sa pa M th tk σ H.size (xs (i + 1)) (uNl (lgl (xs (i + 2)) (xs (i + 3)))) (uNl_lt _) (xs (i + 4)) hσ) (q_M_fixed hA k2_237 rfl rfl ⟨(Nat.le_of_ble_eq_true rfl), (Nat.le_of_ble_eq_true rfl)⟩) (ox_V (va_recv hKc hPc (ci := 2) (q0 := 0) rfl rfl) (oxw_S hPc hKc hDc)) rfl rfl hl.1 rfl (lv_room (Nat.le_of_ble_eq_true rfl)) d_L_law_224 ⟨(by show cells + 1 + 0 ≤ 601024; omega), (by show slots + 6 + 0 ≤ 7293000; omega)⟩) hS (fun q _ h => hFc q h) hFc (fun r8 u8 t9 H1 locs ht9 hvm9 hw8 hB9 hz1 hk1 hS => ?_)
  obtain ⟨c8, τ8, k8⟩ := u8
  replace hw8 : spFixed M σ (xs (i + 1)) (uNl (lgl (xs (i + 2)) (xs (i + 3)))) (xs (i + 4)) = (c8, r8, τ8) := hw8
  obtain ⟨hP1, hK1, hD1⟩ := hB9
  rw [ht9] at hP1
  obtain ⟨hP, hD⟩ := va_join (wr := [(hd, .inr (0, [.ref ra])), (ra, .inl (cR, 4, .inr (.inr (.inr (.inr g))))), ((y 0), .inr (1, [.ref (b2 0), .int (nI ((τ5) 0).2.1), .int (nI ((τ5) 0).2.2)])), ((b2 0), .inl (cB, M, .inl (fun j => sb_b (((τ5) 0).1 j)))), ((y 1), .inr (1, [.ref (b2 1), .int (nI ((τ5) 1).2.1), .int (nI ((τ5) 1).2.2)])), ((b2 1), .inl (cB, M, .inl (fun j => sb_b (((τ5) 1).1 j)))), ((y 2), .inr (1, [.ref (b2 2), .int (nI ((τ5) 2).2.1), .int (nI ((τ5) 2).2.2)])), ((b2 2), .inl (cB, M, .inl (fun j => sb_b (((τ5) 2).1 j)))), ((y 3), .inr (1, [.ref (b2 3), .int (nI ((τ5) 3).2.1), .int (nI ((τ5) 3).2.2)])), ((b2 3), .inl (cB, M, .inl (fun j => sb_b (((τ5) 3).1 j)))), (oa, .inl (cL, 1, .inr (.inl f5)))]) (w1 := [(hm, .inr (2, [.int (nI c8), .int (nI M), .ref cl, .ref sa, .ref pa, .int k8])), (cl, .inl (cL, 32768, .inr (.inl (pkF (τ8))))), (sa, .inl (cI, 4, .inl (fun i9 => nI ((τ8) i9).2.1))), (pa, .inl (cI, 4, .inl (fun i9 => nI ((τ8) i9).2.2)))]) hP hD [11, 12, 13, 14] [0, 1, 2, 3, 4, 5, 6, 7, 8, 9, 10] rfl rfl (by decide) (by decide) hk1 hFc hP1 hD1
  generalize H1 = H at hP hS ⊢
  have hP : va_P D vCl [(hd, .inr (0, [.ref ra])), (ra, .inl (cR, 4, .inr (.inr (.inr (.inr g))))), ((y 0), .inr (1, [.ref (b2 0), .int (nI ((τ5) 0).2.1), .int (nI ((τ5) 0).2.2)])), ((b2 0), .inl (cB, M, .inl (fun j => sb_b (((τ5) 0).1 j)))), ((y 1), .inr (1, [.ref (b2 1), .int (nI ((τ5) 1).2.1), .int (nI ((τ5) 1).2.2)])), ((b2 1), .inl (cB, M, .inl (fun j => sb_b (((τ5) 1).1 j)))), ((y 2), .inr (1, [.ref (b2 2), .int (nI ((τ5) 2).2.1), .int (nI ((τ5) 2).2.2)])), ((b2 2), .inl (cB, M, .inl (fun j => sb_b (((τ5) 2).1 j)))), ((y 3), .inr (1, [.ref (b2 3), .int (nI ((τ5) 3).2.1), .int (nI ((τ5) 3).2.2)])), ((b2 3), .inl (cB, M, .inl (fun j => sb_b (((τ5) 3).1 j)))), (oa, .inl (cL, 1, .inr (.inl f5))), (hm, .inr (2, [.int (nI c8), .int (nI M), .ref cl, .ref sa, .ref pa, .int k8])), (cl, .inl (cL, 32768, .inr (.inl (pkF (τ8))))), (sa, .inl (cI, 4, .inl (fun i9 => nI ((τ8) i9).2.1))), (pa, .inl (cI, 4, .inl (fun i9 => nI ((τ8) i9).2.2)))] H := hP
  have hD : va_D (fun q : Nat => s.heap.size ≤ q) [(hd, .inr (0, [.ref ra])), (ra, .inl (cR, 4, .inr (.inr (.inr (.inr g))))), ((y 0), .inr (1, [.ref (b2 0), .int (nI ((τ5) 0).2.1), .int (nI ((τ5) 0).2.2)])), ((b2 0), .inl (cB, M, .inl (fun j => sb_b (((τ5) 0).1 j)))), ((y 1), .inr (1, [.ref (b2 1), .int (nI ((τ5) 1).2.1), .int (nI ((τ5) 1).2.2)])), ((b2 1), .inl (cB, M, .inl (fun j => sb_b (((τ5) 1).1 j)))), ((y 2), .inr (1, [.ref (b2 2), .int (nI ((τ5) 2).2.1), .int (nI ((τ5) 2).2.2)])), ((b2 2), .inl (cB, M, .inl (fun j => sb_b (((τ5) 2).1 j)))), ((y 3), .inr (1, [.ref (b2 3), .int (nI ((τ5) 3).2.1), .int (nI ((τ5) 3).2.2)])), ((b2 3), .inl (cB, M, .inl (fun j => sb_b (((τ5) 3).1 j)))), (oa, .inl (cL, 1, .inr (.inl f5))), (hm, .inr (2, [.int (nI c8), .int (nI M), .ref cl, .ref sa, .ref pa, .int k8])), (cl, .inl (cL, 32768, .inr (.inl (pkF (τ8))))), (sa, .inl (cI, 4, .inl (fun i9 => nI ((τ8) i9).2.1))), (pa, .inl (cI, 4, .inl (fun i9 => nI ((τ8) i9).2.2)))] := hD
  have hc8 : c8 ≤ 4 := by have h9 := le_spFixed M σ (xs (i + 1)) (uNl (lgl (xs (i + 2)) (xs (i + 3)))) (xs (i + 4)); rw [hw8] at h9; exact h9
  have hσ8 : dkok M τ8 := by have h9 := ok_spFixed (M := M) (σ := σ) (xs (i + 1)) (uNl (lgl (xs (i + 2)) (xs (i + 3)))) (xs (i + 4)) hσ; rw [hw8] at h9; exact h9
  rw [hw8] at h51 h52 h53
  have h51 : r5 = nI c8 := h51
  have h52 : τ5 = τ8 := h52
  have h53 : c8 = 0 → f5 0 = r8.toInt64 := h53
  subst h51
  subst h52
  refine lv_istore (lv' := [(6, .int r8), (5, .int (nI c8)), (0, .ref b), (1, .ref hd), (2, .ref hm), (3, .ref oa), (4, .int (nI i))]) hx hb d_L_law_227 hl (by decide) rfl (fun ls hl => ?_)
  refine lv_aload_n hx hb d_L_law_229 rfl (lv_at hl 4 rfl) ?_
  have hPc := hP.sub (ws' := [(hm, .inr (2, [.int (nI c8), .int (nI M), .ref cl, .ref sa, .ref pa, .int k8])), (cl, .inl (cL, 32768, .inr (.inl (pkF (τ5))))), (sa, .inl (cI, 4, .inl (fun i9 => nI ((τ5) i9).2.1))), (pa, .inl (cI, 4, .inl (fun i9 => nI ((τ5) i9).2.2)))]) [11, 12, 13, 14] rfl
  have hKc := hK.sub (tys' := [(cL, .long), (cI, .int)]) [2, 3] rfl
  refine vp_callSi (W.runV (As := []) (rest := []) ⟨hx, hb, hml, hown, hA⟩ (c_M_thrown l D cL cI hm cl sa pa M (nI c8) k8 τ5) (q_M_thrown hA k2_233 rfl rfl ⟨(Nat.le_of_ble_eq_true rfl), (Nat.le_of_ble_eq_true rfl)⟩) (ox_V (va_recv hKc hPc (ci := 2) (q0 := 0) rfl rfl) (ox_S hPc hKc)) rfl rfl hl.1 rfl (lv_room (Nat.le_of_ble_eq_true rfl)) d_L_law_230 ⟨(by show cells + 1 + 0 + 0 ≤ 601024; omega), (by show slots + 6 + 0 + 0 ≤ 7293000; omega)⟩) (fun r7 hr7 => ?_)
  subst hr7
  refine lv_iload hx hb d_L_law_233 (lv_at hl 1 rfl) ?_
  refine lv_icmp_eq (tgt := 240) hx hb d_L_law_235 (by decide) (fun _ => ?_) (fun q9 => absurd rfl q9)
  refine lv_iload hx hb d_L_law_240 (lv_at hl 1 rfl) ?_
  refine lv_if_ne (tgt := 257) hx hb d_L_law_242 (by decide) (fun c242 => ?_) (fun c242 => ?_)
  · refine lv_goto (tgt := 1700) hx hb d_L_law_257 (by decide) ?_
    exact K τ5 f5 (nI c8) k8 H locs hσ8 hP hD hS ls (lv_sub hl [2, 3, 4, 5, 6] rfl)
  · refine lv_aload_n hx hb d_L_law_245 rfl (lv_at hl 5 rfl) ?_
    refine lv_iconst (v := 0) hx hb d_L_law_246 (by decide) ?_
    have hc0 : c8 = 0 := (nI_eq (b := 0) (by omega) (by omega)).mp c242
    have h53 := h53 hc0
    refine va_lald hx hb hK hP 10 2 rfl rfl (by unfold vp_in; decide) d_L_law_247 ?_
    refine lv_topl (fun v247 ev247 => ?_)
    have ev247 : v247 = r8.toInt64 := by rw [ev247, sb_cl0]; exact h53
    subst ev247
    refine lv_iload hx hb d_L_law_248 (lv_at hl 0 rfl) ?_
    refine lv_i2l hx hb d_L_law_250 rfl ?_
    refine lv_topl (fun v250 ev250 => ?_)
    refine W.lcmp hx hb d_L_law_251 ?_
    refine lv_topi (fun v251 ev251 => ?_)
    refine lv_if_eq (tgt := 257) hx hb d_L_law_252 (by decide) (fun _ => ?_) (fun q9 => absurd (by rw [ev251, ev250]; exact (lg_cmp_eq _ _).mpr rfl) q9)
    refine lv_goto (tgt := 1700) hx hb d_L_law_257 (by decide) ?_
    exact K τ5 f5 (nI c8) k8 H locs hσ8 hP hD hS ls (lv_sub hl [2, 3, 4, 5, 6] rfl)
set_option maxHeartbeats 2000000 in
set_option maxRecDepth 100000 in
/-- the law at sevens -/
theorem k_sevens {p : Program} {l : Launch} {e : Env} {s : State} {m : MethodId} {below : List Frame} {meth : Method} {c : Code} (hL0 : l.stackTraces = false) {b L : Nat} {xs : Nat → Int32} (hL : L ≤ 2561) (hx : p.tables.exec = Jvm.exec) (hb : c.code = code) (hml : c.maxLocals = 8) (hown : s.vm.findClass R_L = some m.cls) (hA : ∀ w ∈ wsA, w.before #[Value.ref b] s = true) (hX : va_X b L xs s s.heap) (hbl : b < s.heap.size) (hG : tx_G s) (hN : tx_N s) {D : va_G} {cR cB cL cI : ClassId} {hd ra oa hm cl sa pa : Nat} {g : Nat → Option Nat} {M : Nat} {y b2 : Nat → Nat} (hg : ∀ i, i < 4 → g i = some (y i)) (hK : va_K D vCl [(cB, .byte), (cR, .object "PacketDesk$Row"), (cL, .long), (cI, .int)] s) (σ : dkS) (f0 : Nat → Int64) (th tk : Int32) (hσ : dkok M σ) (i : Nat) (hi : i + 5 ≤ L) (cells slots : Nat) (hce : cells + 10 ≤ 601024) (hsl : slots + 100 ≤ 7293000) (H : Heap) (locs : List Loc) (hP : va_P D vCl [(hd, .inr (0, [.ref ra])), (ra, .inl (cR, 4, .inr (.inr (.inr (.inr g))))), ((y 0), .inr (1, [.ref (b2 0), .int (nI ((σ) 0).2.1), .int (nI ((σ) 0).2.2)])), ((b2 0), .inl (cB, M, .inl (fun j => sb_b (((σ) 0).1 j)))), ((y 1), .inr (1, [.ref (b2 1), .int (nI ((σ) 1).2.1), .int (nI ((σ) 1).2.2)])), ((b2 1), .inl (cB, M, .inl (fun j => sb_b (((σ) 1).1 j)))), ((y 2), .inr (1, [.ref (b2 2), .int (nI ((σ) 2).2.1), .int (nI ((σ) 2).2.2)])), ((b2 2), .inl (cB, M, .inl (fun j => sb_b (((σ) 2).1 j)))), ((y 3), .inr (1, [.ref (b2 3), .int (nI ((σ) 3).2.1), .int (nI ((σ) 3).2.2)])), ((b2 3), .inl (cB, M, .inl (fun j => sb_b (((σ) 3).1 j)))), (oa, .inl (cL, 1, .inr (.inl f0))), (hm, .inr (2, [.int th, .int (nI M), .ref cl, .ref sa, .ref pa, .int tk])), (cl, .inl (cL, 32768, .inr (.inl (pkF (σ))))), (sa, .inl (cI, 4, .inl (fun i9 => nI ((σ) i9).2.1))), (pa, .inl (cI, 4, .inl (fun i9 => nI ((σ) i9).2.2)))] H) (hD : va_D (fun q : Nat => s.heap.size ≤ q) [(hd, .inr (0, [.ref ra])), (ra, .inl (cR, 4, .inr (.inr (.inr (.inr g))))), ((y 0), .inr (1, [.ref (b2 0), .int (nI ((σ) 0).2.1), .int (nI ((σ) 0).2.2)])), ((b2 0), .inl (cB, M, .inl (fun j => sb_b (((σ) 0).1 j)))), ((y 1), .inr (1, [.ref (b2 1), .int (nI ((σ) 1).2.1), .int (nI ((σ) 1).2.2)])), ((b2 1), .inl (cB, M, .inl (fun j => sb_b (((σ) 1).1 j)))), ((y 2), .inr (1, [.ref (b2 2), .int (nI ((σ) 2).2.1), .int (nI ((σ) 2).2.2)])), ((b2 2), .inl (cB, M, .inl (fun j => sb_b (((σ) 2).1 j)))), ((y 3), .inr (1, [.ref (b2 3), .int (nI ((σ) 3).2.1), .int (nI ((σ) 3).2.2)])), ((b2 3), .inl (cB, M, .inl (fun j => sb_b (((σ) 3).1 j)))), (oa, .inl (cL, 1, .inr (.inl f0))), (hm, .inr (2, [.int th, .int (nI M), .ref cl, .ref sa, .ref pa, .int tk])), (cl, .inl (cL, 32768, .inr (.inl (pkF (σ))))), (sa, .inl (cI, 4, .inl (fun i9 => nI ((σ) i9).2.1))), (pa, .inl (cI, 4, .inl (fun i9 => nI ((σ) i9).2.2)))]) (hS : va_S (fun q : Nat => s.heap.size ≤ q) s.heap H locs) (ls : Array Slot) (hl : lv_has ls 8 [(0, .ref b), (1, .ref hd), (2, .ref hm), (3, .ref oa), (4, .int (nI i))]) (K : ∀ (σ' : dkS) (f' : Nat → Int64) (th' tk' : Int32) (H' : Heap) (locs' : List Loc), dkok M σ' → va_P D vCl [(hd, .inr (0, [.ref ra])), (ra, .inl (cR, 4, .inr (.inr (.inr (.inr g))))), ((y 0), .inr (1, [.ref (b2 0), .int (nI ((σ') 0).2.1), .int (nI ((σ') 0).2.2)])), ((b2 0), .inl (cB, M, .inl (fun j => sb_b (((σ') 0).1 j)))), ((y 1), .inr (1, [.ref (b2 1), .int (nI ((σ') 1).2.1), .int (nI ((σ') 1).2.2)])), ((b2 1), .inl (cB, M, .inl (fun j => sb_b (((σ') 1).1 j)))), ((y 2), .inr (1, [.ref (b2 2), .int (nI ((σ') 2).2.1), .int (nI ((σ') 2).2.2)])), ((b2 2), .inl (cB, M, .inl (fun j => sb_b (((σ') 2).1 j)))), ((y 3), .inr (1, [.ref (b2 3), .int (nI ((σ') 3).2.1), .int (nI ((σ') 3).2.2)])), ((b2 3), .inl (cB, M, .inl (fun j => sb_b (((σ') 3).1 j)))), (oa, .inl (cL, 1, .inr (.inl f'))), (hm, .inr (2, [.int th', .int (nI M), .ref cl, .ref sa, .ref pa, .int tk'])), (cl, .inl (cL, 32768, .inr (.inl (pkF (σ'))))), (sa, .inl (cI, 4, .inl (fun i9 => nI ((σ') i9).2.1))), (pa, .inl (cI, 4, .inl (fun i9 => nI ((σ') i9).2.2)))] H' → va_D (fun q : Nat => s.heap.size ≤ q) [(hd, .inr (0, [.ref ra])), (ra, .inl (cR, 4, .inr (.inr (.inr (.inr g))))), ((y 0), .inr (1, [.ref (b2 0), .int (nI ((σ') 0).2.1), .int (nI ((σ') 0).2.2)])), ((b2 0), .inl (cB, M, .inl (fun j => sb_b (((σ') 0).1 j)))), ((y 1), .inr (1, [.ref (b2 1), .int (nI ((σ') 1).2.1), .int (nI ((σ') 1).2.2)])), ((b2 1), .inl (cB, M, .inl (fun j => sb_b (((σ') 1).1 j)))), ((y 2), .inr (1, [.ref (b2 2), .int (nI ((σ') 2).2.1), .int (nI ((σ') 2).2.2)])), ((b2 2), .inl (cB, M, .inl (fun j => sb_b (((σ') 2).1 j)))), ((y 3), .inr (1, [.ref (b2 3), .int (nI ((σ') 3).2.1), .int (nI ((σ') 3).2.2)])), ((b2 3), .inl (cB, M, .inl (fun j => sb_b (((σ') 3).1 j)))), (oa, .inl (cL, 1, .inr (.inl f'))), (hm, .inr (2, [.int th', .int (nI M), .ref cl, .ref sa, .ref pa, .int tk'])), (cl, .inl (cL, 32768, .inr (.inl (pkF (σ'))))), (sa, .inl (cI, 4, .inl (fun i9 => nI ((σ') i9).2.1))), (pa, .inl (cI, 4, .inl (fun i9 => nI ((σ') i9).2.2)))] → va_S (fun q : Nat => s.heap.size ≤ q) s.heap H' locs' → ∀ ls' : Array Slot, lv_has ls' 8 [(0, .ref b), (1, .ref hd), (2, .ref hm), (3, .ref oa), (4, .int (nI i))] → W p l e room_1 s m #[Value.ref b] below meth c H' locs' (cells + 1) (slots + 6) (lw_Z below #[Value.ref b] s) (F0 m 1700 ls' [])) : W p l e room_1 s m #[Value.ref b] below meth c H locs cells slots (lw_Z below #[Value.ref b] s) (F0 m 260 ls []) := by
  have hAq : ∀ q : Nat, s.heap.size ≤ q → (fun q : Nat => s.heap.size ≤ q) q := fun _ h => h
  have hbA : ¬ (fun q : Nat => s.heap.size ≤ q) b := Nat.not_le.mpr hbl
  refine lv_aload_n hx hb d_L_law_260 rfl (lv_at hl 1 rfl) ?_
  refine lv_aload_n hx hb d_L_law_261 rfl (lv_at hl 0 rfl) ?_
  refine lv_iload hx hb d_L_law_262 (lv_at hl 4 rfl) ?_
  refine lv_iconst (v := 1) hx hb d_L_law_264 (by decide) ?_
  refine lv_iadd hx hb d_L_law_265 ?_
  refine lv_topi (fun v265 ev265 => ?_)
  have ev265 : v265 = nI (i + 1) := by rw [ev265]; exact nI_add i 1
  subst ev265
  refine va_sld hx hb hX hbl hbA hS (vp_in_nI (n := i + 1) (N := L) (by omega) (by omega)) d_L_law_266 ?_
  refine lv_topi (fun v266 ev266 => ?_)
  have ev266 : v266 = xs (i + 1) := by rw [ev266, nI_clamp (by omega)]
  subst ev266
  refine lv_aload_n hx hb d_L_law_267 rfl (lv_at hl 0 rfl) ?_
  refine lv_iload hx hb d_L_law_268 (lv_at hl 4 rfl) ?_
  refine lv_iconst (v := 2) hx hb d_L_law_270 (by decide) ?_
  refine lv_iadd hx hb d_L_law_271 ?_
  refine lv_topi (fun v271 ev271 => ?_)
  have ev271 : v271 = nI (i + 2) := by rw [ev271]; exact nI_add i 2
  subst ev271
  refine va_sld hx hb hX hbl hbA hS (vp_in_nI (n := i + 2) (N := L) (by omega) (by omega)) d_L_law_272 ?_
  refine lv_topi (fun v272 ev272 => ?_)
  have ev272 : v272 = xs (i + 2) := by rw [ev272, nI_clamp (by omega)]
  subst ev272
  refine lv_i2l hx hb d_L_law_273 rfl ?_
  refine lv_topl (fun v273 ev273 => ?_)
  refine lv_bipush (v := 32) hx hb d_L_law_274 (by decide) ?_
  refine lv_lshl hx hb d_L_law_276 rfl ?_
  refine lv_topl (fun v276 ev276 => ?_)
  refine lv_aload_n hx hb d_L_law_277 rfl (lv_at hl 0 rfl) ?_
  refine lv_iload hx hb d_L_law_278 (lv_at hl 4 rfl) ?_
  refine lv_iconst (v := 3) hx hb d_L_law_280 (by decide) ?_
  refine lv_iadd hx hb d_L_law_281 ?_
  refine lv_topi (fun v281 ev281 => ?_)
  have ev281 : v281 = nI (i + 3) := by rw [ev281]; exact nI_add i 3
  subst ev281
  refine va_sld hx hb hX hbl hbA hS (vp_in_nI (n := i + 3) (N := L) (by omega) (by omega)) d_L_law_282 ?_
  refine lv_topi (fun v282 ev282 => ?_)
  have ev282 : v282 = xs (i + 3) := by rw [ev282, nI_clamp (by omega)]
  subst ev282
  refine lv_i2l hx hb d_L_law_283 rfl ?_
  refine lv_topl (fun v283 ev283 => ?_)
  refine lv_ldc2 (v := 4294967295) hx hb hown (hA _ k3_168) d_L_law_284 ?_
  refine lv_land hx hb d_L_law_287 ?_
  refine lv_topl (fun v287 ev287 => ?_)
  refine lv_lor hx hb d_L_law_288 ?_
  refine lv_topl (fun v288 ev288 => ?_)
  have ev288 : v288 = lN (uNl (lgl (xs (i + 2)) (xs (i + 3)))) := by rw [lN_u, ev288, ev276, ev273, ev287, ev283]; rfl
  subst ev288
  refine lv_aload_n hx hb d_L_law_289 rfl (lv_at hl 3 rfl) ?_
  have hPc := hP.sub (ws' := [(hd, .inr (0, [.ref ra])), (ra, .inl (cR, 4, .inr (.inr (.inr (.inr g))))), ((y 0), .inr (1, [.ref (b2 0), .int (nI ((σ) 0).2.1), .int (nI ((σ) 0).2.2)])), ((b2 0), .inl (cB, M, .inl (fun j => sb_b (((σ) 0).1 j)))), ((y 1), .inr (1, [.ref (b2 1), .int (nI ((σ) 1).2.1), .int (nI ((σ) 1).2.2)])), ((b2 1), .inl (cB, M, .inl (fun j => sb_b (((σ) 1).1 j)))), ((y 2), .inr (1, [.ref (b2 2), .int (nI ((σ) 2).2.1), .int (nI ((σ) 2).2.2)])), ((b2 2), .inl (cB, M, .inl (fun j => sb_b (((σ) 2).1 j)))), ((y 3), .inr (1, [.ref (b2 3), .int (nI ((σ) 3).2.1), .int (nI ((σ) 3).2.2)])), ((b2 3), .inl (cB, M, .inl (fun j => sb_b (((σ) 3).1 j)))), (oa, .inl (cL, 1, .inr (.inl f0)))]) [0, 1, 2, 3, 4, 5, 6, 7, 8, 9, 10] rfl
  have hDc := hD.sub (ws' := [(hd, .inr (0, [.ref ra])), (ra, .inl (cR, 4, .inr (.inr (.inr (.inr g))))), ((y 0), .inr (1, [.ref (b2 0), .int (nI ((σ) 0).2.1), .int (nI ((σ) 0).2.2)])), ((b2 0), .inl (cB, M, .inl (fun j => sb_b (((σ) 0).1 j)))), ((y 1), .inr (1, [.ref (b2 1), .int (nI ((σ) 1).2.1), .int (nI ((σ) 1).2.2)])), ((b2 1), .inl (cB, M, .inl (fun j => sb_b (((σ) 1).1 j)))), ((y 2), .inr (1, [.ref (b2 2), .int (nI ((σ) 2).2.1), .int (nI ((σ) 2).2.2)])), ((b2 2), .inl (cB, M, .inl (fun j => sb_b (((σ) 2).1 j)))), ((y 3), .inr (1, [.ref (b2 3), .int (nI ((σ) 3).2.1), .int (nI ((σ) 3).2.2)])), ((b2 3), .inl (cB, M, .inl (fun j => sb_b (((σ) 3).1 j)))), (oa, .inl (cL, 1, .inr (.inl f0)))]) [0, 1, 2, 3, 4, 5, 6, 7, 8, 9, 10] (by decide) rfl
  have hKc := hK.sub (tys' := [(cB, .byte), (cR, .object "PacketDesk$Row"), (cL, .long)]) [0, 1, 2] rfl
  have hFc := va_free (wc := [(hd, .inr (0, [.ref ra])), (ra, .inl (cR, 4, .inr (.inr (.inr (.inr g))))), ((y 0), .inr (1, [.ref (b2 0), .int (nI ((σ) 0).2.1), .int (nI ((σ) 0).2.2)])), ((b2 0), .inl (cB, M, .inl (fun j => sb_b (((σ) 0).1 j)))), ((y 1), .inr (1, [.ref (b2 1), .int (nI ((σ) 1).2.1), .int (nI ((σ) 1).2.2)])), ((b2 1), .inl (cB, M, .inl (fun j => sb_b (((σ) 1).1 j)))), ((y 2), .inr (1, [.ref (b2 2), .int (nI ((σ) 2).2.1), .int (nI ((σ) 2).2.2)])), ((b2 2), .inl (cB, M, .inl (fun j => sb_b (((σ) 2).1 j)))), ((y 3), .inr (1, [.ref (b2 3), .int (nI ((σ) 3).2.1), .int (nI ((σ) 3).2.2)])), ((b2 3), .inl (cB, M, .inl (fun j => sb_b (((σ) 3).1 j)))), (oa, .inl (cL, 1, .inr (.inl f0)))]) hD hS hAq [0, 1, 2, 3, 4, 5, 6, 7, 8, 9, 10] rfl
  have hh9 : ∀ q : Nat, q < s.heap.size → H[q]? = s.heap[q]? := fun q h => hS.2.1 q h (Nat.not_le.mpr h)
  refine lx_wi (lx_runS (As := [.ref hd, .int (xs (i + 1)), .long (lN (uNl (lgl (xs (i + 2)) (xs (i + 3))))), .ref oa]) (rest := []) ⟨hx, hb, hml, hown, hA⟩ (c_L_sevens l hL0 D cR cB cL hd ra oa g M y b2 σ f0 H.size (xs (i + 1)) (uNl (lgl (xs (i + 2)) (xs (i + 3)))) (uNl_lt _) hg hσ) (q_L_sevens hA k1_184 rfl rfl ⟨(Nat.le_of_ble_eq_true rfl), (Nat.le_of_ble_eq_true rfl)⟩) (oxn_S hPc hKc hDc hG hh9 hN) rfl rfl hl.1 rfl (lv_room (Nat.le_of_ble_eq_true rfl)) d_L_law_290 ⟨(by show cells + 2 ≤ 601024; omega), (by show slots + 12 ≤ 7293000; omega)⟩) hS (fun q _ h => hFc q h) hFc (fun r5 u5 t9 H1 locs ht9 hvm9 hw5 hB9 hz1 hk1 hS => ?_)
  obtain ⟨τ5, f5⟩ := u5
  obtain ⟨hP1, hK1, hD1⟩ := hB9
  rw [ht9] at hP1
  obtain ⟨hP, hD⟩ := va_join (wr := [(hm, .inr (2, [.int th, .int (nI M), .ref cl, .ref sa, .ref pa, .int tk])), (cl, .inl (cL, 32768, .inr (.inl (pkF (σ))))), (sa, .inl (cI, 4, .inl (fun i9 => nI ((σ) i9).2.1))), (pa, .inl (cI, 4, .inl (fun i9 => nI ((σ) i9).2.2)))]) (w1 := [(hd, .inr (0, [.ref ra])), (ra, .inl (cR, 4, .inr (.inr (.inr (.inr g))))), ((y 0), .inr (1, [.ref (b2 0), .int (nI ((τ5) 0).2.1), .int (nI ((τ5) 0).2.2)])), ((b2 0), .inl (cB, M, .inl (fun j => sb_b (((τ5) 0).1 j)))), ((y 1), .inr (1, [.ref (b2 1), .int (nI ((τ5) 1).2.1), .int (nI ((τ5) 1).2.2)])), ((b2 1), .inl (cB, M, .inl (fun j => sb_b (((τ5) 1).1 j)))), ((y 2), .inr (1, [.ref (b2 2), .int (nI ((τ5) 2).2.1), .int (nI ((τ5) 2).2.2)])), ((b2 2), .inl (cB, M, .inl (fun j => sb_b (((τ5) 2).1 j)))), ((y 3), .inr (1, [.ref (b2 3), .int (nI ((τ5) 3).2.1), .int (nI ((τ5) 3).2.2)])), ((b2 3), .inl (cB, M, .inl (fun j => sb_b (((τ5) 3).1 j)))), (oa, .inl (cL, 1, .inr (.inl f5)))]) hP hD [0, 1, 2, 3, 4, 5, 6, 7, 8, 9, 10] [11, 12, 13, 14] rfl rfl (by decide) (by decide) hk1 hFc hP1 hD1
  generalize H1 = H at hP hS ⊢
  have hP : va_P D vCl [(hd, .inr (0, [.ref ra])), (ra, .inl (cR, 4, .inr (.inr (.inr (.inr g))))), ((y 0), .inr (1, [.ref (b2 0), .int (nI ((τ5) 0).2.1), .int (nI ((τ5) 0).2.2)])), ((b2 0), .inl (cB, M, .inl (fun j => sb_b (((τ5) 0).1 j)))), ((y 1), .inr (1, [.ref (b2 1), .int (nI ((τ5) 1).2.1), .int (nI ((τ5) 1).2.2)])), ((b2 1), .inl (cB, M, .inl (fun j => sb_b (((τ5) 1).1 j)))), ((y 2), .inr (1, [.ref (b2 2), .int (nI ((τ5) 2).2.1), .int (nI ((τ5) 2).2.2)])), ((b2 2), .inl (cB, M, .inl (fun j => sb_b (((τ5) 2).1 j)))), ((y 3), .inr (1, [.ref (b2 3), .int (nI ((τ5) 3).2.1), .int (nI ((τ5) 3).2.2)])), ((b2 3), .inl (cB, M, .inl (fun j => sb_b (((τ5) 3).1 j)))), (oa, .inl (cL, 1, .inr (.inl f5))), (hm, .inr (2, [.int th, .int (nI M), .ref cl, .ref sa, .ref pa, .int tk])), (cl, .inl (cL, 32768, .inr (.inl (pkF (σ))))), (sa, .inl (cI, 4, .inl (fun i9 => nI ((σ) i9).2.1))), (pa, .inl (cI, 4, .inl (fun i9 => nI ((σ) i9).2.2)))] H := hP.sub [4, 5, 6, 7, 8, 9, 10, 11, 12, 13, 14, 0, 1, 2, 3] rfl
  have hD : va_D (fun q : Nat => s.heap.size ≤ q) [(hd, .inr (0, [.ref ra])), (ra, .inl (cR, 4, .inr (.inr (.inr (.inr g))))), ((y 0), .inr (1, [.ref (b2 0), .int (nI ((τ5) 0).2.1), .int (nI ((τ5) 0).2.2)])), ((b2 0), .inl (cB, M, .inl (fun j => sb_b (((τ5) 0).1 j)))), ((y 1), .inr (1, [.ref (b2 1), .int (nI ((τ5) 1).2.1), .int (nI ((τ5) 1).2.2)])), ((b2 1), .inl (cB, M, .inl (fun j => sb_b (((τ5) 1).1 j)))), ((y 2), .inr (1, [.ref (b2 2), .int (nI ((τ5) 2).2.1), .int (nI ((τ5) 2).2.2)])), ((b2 2), .inl (cB, M, .inl (fun j => sb_b (((τ5) 2).1 j)))), ((y 3), .inr (1, [.ref (b2 3), .int (nI ((τ5) 3).2.1), .int (nI ((τ5) 3).2.2)])), ((b2 3), .inl (cB, M, .inl (fun j => sb_b (((τ5) 3).1 j)))), (oa, .inl (cL, 1, .inr (.inl f5))), (hm, .inr (2, [.int th, .int (nI M), .ref cl, .ref sa, .ref pa, .int tk])), (cl, .inl (cL, 32768, .inr (.inl (pkF (σ))))), (sa, .inl (cI, 4, .inl (fun i9 => nI ((σ) i9).2.1))), (pa, .inl (cI, 4, .inl (fun i9 => nI ((σ) i9).2.2)))] := hD.sub [4, 5, 6, 7, 8, 9, 10, 11, 12, 13, 14, 0, 1, 2, 3] (by decide) rfl
  obtain ⟨h51, h52, h53⟩ := hw5
  refine lv_istore (lv' := [(5, .int r5), (0, .ref b), (1, .ref hd), (2, .ref hm), (3, .ref oa), (4, .int (nI i))]) hx hb d_L_law_293 hl (by decide) rfl (fun ls hl => ?_)
  refine lv_aload_n hx hb d_L_law_295 rfl (lv_at hl 3 rfl) ?_
  refine lv_aload_n hx hb d_L_law_296 rfl (lv_at hl 1 rfl) ?_
  refine lv_iload hx hb d_L_law_297 (lv_at hl 5 rfl) ?_
  refine lv_iconst (v := 1) hx hb d_L_law_299 (by decide) ?_
  refine lv_iadd hx hb d_L_law_300 ?_
  refine lv_topi (fun v300 ev300 => ?_)
  have ev300 : v300 = nI (i + 1) := by rw [ev300]; exact nI_add i 1
  subst ev300
  refine va_sld hx hb hX hbl hbA hS (vp_in_nI (n := i + 1) (N := L) (by omega) (by omega)) d_L_law_301 ?_
  refine lv_topi (fun v301 ev301 => ?_)
  have ev301 : v301 = xs (i + 1) := by rw [ev301, nI_clamp (by omega)]
  subst ev301
  refine lv_aload_n hx hb d_L_law_302 rfl (lv_at hl 1 rfl) ?_
  refine lv_iload hx hb d_L_law_303 (lv_at hl 5 rfl) ?_
  refine lv_iconst (v := 2) hx hb d_L_law_305 (by decide) ?_
  refine lv_iadd hx hb d_L_law_306 ?_
  refine lv_topi (fun v306 ev306 => ?_)
  have ev306 : v306 = nI (i + 2) := by rw [ev306]; exact nI_add i 2
  subst ev306
  refine va_sld hx hb hX hbl hbA hS (vp_in_nI (n := i + 2) (N := L) (by omega) (by omega)) d_L_law_307 ?_
  refine lv_topi (fun v307 ev307 => ?_)
  have ev307 : v307 = xs (i + 2) := by rw [ev307, nI_clamp (by omega)]
  subst ev307
  refine lv_i2l hx hb d_L_law_308 rfl ?_
  refine lv_topl (fun v308 ev308 => ?_)
  refine lv_bipush (v := 32) hx hb d_L_law_309 (by decide) ?_
  refine lv_lshl hx hb d_L_law_311 rfl ?_
  refine lv_topl (fun v311 ev311 => ?_)
  refine lv_aload_n hx hb d_L_law_312 rfl (lv_at hl 1 rfl) ?_
  refine lv_iload hx hb d_L_law_313 (lv_at hl 5 rfl) ?_
  refine lv_iconst (v := 3) hx hb d_L_law_315 (by decide) ?_
  refine lv_iadd hx hb d_L_law_316 ?_
  refine lv_topi (fun v316 ev316 => ?_)
  have ev316 : v316 = nI (i + 3) := by rw [ev316]; exact nI_add i 3
  subst ev316
  refine va_sld hx hb hX hbl hbA hS (vp_in_nI (n := i + 3) (N := L) (by omega) (by omega)) d_L_law_317 ?_
  refine lv_topi (fun v317 ev317 => ?_)
  have ev317 : v317 = xs (i + 3) := by rw [ev317, nI_clamp (by omega)]
  subst ev317
  refine lv_i2l hx hb d_L_law_318 rfl ?_
  refine lv_topl (fun v318 ev318 => ?_)
  refine lv_ldc2 (v := 4294967295) hx hb hown (hA _ k3_168) d_L_law_319 ?_
  refine lv_land hx hb d_L_law_322 ?_
  refine lv_topl (fun v322 ev322 => ?_)
  refine lv_lor hx hb d_L_law_323 ?_
  refine lv_topl (fun v323 ev323 => ?_)
  have ev323 : v323 = lN (uNl (lgl (xs (i + 2)) (xs (i + 3)))) := by rw [lN_u, ev323, ev311, ev308, ev322, ev318]; rfl
  subst ev323
  have hPc := hP.sub (ws' := [(hm, .inr (2, [.int th, .int (nI M), .ref cl, .ref sa, .ref pa, .int tk])), (cl, .inl (cL, 32768, .inr (.inl (pkF (σ))))), (sa, .inl (cI, 4, .inl (fun i9 => nI ((σ) i9).2.1))), (pa, .inl (cI, 4, .inl (fun i9 => nI ((σ) i9).2.2)))]) [11, 12, 13, 14] rfl
  have hDc := hD.sub (ws' := [(hm, .inr (2, [.int th, .int (nI M), .ref cl, .ref sa, .ref pa, .int tk])), (cl, .inl (cL, 32768, .inr (.inl (pkF (σ))))), (sa, .inl (cI, 4, .inl (fun i9 => nI ((σ) i9).2.1))), (pa, .inl (cI, 4, .inl (fun i9 => nI ((σ) i9).2.2)))]) [11, 12, 13, 14] (by decide) rfl
  have hKc := hK.sub (tys' := [(cL, .long), (cI, .int)]) [2, 3] rfl
  have hFc := va_free (wc := [(hm, .inr (2, [.int th, .int (nI M), .ref cl, .ref sa, .ref pa, .int tk])), (cl, .inl (cL, 32768, .inr (.inl (pkF (σ))))), (sa, .inl (cI, 4, .inl (fun i9 => nI ((σ) i9).2.1))), (pa, .inl (cI, 4, .inl (fun i9 => nI ((σ) i9).2.2)))]) hD hS hAq [11, 12, 13, 14] rfl
  refine va_calli (va_runV (As := [.int (xs (i + 1)), .long (lN (uNl (lgl (xs (i + 2)) (xs (i + 3)))))]) (rest := []) ⟨hx, hb, hml, hown, hA⟩ (c_M_sevens l D cL cI hm cl sa pa M th tk σ H.size (xs (i + 1)) (uNl (lgl (xs (i + 2)) (xs (i + 3)))) (uNl_lt _) hσ) (q_M_sevens hA k3_22 rfl rfl ⟨(Nat.le_of_ble_eq_true rfl), (Nat.le_of_ble_eq_true rfl)⟩) (ox_V (va_recv hKc hPc (ci := 2) (q0 := 0) rfl rfl) (oxw_S hPc hKc hDc)) rfl rfl hl.1 rfl (lv_room (Nat.le_of_ble_eq_true rfl)) d_L_law_324 ⟨(by show cells + 1 + 0 ≤ 601024; omega), (by show slots + 6 + 0 ≤ 7293000; omega)⟩) hS (fun q _ h => hFc q h) hFc (fun r8 u8 t9 H1 locs ht9 hvm9 hw8 hB9 hz1 hk1 hS => ?_)
  obtain ⟨c8, τ8, k8⟩ := u8
  replace hw8 : spSevens M σ (xs (i + 1)) (uNl (lgl (xs (i + 2)) (xs (i + 3)))) = (c8, r8, τ8) := hw8
  obtain ⟨hP1, hK1, hD1⟩ := hB9
  rw [ht9] at hP1
  obtain ⟨hP, hD⟩ := va_join (wr := [(hd, .inr (0, [.ref ra])), (ra, .inl (cR, 4, .inr (.inr (.inr (.inr g))))), ((y 0), .inr (1, [.ref (b2 0), .int (nI ((τ5) 0).2.1), .int (nI ((τ5) 0).2.2)])), ((b2 0), .inl (cB, M, .inl (fun j => sb_b (((τ5) 0).1 j)))), ((y 1), .inr (1, [.ref (b2 1), .int (nI ((τ5) 1).2.1), .int (nI ((τ5) 1).2.2)])), ((b2 1), .inl (cB, M, .inl (fun j => sb_b (((τ5) 1).1 j)))), ((y 2), .inr (1, [.ref (b2 2), .int (nI ((τ5) 2).2.1), .int (nI ((τ5) 2).2.2)])), ((b2 2), .inl (cB, M, .inl (fun j => sb_b (((τ5) 2).1 j)))), ((y 3), .inr (1, [.ref (b2 3), .int (nI ((τ5) 3).2.1), .int (nI ((τ5) 3).2.2)])), ((b2 3), .inl (cB, M, .inl (fun j => sb_b (((τ5) 3).1 j)))), (oa, .inl (cL, 1, .inr (.inl f5)))]) (w1 := [(hm, .inr (2, [.int (nI c8), .int (nI M), .ref cl, .ref sa, .ref pa, .int k8])), (cl, .inl (cL, 32768, .inr (.inl (pkF (τ8))))), (sa, .inl (cI, 4, .inl (fun i9 => nI ((τ8) i9).2.1))), (pa, .inl (cI, 4, .inl (fun i9 => nI ((τ8) i9).2.2)))]) hP hD [11, 12, 13, 14] [0, 1, 2, 3, 4, 5, 6, 7, 8, 9, 10] rfl rfl (by decide) (by decide) hk1 hFc hP1 hD1
  generalize H1 = H at hP hS ⊢
  have hP : va_P D vCl [(hd, .inr (0, [.ref ra])), (ra, .inl (cR, 4, .inr (.inr (.inr (.inr g))))), ((y 0), .inr (1, [.ref (b2 0), .int (nI ((τ5) 0).2.1), .int (nI ((τ5) 0).2.2)])), ((b2 0), .inl (cB, M, .inl (fun j => sb_b (((τ5) 0).1 j)))), ((y 1), .inr (1, [.ref (b2 1), .int (nI ((τ5) 1).2.1), .int (nI ((τ5) 1).2.2)])), ((b2 1), .inl (cB, M, .inl (fun j => sb_b (((τ5) 1).1 j)))), ((y 2), .inr (1, [.ref (b2 2), .int (nI ((τ5) 2).2.1), .int (nI ((τ5) 2).2.2)])), ((b2 2), .inl (cB, M, .inl (fun j => sb_b (((τ5) 2).1 j)))), ((y 3), .inr (1, [.ref (b2 3), .int (nI ((τ5) 3).2.1), .int (nI ((τ5) 3).2.2)])), ((b2 3), .inl (cB, M, .inl (fun j => sb_b (((τ5) 3).1 j)))), (oa, .inl (cL, 1, .inr (.inl f5))), (hm, .inr (2, [.int (nI c8), .int (nI M), .ref cl, .ref sa, .ref pa, .int k8])), (cl, .inl (cL, 32768, .inr (.inl (pkF (τ8))))), (sa, .inl (cI, 4, .inl (fun i9 => nI ((τ8) i9).2.1))), (pa, .inl (cI, 4, .inl (fun i9 => nI ((τ8) i9).2.2)))] H := hP
  have hD : va_D (fun q : Nat => s.heap.size ≤ q) [(hd, .inr (0, [.ref ra])), (ra, .inl (cR, 4, .inr (.inr (.inr (.inr g))))), ((y 0), .inr (1, [.ref (b2 0), .int (nI ((τ5) 0).2.1), .int (nI ((τ5) 0).2.2)])), ((b2 0), .inl (cB, M, .inl (fun j => sb_b (((τ5) 0).1 j)))), ((y 1), .inr (1, [.ref (b2 1), .int (nI ((τ5) 1).2.1), .int (nI ((τ5) 1).2.2)])), ((b2 1), .inl (cB, M, .inl (fun j => sb_b (((τ5) 1).1 j)))), ((y 2), .inr (1, [.ref (b2 2), .int (nI ((τ5) 2).2.1), .int (nI ((τ5) 2).2.2)])), ((b2 2), .inl (cB, M, .inl (fun j => sb_b (((τ5) 2).1 j)))), ((y 3), .inr (1, [.ref (b2 3), .int (nI ((τ5) 3).2.1), .int (nI ((τ5) 3).2.2)])), ((b2 3), .inl (cB, M, .inl (fun j => sb_b (((τ5) 3).1 j)))), (oa, .inl (cL, 1, .inr (.inl f5))), (hm, .inr (2, [.int (nI c8), .int (nI M), .ref cl, .ref sa, .ref pa, .int k8])), (cl, .inl (cL, 32768, .inr (.inl (pkF (τ8))))), (sa, .inl (cI, 4, .inl (fun i9 => nI ((τ8) i9).2.1))), (pa, .inl (cI, 4, .inl (fun i9 => nI ((τ8) i9).2.2)))] := hD
  have hc8 : c8 ≤ 4 := by have h9 := le_spSevens M σ (xs (i + 1)) (uNl (lgl (xs (i + 2)) (xs (i + 3)))); rw [hw8] at h9; exact h9
  have hσ8 : dkok M τ8 := by have h9 := ok_spSevens (M := M) (σ := σ) (xs (i + 1)) (uNl (lgl (xs (i + 2)) (xs (i + 3)))) hσ; rw [hw8] at h9; exact h9
  rw [hw8] at h51 h52 h53
  have h51 : r5 = nI c8 := h51
  have h52 : τ5 = τ8 := h52
  have h53 : c8 = 0 → f5 0 = r8.toInt64 := h53
  subst h51
  subst h52
  refine lv_istore (lv' := [(6, .int r8), (5, .int (nI c8)), (0, .ref b), (1, .ref hd), (2, .ref hm), (3, .ref oa), (4, .int (nI i))]) hx hb d_L_law_327 hl (by decide) rfl (fun ls hl => ?_)
  refine lv_aload_n hx hb d_L_law_329 rfl (lv_at hl 4 rfl) ?_
  have hPc := hP.sub (ws' := [(hm, .inr (2, [.int (nI c8), .int (nI M), .ref cl, .ref sa, .ref pa, .int k8])), (cl, .inl (cL, 32768, .inr (.inl (pkF (τ5))))), (sa, .inl (cI, 4, .inl (fun i9 => nI ((τ5) i9).2.1))), (pa, .inl (cI, 4, .inl (fun i9 => nI ((τ5) i9).2.2)))]) [11, 12, 13, 14] rfl
  have hKc := hK.sub (tys' := [(cL, .long), (cI, .int)]) [2, 3] rfl
  refine vp_callSi (W.runV (As := []) (rest := []) ⟨hx, hb, hml, hown, hA⟩ (c_M_thrown l D cL cI hm cl sa pa M (nI c8) k8 τ5) (q_M_thrown hA k2_233 rfl rfl ⟨(Nat.le_of_ble_eq_true rfl), (Nat.le_of_ble_eq_true rfl)⟩) (ox_V (va_recv hKc hPc (ci := 2) (q0 := 0) rfl rfl) (ox_S hPc hKc)) rfl rfl hl.1 rfl (lv_room (Nat.le_of_ble_eq_true rfl)) d_L_law_330 ⟨(by show cells + 1 + 0 + 0 ≤ 601024; omega), (by show slots + 6 + 0 + 0 ≤ 7293000; omega)⟩) (fun r7 hr7 => ?_)
  subst hr7
  refine lv_iload hx hb d_L_law_333 (lv_at hl 1 rfl) ?_
  refine lv_icmp_eq (tgt := 340) hx hb d_L_law_335 (by decide) (fun _ => ?_) (fun q9 => absurd rfl q9)
  refine lv_iload hx hb d_L_law_340 (lv_at hl 1 rfl) ?_
  refine lv_if_ne (tgt := 357) hx hb d_L_law_342 (by decide) (fun c342 => ?_) (fun c342 => ?_)
  · refine lv_goto (tgt := 1700) hx hb d_L_law_357 (by decide) ?_
    exact K τ5 f5 (nI c8) k8 H locs hσ8 hP hD hS ls (lv_sub hl [2, 3, 4, 5, 6] rfl)
  · refine lv_aload_n hx hb d_L_law_345 rfl (lv_at hl 5 rfl) ?_
    refine lv_iconst (v := 0) hx hb d_L_law_346 (by decide) ?_
    have hc0 : c8 = 0 := (nI_eq (b := 0) (by omega) (by omega)).mp c342
    have h53 := h53 hc0
    refine va_lald hx hb hK hP 10 2 rfl rfl (by unfold vp_in; decide) d_L_law_347 ?_
    refine lv_topl (fun v347 ev347 => ?_)
    have ev347 : v347 = r8.toInt64 := by rw [ev347, sb_cl0]; exact h53
    subst ev347
    refine lv_iload hx hb d_L_law_348 (lv_at hl 0 rfl) ?_
    refine lv_i2l hx hb d_L_law_350 rfl ?_
    refine lv_topl (fun v350 ev350 => ?_)
    refine W.lcmp hx hb d_L_law_351 ?_
    refine lv_topi (fun v351 ev351 => ?_)
    refine lv_if_eq (tgt := 357) hx hb d_L_law_352 (by decide) (fun _ => ?_) (fun q9 => absurd (by rw [ev351, ev350]; exact (lg_cmp_eq _ _).mpr rfl) q9)
    refine lv_goto (tgt := 1700) hx hb d_L_law_357 (by decide) ?_
    exact K τ5 f5 (nI c8) k8 H locs hσ8 hP hD hS ls (lv_sub hl [2, 3, 4, 5, 6] rfl)
set_option maxHeartbeats 2000000 in
set_option maxRecDepth 100000 in
/-- the law at signed -/
theorem k_signed {p : Program} {l : Launch} {e : Env} {s : State} {m : MethodId} {below : List Frame} {meth : Method} {c : Code} (hL0 : l.stackTraces = false) {b L : Nat} {xs : Nat → Int32} (hL : L ≤ 2561) (hx : p.tables.exec = Jvm.exec) (hb : c.code = code) (hml : c.maxLocals = 8) (hown : s.vm.findClass R_L = some m.cls) (hA : ∀ w ∈ wsA, w.before #[Value.ref b] s = true) (hX : va_X b L xs s s.heap) (hbl : b < s.heap.size) (hG : tx_G s) (hN : tx_N s) {D : va_G} {cR cB cL cI : ClassId} {hd ra oa hm cl sa pa : Nat} {g : Nat → Option Nat} {M : Nat} {y b2 : Nat → Nat} (hg : ∀ i, i < 4 → g i = some (y i)) (hK : va_K D vCl [(cB, .byte), (cR, .object "PacketDesk$Row"), (cL, .long), (cI, .int)] s) (σ : dkS) (f0 : Nat → Int64) (th tk : Int32) (hσ : dkok M σ) (i : Nat) (hi : i + 5 ≤ L) (cells slots : Nat) (hce : cells + 10 ≤ 601024) (hsl : slots + 100 ≤ 7293000) (H : Heap) (locs : List Loc) (hP : va_P D vCl [(hd, .inr (0, [.ref ra])), (ra, .inl (cR, 4, .inr (.inr (.inr (.inr g))))), ((y 0), .inr (1, [.ref (b2 0), .int (nI ((σ) 0).2.1), .int (nI ((σ) 0).2.2)])), ((b2 0), .inl (cB, M, .inl (fun j => sb_b (((σ) 0).1 j)))), ((y 1), .inr (1, [.ref (b2 1), .int (nI ((σ) 1).2.1), .int (nI ((σ) 1).2.2)])), ((b2 1), .inl (cB, M, .inl (fun j => sb_b (((σ) 1).1 j)))), ((y 2), .inr (1, [.ref (b2 2), .int (nI ((σ) 2).2.1), .int (nI ((σ) 2).2.2)])), ((b2 2), .inl (cB, M, .inl (fun j => sb_b (((σ) 2).1 j)))), ((y 3), .inr (1, [.ref (b2 3), .int (nI ((σ) 3).2.1), .int (nI ((σ) 3).2.2)])), ((b2 3), .inl (cB, M, .inl (fun j => sb_b (((σ) 3).1 j)))), (oa, .inl (cL, 1, .inr (.inl f0))), (hm, .inr (2, [.int th, .int (nI M), .ref cl, .ref sa, .ref pa, .int tk])), (cl, .inl (cL, 32768, .inr (.inl (pkF (σ))))), (sa, .inl (cI, 4, .inl (fun i9 => nI ((σ) i9).2.1))), (pa, .inl (cI, 4, .inl (fun i9 => nI ((σ) i9).2.2)))] H) (hD : va_D (fun q : Nat => s.heap.size ≤ q) [(hd, .inr (0, [.ref ra])), (ra, .inl (cR, 4, .inr (.inr (.inr (.inr g))))), ((y 0), .inr (1, [.ref (b2 0), .int (nI ((σ) 0).2.1), .int (nI ((σ) 0).2.2)])), ((b2 0), .inl (cB, M, .inl (fun j => sb_b (((σ) 0).1 j)))), ((y 1), .inr (1, [.ref (b2 1), .int (nI ((σ) 1).2.1), .int (nI ((σ) 1).2.2)])), ((b2 1), .inl (cB, M, .inl (fun j => sb_b (((σ) 1).1 j)))), ((y 2), .inr (1, [.ref (b2 2), .int (nI ((σ) 2).2.1), .int (nI ((σ) 2).2.2)])), ((b2 2), .inl (cB, M, .inl (fun j => sb_b (((σ) 2).1 j)))), ((y 3), .inr (1, [.ref (b2 3), .int (nI ((σ) 3).2.1), .int (nI ((σ) 3).2.2)])), ((b2 3), .inl (cB, M, .inl (fun j => sb_b (((σ) 3).1 j)))), (oa, .inl (cL, 1, .inr (.inl f0))), (hm, .inr (2, [.int th, .int (nI M), .ref cl, .ref sa, .ref pa, .int tk])), (cl, .inl (cL, 32768, .inr (.inl (pkF (σ))))), (sa, .inl (cI, 4, .inl (fun i9 => nI ((σ) i9).2.1))), (pa, .inl (cI, 4, .inl (fun i9 => nI ((σ) i9).2.2)))]) (hS : va_S (fun q : Nat => s.heap.size ≤ q) s.heap H locs) (ls : Array Slot) (hl : lv_has ls 8 [(0, .ref b), (1, .ref hd), (2, .ref hm), (3, .ref oa), (4, .int (nI i))]) (K : ∀ (σ' : dkS) (f' : Nat → Int64) (th' tk' : Int32) (H' : Heap) (locs' : List Loc), dkok M σ' → va_P D vCl [(hd, .inr (0, [.ref ra])), (ra, .inl (cR, 4, .inr (.inr (.inr (.inr g))))), ((y 0), .inr (1, [.ref (b2 0), .int (nI ((σ') 0).2.1), .int (nI ((σ') 0).2.2)])), ((b2 0), .inl (cB, M, .inl (fun j => sb_b (((σ') 0).1 j)))), ((y 1), .inr (1, [.ref (b2 1), .int (nI ((σ') 1).2.1), .int (nI ((σ') 1).2.2)])), ((b2 1), .inl (cB, M, .inl (fun j => sb_b (((σ') 1).1 j)))), ((y 2), .inr (1, [.ref (b2 2), .int (nI ((σ') 2).2.1), .int (nI ((σ') 2).2.2)])), ((b2 2), .inl (cB, M, .inl (fun j => sb_b (((σ') 2).1 j)))), ((y 3), .inr (1, [.ref (b2 3), .int (nI ((σ') 3).2.1), .int (nI ((σ') 3).2.2)])), ((b2 3), .inl (cB, M, .inl (fun j => sb_b (((σ') 3).1 j)))), (oa, .inl (cL, 1, .inr (.inl f'))), (hm, .inr (2, [.int th', .int (nI M), .ref cl, .ref sa, .ref pa, .int tk'])), (cl, .inl (cL, 32768, .inr (.inl (pkF (σ'))))), (sa, .inl (cI, 4, .inl (fun i9 => nI ((σ') i9).2.1))), (pa, .inl (cI, 4, .inl (fun i9 => nI ((σ') i9).2.2)))] H' → va_D (fun q : Nat => s.heap.size ≤ q) [(hd, .inr (0, [.ref ra])), (ra, .inl (cR, 4, .inr (.inr (.inr (.inr g))))), ((y 0), .inr (1, [.ref (b2 0), .int (nI ((σ') 0).2.1), .int (nI ((σ') 0).2.2)])), ((b2 0), .inl (cB, M, .inl (fun j => sb_b (((σ') 0).1 j)))), ((y 1), .inr (1, [.ref (b2 1), .int (nI ((σ') 1).2.1), .int (nI ((σ') 1).2.2)])), ((b2 1), .inl (cB, M, .inl (fun j => sb_b (((σ') 1).1 j)))), ((y 2), .inr (1, [.ref (b2 2), .int (nI ((σ') 2).2.1), .int (nI ((σ') 2).2.2)])), ((b2 2), .inl (cB, M, .inl (fun j => sb_b (((σ') 2).1 j)))), ((y 3), .inr (1, [.ref (b2 3), .int (nI ((σ') 3).2.1), .int (nI ((σ') 3).2.2)])), ((b2 3), .inl (cB, M, .inl (fun j => sb_b (((σ') 3).1 j)))), (oa, .inl (cL, 1, .inr (.inl f'))), (hm, .inr (2, [.int th', .int (nI M), .ref cl, .ref sa, .ref pa, .int tk'])), (cl, .inl (cL, 32768, .inr (.inl (pkF (σ'))))), (sa, .inl (cI, 4, .inl (fun i9 => nI ((σ') i9).2.1))), (pa, .inl (cI, 4, .inl (fun i9 => nI ((σ') i9).2.2)))] → va_S (fun q : Nat => s.heap.size ≤ q) s.heap H' locs' → ∀ ls' : Array Slot, lv_has ls' 8 [(0, .ref b), (1, .ref hd), (2, .ref hm), (3, .ref oa), (4, .int (nI i))] → W p l e room_1 s m #[Value.ref b] below meth c H' locs' (cells + 1) (slots + 6) (lw_Z below #[Value.ref b] s) (F0 m 1700 ls' [])) : W p l e room_1 s m #[Value.ref b] below meth c H locs cells slots (lw_Z below #[Value.ref b] s) (F0 m 360 ls []) := by
  have hAq : ∀ q : Nat, s.heap.size ≤ q → (fun q : Nat => s.heap.size ≤ q) q := fun _ h => h
  have hbA : ¬ (fun q : Nat => s.heap.size ≤ q) b := Nat.not_le.mpr hbl
  refine lv_aload_n hx hb d_L_law_360 rfl (lv_at hl 1 rfl) ?_
  refine lv_aload_n hx hb d_L_law_361 rfl (lv_at hl 0 rfl) ?_
  refine lv_iload hx hb d_L_law_362 (lv_at hl 4 rfl) ?_
  refine lv_iconst (v := 1) hx hb d_L_law_364 (by decide) ?_
  refine lv_iadd hx hb d_L_law_365 ?_
  refine lv_topi (fun v365 ev365 => ?_)
  have ev365 : v365 = nI (i + 1) := by rw [ev365]; exact nI_add i 1
  subst ev365
  refine va_sld hx hb hX hbl hbA hS (vp_in_nI (n := i + 1) (N := L) (by omega) (by omega)) d_L_law_366 ?_
  refine lv_topi (fun v366 ev366 => ?_)
  have ev366 : v366 = xs (i + 1) := by rw [ev366, nI_clamp (by omega)]
  subst ev366
  refine lv_aload_n hx hb d_L_law_367 rfl (lv_at hl 0 rfl) ?_
  refine lv_iload hx hb d_L_law_368 (lv_at hl 4 rfl) ?_
  refine lv_iconst (v := 2) hx hb d_L_law_370 (by decide) ?_
  refine lv_iadd hx hb d_L_law_371 ?_
  refine lv_topi (fun v371 ev371 => ?_)
  have ev371 : v371 = nI (i + 2) := by rw [ev371]; exact nI_add i 2
  subst ev371
  refine va_sld hx hb hX hbl hbA hS (vp_in_nI (n := i + 2) (N := L) (by omega) (by omega)) d_L_law_372 ?_
  refine lv_topi (fun v372 ev372 => ?_)
  have ev372 : v372 = xs (i + 2) := by rw [ev372, nI_clamp (by omega)]
  subst ev372
  refine lv_i2l hx hb d_L_law_373 rfl ?_
  refine lv_topl (fun v373 ev373 => ?_)
  refine lv_bipush (v := 32) hx hb d_L_law_374 (by decide) ?_
  refine lv_lshl hx hb d_L_law_376 rfl ?_
  refine lv_topl (fun v376 ev376 => ?_)
  refine lv_aload_n hx hb d_L_law_377 rfl (lv_at hl 0 rfl) ?_
  refine lv_iload hx hb d_L_law_378 (lv_at hl 4 rfl) ?_
  refine lv_iconst (v := 3) hx hb d_L_law_380 (by decide) ?_
  refine lv_iadd hx hb d_L_law_381 ?_
  refine lv_topi (fun v381 ev381 => ?_)
  have ev381 : v381 = nI (i + 3) := by rw [ev381]; exact nI_add i 3
  subst ev381
  refine va_sld hx hb hX hbl hbA hS (vp_in_nI (n := i + 3) (N := L) (by omega) (by omega)) d_L_law_382 ?_
  refine lv_topi (fun v382 ev382 => ?_)
  have ev382 : v382 = xs (i + 3) := by rw [ev382, nI_clamp (by omega)]
  subst ev382
  refine lv_i2l hx hb d_L_law_383 rfl ?_
  refine lv_topl (fun v383 ev383 => ?_)
  refine lv_ldc2 (v := 4294967295) hx hb hown (hA _ k3_168) d_L_law_384 ?_
  refine lv_land hx hb d_L_law_387 ?_
  refine lv_topl (fun v387 ev387 => ?_)
  refine lv_lor hx hb d_L_law_388 ?_
  refine lv_topl (fun v388 ev388 => ?_)
  have ev388 : v388 = lN (uNl (lgl (xs (i + 2)) (xs (i + 3)))) := by rw [lN_u, ev388, ev376, ev373, ev387, ev383]; rfl
  subst ev388
  refine lv_aload_n hx hb d_L_law_389 rfl (lv_at hl 3 rfl) ?_
  have hPc := hP.sub (ws' := [(hd, .inr (0, [.ref ra])), (ra, .inl (cR, 4, .inr (.inr (.inr (.inr g))))), ((y 0), .inr (1, [.ref (b2 0), .int (nI ((σ) 0).2.1), .int (nI ((σ) 0).2.2)])), ((b2 0), .inl (cB, M, .inl (fun j => sb_b (((σ) 0).1 j)))), ((y 1), .inr (1, [.ref (b2 1), .int (nI ((σ) 1).2.1), .int (nI ((σ) 1).2.2)])), ((b2 1), .inl (cB, M, .inl (fun j => sb_b (((σ) 1).1 j)))), ((y 2), .inr (1, [.ref (b2 2), .int (nI ((σ) 2).2.1), .int (nI ((σ) 2).2.2)])), ((b2 2), .inl (cB, M, .inl (fun j => sb_b (((σ) 2).1 j)))), ((y 3), .inr (1, [.ref (b2 3), .int (nI ((σ) 3).2.1), .int (nI ((σ) 3).2.2)])), ((b2 3), .inl (cB, M, .inl (fun j => sb_b (((σ) 3).1 j)))), (oa, .inl (cL, 1, .inr (.inl f0)))]) [0, 1, 2, 3, 4, 5, 6, 7, 8, 9, 10] rfl
  have hDc := hD.sub (ws' := [(hd, .inr (0, [.ref ra])), (ra, .inl (cR, 4, .inr (.inr (.inr (.inr g))))), ((y 0), .inr (1, [.ref (b2 0), .int (nI ((σ) 0).2.1), .int (nI ((σ) 0).2.2)])), ((b2 0), .inl (cB, M, .inl (fun j => sb_b (((σ) 0).1 j)))), ((y 1), .inr (1, [.ref (b2 1), .int (nI ((σ) 1).2.1), .int (nI ((σ) 1).2.2)])), ((b2 1), .inl (cB, M, .inl (fun j => sb_b (((σ) 1).1 j)))), ((y 2), .inr (1, [.ref (b2 2), .int (nI ((σ) 2).2.1), .int (nI ((σ) 2).2.2)])), ((b2 2), .inl (cB, M, .inl (fun j => sb_b (((σ) 2).1 j)))), ((y 3), .inr (1, [.ref (b2 3), .int (nI ((σ) 3).2.1), .int (nI ((σ) 3).2.2)])), ((b2 3), .inl (cB, M, .inl (fun j => sb_b (((σ) 3).1 j)))), (oa, .inl (cL, 1, .inr (.inl f0)))]) [0, 1, 2, 3, 4, 5, 6, 7, 8, 9, 10] (by decide) rfl
  have hKc := hK.sub (tys' := [(cB, .byte), (cR, .object "PacketDesk$Row"), (cL, .long)]) [0, 1, 2] rfl
  have hFc := va_free (wc := [(hd, .inr (0, [.ref ra])), (ra, .inl (cR, 4, .inr (.inr (.inr (.inr g))))), ((y 0), .inr (1, [.ref (b2 0), .int (nI ((σ) 0).2.1), .int (nI ((σ) 0).2.2)])), ((b2 0), .inl (cB, M, .inl (fun j => sb_b (((σ) 0).1 j)))), ((y 1), .inr (1, [.ref (b2 1), .int (nI ((σ) 1).2.1), .int (nI ((σ) 1).2.2)])), ((b2 1), .inl (cB, M, .inl (fun j => sb_b (((σ) 1).1 j)))), ((y 2), .inr (1, [.ref (b2 2), .int (nI ((σ) 2).2.1), .int (nI ((σ) 2).2.2)])), ((b2 2), .inl (cB, M, .inl (fun j => sb_b (((σ) 2).1 j)))), ((y 3), .inr (1, [.ref (b2 3), .int (nI ((σ) 3).2.1), .int (nI ((σ) 3).2.2)])), ((b2 3), .inl (cB, M, .inl (fun j => sb_b (((σ) 3).1 j)))), (oa, .inl (cL, 1, .inr (.inl f0)))]) hD hS hAq [0, 1, 2, 3, 4, 5, 6, 7, 8, 9, 10] rfl
  have hh9 : ∀ q : Nat, q < s.heap.size → H[q]? = s.heap[q]? := fun q h => hS.2.1 q h (Nat.not_le.mpr h)
  refine lx_wi (lx_runS (As := [.ref hd, .int (xs (i + 1)), .long (lN (uNl (lgl (xs (i + 2)) (xs (i + 3))))), .ref oa]) (rest := []) ⟨hx, hb, hml, hown, hA⟩ (c_L_signed l hL0 D cR cB cL hd ra oa g M y b2 σ f0 H.size (xs (i + 1)) (lN (uNl (lgl (xs (i + 2)) (xs (i + 3))))) hg hσ) (q_L_signed hA k1_200 rfl rfl ⟨(Nat.le_of_ble_eq_true rfl), (Nat.le_of_ble_eq_true rfl)⟩) (oxn_S hPc hKc hDc hG hh9 hN) rfl rfl hl.1 rfl (lv_room (Nat.le_of_ble_eq_true rfl)) d_L_law_390 ⟨(by show cells + 2 ≤ 601024; omega), (by show slots + 12 ≤ 7293000; omega)⟩) hS (fun q _ h => hFc q h) hFc (fun r5 u5 t9 H1 locs ht9 hvm9 hw5 hB9 hz1 hk1 hS => ?_)
  obtain ⟨τ5, f5⟩ := u5
  obtain ⟨hP1, hK1, hD1⟩ := hB9
  rw [ht9] at hP1
  obtain ⟨hP, hD⟩ := va_join (wr := [(hm, .inr (2, [.int th, .int (nI M), .ref cl, .ref sa, .ref pa, .int tk])), (cl, .inl (cL, 32768, .inr (.inl (pkF (σ))))), (sa, .inl (cI, 4, .inl (fun i9 => nI ((σ) i9).2.1))), (pa, .inl (cI, 4, .inl (fun i9 => nI ((σ) i9).2.2)))]) (w1 := [(hd, .inr (0, [.ref ra])), (ra, .inl (cR, 4, .inr (.inr (.inr (.inr g))))), ((y 0), .inr (1, [.ref (b2 0), .int (nI ((τ5) 0).2.1), .int (nI ((τ5) 0).2.2)])), ((b2 0), .inl (cB, M, .inl (fun j => sb_b (((τ5) 0).1 j)))), ((y 1), .inr (1, [.ref (b2 1), .int (nI ((τ5) 1).2.1), .int (nI ((τ5) 1).2.2)])), ((b2 1), .inl (cB, M, .inl (fun j => sb_b (((τ5) 1).1 j)))), ((y 2), .inr (1, [.ref (b2 2), .int (nI ((τ5) 2).2.1), .int (nI ((τ5) 2).2.2)])), ((b2 2), .inl (cB, M, .inl (fun j => sb_b (((τ5) 2).1 j)))), ((y 3), .inr (1, [.ref (b2 3), .int (nI ((τ5) 3).2.1), .int (nI ((τ5) 3).2.2)])), ((b2 3), .inl (cB, M, .inl (fun j => sb_b (((τ5) 3).1 j)))), (oa, .inl (cL, 1, .inr (.inl f5)))]) hP hD [0, 1, 2, 3, 4, 5, 6, 7, 8, 9, 10] [11, 12, 13, 14] rfl rfl (by decide) (by decide) hk1 hFc hP1 hD1
  generalize H1 = H at hP hS ⊢
  have hP : va_P D vCl [(hd, .inr (0, [.ref ra])), (ra, .inl (cR, 4, .inr (.inr (.inr (.inr g))))), ((y 0), .inr (1, [.ref (b2 0), .int (nI ((τ5) 0).2.1), .int (nI ((τ5) 0).2.2)])), ((b2 0), .inl (cB, M, .inl (fun j => sb_b (((τ5) 0).1 j)))), ((y 1), .inr (1, [.ref (b2 1), .int (nI ((τ5) 1).2.1), .int (nI ((τ5) 1).2.2)])), ((b2 1), .inl (cB, M, .inl (fun j => sb_b (((τ5) 1).1 j)))), ((y 2), .inr (1, [.ref (b2 2), .int (nI ((τ5) 2).2.1), .int (nI ((τ5) 2).2.2)])), ((b2 2), .inl (cB, M, .inl (fun j => sb_b (((τ5) 2).1 j)))), ((y 3), .inr (1, [.ref (b2 3), .int (nI ((τ5) 3).2.1), .int (nI ((τ5) 3).2.2)])), ((b2 3), .inl (cB, M, .inl (fun j => sb_b (((τ5) 3).1 j)))), (oa, .inl (cL, 1, .inr (.inl f5))), (hm, .inr (2, [.int th, .int (nI M), .ref cl, .ref sa, .ref pa, .int tk])), (cl, .inl (cL, 32768, .inr (.inl (pkF (σ))))), (sa, .inl (cI, 4, .inl (fun i9 => nI ((σ) i9).2.1))), (pa, .inl (cI, 4, .inl (fun i9 => nI ((σ) i9).2.2)))] H := hP.sub [4, 5, 6, 7, 8, 9, 10, 11, 12, 13, 14, 0, 1, 2, 3] rfl
  have hD : va_D (fun q : Nat => s.heap.size ≤ q) [(hd, .inr (0, [.ref ra])), (ra, .inl (cR, 4, .inr (.inr (.inr (.inr g))))), ((y 0), .inr (1, [.ref (b2 0), .int (nI ((τ5) 0).2.1), .int (nI ((τ5) 0).2.2)])), ((b2 0), .inl (cB, M, .inl (fun j => sb_b (((τ5) 0).1 j)))), ((y 1), .inr (1, [.ref (b2 1), .int (nI ((τ5) 1).2.1), .int (nI ((τ5) 1).2.2)])), ((b2 1), .inl (cB, M, .inl (fun j => sb_b (((τ5) 1).1 j)))), ((y 2), .inr (1, [.ref (b2 2), .int (nI ((τ5) 2).2.1), .int (nI ((τ5) 2).2.2)])), ((b2 2), .inl (cB, M, .inl (fun j => sb_b (((τ5) 2).1 j)))), ((y 3), .inr (1, [.ref (b2 3), .int (nI ((τ5) 3).2.1), .int (nI ((τ5) 3).2.2)])), ((b2 3), .inl (cB, M, .inl (fun j => sb_b (((τ5) 3).1 j)))), (oa, .inl (cL, 1, .inr (.inl f5))), (hm, .inr (2, [.int th, .int (nI M), .ref cl, .ref sa, .ref pa, .int tk])), (cl, .inl (cL, 32768, .inr (.inl (pkF (σ))))), (sa, .inl (cI, 4, .inl (fun i9 => nI ((σ) i9).2.1))), (pa, .inl (cI, 4, .inl (fun i9 => nI ((σ) i9).2.2)))] := hD.sub [4, 5, 6, 7, 8, 9, 10, 11, 12, 13, 14, 0, 1, 2, 3] (by decide) rfl
  obtain ⟨h51, h52, h53⟩ := hw5
  refine lv_istore (lv' := [(5, .int r5), (0, .ref b), (1, .ref hd), (2, .ref hm), (3, .ref oa), (4, .int (nI i))]) hx hb d_L_law_393 hl (by decide) rfl (fun ls hl => ?_)
  refine lv_aload_n hx hb d_L_law_395 rfl (lv_at hl 3 rfl) ?_
  refine lv_aload_n hx hb d_L_law_396 rfl (lv_at hl 1 rfl) ?_
  refine lv_iload hx hb d_L_law_397 (lv_at hl 5 rfl) ?_
  refine lv_iconst (v := 1) hx hb d_L_law_399 (by decide) ?_
  refine lv_iadd hx hb d_L_law_400 ?_
  refine lv_topi (fun v400 ev400 => ?_)
  have ev400 : v400 = nI (i + 1) := by rw [ev400]; exact nI_add i 1
  subst ev400
  refine va_sld hx hb hX hbl hbA hS (vp_in_nI (n := i + 1) (N := L) (by omega) (by omega)) d_L_law_401 ?_
  refine lv_topi (fun v401 ev401 => ?_)
  have ev401 : v401 = xs (i + 1) := by rw [ev401, nI_clamp (by omega)]
  subst ev401
  refine lv_aload_n hx hb d_L_law_402 rfl (lv_at hl 1 rfl) ?_
  refine lv_iload hx hb d_L_law_403 (lv_at hl 5 rfl) ?_
  refine lv_iconst (v := 2) hx hb d_L_law_405 (by decide) ?_
  refine lv_iadd hx hb d_L_law_406 ?_
  refine lv_topi (fun v406 ev406 => ?_)
  have ev406 : v406 = nI (i + 2) := by rw [ev406]; exact nI_add i 2
  subst ev406
  refine va_sld hx hb hX hbl hbA hS (vp_in_nI (n := i + 2) (N := L) (by omega) (by omega)) d_L_law_407 ?_
  refine lv_topi (fun v407 ev407 => ?_)
  have ev407 : v407 = xs (i + 2) := by rw [ev407, nI_clamp (by omega)]
  subst ev407
  refine lv_i2l hx hb d_L_law_408 rfl ?_
  refine lv_topl (fun v408 ev408 => ?_)
  refine lv_bipush (v := 32) hx hb d_L_law_409 (by decide) ?_
  refine lv_lshl hx hb d_L_law_411 rfl ?_
  refine lv_topl (fun v411 ev411 => ?_)
  refine lv_aload_n hx hb d_L_law_412 rfl (lv_at hl 1 rfl) ?_
  refine lv_iload hx hb d_L_law_413 (lv_at hl 5 rfl) ?_
  refine lv_iconst (v := 3) hx hb d_L_law_415 (by decide) ?_
  refine lv_iadd hx hb d_L_law_416 ?_
  refine lv_topi (fun v416 ev416 => ?_)
  have ev416 : v416 = nI (i + 3) := by rw [ev416]; exact nI_add i 3
  subst ev416
  refine va_sld hx hb hX hbl hbA hS (vp_in_nI (n := i + 3) (N := L) (by omega) (by omega)) d_L_law_417 ?_
  refine lv_topi (fun v417 ev417 => ?_)
  have ev417 : v417 = xs (i + 3) := by rw [ev417, nI_clamp (by omega)]
  subst ev417
  refine lv_i2l hx hb d_L_law_418 rfl ?_
  refine lv_topl (fun v418 ev418 => ?_)
  refine lv_ldc2 (v := 4294967295) hx hb hown (hA _ k3_168) d_L_law_419 ?_
  refine lv_land hx hb d_L_law_422 ?_
  refine lv_topl (fun v422 ev422 => ?_)
  refine lv_lor hx hb d_L_law_423 ?_
  refine lv_topl (fun v423 ev423 => ?_)
  have ev423 : v423 = lN (uNl (lgl (xs (i + 2)) (xs (i + 3)))) := by rw [lN_u, ev423, ev411, ev408, ev422, ev418]; rfl
  subst ev423
  have hPc := hP.sub (ws' := [(hm, .inr (2, [.int th, .int (nI M), .ref cl, .ref sa, .ref pa, .int tk])), (cl, .inl (cL, 32768, .inr (.inl (pkF (σ))))), (sa, .inl (cI, 4, .inl (fun i9 => nI ((σ) i9).2.1))), (pa, .inl (cI, 4, .inl (fun i9 => nI ((σ) i9).2.2)))]) [11, 12, 13, 14] rfl
  have hDc := hD.sub (ws' := [(hm, .inr (2, [.int th, .int (nI M), .ref cl, .ref sa, .ref pa, .int tk])), (cl, .inl (cL, 32768, .inr (.inl (pkF (σ))))), (sa, .inl (cI, 4, .inl (fun i9 => nI ((σ) i9).2.1))), (pa, .inl (cI, 4, .inl (fun i9 => nI ((σ) i9).2.2)))]) [11, 12, 13, 14] (by decide) rfl
  have hKc := hK.sub (tys' := [(cL, .long), (cI, .int)]) [2, 3] rfl
  have hFc := va_free (wc := [(hm, .inr (2, [.int th, .int (nI M), .ref cl, .ref sa, .ref pa, .int tk])), (cl, .inl (cL, 32768, .inr (.inl (pkF (σ))))), (sa, .inl (cI, 4, .inl (fun i9 => nI ((σ) i9).2.1))), (pa, .inl (cI, 4, .inl (fun i9 => nI ((σ) i9).2.2)))]) hD hS hAq [11, 12, 13, 14] rfl
  refine va_calli (va_runV (As := [.int (xs (i + 1)), .long (lN (uNl (lgl (xs (i + 2)) (xs (i + 3)))))]) (rest := []) ⟨hx, hb, hml, hown, hA⟩ (c_M_signed l D cL cI hm cl sa pa M th tk σ H.size (xs (i + 1)) (lN (uNl (lgl (xs (i + 2)) (xs (i + 3))))) hσ) (q_M_signed hA k3_38 rfl rfl ⟨(Nat.le_of_ble_eq_true rfl), (Nat.le_of_ble_eq_true rfl)⟩) (ox_V (va_recv hKc hPc (ci := 2) (q0 := 0) rfl rfl) (oxw_S hPc hKc hDc)) rfl rfl hl.1 rfl (lv_room (Nat.le_of_ble_eq_true rfl)) d_L_law_424 ⟨(by show cells + 1 + 0 ≤ 601024; omega), (by show slots + 6 + 0 ≤ 7293000; omega)⟩) hS (fun q _ h => hFc q h) hFc (fun r8 u8 t9 H1 locs ht9 hvm9 hw8 hB9 hz1 hk1 hS => ?_)
  obtain ⟨c8, τ8, k8⟩ := u8
  replace hw8 : spSevens M σ (xs (i + 1)) (uNl (zz (lN (uNl (lgl (xs (i + 2)) (xs (i + 3))))))) = (c8, r8, τ8) := hw8
  obtain ⟨hP1, hK1, hD1⟩ := hB9
  rw [ht9] at hP1
  obtain ⟨hP, hD⟩ := va_join (wr := [(hd, .inr (0, [.ref ra])), (ra, .inl (cR, 4, .inr (.inr (.inr (.inr g))))), ((y 0), .inr (1, [.ref (b2 0), .int (nI ((τ5) 0).2.1), .int (nI ((τ5) 0).2.2)])), ((b2 0), .inl (cB, M, .inl (fun j => sb_b (((τ5) 0).1 j)))), ((y 1), .inr (1, [.ref (b2 1), .int (nI ((τ5) 1).2.1), .int (nI ((τ5) 1).2.2)])), ((b2 1), .inl (cB, M, .inl (fun j => sb_b (((τ5) 1).1 j)))), ((y 2), .inr (1, [.ref (b2 2), .int (nI ((τ5) 2).2.1), .int (nI ((τ5) 2).2.2)])), ((b2 2), .inl (cB, M, .inl (fun j => sb_b (((τ5) 2).1 j)))), ((y 3), .inr (1, [.ref (b2 3), .int (nI ((τ5) 3).2.1), .int (nI ((τ5) 3).2.2)])), ((b2 3), .inl (cB, M, .inl (fun j => sb_b (((τ5) 3).1 j)))), (oa, .inl (cL, 1, .inr (.inl f5)))]) (w1 := [(hm, .inr (2, [.int (nI c8), .int (nI M), .ref cl, .ref sa, .ref pa, .int k8])), (cl, .inl (cL, 32768, .inr (.inl (pkF (τ8))))), (sa, .inl (cI, 4, .inl (fun i9 => nI ((τ8) i9).2.1))), (pa, .inl (cI, 4, .inl (fun i9 => nI ((τ8) i9).2.2)))]) hP hD [11, 12, 13, 14] [0, 1, 2, 3, 4, 5, 6, 7, 8, 9, 10] rfl rfl (by decide) (by decide) hk1 hFc hP1 hD1
  generalize H1 = H at hP hS ⊢
  have hP : va_P D vCl [(hd, .inr (0, [.ref ra])), (ra, .inl (cR, 4, .inr (.inr (.inr (.inr g))))), ((y 0), .inr (1, [.ref (b2 0), .int (nI ((τ5) 0).2.1), .int (nI ((τ5) 0).2.2)])), ((b2 0), .inl (cB, M, .inl (fun j => sb_b (((τ5) 0).1 j)))), ((y 1), .inr (1, [.ref (b2 1), .int (nI ((τ5) 1).2.1), .int (nI ((τ5) 1).2.2)])), ((b2 1), .inl (cB, M, .inl (fun j => sb_b (((τ5) 1).1 j)))), ((y 2), .inr (1, [.ref (b2 2), .int (nI ((τ5) 2).2.1), .int (nI ((τ5) 2).2.2)])), ((b2 2), .inl (cB, M, .inl (fun j => sb_b (((τ5) 2).1 j)))), ((y 3), .inr (1, [.ref (b2 3), .int (nI ((τ5) 3).2.1), .int (nI ((τ5) 3).2.2)])), ((b2 3), .inl (cB, M, .inl (fun j => sb_b (((τ5) 3).1 j)))), (oa, .inl (cL, 1, .inr (.inl f5))), (hm, .inr (2, [.int (nI c8), .int (nI M), .ref cl, .ref sa, .ref pa, .int k8])), (cl, .inl (cL, 32768, .inr (.inl (pkF (τ8))))), (sa, .inl (cI, 4, .inl (fun i9 => nI ((τ8) i9).2.1))), (pa, .inl (cI, 4, .inl (fun i9 => nI ((τ8) i9).2.2)))] H := hP
  have hD : va_D (fun q : Nat => s.heap.size ≤ q) [(hd, .inr (0, [.ref ra])), (ra, .inl (cR, 4, .inr (.inr (.inr (.inr g))))), ((y 0), .inr (1, [.ref (b2 0), .int (nI ((τ5) 0).2.1), .int (nI ((τ5) 0).2.2)])), ((b2 0), .inl (cB, M, .inl (fun j => sb_b (((τ5) 0).1 j)))), ((y 1), .inr (1, [.ref (b2 1), .int (nI ((τ5) 1).2.1), .int (nI ((τ5) 1).2.2)])), ((b2 1), .inl (cB, M, .inl (fun j => sb_b (((τ5) 1).1 j)))), ((y 2), .inr (1, [.ref (b2 2), .int (nI ((τ5) 2).2.1), .int (nI ((τ5) 2).2.2)])), ((b2 2), .inl (cB, M, .inl (fun j => sb_b (((τ5) 2).1 j)))), ((y 3), .inr (1, [.ref (b2 3), .int (nI ((τ5) 3).2.1), .int (nI ((τ5) 3).2.2)])), ((b2 3), .inl (cB, M, .inl (fun j => sb_b (((τ5) 3).1 j)))), (oa, .inl (cL, 1, .inr (.inl f5))), (hm, .inr (2, [.int (nI c8), .int (nI M), .ref cl, .ref sa, .ref pa, .int k8])), (cl, .inl (cL, 32768, .inr (.inl (pkF (τ8))))), (sa, .inl (cI, 4, .inl (fun i9 => nI ((τ8) i9).2.1))), (pa, .inl (cI, 4, .inl (fun i9 => nI ((τ8) i9).2.2)))] := hD
  have hc8 : c8 ≤ 4 := by have h9 := le_spSevens M σ (xs (i + 1)) (uNl (zz (lN (uNl (lgl (xs (i + 2)) (xs (i + 3))))))); rw [hw8] at h9; exact h9
  have hσ8 : dkok M τ8 := by have h9 := ok_spSevens (M := M) (σ := σ) (xs (i + 1)) (uNl (zz (lN (uNl (lgl (xs (i + 2)) (xs (i + 3))))))) hσ; rw [hw8] at h9; exact h9
  rw [hw8] at h51 h52 h53
  have h51 : r5 = nI c8 := h51
  have h52 : τ5 = τ8 := h52
  have h53 : c8 = 0 → f5 0 = r8.toInt64 := h53
  subst h51
  subst h52
  refine lv_istore (lv' := [(6, .int r8), (5, .int (nI c8)), (0, .ref b), (1, .ref hd), (2, .ref hm), (3, .ref oa), (4, .int (nI i))]) hx hb d_L_law_427 hl (by decide) rfl (fun ls hl => ?_)
  refine lv_aload_n hx hb d_L_law_429 rfl (lv_at hl 4 rfl) ?_
  have hPc := hP.sub (ws' := [(hm, .inr (2, [.int (nI c8), .int (nI M), .ref cl, .ref sa, .ref pa, .int k8])), (cl, .inl (cL, 32768, .inr (.inl (pkF (τ5))))), (sa, .inl (cI, 4, .inl (fun i9 => nI ((τ5) i9).2.1))), (pa, .inl (cI, 4, .inl (fun i9 => nI ((τ5) i9).2.2)))]) [11, 12, 13, 14] rfl
  have hKc := hK.sub (tys' := [(cL, .long), (cI, .int)]) [2, 3] rfl
  refine vp_callSi (W.runV (As := []) (rest := []) ⟨hx, hb, hml, hown, hA⟩ (c_M_thrown l D cL cI hm cl sa pa M (nI c8) k8 τ5) (q_M_thrown hA k2_233 rfl rfl ⟨(Nat.le_of_ble_eq_true rfl), (Nat.le_of_ble_eq_true rfl)⟩) (ox_V (va_recv hKc hPc (ci := 2) (q0 := 0) rfl rfl) (ox_S hPc hKc)) rfl rfl hl.1 rfl (lv_room (Nat.le_of_ble_eq_true rfl)) d_L_law_430 ⟨(by show cells + 1 + 0 + 0 ≤ 601024; omega), (by show slots + 6 + 0 + 0 ≤ 7293000; omega)⟩) (fun r7 hr7 => ?_)
  subst hr7
  refine lv_iload hx hb d_L_law_433 (lv_at hl 1 rfl) ?_
  refine lv_icmp_eq (tgt := 440) hx hb d_L_law_435 (by decide) (fun _ => ?_) (fun q9 => absurd rfl q9)
  refine lv_iload hx hb d_L_law_440 (lv_at hl 1 rfl) ?_
  refine lv_if_ne (tgt := 457) hx hb d_L_law_442 (by decide) (fun c442 => ?_) (fun c442 => ?_)
  · refine lv_goto (tgt := 1700) hx hb d_L_law_457 (by decide) ?_
    exact K τ5 f5 (nI c8) k8 H locs hσ8 hP hD hS ls (lv_sub hl [2, 3, 4, 5, 6] rfl)
  · refine lv_aload_n hx hb d_L_law_445 rfl (lv_at hl 5 rfl) ?_
    refine lv_iconst (v := 0) hx hb d_L_law_446 (by decide) ?_
    have hc0 : c8 = 0 := (nI_eq (b := 0) (by omega) (by omega)).mp c442
    have h53 := h53 hc0
    refine va_lald hx hb hK hP 10 2 rfl rfl (by unfold vp_in; decide) d_L_law_447 ?_
    refine lv_topl (fun v447 ev447 => ?_)
    have ev447 : v447 = r8.toInt64 := by rw [ev447, sb_cl0]; exact h53
    subst ev447
    refine lv_iload hx hb d_L_law_448 (lv_at hl 0 rfl) ?_
    refine lv_i2l hx hb d_L_law_450 rfl ?_
    refine lv_topl (fun v450 ev450 => ?_)
    refine W.lcmp hx hb d_L_law_451 ?_
    refine lv_topi (fun v451 ev451 => ?_)
    refine lv_if_eq (tgt := 457) hx hb d_L_law_452 (by decide) (fun _ => ?_) (fun q9 => absurd (by rw [ev451, ev450]; exact (lg_cmp_eq _ _).mpr rfl) q9)
    refine lv_goto (tgt := 1700) hx hb d_L_law_457 (by decide) ?_
    exact K τ5 f5 (nI c8) k8 H locs hσ8 hP hD hS ls (lv_sub hl [2, 3, 4, 5, 6] rfl)
set_option maxHeartbeats 2000000 in
set_option maxRecDepth 100000 in
/-- the law at letter -/
theorem k_letter {p : Program} {l : Launch} {e : Env} {s : State} {m : MethodId} {below : List Frame} {meth : Method} {c : Code} (hL0 : l.stackTraces = false) {b L : Nat} {xs : Nat → Int32} (hL : L ≤ 2561) (hx : p.tables.exec = Jvm.exec) (hb : c.code = code) (hml : c.maxLocals = 8) (hown : s.vm.findClass R_L = some m.cls) (hA : ∀ w ∈ wsA, w.before #[Value.ref b] s = true) (hX : va_X b L xs s s.heap) (hbl : b < s.heap.size) (hG : tx_G s) (hN : tx_N s) {D : va_G} {cR cB cL cI : ClassId} {hd ra oa hm cl sa pa : Nat} {g : Nat → Option Nat} {M : Nat} {y b2 : Nat → Nat} (hg : ∀ i, i < 4 → g i = some (y i)) (hK : va_K D vCl [(cB, .byte), (cR, .object "PacketDesk$Row"), (cL, .long), (cI, .int)] s) (σ : dkS) (f0 : Nat → Int64) (th tk : Int32) (hσ : dkok M σ) (i : Nat) (hi : i + 5 ≤ L) (cells slots : Nat) (hce : cells + 10 ≤ 601024) (hsl : slots + 100 ≤ 7293000) (H : Heap) (locs : List Loc) (hP : va_P D vCl [(hd, .inr (0, [.ref ra])), (ra, .inl (cR, 4, .inr (.inr (.inr (.inr g))))), ((y 0), .inr (1, [.ref (b2 0), .int (nI ((σ) 0).2.1), .int (nI ((σ) 0).2.2)])), ((b2 0), .inl (cB, M, .inl (fun j => sb_b (((σ) 0).1 j)))), ((y 1), .inr (1, [.ref (b2 1), .int (nI ((σ) 1).2.1), .int (nI ((σ) 1).2.2)])), ((b2 1), .inl (cB, M, .inl (fun j => sb_b (((σ) 1).1 j)))), ((y 2), .inr (1, [.ref (b2 2), .int (nI ((σ) 2).2.1), .int (nI ((σ) 2).2.2)])), ((b2 2), .inl (cB, M, .inl (fun j => sb_b (((σ) 2).1 j)))), ((y 3), .inr (1, [.ref (b2 3), .int (nI ((σ) 3).2.1), .int (nI ((σ) 3).2.2)])), ((b2 3), .inl (cB, M, .inl (fun j => sb_b (((σ) 3).1 j)))), (oa, .inl (cL, 1, .inr (.inl f0))), (hm, .inr (2, [.int th, .int (nI M), .ref cl, .ref sa, .ref pa, .int tk])), (cl, .inl (cL, 32768, .inr (.inl (pkF (σ))))), (sa, .inl (cI, 4, .inl (fun i9 => nI ((σ) i9).2.1))), (pa, .inl (cI, 4, .inl (fun i9 => nI ((σ) i9).2.2)))] H) (hD : va_D (fun q : Nat => s.heap.size ≤ q) [(hd, .inr (0, [.ref ra])), (ra, .inl (cR, 4, .inr (.inr (.inr (.inr g))))), ((y 0), .inr (1, [.ref (b2 0), .int (nI ((σ) 0).2.1), .int (nI ((σ) 0).2.2)])), ((b2 0), .inl (cB, M, .inl (fun j => sb_b (((σ) 0).1 j)))), ((y 1), .inr (1, [.ref (b2 1), .int (nI ((σ) 1).2.1), .int (nI ((σ) 1).2.2)])), ((b2 1), .inl (cB, M, .inl (fun j => sb_b (((σ) 1).1 j)))), ((y 2), .inr (1, [.ref (b2 2), .int (nI ((σ) 2).2.1), .int (nI ((σ) 2).2.2)])), ((b2 2), .inl (cB, M, .inl (fun j => sb_b (((σ) 2).1 j)))), ((y 3), .inr (1, [.ref (b2 3), .int (nI ((σ) 3).2.1), .int (nI ((σ) 3).2.2)])), ((b2 3), .inl (cB, M, .inl (fun j => sb_b (((σ) 3).1 j)))), (oa, .inl (cL, 1, .inr (.inl f0))), (hm, .inr (2, [.int th, .int (nI M), .ref cl, .ref sa, .ref pa, .int tk])), (cl, .inl (cL, 32768, .inr (.inl (pkF (σ))))), (sa, .inl (cI, 4, .inl (fun i9 => nI ((σ) i9).2.1))), (pa, .inl (cI, 4, .inl (fun i9 => nI ((σ) i9).2.2)))]) (hS : va_S (fun q : Nat => s.heap.size ≤ q) s.heap H locs) (ls : Array Slot) (hl : lv_has ls 8 [(0, .ref b), (1, .ref hd), (2, .ref hm), (3, .ref oa), (4, .int (nI i))]) (K : ∀ (σ' : dkS) (f' : Nat → Int64) (th' tk' : Int32) (H' : Heap) (locs' : List Loc), dkok M σ' → va_P D vCl [(hd, .inr (0, [.ref ra])), (ra, .inl (cR, 4, .inr (.inr (.inr (.inr g))))), ((y 0), .inr (1, [.ref (b2 0), .int (nI ((σ') 0).2.1), .int (nI ((σ') 0).2.2)])), ((b2 0), .inl (cB, M, .inl (fun j => sb_b (((σ') 0).1 j)))), ((y 1), .inr (1, [.ref (b2 1), .int (nI ((σ') 1).2.1), .int (nI ((σ') 1).2.2)])), ((b2 1), .inl (cB, M, .inl (fun j => sb_b (((σ') 1).1 j)))), ((y 2), .inr (1, [.ref (b2 2), .int (nI ((σ') 2).2.1), .int (nI ((σ') 2).2.2)])), ((b2 2), .inl (cB, M, .inl (fun j => sb_b (((σ') 2).1 j)))), ((y 3), .inr (1, [.ref (b2 3), .int (nI ((σ') 3).2.1), .int (nI ((σ') 3).2.2)])), ((b2 3), .inl (cB, M, .inl (fun j => sb_b (((σ') 3).1 j)))), (oa, .inl (cL, 1, .inr (.inl f'))), (hm, .inr (2, [.int th', .int (nI M), .ref cl, .ref sa, .ref pa, .int tk'])), (cl, .inl (cL, 32768, .inr (.inl (pkF (σ'))))), (sa, .inl (cI, 4, .inl (fun i9 => nI ((σ') i9).2.1))), (pa, .inl (cI, 4, .inl (fun i9 => nI ((σ') i9).2.2)))] H' → va_D (fun q : Nat => s.heap.size ≤ q) [(hd, .inr (0, [.ref ra])), (ra, .inl (cR, 4, .inr (.inr (.inr (.inr g))))), ((y 0), .inr (1, [.ref (b2 0), .int (nI ((σ') 0).2.1), .int (nI ((σ') 0).2.2)])), ((b2 0), .inl (cB, M, .inl (fun j => sb_b (((σ') 0).1 j)))), ((y 1), .inr (1, [.ref (b2 1), .int (nI ((σ') 1).2.1), .int (nI ((σ') 1).2.2)])), ((b2 1), .inl (cB, M, .inl (fun j => sb_b (((σ') 1).1 j)))), ((y 2), .inr (1, [.ref (b2 2), .int (nI ((σ') 2).2.1), .int (nI ((σ') 2).2.2)])), ((b2 2), .inl (cB, M, .inl (fun j => sb_b (((σ') 2).1 j)))), ((y 3), .inr (1, [.ref (b2 3), .int (nI ((σ') 3).2.1), .int (nI ((σ') 3).2.2)])), ((b2 3), .inl (cB, M, .inl (fun j => sb_b (((σ') 3).1 j)))), (oa, .inl (cL, 1, .inr (.inl f'))), (hm, .inr (2, [.int th', .int (nI M), .ref cl, .ref sa, .ref pa, .int tk'])), (cl, .inl (cL, 32768, .inr (.inl (pkF (σ'))))), (sa, .inl (cI, 4, .inl (fun i9 => nI ((σ') i9).2.1))), (pa, .inl (cI, 4, .inl (fun i9 => nI ((σ') i9).2.2)))] → va_S (fun q : Nat => s.heap.size ≤ q) s.heap H' locs' → ∀ ls' : Array Slot, lv_has ls' 8 [(0, .ref b), (1, .ref hd), (2, .ref hm), (3, .ref oa), (4, .int (nI i))] → W p l e room_1 s m #[Value.ref b] below meth c H' locs' (cells + 1) (slots + 6) (lw_Z below #[Value.ref b] s) (F0 m 1700 ls' [])) : W p l e room_1 s m #[Value.ref b] below meth c H locs cells slots (lw_Z below #[Value.ref b] s) (F0 m 460 ls []) := by
  have hAq : ∀ q : Nat, s.heap.size ≤ q → (fun q : Nat => s.heap.size ≤ q) q := fun _ h => h
  have hbA : ¬ (fun q : Nat => s.heap.size ≤ q) b := Nat.not_le.mpr hbl
  refine lv_aload_n hx hb d_L_law_460 rfl (lv_at hl 1 rfl) ?_
  refine lv_aload_n hx hb d_L_law_461 rfl (lv_at hl 0 rfl) ?_
  refine lv_iload hx hb d_L_law_462 (lv_at hl 4 rfl) ?_
  refine lv_iconst (v := 1) hx hb d_L_law_464 (by decide) ?_
  refine lv_iadd hx hb d_L_law_465 ?_
  refine lv_topi (fun v465 ev465 => ?_)
  have ev465 : v465 = nI (i + 1) := by rw [ev465]; exact nI_add i 1
  subst ev465
  refine va_sld hx hb hX hbl hbA hS (vp_in_nI (n := i + 1) (N := L) (by omega) (by omega)) d_L_law_466 ?_
  refine lv_topi (fun v466 ev466 => ?_)
  have ev466 : v466 = xs (i + 1) := by rw [ev466, nI_clamp (by omega)]
  subst ev466
  refine lv_aload_n hx hb d_L_law_467 rfl (lv_at hl 0 rfl) ?_
  refine lv_iload hx hb d_L_law_468 (lv_at hl 4 rfl) ?_
  refine lv_iconst (v := 2) hx hb d_L_law_470 (by decide) ?_
  refine lv_iadd hx hb d_L_law_471 ?_
  refine lv_topi (fun v471 ev471 => ?_)
  have ev471 : v471 = nI (i + 2) := by rw [ev471]; exact nI_add i 2
  subst ev471
  refine va_sld hx hb hX hbl hbA hS (vp_in_nI (n := i + 2) (N := L) (by omega) (by omega)) d_L_law_472 ?_
  refine lv_topi (fun v472 ev472 => ?_)
  have ev472 : v472 = xs (i + 2) := by rw [ev472, nI_clamp (by omega)]
  subst ev472
  refine lv_aload_n hx hb d_L_law_473 rfl (lv_at hl 3 rfl) ?_
  have hPc := hP.sub (ws' := [(hd, .inr (0, [.ref ra])), (ra, .inl (cR, 4, .inr (.inr (.inr (.inr g))))), ((y 0), .inr (1, [.ref (b2 0), .int (nI ((σ) 0).2.1), .int (nI ((σ) 0).2.2)])), ((b2 0), .inl (cB, M, .inl (fun j => sb_b (((σ) 0).1 j)))), ((y 1), .inr (1, [.ref (b2 1), .int (nI ((σ) 1).2.1), .int (nI ((σ) 1).2.2)])), ((b2 1), .inl (cB, M, .inl (fun j => sb_b (((σ) 1).1 j)))), ((y 2), .inr (1, [.ref (b2 2), .int (nI ((σ) 2).2.1), .int (nI ((σ) 2).2.2)])), ((b2 2), .inl (cB, M, .inl (fun j => sb_b (((σ) 2).1 j)))), ((y 3), .inr (1, [.ref (b2 3), .int (nI ((σ) 3).2.1), .int (nI ((σ) 3).2.2)])), ((b2 3), .inl (cB, M, .inl (fun j => sb_b (((σ) 3).1 j)))), (oa, .inl (cL, 1, .inr (.inl f0)))]) [0, 1, 2, 3, 4, 5, 6, 7, 8, 9, 10] rfl
  have hDc := hD.sub (ws' := [(hd, .inr (0, [.ref ra])), (ra, .inl (cR, 4, .inr (.inr (.inr (.inr g))))), ((y 0), .inr (1, [.ref (b2 0), .int (nI ((σ) 0).2.1), .int (nI ((σ) 0).2.2)])), ((b2 0), .inl (cB, M, .inl (fun j => sb_b (((σ) 0).1 j)))), ((y 1), .inr (1, [.ref (b2 1), .int (nI ((σ) 1).2.1), .int (nI ((σ) 1).2.2)])), ((b2 1), .inl (cB, M, .inl (fun j => sb_b (((σ) 1).1 j)))), ((y 2), .inr (1, [.ref (b2 2), .int (nI ((σ) 2).2.1), .int (nI ((σ) 2).2.2)])), ((b2 2), .inl (cB, M, .inl (fun j => sb_b (((σ) 2).1 j)))), ((y 3), .inr (1, [.ref (b2 3), .int (nI ((σ) 3).2.1), .int (nI ((σ) 3).2.2)])), ((b2 3), .inl (cB, M, .inl (fun j => sb_b (((σ) 3).1 j)))), (oa, .inl (cL, 1, .inr (.inl f0)))]) [0, 1, 2, 3, 4, 5, 6, 7, 8, 9, 10] (by decide) rfl
  have hKc := hK.sub (tys' := [(cB, .byte), (cR, .object "PacketDesk$Row"), (cL, .long)]) [0, 1, 2] rfl
  have hFc := va_free (wc := [(hd, .inr (0, [.ref ra])), (ra, .inl (cR, 4, .inr (.inr (.inr (.inr g))))), ((y 0), .inr (1, [.ref (b2 0), .int (nI ((σ) 0).2.1), .int (nI ((σ) 0).2.2)])), ((b2 0), .inl (cB, M, .inl (fun j => sb_b (((σ) 0).1 j)))), ((y 1), .inr (1, [.ref (b2 1), .int (nI ((σ) 1).2.1), .int (nI ((σ) 1).2.2)])), ((b2 1), .inl (cB, M, .inl (fun j => sb_b (((σ) 1).1 j)))), ((y 2), .inr (1, [.ref (b2 2), .int (nI ((σ) 2).2.1), .int (nI ((σ) 2).2.2)])), ((b2 2), .inl (cB, M, .inl (fun j => sb_b (((σ) 2).1 j)))), ((y 3), .inr (1, [.ref (b2 3), .int (nI ((σ) 3).2.1), .int (nI ((σ) 3).2.2)])), ((b2 3), .inl (cB, M, .inl (fun j => sb_b (((σ) 3).1 j)))), (oa, .inl (cL, 1, .inr (.inl f0)))]) hD hS hAq [0, 1, 2, 3, 4, 5, 6, 7, 8, 9, 10] rfl
  have hh9 : ∀ q : Nat, q < s.heap.size → H[q]? = s.heap[q]? := fun q h => hS.2.1 q h (Nat.not_le.mpr h)
  refine lx_wi (lx_runS (As := [.ref hd, .int (xs (i + 1)), .int (xs (i + 2)), .ref oa]) (rest := []) ⟨hx, hb, hml, hown, hA⟩ (c_L_letter l hL0 D cR cB cL hd ra oa g M y b2 σ f0 H.size (xs (i + 1)) (xs (i + 2)) hg hσ) (q_L_letter hA k1_207 rfl rfl ⟨(Nat.le_of_ble_eq_true rfl), (Nat.le_of_ble_eq_true rfl)⟩) (oxn_S hPc hKc hDc hG hh9 hN) rfl rfl hl.1 rfl (lv_room (Nat.le_of_ble_eq_true rfl)) d_L_law_474 ⟨(by show cells + 2 ≤ 601024; omega), (by show slots + 12 ≤ 7293000; omega)⟩) hS (fun q _ h => hFc q h) hFc (fun r5 u5 t9 H1 locs ht9 hvm9 hw5 hB9 hz1 hk1 hS => ?_)
  obtain ⟨τ5, f5⟩ := u5
  obtain ⟨hP1, hK1, hD1⟩ := hB9
  rw [ht9] at hP1
  obtain ⟨hP, hD⟩ := va_join (wr := [(hm, .inr (2, [.int th, .int (nI M), .ref cl, .ref sa, .ref pa, .int tk])), (cl, .inl (cL, 32768, .inr (.inl (pkF (σ))))), (sa, .inl (cI, 4, .inl (fun i9 => nI ((σ) i9).2.1))), (pa, .inl (cI, 4, .inl (fun i9 => nI ((σ) i9).2.2)))]) (w1 := [(hd, .inr (0, [.ref ra])), (ra, .inl (cR, 4, .inr (.inr (.inr (.inr g))))), ((y 0), .inr (1, [.ref (b2 0), .int (nI ((τ5) 0).2.1), .int (nI ((τ5) 0).2.2)])), ((b2 0), .inl (cB, M, .inl (fun j => sb_b (((τ5) 0).1 j)))), ((y 1), .inr (1, [.ref (b2 1), .int (nI ((τ5) 1).2.1), .int (nI ((τ5) 1).2.2)])), ((b2 1), .inl (cB, M, .inl (fun j => sb_b (((τ5) 1).1 j)))), ((y 2), .inr (1, [.ref (b2 2), .int (nI ((τ5) 2).2.1), .int (nI ((τ5) 2).2.2)])), ((b2 2), .inl (cB, M, .inl (fun j => sb_b (((τ5) 2).1 j)))), ((y 3), .inr (1, [.ref (b2 3), .int (nI ((τ5) 3).2.1), .int (nI ((τ5) 3).2.2)])), ((b2 3), .inl (cB, M, .inl (fun j => sb_b (((τ5) 3).1 j)))), (oa, .inl (cL, 1, .inr (.inl f5)))]) hP hD [0, 1, 2, 3, 4, 5, 6, 7, 8, 9, 10] [11, 12, 13, 14] rfl rfl (by decide) (by decide) hk1 hFc hP1 hD1
  generalize H1 = H at hP hS ⊢
  have hP : va_P D vCl [(hd, .inr (0, [.ref ra])), (ra, .inl (cR, 4, .inr (.inr (.inr (.inr g))))), ((y 0), .inr (1, [.ref (b2 0), .int (nI ((τ5) 0).2.1), .int (nI ((τ5) 0).2.2)])), ((b2 0), .inl (cB, M, .inl (fun j => sb_b (((τ5) 0).1 j)))), ((y 1), .inr (1, [.ref (b2 1), .int (nI ((τ5) 1).2.1), .int (nI ((τ5) 1).2.2)])), ((b2 1), .inl (cB, M, .inl (fun j => sb_b (((τ5) 1).1 j)))), ((y 2), .inr (1, [.ref (b2 2), .int (nI ((τ5) 2).2.1), .int (nI ((τ5) 2).2.2)])), ((b2 2), .inl (cB, M, .inl (fun j => sb_b (((τ5) 2).1 j)))), ((y 3), .inr (1, [.ref (b2 3), .int (nI ((τ5) 3).2.1), .int (nI ((τ5) 3).2.2)])), ((b2 3), .inl (cB, M, .inl (fun j => sb_b (((τ5) 3).1 j)))), (oa, .inl (cL, 1, .inr (.inl f5))), (hm, .inr (2, [.int th, .int (nI M), .ref cl, .ref sa, .ref pa, .int tk])), (cl, .inl (cL, 32768, .inr (.inl (pkF (σ))))), (sa, .inl (cI, 4, .inl (fun i9 => nI ((σ) i9).2.1))), (pa, .inl (cI, 4, .inl (fun i9 => nI ((σ) i9).2.2)))] H := hP.sub [4, 5, 6, 7, 8, 9, 10, 11, 12, 13, 14, 0, 1, 2, 3] rfl
  have hD : va_D (fun q : Nat => s.heap.size ≤ q) [(hd, .inr (0, [.ref ra])), (ra, .inl (cR, 4, .inr (.inr (.inr (.inr g))))), ((y 0), .inr (1, [.ref (b2 0), .int (nI ((τ5) 0).2.1), .int (nI ((τ5) 0).2.2)])), ((b2 0), .inl (cB, M, .inl (fun j => sb_b (((τ5) 0).1 j)))), ((y 1), .inr (1, [.ref (b2 1), .int (nI ((τ5) 1).2.1), .int (nI ((τ5) 1).2.2)])), ((b2 1), .inl (cB, M, .inl (fun j => sb_b (((τ5) 1).1 j)))), ((y 2), .inr (1, [.ref (b2 2), .int (nI ((τ5) 2).2.1), .int (nI ((τ5) 2).2.2)])), ((b2 2), .inl (cB, M, .inl (fun j => sb_b (((τ5) 2).1 j)))), ((y 3), .inr (1, [.ref (b2 3), .int (nI ((τ5) 3).2.1), .int (nI ((τ5) 3).2.2)])), ((b2 3), .inl (cB, M, .inl (fun j => sb_b (((τ5) 3).1 j)))), (oa, .inl (cL, 1, .inr (.inl f5))), (hm, .inr (2, [.int th, .int (nI M), .ref cl, .ref sa, .ref pa, .int tk])), (cl, .inl (cL, 32768, .inr (.inl (pkF (σ))))), (sa, .inl (cI, 4, .inl (fun i9 => nI ((σ) i9).2.1))), (pa, .inl (cI, 4, .inl (fun i9 => nI ((σ) i9).2.2)))] := hD.sub [4, 5, 6, 7, 8, 9, 10, 11, 12, 13, 14, 0, 1, 2, 3] (by decide) rfl
  obtain ⟨h51, h52, h53⟩ := hw5
  refine lv_istore (lv' := [(5, .int r5), (0, .ref b), (1, .ref hd), (2, .ref hm), (3, .ref oa), (4, .int (nI i))]) hx hb d_L_law_477 hl (by decide) rfl (fun ls hl => ?_)
  refine lv_aload_n hx hb d_L_law_479 rfl (lv_at hl 3 rfl) ?_
  refine lv_aload_n hx hb d_L_law_480 rfl (lv_at hl 1 rfl) ?_
  refine lv_iload hx hb d_L_law_481 (lv_at hl 5 rfl) ?_
  refine lv_iconst (v := 1) hx hb d_L_law_483 (by decide) ?_
  refine lv_iadd hx hb d_L_law_484 ?_
  refine lv_topi (fun v484 ev484 => ?_)
  have ev484 : v484 = nI (i + 1) := by rw [ev484]; exact nI_add i 1
  subst ev484
  refine va_sld hx hb hX hbl hbA hS (vp_in_nI (n := i + 1) (N := L) (by omega) (by omega)) d_L_law_485 ?_
  refine lv_topi (fun v485 ev485 => ?_)
  have ev485 : v485 = xs (i + 1) := by rw [ev485, nI_clamp (by omega)]
  subst ev485
  refine lv_aload_n hx hb d_L_law_486 rfl (lv_at hl 1 rfl) ?_
  refine lv_iload hx hb d_L_law_487 (lv_at hl 5 rfl) ?_
  refine lv_iconst (v := 2) hx hb d_L_law_489 (by decide) ?_
  refine lv_iadd hx hb d_L_law_490 ?_
  refine lv_topi (fun v490 ev490 => ?_)
  have ev490 : v490 = nI (i + 2) := by rw [ev490]; exact nI_add i 2
  subst ev490
  refine va_sld hx hb hX hbl hbA hS (vp_in_nI (n := i + 2) (N := L) (by omega) (by omega)) d_L_law_491 ?_
  refine lv_topi (fun v491 ev491 => ?_)
  have ev491 : v491 = xs (i + 2) := by rw [ev491, nI_clamp (by omega)]
  subst ev491
  have hPc := hP.sub (ws' := [(hm, .inr (2, [.int th, .int (nI M), .ref cl, .ref sa, .ref pa, .int tk])), (cl, .inl (cL, 32768, .inr (.inl (pkF (σ))))), (sa, .inl (cI, 4, .inl (fun i9 => nI ((σ) i9).2.1))), (pa, .inl (cI, 4, .inl (fun i9 => nI ((σ) i9).2.2)))]) [11, 12, 13, 14] rfl
  have hDc := hD.sub (ws' := [(hm, .inr (2, [.int th, .int (nI M), .ref cl, .ref sa, .ref pa, .int tk])), (cl, .inl (cL, 32768, .inr (.inl (pkF (σ))))), (sa, .inl (cI, 4, .inl (fun i9 => nI ((σ) i9).2.1))), (pa, .inl (cI, 4, .inl (fun i9 => nI ((σ) i9).2.2)))]) [11, 12, 13, 14] (by decide) rfl
  have hKc := hK.sub (tys' := [(cL, .long), (cI, .int)]) [2, 3] rfl
  have hFc := va_free (wc := [(hm, .inr (2, [.int th, .int (nI M), .ref cl, .ref sa, .ref pa, .int tk])), (cl, .inl (cL, 32768, .inr (.inl (pkF (σ))))), (sa, .inl (cI, 4, .inl (fun i9 => nI ((σ) i9).2.1))), (pa, .inl (cI, 4, .inl (fun i9 => nI ((σ) i9).2.2)))]) hD hS hAq [11, 12, 13, 14] rfl
  refine va_calli (va_runV (As := [.int (xs (i + 1)), .int (xs (i + 2))]) (rest := []) ⟨hx, hb, hml, hown, hA⟩ (c_M_letter l D cL cI hm cl sa pa M th tk σ H.size (xs (i + 1)) (xs (i + 2)) hσ) (q_M_letter hA k3_45 rfl rfl ⟨(Nat.le_of_ble_eq_true rfl), (Nat.le_of_ble_eq_true rfl)⟩) (ox_V (va_recv hKc hPc (ci := 2) (q0 := 0) rfl rfl) (oxw_S hPc hKc hDc)) rfl rfl hl.1 rfl (lv_room (Nat.le_of_ble_eq_true rfl)) d_L_law_492 ⟨(by show cells + 1 + 0 ≤ 601024; omega), (by show slots + 6 + 0 ≤ 7293000; omega)⟩) hS (fun q _ h => hFc q h) hFc (fun r8 u8 t9 H1 locs ht9 hvm9 hw8 hB9 hz1 hk1 hS => ?_)
  obtain ⟨c8, τ8, k8⟩ := u8
  replace hw8 : spLetter M σ (xs (i + 1)) (xs (i + 2)) = (c8, r8, τ8) := hw8
  obtain ⟨hP1, hK1, hD1⟩ := hB9
  rw [ht9] at hP1
  obtain ⟨hP, hD⟩ := va_join (wr := [(hd, .inr (0, [.ref ra])), (ra, .inl (cR, 4, .inr (.inr (.inr (.inr g))))), ((y 0), .inr (1, [.ref (b2 0), .int (nI ((τ5) 0).2.1), .int (nI ((τ5) 0).2.2)])), ((b2 0), .inl (cB, M, .inl (fun j => sb_b (((τ5) 0).1 j)))), ((y 1), .inr (1, [.ref (b2 1), .int (nI ((τ5) 1).2.1), .int (nI ((τ5) 1).2.2)])), ((b2 1), .inl (cB, M, .inl (fun j => sb_b (((τ5) 1).1 j)))), ((y 2), .inr (1, [.ref (b2 2), .int (nI ((τ5) 2).2.1), .int (nI ((τ5) 2).2.2)])), ((b2 2), .inl (cB, M, .inl (fun j => sb_b (((τ5) 2).1 j)))), ((y 3), .inr (1, [.ref (b2 3), .int (nI ((τ5) 3).2.1), .int (nI ((τ5) 3).2.2)])), ((b2 3), .inl (cB, M, .inl (fun j => sb_b (((τ5) 3).1 j)))), (oa, .inl (cL, 1, .inr (.inl f5)))]) (w1 := [(hm, .inr (2, [.int (nI c8), .int (nI M), .ref cl, .ref sa, .ref pa, .int k8])), (cl, .inl (cL, 32768, .inr (.inl (pkF (τ8))))), (sa, .inl (cI, 4, .inl (fun i9 => nI ((τ8) i9).2.1))), (pa, .inl (cI, 4, .inl (fun i9 => nI ((τ8) i9).2.2)))]) hP hD [11, 12, 13, 14] [0, 1, 2, 3, 4, 5, 6, 7, 8, 9, 10] rfl rfl (by decide) (by decide) hk1 hFc hP1 hD1
  generalize H1 = H at hP hS ⊢
  have hP : va_P D vCl [(hd, .inr (0, [.ref ra])), (ra, .inl (cR, 4, .inr (.inr (.inr (.inr g))))), ((y 0), .inr (1, [.ref (b2 0), .int (nI ((τ5) 0).2.1), .int (nI ((τ5) 0).2.2)])), ((b2 0), .inl (cB, M, .inl (fun j => sb_b (((τ5) 0).1 j)))), ((y 1), .inr (1, [.ref (b2 1), .int (nI ((τ5) 1).2.1), .int (nI ((τ5) 1).2.2)])), ((b2 1), .inl (cB, M, .inl (fun j => sb_b (((τ5) 1).1 j)))), ((y 2), .inr (1, [.ref (b2 2), .int (nI ((τ5) 2).2.1), .int (nI ((τ5) 2).2.2)])), ((b2 2), .inl (cB, M, .inl (fun j => sb_b (((τ5) 2).1 j)))), ((y 3), .inr (1, [.ref (b2 3), .int (nI ((τ5) 3).2.1), .int (nI ((τ5) 3).2.2)])), ((b2 3), .inl (cB, M, .inl (fun j => sb_b (((τ5) 3).1 j)))), (oa, .inl (cL, 1, .inr (.inl f5))), (hm, .inr (2, [.int (nI c8), .int (nI M), .ref cl, .ref sa, .ref pa, .int k8])), (cl, .inl (cL, 32768, .inr (.inl (pkF (τ8))))), (sa, .inl (cI, 4, .inl (fun i9 => nI ((τ8) i9).2.1))), (pa, .inl (cI, 4, .inl (fun i9 => nI ((τ8) i9).2.2)))] H := hP
  have hD : va_D (fun q : Nat => s.heap.size ≤ q) [(hd, .inr (0, [.ref ra])), (ra, .inl (cR, 4, .inr (.inr (.inr (.inr g))))), ((y 0), .inr (1, [.ref (b2 0), .int (nI ((τ5) 0).2.1), .int (nI ((τ5) 0).2.2)])), ((b2 0), .inl (cB, M, .inl (fun j => sb_b (((τ5) 0).1 j)))), ((y 1), .inr (1, [.ref (b2 1), .int (nI ((τ5) 1).2.1), .int (nI ((τ5) 1).2.2)])), ((b2 1), .inl (cB, M, .inl (fun j => sb_b (((τ5) 1).1 j)))), ((y 2), .inr (1, [.ref (b2 2), .int (nI ((τ5) 2).2.1), .int (nI ((τ5) 2).2.2)])), ((b2 2), .inl (cB, M, .inl (fun j => sb_b (((τ5) 2).1 j)))), ((y 3), .inr (1, [.ref (b2 3), .int (nI ((τ5) 3).2.1), .int (nI ((τ5) 3).2.2)])), ((b2 3), .inl (cB, M, .inl (fun j => sb_b (((τ5) 3).1 j)))), (oa, .inl (cL, 1, .inr (.inl f5))), (hm, .inr (2, [.int (nI c8), .int (nI M), .ref cl, .ref sa, .ref pa, .int k8])), (cl, .inl (cL, 32768, .inr (.inl (pkF (τ8))))), (sa, .inl (cI, 4, .inl (fun i9 => nI ((τ8) i9).2.1))), (pa, .inl (cI, 4, .inl (fun i9 => nI ((τ8) i9).2.2)))] := hD
  have hc8 : c8 ≤ 4 := by have h9 := le_spLetter M σ (xs (i + 1)) (xs (i + 2)); rw [hw8] at h9; exact h9
  have hσ8 : dkok M τ8 := by have h9 := ok_spLetter (M := M) (σ := σ) (xs (i + 1)) (xs (i + 2)) hσ; rw [hw8] at h9; exact h9
  rw [hw8] at h51 h52 h53
  have h51 : r5 = nI c8 := h51
  have h52 : τ5 = τ8 := h52
  have h53 : c8 = 0 → f5 0 = r8.toInt64 := h53
  subst h51
  subst h52
  refine lv_istore (lv' := [(6, .int r8), (5, .int (nI c8)), (0, .ref b), (1, .ref hd), (2, .ref hm), (3, .ref oa), (4, .int (nI i))]) hx hb d_L_law_495 hl (by decide) rfl (fun ls hl => ?_)
  refine lv_aload_n hx hb d_L_law_497 rfl (lv_at hl 4 rfl) ?_
  have hPc := hP.sub (ws' := [(hm, .inr (2, [.int (nI c8), .int (nI M), .ref cl, .ref sa, .ref pa, .int k8])), (cl, .inl (cL, 32768, .inr (.inl (pkF (τ5))))), (sa, .inl (cI, 4, .inl (fun i9 => nI ((τ5) i9).2.1))), (pa, .inl (cI, 4, .inl (fun i9 => nI ((τ5) i9).2.2)))]) [11, 12, 13, 14] rfl
  have hKc := hK.sub (tys' := [(cL, .long), (cI, .int)]) [2, 3] rfl
  refine vp_callSi (W.runV (As := []) (rest := []) ⟨hx, hb, hml, hown, hA⟩ (c_M_thrown l D cL cI hm cl sa pa M (nI c8) k8 τ5) (q_M_thrown hA k2_233 rfl rfl ⟨(Nat.le_of_ble_eq_true rfl), (Nat.le_of_ble_eq_true rfl)⟩) (ox_V (va_recv hKc hPc (ci := 2) (q0 := 0) rfl rfl) (ox_S hPc hKc)) rfl rfl hl.1 rfl (lv_room (Nat.le_of_ble_eq_true rfl)) d_L_law_498 ⟨(by show cells + 1 + 0 + 0 ≤ 601024; omega), (by show slots + 6 + 0 + 0 ≤ 7293000; omega)⟩) (fun r7 hr7 => ?_)
  subst hr7
  refine lv_iload hx hb d_L_law_501 (lv_at hl 1 rfl) ?_
  refine lv_icmp_eq (tgt := 508) hx hb d_L_law_503 (by decide) (fun _ => ?_) (fun q9 => absurd rfl q9)
  refine lv_iload hx hb d_L_law_508 (lv_at hl 1 rfl) ?_
  refine lv_if_ne (tgt := 525) hx hb d_L_law_510 (by decide) (fun c510 => ?_) (fun c510 => ?_)
  · refine lv_goto (tgt := 1700) hx hb d_L_law_525 (by decide) ?_
    exact K τ5 f5 (nI c8) k8 H locs hσ8 hP hD hS ls (lv_sub hl [2, 3, 4, 5, 6] rfl)
  · refine lv_aload_n hx hb d_L_law_513 rfl (lv_at hl 5 rfl) ?_
    refine lv_iconst (v := 0) hx hb d_L_law_514 (by decide) ?_
    have hc0 : c8 = 0 := (nI_eq (b := 0) (by omega) (by omega)).mp c510
    have h53 := h53 hc0
    refine va_lald hx hb hK hP 10 2 rfl rfl (by unfold vp_in; decide) d_L_law_515 ?_
    refine lv_topl (fun v515 ev515 => ?_)
    have ev515 : v515 = r8.toInt64 := by rw [ev515, sb_cl0]; exact h53
    subst ev515
    refine lv_iload hx hb d_L_law_516 (lv_at hl 0 rfl) ?_
    refine lv_i2l hx hb d_L_law_518 rfl ?_
    refine lv_topl (fun v518 ev518 => ?_)
    refine W.lcmp hx hb d_L_law_519 ?_
    refine lv_topi (fun v519 ev519 => ?_)
    refine lv_if_eq (tgt := 525) hx hb d_L_law_520 (by decide) (fun _ => ?_) (fun q9 => absurd (by rw [ev519, ev518]; exact (lg_cmp_eq _ _).mpr rfl) q9)
    refine lv_goto (tgt := 1700) hx hb d_L_law_525 (by decide) ?_
    exact K τ5 f5 (nI c8) k8 H locs hσ8 hP hD hS ls (lv_sub hl [2, 3, 4, 5, 6] rfl)
set_option maxHeartbeats 2000000 in
set_option maxRecDepth 100000 in
/-- the law at copy -/
theorem k_copy {p : Program} {l : Launch} {e : Env} {s : State} {m : MethodId} {below : List Frame} {meth : Method} {c : Code} (hL0 : l.stackTraces = false) {b L : Nat} {xs : Nat → Int32} (hL : L ≤ 2561) (hx : p.tables.exec = Jvm.exec) (hb : c.code = code) (hml : c.maxLocals = 8) (hown : s.vm.findClass R_L = some m.cls) (hA : ∀ w ∈ wsA, w.before #[Value.ref b] s = true) (hX : va_X b L xs s s.heap) (hbl : b < s.heap.size) (hG : tx_G s) (hN : tx_N s) {D : va_G} {cR cB cL cI : ClassId} {hd ra oa hm cl sa pa : Nat} {g : Nat → Option Nat} {M : Nat} {y b2 : Nat → Nat} (hg : ∀ i, i < 4 → g i = some (y i)) (hK : va_K D vCl [(cB, .byte), (cR, .object "PacketDesk$Row"), (cL, .long), (cI, .int)] s) (σ : dkS) (f0 : Nat → Int64) (th tk : Int32) (hσ : dkok M σ) (i : Nat) (hi : i + 5 ≤ L) (cells slots : Nat) (hce : cells + 10 ≤ 601024) (hsl : slots + 100 ≤ 7293000) (H : Heap) (locs : List Loc) (hP : va_P D vCl [(hd, .inr (0, [.ref ra])), (ra, .inl (cR, 4, .inr (.inr (.inr (.inr g))))), ((y 0), .inr (1, [.ref (b2 0), .int (nI ((σ) 0).2.1), .int (nI ((σ) 0).2.2)])), ((b2 0), .inl (cB, M, .inl (fun j => sb_b (((σ) 0).1 j)))), ((y 1), .inr (1, [.ref (b2 1), .int (nI ((σ) 1).2.1), .int (nI ((σ) 1).2.2)])), ((b2 1), .inl (cB, M, .inl (fun j => sb_b (((σ) 1).1 j)))), ((y 2), .inr (1, [.ref (b2 2), .int (nI ((σ) 2).2.1), .int (nI ((σ) 2).2.2)])), ((b2 2), .inl (cB, M, .inl (fun j => sb_b (((σ) 2).1 j)))), ((y 3), .inr (1, [.ref (b2 3), .int (nI ((σ) 3).2.1), .int (nI ((σ) 3).2.2)])), ((b2 3), .inl (cB, M, .inl (fun j => sb_b (((σ) 3).1 j)))), (oa, .inl (cL, 1, .inr (.inl f0))), (hm, .inr (2, [.int th, .int (nI M), .ref cl, .ref sa, .ref pa, .int tk])), (cl, .inl (cL, 32768, .inr (.inl (pkF (σ))))), (sa, .inl (cI, 4, .inl (fun i9 => nI ((σ) i9).2.1))), (pa, .inl (cI, 4, .inl (fun i9 => nI ((σ) i9).2.2)))] H) (hD : va_D (fun q : Nat => s.heap.size ≤ q) [(hd, .inr (0, [.ref ra])), (ra, .inl (cR, 4, .inr (.inr (.inr (.inr g))))), ((y 0), .inr (1, [.ref (b2 0), .int (nI ((σ) 0).2.1), .int (nI ((σ) 0).2.2)])), ((b2 0), .inl (cB, M, .inl (fun j => sb_b (((σ) 0).1 j)))), ((y 1), .inr (1, [.ref (b2 1), .int (nI ((σ) 1).2.1), .int (nI ((σ) 1).2.2)])), ((b2 1), .inl (cB, M, .inl (fun j => sb_b (((σ) 1).1 j)))), ((y 2), .inr (1, [.ref (b2 2), .int (nI ((σ) 2).2.1), .int (nI ((σ) 2).2.2)])), ((b2 2), .inl (cB, M, .inl (fun j => sb_b (((σ) 2).1 j)))), ((y 3), .inr (1, [.ref (b2 3), .int (nI ((σ) 3).2.1), .int (nI ((σ) 3).2.2)])), ((b2 3), .inl (cB, M, .inl (fun j => sb_b (((σ) 3).1 j)))), (oa, .inl (cL, 1, .inr (.inl f0))), (hm, .inr (2, [.int th, .int (nI M), .ref cl, .ref sa, .ref pa, .int tk])), (cl, .inl (cL, 32768, .inr (.inl (pkF (σ))))), (sa, .inl (cI, 4, .inl (fun i9 => nI ((σ) i9).2.1))), (pa, .inl (cI, 4, .inl (fun i9 => nI ((σ) i9).2.2)))]) (hS : va_S (fun q : Nat => s.heap.size ≤ q) s.heap H locs) (ls : Array Slot) (hl : lv_has ls 8 [(0, .ref b), (1, .ref hd), (2, .ref hm), (3, .ref oa), (4, .int (nI i))]) (K : ∀ (σ' : dkS) (f' : Nat → Int64) (th' tk' : Int32) (H' : Heap) (locs' : List Loc), dkok M σ' → va_P D vCl [(hd, .inr (0, [.ref ra])), (ra, .inl (cR, 4, .inr (.inr (.inr (.inr g))))), ((y 0), .inr (1, [.ref (b2 0), .int (nI ((σ') 0).2.1), .int (nI ((σ') 0).2.2)])), ((b2 0), .inl (cB, M, .inl (fun j => sb_b (((σ') 0).1 j)))), ((y 1), .inr (1, [.ref (b2 1), .int (nI ((σ') 1).2.1), .int (nI ((σ') 1).2.2)])), ((b2 1), .inl (cB, M, .inl (fun j => sb_b (((σ') 1).1 j)))), ((y 2), .inr (1, [.ref (b2 2), .int (nI ((σ') 2).2.1), .int (nI ((σ') 2).2.2)])), ((b2 2), .inl (cB, M, .inl (fun j => sb_b (((σ') 2).1 j)))), ((y 3), .inr (1, [.ref (b2 3), .int (nI ((σ') 3).2.1), .int (nI ((σ') 3).2.2)])), ((b2 3), .inl (cB, M, .inl (fun j => sb_b (((σ') 3).1 j)))), (oa, .inl (cL, 1, .inr (.inl f'))), (hm, .inr (2, [.int th', .int (nI M), .ref cl, .ref sa, .ref pa, .int tk'])), (cl, .inl (cL, 32768, .inr (.inl (pkF (σ'))))), (sa, .inl (cI, 4, .inl (fun i9 => nI ((σ') i9).2.1))), (pa, .inl (cI, 4, .inl (fun i9 => nI ((σ') i9).2.2)))] H' → va_D (fun q : Nat => s.heap.size ≤ q) [(hd, .inr (0, [.ref ra])), (ra, .inl (cR, 4, .inr (.inr (.inr (.inr g))))), ((y 0), .inr (1, [.ref (b2 0), .int (nI ((σ') 0).2.1), .int (nI ((σ') 0).2.2)])), ((b2 0), .inl (cB, M, .inl (fun j => sb_b (((σ') 0).1 j)))), ((y 1), .inr (1, [.ref (b2 1), .int (nI ((σ') 1).2.1), .int (nI ((σ') 1).2.2)])), ((b2 1), .inl (cB, M, .inl (fun j => sb_b (((σ') 1).1 j)))), ((y 2), .inr (1, [.ref (b2 2), .int (nI ((σ') 2).2.1), .int (nI ((σ') 2).2.2)])), ((b2 2), .inl (cB, M, .inl (fun j => sb_b (((σ') 2).1 j)))), ((y 3), .inr (1, [.ref (b2 3), .int (nI ((σ') 3).2.1), .int (nI ((σ') 3).2.2)])), ((b2 3), .inl (cB, M, .inl (fun j => sb_b (((σ') 3).1 j)))), (oa, .inl (cL, 1, .inr (.inl f'))), (hm, .inr (2, [.int th', .int (nI M), .ref cl, .ref sa, .ref pa, .int tk'])), (cl, .inl (cL, 32768, .inr (.inl (pkF (σ'))))), (sa, .inl (cI, 4, .inl (fun i9 => nI ((σ') i9).2.1))), (pa, .inl (cI, 4, .inl (fun i9 => nI ((σ') i9).2.2)))] → va_S (fun q : Nat => s.heap.size ≤ q) s.heap H' locs' → ∀ ls' : Array Slot, lv_has ls' 8 [(0, .ref b), (1, .ref hd), (2, .ref hm), (3, .ref oa), (4, .int (nI i))] → W p l e room_1 s m #[Value.ref b] below meth c H' locs' (cells + 1) (slots + 6) (lw_Z below #[Value.ref b] s) (F0 m 1700 ls' [])) : W p l e room_1 s m #[Value.ref b] below meth c H locs cells slots (lw_Z below #[Value.ref b] s) (F0 m 528 ls []) := by
  have hAq : ∀ q : Nat, s.heap.size ≤ q → (fun q : Nat => s.heap.size ≤ q) q := fun _ h => h
  have hbA : ¬ (fun q : Nat => s.heap.size ≤ q) b := Nat.not_le.mpr hbl
  refine lv_aload_n hx hb d_L_law_528 rfl (lv_at hl 1 rfl) ?_
  refine lv_aload_n hx hb d_L_law_529 rfl (lv_at hl 0 rfl) ?_
  refine lv_iload hx hb d_L_law_530 (lv_at hl 4 rfl) ?_
  refine lv_iconst (v := 1) hx hb d_L_law_532 (by decide) ?_
  refine lv_iadd hx hb d_L_law_533 ?_
  refine lv_topi (fun v533 ev533 => ?_)
  have ev533 : v533 = nI (i + 1) := by rw [ev533]; exact nI_add i 1
  subst ev533
  refine va_sld hx hb hX hbl hbA hS (vp_in_nI (n := i + 1) (N := L) (by omega) (by omega)) d_L_law_534 ?_
  refine lv_topi (fun v534 ev534 => ?_)
  have ev534 : v534 = xs (i + 1) := by rw [ev534, nI_clamp (by omega)]
  subst ev534
  refine lv_aload_n hx hb d_L_law_535 rfl (lv_at hl 0 rfl) ?_
  refine lv_iload hx hb d_L_law_536 (lv_at hl 4 rfl) ?_
  refine lv_iconst (v := 2) hx hb d_L_law_538 (by decide) ?_
  refine lv_iadd hx hb d_L_law_539 ?_
  refine lv_topi (fun v539 ev539 => ?_)
  have ev539 : v539 = nI (i + 2) := by rw [ev539]; exact nI_add i 2
  subst ev539
  refine va_sld hx hb hX hbl hbA hS (vp_in_nI (n := i + 2) (N := L) (by omega) (by omega)) d_L_law_540 ?_
  refine lv_topi (fun v540 ev540 => ?_)
  have ev540 : v540 = xs (i + 2) := by rw [ev540, nI_clamp (by omega)]
  subst ev540
  refine lv_aload_n hx hb d_L_law_541 rfl (lv_at hl 0 rfl) ?_
  refine lv_iload hx hb d_L_law_542 (lv_at hl 4 rfl) ?_
  refine lv_iconst (v := 3) hx hb d_L_law_544 (by decide) ?_
  refine lv_iadd hx hb d_L_law_545 ?_
  refine lv_topi (fun v545 ev545 => ?_)
  have ev545 : v545 = nI (i + 3) := by rw [ev545]; exact nI_add i 3
  subst ev545
  refine va_sld hx hb hX hbl hbA hS (vp_in_nI (n := i + 3) (N := L) (by omega) (by omega)) d_L_law_546 ?_
  refine lv_topi (fun v546 ev546 => ?_)
  have ev546 : v546 = xs (i + 3) := by rw [ev546, nI_clamp (by omega)]
  subst ev546
  refine lv_aload_n hx hb d_L_law_547 rfl (lv_at hl 0 rfl) ?_
  refine lv_iload hx hb d_L_law_548 (lv_at hl 4 rfl) ?_
  refine lv_iconst (v := 4) hx hb d_L_law_550 (by decide) ?_
  refine lv_iadd hx hb d_L_law_551 ?_
  refine lv_topi (fun v551 ev551 => ?_)
  have ev551 : v551 = nI (i + 4) := by rw [ev551]; exact nI_add i 4
  subst ev551
  refine va_sld hx hb hX hbl hbA hS (vp_in_nI (n := i + 4) (N := L) (by omega) (by omega)) d_L_law_552 ?_
  refine lv_topi (fun v552 ev552 => ?_)
  have ev552 : v552 = xs (i + 4) := by rw [ev552, nI_clamp (by omega)]
  subst ev552
  refine lv_aload_n hx hb d_L_law_553 rfl (lv_at hl 3 rfl) ?_
  have hPc := hP.sub (ws' := [(hd, .inr (0, [.ref ra])), (ra, .inl (cR, 4, .inr (.inr (.inr (.inr g))))), ((y 0), .inr (1, [.ref (b2 0), .int (nI ((σ) 0).2.1), .int (nI ((σ) 0).2.2)])), ((b2 0), .inl (cB, M, .inl (fun j => sb_b (((σ) 0).1 j)))), ((y 1), .inr (1, [.ref (b2 1), .int (nI ((σ) 1).2.1), .int (nI ((σ) 1).2.2)])), ((b2 1), .inl (cB, M, .inl (fun j => sb_b (((σ) 1).1 j)))), ((y 2), .inr (1, [.ref (b2 2), .int (nI ((σ) 2).2.1), .int (nI ((σ) 2).2.2)])), ((b2 2), .inl (cB, M, .inl (fun j => sb_b (((σ) 2).1 j)))), ((y 3), .inr (1, [.ref (b2 3), .int (nI ((σ) 3).2.1), .int (nI ((σ) 3).2.2)])), ((b2 3), .inl (cB, M, .inl (fun j => sb_b (((σ) 3).1 j)))), (oa, .inl (cL, 1, .inr (.inl f0)))]) [0, 1, 2, 3, 4, 5, 6, 7, 8, 9, 10] rfl
  have hDc := hD.sub (ws' := [(hd, .inr (0, [.ref ra])), (ra, .inl (cR, 4, .inr (.inr (.inr (.inr g))))), ((y 0), .inr (1, [.ref (b2 0), .int (nI ((σ) 0).2.1), .int (nI ((σ) 0).2.2)])), ((b2 0), .inl (cB, M, .inl (fun j => sb_b (((σ) 0).1 j)))), ((y 1), .inr (1, [.ref (b2 1), .int (nI ((σ) 1).2.1), .int (nI ((σ) 1).2.2)])), ((b2 1), .inl (cB, M, .inl (fun j => sb_b (((σ) 1).1 j)))), ((y 2), .inr (1, [.ref (b2 2), .int (nI ((σ) 2).2.1), .int (nI ((σ) 2).2.2)])), ((b2 2), .inl (cB, M, .inl (fun j => sb_b (((σ) 2).1 j)))), ((y 3), .inr (1, [.ref (b2 3), .int (nI ((σ) 3).2.1), .int (nI ((σ) 3).2.2)])), ((b2 3), .inl (cB, M, .inl (fun j => sb_b (((σ) 3).1 j)))), (oa, .inl (cL, 1, .inr (.inl f0)))]) [0, 1, 2, 3, 4, 5, 6, 7, 8, 9, 10] (by decide) rfl
  have hKc := hK.sub (tys' := [(cB, .byte), (cR, .object "PacketDesk$Row"), (cL, .long)]) [0, 1, 2] rfl
  have hFc := va_free (wc := [(hd, .inr (0, [.ref ra])), (ra, .inl (cR, 4, .inr (.inr (.inr (.inr g))))), ((y 0), .inr (1, [.ref (b2 0), .int (nI ((σ) 0).2.1), .int (nI ((σ) 0).2.2)])), ((b2 0), .inl (cB, M, .inl (fun j => sb_b (((σ) 0).1 j)))), ((y 1), .inr (1, [.ref (b2 1), .int (nI ((σ) 1).2.1), .int (nI ((σ) 1).2.2)])), ((b2 1), .inl (cB, M, .inl (fun j => sb_b (((σ) 1).1 j)))), ((y 2), .inr (1, [.ref (b2 2), .int (nI ((σ) 2).2.1), .int (nI ((σ) 2).2.2)])), ((b2 2), .inl (cB, M, .inl (fun j => sb_b (((σ) 2).1 j)))), ((y 3), .inr (1, [.ref (b2 3), .int (nI ((σ) 3).2.1), .int (nI ((σ) 3).2.2)])), ((b2 3), .inl (cB, M, .inl (fun j => sb_b (((σ) 3).1 j)))), (oa, .inl (cL, 1, .inr (.inl f0)))]) hD hS hAq [0, 1, 2, 3, 4, 5, 6, 7, 8, 9, 10] rfl
  have hh9 : ∀ q : Nat, q < s.heap.size → H[q]? = s.heap[q]? := fun q h => hS.2.1 q h (Nat.not_le.mpr h)
  refine lx_wi (lx_runS (As := [.ref hd, .int (xs (i + 1)), .int (xs (i + 2)), .int (xs (i + 3)), .int (xs (i + 4)), .ref oa]) (rest := []) ⟨hx, hb, hml, hown, hA⟩ (c_L_copy l hL0 D cR cB cL hd ra oa g M y b2 σ f0 H.size (xs (i + 1)) (xs (i + 2)) (xs (i + 3)) (xs (i + 4)) hg hσ) (q_L_copy hA k1_227 rfl rfl ⟨(Nat.le_of_ble_eq_true rfl), (Nat.le_of_ble_eq_true rfl)⟩) (oxn_S hPc hKc hDc hG hh9 hN) rfl rfl hl.1 rfl (lv_room (Nat.le_of_ble_eq_true rfl)) d_L_law_554 ⟨(by show cells + 2 ≤ 601024; omega), (by show slots + 12 ≤ 7293000; omega)⟩) hS (fun q _ h => hFc q h) hFc (fun r5 u5 t9 H1 locs ht9 hvm9 hw5 hB9 hz1 hk1 hS => ?_)
  obtain ⟨τ5, f5⟩ := u5
  obtain ⟨hP1, hK1, hD1⟩ := hB9
  rw [ht9] at hP1
  obtain ⟨hP, hD⟩ := va_join (wr := [(hm, .inr (2, [.int th, .int (nI M), .ref cl, .ref sa, .ref pa, .int tk])), (cl, .inl (cL, 32768, .inr (.inl (pkF (σ))))), (sa, .inl (cI, 4, .inl (fun i9 => nI ((σ) i9).2.1))), (pa, .inl (cI, 4, .inl (fun i9 => nI ((σ) i9).2.2)))]) (w1 := [(hd, .inr (0, [.ref ra])), (ra, .inl (cR, 4, .inr (.inr (.inr (.inr g))))), ((y 0), .inr (1, [.ref (b2 0), .int (nI ((τ5) 0).2.1), .int (nI ((τ5) 0).2.2)])), ((b2 0), .inl (cB, M, .inl (fun j => sb_b (((τ5) 0).1 j)))), ((y 1), .inr (1, [.ref (b2 1), .int (nI ((τ5) 1).2.1), .int (nI ((τ5) 1).2.2)])), ((b2 1), .inl (cB, M, .inl (fun j => sb_b (((τ5) 1).1 j)))), ((y 2), .inr (1, [.ref (b2 2), .int (nI ((τ5) 2).2.1), .int (nI ((τ5) 2).2.2)])), ((b2 2), .inl (cB, M, .inl (fun j => sb_b (((τ5) 2).1 j)))), ((y 3), .inr (1, [.ref (b2 3), .int (nI ((τ5) 3).2.1), .int (nI ((τ5) 3).2.2)])), ((b2 3), .inl (cB, M, .inl (fun j => sb_b (((τ5) 3).1 j)))), (oa, .inl (cL, 1, .inr (.inl f5)))]) hP hD [0, 1, 2, 3, 4, 5, 6, 7, 8, 9, 10] [11, 12, 13, 14] rfl rfl (by decide) (by decide) hk1 hFc hP1 hD1
  generalize H1 = H at hP hS ⊢
  have hP : va_P D vCl [(hd, .inr (0, [.ref ra])), (ra, .inl (cR, 4, .inr (.inr (.inr (.inr g))))), ((y 0), .inr (1, [.ref (b2 0), .int (nI ((τ5) 0).2.1), .int (nI ((τ5) 0).2.2)])), ((b2 0), .inl (cB, M, .inl (fun j => sb_b (((τ5) 0).1 j)))), ((y 1), .inr (1, [.ref (b2 1), .int (nI ((τ5) 1).2.1), .int (nI ((τ5) 1).2.2)])), ((b2 1), .inl (cB, M, .inl (fun j => sb_b (((τ5) 1).1 j)))), ((y 2), .inr (1, [.ref (b2 2), .int (nI ((τ5) 2).2.1), .int (nI ((τ5) 2).2.2)])), ((b2 2), .inl (cB, M, .inl (fun j => sb_b (((τ5) 2).1 j)))), ((y 3), .inr (1, [.ref (b2 3), .int (nI ((τ5) 3).2.1), .int (nI ((τ5) 3).2.2)])), ((b2 3), .inl (cB, M, .inl (fun j => sb_b (((τ5) 3).1 j)))), (oa, .inl (cL, 1, .inr (.inl f5))), (hm, .inr (2, [.int th, .int (nI M), .ref cl, .ref sa, .ref pa, .int tk])), (cl, .inl (cL, 32768, .inr (.inl (pkF (σ))))), (sa, .inl (cI, 4, .inl (fun i9 => nI ((σ) i9).2.1))), (pa, .inl (cI, 4, .inl (fun i9 => nI ((σ) i9).2.2)))] H := hP.sub [4, 5, 6, 7, 8, 9, 10, 11, 12, 13, 14, 0, 1, 2, 3] rfl
  have hD : va_D (fun q : Nat => s.heap.size ≤ q) [(hd, .inr (0, [.ref ra])), (ra, .inl (cR, 4, .inr (.inr (.inr (.inr g))))), ((y 0), .inr (1, [.ref (b2 0), .int (nI ((τ5) 0).2.1), .int (nI ((τ5) 0).2.2)])), ((b2 0), .inl (cB, M, .inl (fun j => sb_b (((τ5) 0).1 j)))), ((y 1), .inr (1, [.ref (b2 1), .int (nI ((τ5) 1).2.1), .int (nI ((τ5) 1).2.2)])), ((b2 1), .inl (cB, M, .inl (fun j => sb_b (((τ5) 1).1 j)))), ((y 2), .inr (1, [.ref (b2 2), .int (nI ((τ5) 2).2.1), .int (nI ((τ5) 2).2.2)])), ((b2 2), .inl (cB, M, .inl (fun j => sb_b (((τ5) 2).1 j)))), ((y 3), .inr (1, [.ref (b2 3), .int (nI ((τ5) 3).2.1), .int (nI ((τ5) 3).2.2)])), ((b2 3), .inl (cB, M, .inl (fun j => sb_b (((τ5) 3).1 j)))), (oa, .inl (cL, 1, .inr (.inl f5))), (hm, .inr (2, [.int th, .int (nI M), .ref cl, .ref sa, .ref pa, .int tk])), (cl, .inl (cL, 32768, .inr (.inl (pkF (σ))))), (sa, .inl (cI, 4, .inl (fun i9 => nI ((σ) i9).2.1))), (pa, .inl (cI, 4, .inl (fun i9 => nI ((σ) i9).2.2)))] := hD.sub [4, 5, 6, 7, 8, 9, 10, 11, 12, 13, 14, 0, 1, 2, 3] (by decide) rfl
  obtain ⟨h51, h52, h53⟩ := hw5
  refine lv_istore (lv' := [(5, .int r5), (0, .ref b), (1, .ref hd), (2, .ref hm), (3, .ref oa), (4, .int (nI i))]) hx hb d_L_law_557 hl (by decide) rfl (fun ls hl => ?_)
  refine lv_aload_n hx hb d_L_law_559 rfl (lv_at hl 3 rfl) ?_
  refine lv_aload_n hx hb d_L_law_560 rfl (lv_at hl 1 rfl) ?_
  refine lv_iload hx hb d_L_law_561 (lv_at hl 5 rfl) ?_
  refine lv_iconst (v := 1) hx hb d_L_law_563 (by decide) ?_
  refine lv_iadd hx hb d_L_law_564 ?_
  refine lv_topi (fun v564 ev564 => ?_)
  have ev564 : v564 = nI (i + 1) := by rw [ev564]; exact nI_add i 1
  subst ev564
  refine va_sld hx hb hX hbl hbA hS (vp_in_nI (n := i + 1) (N := L) (by omega) (by omega)) d_L_law_565 ?_
  refine lv_topi (fun v565 ev565 => ?_)
  have ev565 : v565 = xs (i + 1) := by rw [ev565, nI_clamp (by omega)]
  subst ev565
  refine lv_aload_n hx hb d_L_law_566 rfl (lv_at hl 1 rfl) ?_
  refine lv_iload hx hb d_L_law_567 (lv_at hl 5 rfl) ?_
  refine lv_iconst (v := 2) hx hb d_L_law_569 (by decide) ?_
  refine lv_iadd hx hb d_L_law_570 ?_
  refine lv_topi (fun v570 ev570 => ?_)
  have ev570 : v570 = nI (i + 2) := by rw [ev570]; exact nI_add i 2
  subst ev570
  refine va_sld hx hb hX hbl hbA hS (vp_in_nI (n := i + 2) (N := L) (by omega) (by omega)) d_L_law_571 ?_
  refine lv_topi (fun v571 ev571 => ?_)
  have ev571 : v571 = xs (i + 2) := by rw [ev571, nI_clamp (by omega)]
  subst ev571
  refine lv_aload_n hx hb d_L_law_572 rfl (lv_at hl 1 rfl) ?_
  refine lv_iload hx hb d_L_law_573 (lv_at hl 5 rfl) ?_
  refine lv_iconst (v := 3) hx hb d_L_law_575 (by decide) ?_
  refine lv_iadd hx hb d_L_law_576 ?_
  refine lv_topi (fun v576 ev576 => ?_)
  have ev576 : v576 = nI (i + 3) := by rw [ev576]; exact nI_add i 3
  subst ev576
  refine va_sld hx hb hX hbl hbA hS (vp_in_nI (n := i + 3) (N := L) (by omega) (by omega)) d_L_law_577 ?_
  refine lv_topi (fun v577 ev577 => ?_)
  have ev577 : v577 = xs (i + 3) := by rw [ev577, nI_clamp (by omega)]
  subst ev577
  refine lv_aload_n hx hb d_L_law_578 rfl (lv_at hl 1 rfl) ?_
  refine lv_iload hx hb d_L_law_579 (lv_at hl 5 rfl) ?_
  refine lv_iconst (v := 4) hx hb d_L_law_581 (by decide) ?_
  refine lv_iadd hx hb d_L_law_582 ?_
  refine lv_topi (fun v582 ev582 => ?_)
  have ev582 : v582 = nI (i + 4) := by rw [ev582]; exact nI_add i 4
  subst ev582
  refine va_sld hx hb hX hbl hbA hS (vp_in_nI (n := i + 4) (N := L) (by omega) (by omega)) d_L_law_583 ?_
  refine lv_topi (fun v583 ev583 => ?_)
  have ev583 : v583 = xs (i + 4) := by rw [ev583, nI_clamp (by omega)]
  subst ev583
  have hPc := hP.sub (ws' := [(hm, .inr (2, [.int th, .int (nI M), .ref cl, .ref sa, .ref pa, .int tk])), (cl, .inl (cL, 32768, .inr (.inl (pkF (σ))))), (sa, .inl (cI, 4, .inl (fun i9 => nI ((σ) i9).2.1))), (pa, .inl (cI, 4, .inl (fun i9 => nI ((σ) i9).2.2)))]) [11, 12, 13, 14] rfl
  have hDc := hD.sub (ws' := [(hm, .inr (2, [.int th, .int (nI M), .ref cl, .ref sa, .ref pa, .int tk])), (cl, .inl (cL, 32768, .inr (.inl (pkF (σ))))), (sa, .inl (cI, 4, .inl (fun i9 => nI ((σ) i9).2.1))), (pa, .inl (cI, 4, .inl (fun i9 => nI ((σ) i9).2.2)))]) [11, 12, 13, 14] (by decide) rfl
  have hKc := hK.sub (tys' := [(cL, .long), (cI, .int)]) [2, 3] rfl
  have hFc := va_free (wc := [(hm, .inr (2, [.int th, .int (nI M), .ref cl, .ref sa, .ref pa, .int tk])), (cl, .inl (cL, 32768, .inr (.inl (pkF (σ))))), (sa, .inl (cI, 4, .inl (fun i9 => nI ((σ) i9).2.1))), (pa, .inl (cI, 4, .inl (fun i9 => nI ((σ) i9).2.2)))]) hD hS hAq [11, 12, 13, 14] rfl
  refine va_calli (va_runV (As := [.int (xs (i + 1)), .int (xs (i + 2)), .int (xs (i + 3)), .int (xs (i + 4))]) (rest := []) ⟨hx, hb, hml, hown, hA⟩ (c_M_copy l D cL cI hm cl sa pa M th tk σ H.size (xs (i + 1)) (xs (i + 2)) (xs (i + 3)) (xs (i + 4)) hσ) (q_M_copy hA k3_58 rfl rfl ⟨(Nat.le_of_ble_eq_true rfl), (Nat.le_of_ble_eq_true rfl)⟩) (ox_V (va_recv hKc hPc (ci := 2) (q0 := 0) rfl rfl) (oxw_S hPc hKc hDc)) rfl rfl hl.1 rfl (lv_room (Nat.le_of_ble_eq_true rfl)) d_L_law_584 ⟨(by show cells + 1 + 0 ≤ 601024; omega), (by show slots + 6 + 0 ≤ 7293000; omega)⟩) hS (fun q _ h => hFc q h) hFc (fun r8 u8 t9 H1 locs ht9 hvm9 hw8 hB9 hz1 hk1 hS => ?_)
  obtain ⟨c8, τ8, k8⟩ := u8
  replace hw8 : spCopy M σ (xs (i + 1)) (xs (i + 2)) (xs (i + 3)) (xs (i + 4)) = (c8, r8, τ8) := hw8
  obtain ⟨hP1, hK1, hD1⟩ := hB9
  rw [ht9] at hP1
  obtain ⟨hP, hD⟩ := va_join (wr := [(hd, .inr (0, [.ref ra])), (ra, .inl (cR, 4, .inr (.inr (.inr (.inr g))))), ((y 0), .inr (1, [.ref (b2 0), .int (nI ((τ5) 0).2.1), .int (nI ((τ5) 0).2.2)])), ((b2 0), .inl (cB, M, .inl (fun j => sb_b (((τ5) 0).1 j)))), ((y 1), .inr (1, [.ref (b2 1), .int (nI ((τ5) 1).2.1), .int (nI ((τ5) 1).2.2)])), ((b2 1), .inl (cB, M, .inl (fun j => sb_b (((τ5) 1).1 j)))), ((y 2), .inr (1, [.ref (b2 2), .int (nI ((τ5) 2).2.1), .int (nI ((τ5) 2).2.2)])), ((b2 2), .inl (cB, M, .inl (fun j => sb_b (((τ5) 2).1 j)))), ((y 3), .inr (1, [.ref (b2 3), .int (nI ((τ5) 3).2.1), .int (nI ((τ5) 3).2.2)])), ((b2 3), .inl (cB, M, .inl (fun j => sb_b (((τ5) 3).1 j)))), (oa, .inl (cL, 1, .inr (.inl f5)))]) (w1 := [(hm, .inr (2, [.int (nI c8), .int (nI M), .ref cl, .ref sa, .ref pa, .int k8])), (cl, .inl (cL, 32768, .inr (.inl (pkF (τ8))))), (sa, .inl (cI, 4, .inl (fun i9 => nI ((τ8) i9).2.1))), (pa, .inl (cI, 4, .inl (fun i9 => nI ((τ8) i9).2.2)))]) hP hD [11, 12, 13, 14] [0, 1, 2, 3, 4, 5, 6, 7, 8, 9, 10] rfl rfl (by decide) (by decide) hk1 hFc hP1 hD1
  generalize H1 = H at hP hS ⊢
  have hP : va_P D vCl [(hd, .inr (0, [.ref ra])), (ra, .inl (cR, 4, .inr (.inr (.inr (.inr g))))), ((y 0), .inr (1, [.ref (b2 0), .int (nI ((τ5) 0).2.1), .int (nI ((τ5) 0).2.2)])), ((b2 0), .inl (cB, M, .inl (fun j => sb_b (((τ5) 0).1 j)))), ((y 1), .inr (1, [.ref (b2 1), .int (nI ((τ5) 1).2.1), .int (nI ((τ5) 1).2.2)])), ((b2 1), .inl (cB, M, .inl (fun j => sb_b (((τ5) 1).1 j)))), ((y 2), .inr (1, [.ref (b2 2), .int (nI ((τ5) 2).2.1), .int (nI ((τ5) 2).2.2)])), ((b2 2), .inl (cB, M, .inl (fun j => sb_b (((τ5) 2).1 j)))), ((y 3), .inr (1, [.ref (b2 3), .int (nI ((τ5) 3).2.1), .int (nI ((τ5) 3).2.2)])), ((b2 3), .inl (cB, M, .inl (fun j => sb_b (((τ5) 3).1 j)))), (oa, .inl (cL, 1, .inr (.inl f5))), (hm, .inr (2, [.int (nI c8), .int (nI M), .ref cl, .ref sa, .ref pa, .int k8])), (cl, .inl (cL, 32768, .inr (.inl (pkF (τ8))))), (sa, .inl (cI, 4, .inl (fun i9 => nI ((τ8) i9).2.1))), (pa, .inl (cI, 4, .inl (fun i9 => nI ((τ8) i9).2.2)))] H := hP
  have hD : va_D (fun q : Nat => s.heap.size ≤ q) [(hd, .inr (0, [.ref ra])), (ra, .inl (cR, 4, .inr (.inr (.inr (.inr g))))), ((y 0), .inr (1, [.ref (b2 0), .int (nI ((τ5) 0).2.1), .int (nI ((τ5) 0).2.2)])), ((b2 0), .inl (cB, M, .inl (fun j => sb_b (((τ5) 0).1 j)))), ((y 1), .inr (1, [.ref (b2 1), .int (nI ((τ5) 1).2.1), .int (nI ((τ5) 1).2.2)])), ((b2 1), .inl (cB, M, .inl (fun j => sb_b (((τ5) 1).1 j)))), ((y 2), .inr (1, [.ref (b2 2), .int (nI ((τ5) 2).2.1), .int (nI ((τ5) 2).2.2)])), ((b2 2), .inl (cB, M, .inl (fun j => sb_b (((τ5) 2).1 j)))), ((y 3), .inr (1, [.ref (b2 3), .int (nI ((τ5) 3).2.1), .int (nI ((τ5) 3).2.2)])), ((b2 3), .inl (cB, M, .inl (fun j => sb_b (((τ5) 3).1 j)))), (oa, .inl (cL, 1, .inr (.inl f5))), (hm, .inr (2, [.int (nI c8), .int (nI M), .ref cl, .ref sa, .ref pa, .int k8])), (cl, .inl (cL, 32768, .inr (.inl (pkF (τ8))))), (sa, .inl (cI, 4, .inl (fun i9 => nI ((τ8) i9).2.1))), (pa, .inl (cI, 4, .inl (fun i9 => nI ((τ8) i9).2.2)))] := hD
  have hc8 : c8 ≤ 4 := by have h9 := le_spCopy M σ (xs (i + 1)) (xs (i + 2)) (xs (i + 3)) (xs (i + 4)); rw [hw8] at h9; exact h9
  have hσ8 : dkok M τ8 := by have h9 := ok_spCopy (M := M) (σ := σ) (xs (i + 1)) (xs (i + 2)) (xs (i + 3)) (xs (i + 4)) hσ; rw [hw8] at h9; exact h9
  rw [hw8] at h51 h52 h53
  have h51 : r5 = nI c8 := h51
  have h52 : τ5 = τ8 := h52
  have h53 : c8 = 0 → f5 0 = r8.toInt64 := h53
  subst h51
  subst h52
  refine lv_istore (lv' := [(6, .int r8), (5, .int (nI c8)), (0, .ref b), (1, .ref hd), (2, .ref hm), (3, .ref oa), (4, .int (nI i))]) hx hb d_L_law_587 hl (by decide) rfl (fun ls hl => ?_)
  refine lv_aload_n hx hb d_L_law_589 rfl (lv_at hl 4 rfl) ?_
  have hPc := hP.sub (ws' := [(hm, .inr (2, [.int (nI c8), .int (nI M), .ref cl, .ref sa, .ref pa, .int k8])), (cl, .inl (cL, 32768, .inr (.inl (pkF (τ5))))), (sa, .inl (cI, 4, .inl (fun i9 => nI ((τ5) i9).2.1))), (pa, .inl (cI, 4, .inl (fun i9 => nI ((τ5) i9).2.2)))]) [11, 12, 13, 14] rfl
  have hKc := hK.sub (tys' := [(cL, .long), (cI, .int)]) [2, 3] rfl
  refine vp_callSi (W.runV (As := []) (rest := []) ⟨hx, hb, hml, hown, hA⟩ (c_M_thrown l D cL cI hm cl sa pa M (nI c8) k8 τ5) (q_M_thrown hA k2_233 rfl rfl ⟨(Nat.le_of_ble_eq_true rfl), (Nat.le_of_ble_eq_true rfl)⟩) (ox_V (va_recv hKc hPc (ci := 2) (q0 := 0) rfl rfl) (ox_S hPc hKc)) rfl rfl hl.1 rfl (lv_room (Nat.le_of_ble_eq_true rfl)) d_L_law_590 ⟨(by show cells + 1 + 0 + 0 ≤ 601024; omega), (by show slots + 6 + 0 + 0 ≤ 7293000; omega)⟩) (fun r7 hr7 => ?_)
  subst hr7
  refine lv_iload hx hb d_L_law_593 (lv_at hl 1 rfl) ?_
  refine lv_icmp_eq (tgt := 600) hx hb d_L_law_595 (by decide) (fun _ => ?_) (fun q9 => absurd rfl q9)
  refine lv_iload hx hb d_L_law_600 (lv_at hl 1 rfl) ?_
  refine lv_if_ne (tgt := 617) hx hb d_L_law_602 (by decide) (fun c602 => ?_) (fun c602 => ?_)
  · refine lv_goto (tgt := 1700) hx hb d_L_law_617 (by decide) ?_
    exact K τ5 f5 (nI c8) k8 H locs hσ8 hP hD hS ls (lv_sub hl [2, 3, 4, 5, 6] rfl)
  · refine lv_aload_n hx hb d_L_law_605 rfl (lv_at hl 5 rfl) ?_
    refine lv_iconst (v := 0) hx hb d_L_law_606 (by decide) ?_
    have hc0 : c8 = 0 := (nI_eq (b := 0) (by omega) (by omega)).mp c602
    have h53 := h53 hc0
    refine va_lald hx hb hK hP 10 2 rfl rfl (by unfold vp_in; decide) d_L_law_607 ?_
    refine lv_topl (fun v607 ev607 => ?_)
    have ev607 : v607 = r8.toInt64 := by rw [ev607, sb_cl0]; exact h53
    subst ev607
    refine lv_iload hx hb d_L_law_608 (lv_at hl 0 rfl) ?_
    refine lv_i2l hx hb d_L_law_610 rfl ?_
    refine lv_topl (fun v610 ev610 => ?_)
    refine W.lcmp hx hb d_L_law_611 ?_
    refine lv_topi (fun v611 ev611 => ?_)
    refine lv_if_eq (tgt := 617) hx hb d_L_law_612 (by decide) (fun _ => ?_) (fun q9 => absurd (by rw [ev611, ev610]; exact (lg_cmp_eq _ _).mpr rfl) q9)
    refine lv_goto (tgt := 1700) hx hb d_L_law_617 (by decide) ?_
    exact K τ5 f5 (nI c8) k8 H locs hσ8 hP hD hS ls (lv_sub hl [2, 3, 4, 5, 6] rfl)
set_option maxHeartbeats 2000000 in
set_option maxRecDepth 100000 in
/-- the law at block -/
theorem k_block {p : Program} {l : Launch} {e : Env} {s : State} {m : MethodId} {below : List Frame} {meth : Method} {c : Code} (hL0 : l.stackTraces = false) {b L : Nat} {xs : Nat → Int32} (hL : L ≤ 2561) (hx : p.tables.exec = Jvm.exec) (hb : c.code = code) (hml : c.maxLocals = 8) (hown : s.vm.findClass R_L = some m.cls) (hA : ∀ w ∈ wsA, w.before #[Value.ref b] s = true) (hX : va_X b L xs s s.heap) (hbl : b < s.heap.size) (hG : tx_G s) (hN : tx_N s) {D : va_G} {cR cB cL cI : ClassId} {hd ra oa hm cl sa pa : Nat} {g : Nat → Option Nat} {M : Nat} {y b2 : Nat → Nat} (hg : ∀ i, i < 4 → g i = some (y i)) (hK : va_K D vCl [(cB, .byte), (cR, .object "PacketDesk$Row"), (cL, .long), (cI, .int)] s) (σ : dkS) (f0 : Nat → Int64) (th tk : Int32) (hσ : dkok M σ) (i : Nat) (hi : i + 5 ≤ L) (cells slots : Nat) (hce : cells + 10 ≤ 601024) (hsl : slots + 100 ≤ 7293000) (H : Heap) (locs : List Loc) (hP : va_P D vCl [(hd, .inr (0, [.ref ra])), (ra, .inl (cR, 4, .inr (.inr (.inr (.inr g))))), ((y 0), .inr (1, [.ref (b2 0), .int (nI ((σ) 0).2.1), .int (nI ((σ) 0).2.2)])), ((b2 0), .inl (cB, M, .inl (fun j => sb_b (((σ) 0).1 j)))), ((y 1), .inr (1, [.ref (b2 1), .int (nI ((σ) 1).2.1), .int (nI ((σ) 1).2.2)])), ((b2 1), .inl (cB, M, .inl (fun j => sb_b (((σ) 1).1 j)))), ((y 2), .inr (1, [.ref (b2 2), .int (nI ((σ) 2).2.1), .int (nI ((σ) 2).2.2)])), ((b2 2), .inl (cB, M, .inl (fun j => sb_b (((σ) 2).1 j)))), ((y 3), .inr (1, [.ref (b2 3), .int (nI ((σ) 3).2.1), .int (nI ((σ) 3).2.2)])), ((b2 3), .inl (cB, M, .inl (fun j => sb_b (((σ) 3).1 j)))), (oa, .inl (cL, 1, .inr (.inl f0))), (hm, .inr (2, [.int th, .int (nI M), .ref cl, .ref sa, .ref pa, .int tk])), (cl, .inl (cL, 32768, .inr (.inl (pkF (σ))))), (sa, .inl (cI, 4, .inl (fun i9 => nI ((σ) i9).2.1))), (pa, .inl (cI, 4, .inl (fun i9 => nI ((σ) i9).2.2)))] H) (hD : va_D (fun q : Nat => s.heap.size ≤ q) [(hd, .inr (0, [.ref ra])), (ra, .inl (cR, 4, .inr (.inr (.inr (.inr g))))), ((y 0), .inr (1, [.ref (b2 0), .int (nI ((σ) 0).2.1), .int (nI ((σ) 0).2.2)])), ((b2 0), .inl (cB, M, .inl (fun j => sb_b (((σ) 0).1 j)))), ((y 1), .inr (1, [.ref (b2 1), .int (nI ((σ) 1).2.1), .int (nI ((σ) 1).2.2)])), ((b2 1), .inl (cB, M, .inl (fun j => sb_b (((σ) 1).1 j)))), ((y 2), .inr (1, [.ref (b2 2), .int (nI ((σ) 2).2.1), .int (nI ((σ) 2).2.2)])), ((b2 2), .inl (cB, M, .inl (fun j => sb_b (((σ) 2).1 j)))), ((y 3), .inr (1, [.ref (b2 3), .int (nI ((σ) 3).2.1), .int (nI ((σ) 3).2.2)])), ((b2 3), .inl (cB, M, .inl (fun j => sb_b (((σ) 3).1 j)))), (oa, .inl (cL, 1, .inr (.inl f0))), (hm, .inr (2, [.int th, .int (nI M), .ref cl, .ref sa, .ref pa, .int tk])), (cl, .inl (cL, 32768, .inr (.inl (pkF (σ))))), (sa, .inl (cI, 4, .inl (fun i9 => nI ((σ) i9).2.1))), (pa, .inl (cI, 4, .inl (fun i9 => nI ((σ) i9).2.2)))]) (hS : va_S (fun q : Nat => s.heap.size ≤ q) s.heap H locs) (ls : Array Slot) (hl : lv_has ls 8 [(0, .ref b), (1, .ref hd), (2, .ref hm), (3, .ref oa), (4, .int (nI i))]) (K : ∀ (σ' : dkS) (f' : Nat → Int64) (th' tk' : Int32) (H' : Heap) (locs' : List Loc), dkok M σ' → va_P D vCl [(hd, .inr (0, [.ref ra])), (ra, .inl (cR, 4, .inr (.inr (.inr (.inr g))))), ((y 0), .inr (1, [.ref (b2 0), .int (nI ((σ') 0).2.1), .int (nI ((σ') 0).2.2)])), ((b2 0), .inl (cB, M, .inl (fun j => sb_b (((σ') 0).1 j)))), ((y 1), .inr (1, [.ref (b2 1), .int (nI ((σ') 1).2.1), .int (nI ((σ') 1).2.2)])), ((b2 1), .inl (cB, M, .inl (fun j => sb_b (((σ') 1).1 j)))), ((y 2), .inr (1, [.ref (b2 2), .int (nI ((σ') 2).2.1), .int (nI ((σ') 2).2.2)])), ((b2 2), .inl (cB, M, .inl (fun j => sb_b (((σ') 2).1 j)))), ((y 3), .inr (1, [.ref (b2 3), .int (nI ((σ') 3).2.1), .int (nI ((σ') 3).2.2)])), ((b2 3), .inl (cB, M, .inl (fun j => sb_b (((σ') 3).1 j)))), (oa, .inl (cL, 1, .inr (.inl f'))), (hm, .inr (2, [.int th', .int (nI M), .ref cl, .ref sa, .ref pa, .int tk'])), (cl, .inl (cL, 32768, .inr (.inl (pkF (σ'))))), (sa, .inl (cI, 4, .inl (fun i9 => nI ((σ') i9).2.1))), (pa, .inl (cI, 4, .inl (fun i9 => nI ((σ') i9).2.2)))] H' → va_D (fun q : Nat => s.heap.size ≤ q) [(hd, .inr (0, [.ref ra])), (ra, .inl (cR, 4, .inr (.inr (.inr (.inr g))))), ((y 0), .inr (1, [.ref (b2 0), .int (nI ((σ') 0).2.1), .int (nI ((σ') 0).2.2)])), ((b2 0), .inl (cB, M, .inl (fun j => sb_b (((σ') 0).1 j)))), ((y 1), .inr (1, [.ref (b2 1), .int (nI ((σ') 1).2.1), .int (nI ((σ') 1).2.2)])), ((b2 1), .inl (cB, M, .inl (fun j => sb_b (((σ') 1).1 j)))), ((y 2), .inr (1, [.ref (b2 2), .int (nI ((σ') 2).2.1), .int (nI ((σ') 2).2.2)])), ((b2 2), .inl (cB, M, .inl (fun j => sb_b (((σ') 2).1 j)))), ((y 3), .inr (1, [.ref (b2 3), .int (nI ((σ') 3).2.1), .int (nI ((σ') 3).2.2)])), ((b2 3), .inl (cB, M, .inl (fun j => sb_b (((σ') 3).1 j)))), (oa, .inl (cL, 1, .inr (.inl f'))), (hm, .inr (2, [.int th', .int (nI M), .ref cl, .ref sa, .ref pa, .int tk'])), (cl, .inl (cL, 32768, .inr (.inl (pkF (σ'))))), (sa, .inl (cI, 4, .inl (fun i9 => nI ((σ') i9).2.1))), (pa, .inl (cI, 4, .inl (fun i9 => nI ((σ') i9).2.2)))] → va_S (fun q : Nat => s.heap.size ≤ q) s.heap H' locs' → ∀ ls' : Array Slot, lv_has ls' 8 [(0, .ref b), (1, .ref hd), (2, .ref hm), (3, .ref oa), (4, .int (nI i))] → W p l e room_1 s m #[Value.ref b] below meth c H' locs' (cells + 1) (slots + 6) (lw_Z below #[Value.ref b] s) (F0 m 1700 ls' [])) : W p l e room_1 s m #[Value.ref b] below meth c H locs cells slots (lw_Z below #[Value.ref b] s) (F0 m 620 ls []) := by
  have hAq : ∀ q : Nat, s.heap.size ≤ q → (fun q : Nat => s.heap.size ≤ q) q := fun _ h => h
  have hbA : ¬ (fun q : Nat => s.heap.size ≤ q) b := Nat.not_le.mpr hbl
  refine lv_aload_n hx hb d_L_law_620 rfl (lv_at hl 1 rfl) ?_
  refine lv_aload_n hx hb d_L_law_621 rfl (lv_at hl 0 rfl) ?_
  refine lv_iload hx hb d_L_law_622 (lv_at hl 4 rfl) ?_
  refine lv_iconst (v := 1) hx hb d_L_law_624 (by decide) ?_
  refine lv_iadd hx hb d_L_law_625 ?_
  refine lv_topi (fun v625 ev625 => ?_)
  have ev625 : v625 = nI (i + 1) := by rw [ev625]; exact nI_add i 1
  subst ev625
  refine va_sld hx hb hX hbl hbA hS (vp_in_nI (n := i + 1) (N := L) (by omega) (by omega)) d_L_law_626 ?_
  refine lv_topi (fun v626 ev626 => ?_)
  have ev626 : v626 = xs (i + 1) := by rw [ev626, nI_clamp (by omega)]
  subst ev626
  refine lv_aload_n hx hb d_L_law_627 rfl (lv_at hl 0 rfl) ?_
  refine lv_iload hx hb d_L_law_628 (lv_at hl 4 rfl) ?_
  refine lv_iconst (v := 2) hx hb d_L_law_630 (by decide) ?_
  refine lv_iadd hx hb d_L_law_631 ?_
  refine lv_topi (fun v631 ev631 => ?_)
  have ev631 : v631 = nI (i + 2) := by rw [ev631]; exact nI_add i 2
  subst ev631
  refine va_sld hx hb hX hbl hbA hS (vp_in_nI (n := i + 2) (N := L) (by omega) (by omega)) d_L_law_632 ?_
  refine lv_topi (fun v632 ev632 => ?_)
  have ev632 : v632 = xs (i + 2) := by rw [ev632, nI_clamp (by omega)]
  subst ev632
  refine lv_aload_n hx hb d_L_law_633 rfl (lv_at hl 3 rfl) ?_
  have hPc := hP.sub (ws' := [(hd, .inr (0, [.ref ra])), (ra, .inl (cR, 4, .inr (.inr (.inr (.inr g))))), ((y 0), .inr (1, [.ref (b2 0), .int (nI ((σ) 0).2.1), .int (nI ((σ) 0).2.2)])), ((b2 0), .inl (cB, M, .inl (fun j => sb_b (((σ) 0).1 j)))), ((y 1), .inr (1, [.ref (b2 1), .int (nI ((σ) 1).2.1), .int (nI ((σ) 1).2.2)])), ((b2 1), .inl (cB, M, .inl (fun j => sb_b (((σ) 1).1 j)))), ((y 2), .inr (1, [.ref (b2 2), .int (nI ((σ) 2).2.1), .int (nI ((σ) 2).2.2)])), ((b2 2), .inl (cB, M, .inl (fun j => sb_b (((σ) 2).1 j)))), ((y 3), .inr (1, [.ref (b2 3), .int (nI ((σ) 3).2.1), .int (nI ((σ) 3).2.2)])), ((b2 3), .inl (cB, M, .inl (fun j => sb_b (((σ) 3).1 j)))), (oa, .inl (cL, 1, .inr (.inl f0)))]) [0, 1, 2, 3, 4, 5, 6, 7, 8, 9, 10] rfl
  have hDc := hD.sub (ws' := [(hd, .inr (0, [.ref ra])), (ra, .inl (cR, 4, .inr (.inr (.inr (.inr g))))), ((y 0), .inr (1, [.ref (b2 0), .int (nI ((σ) 0).2.1), .int (nI ((σ) 0).2.2)])), ((b2 0), .inl (cB, M, .inl (fun j => sb_b (((σ) 0).1 j)))), ((y 1), .inr (1, [.ref (b2 1), .int (nI ((σ) 1).2.1), .int (nI ((σ) 1).2.2)])), ((b2 1), .inl (cB, M, .inl (fun j => sb_b (((σ) 1).1 j)))), ((y 2), .inr (1, [.ref (b2 2), .int (nI ((σ) 2).2.1), .int (nI ((σ) 2).2.2)])), ((b2 2), .inl (cB, M, .inl (fun j => sb_b (((σ) 2).1 j)))), ((y 3), .inr (1, [.ref (b2 3), .int (nI ((σ) 3).2.1), .int (nI ((σ) 3).2.2)])), ((b2 3), .inl (cB, M, .inl (fun j => sb_b (((σ) 3).1 j)))), (oa, .inl (cL, 1, .inr (.inl f0)))]) [0, 1, 2, 3, 4, 5, 6, 7, 8, 9, 10] (by decide) rfl
  have hKc := hK.sub (tys' := [(cB, .byte), (cR, .object "PacketDesk$Row"), (cL, .long)]) [0, 1, 2] rfl
  have hFc := va_free (wc := [(hd, .inr (0, [.ref ra])), (ra, .inl (cR, 4, .inr (.inr (.inr (.inr g))))), ((y 0), .inr (1, [.ref (b2 0), .int (nI ((σ) 0).2.1), .int (nI ((σ) 0).2.2)])), ((b2 0), .inl (cB, M, .inl (fun j => sb_b (((σ) 0).1 j)))), ((y 1), .inr (1, [.ref (b2 1), .int (nI ((σ) 1).2.1), .int (nI ((σ) 1).2.2)])), ((b2 1), .inl (cB, M, .inl (fun j => sb_b (((σ) 1).1 j)))), ((y 2), .inr (1, [.ref (b2 2), .int (nI ((σ) 2).2.1), .int (nI ((σ) 2).2.2)])), ((b2 2), .inl (cB, M, .inl (fun j => sb_b (((σ) 2).1 j)))), ((y 3), .inr (1, [.ref (b2 3), .int (nI ((σ) 3).2.1), .int (nI ((σ) 3).2.2)])), ((b2 3), .inl (cB, M, .inl (fun j => sb_b (((σ) 3).1 j)))), (oa, .inl (cL, 1, .inr (.inl f0)))]) hD hS hAq [0, 1, 2, 3, 4, 5, 6, 7, 8, 9, 10] rfl
  have hh9 : ∀ q : Nat, q < s.heap.size → H[q]? = s.heap[q]? := fun q h => hS.2.1 q h (Nat.not_le.mpr h)
  refine lx_wi (lx_runS (As := [.ref hd, .int (xs (i + 1)), .int (xs (i + 2)), .ref oa]) (rest := []) ⟨hx, hb, hml, hown, hA⟩ (c_L_block l hL0 D cR cB cL hd ra oa g M y b2 σ f0 H.size (xs (i + 1)) (xs (i + 2)) hg hσ) (q_L_block hA k2_4 rfl rfl ⟨(Nat.le_of_ble_eq_true rfl), (Nat.le_of_ble_eq_true rfl)⟩) (oxn_S hPc hKc hDc hG hh9 hN) rfl rfl hl.1 rfl (lv_room (Nat.le_of_ble_eq_true rfl)) d_L_law_634 ⟨(by show cells + 2 ≤ 601024; omega), (by show slots + 12 ≤ 7293000; omega)⟩) hS (fun q _ h => hFc q h) hFc (fun r5 u5 t9 H1 locs ht9 hvm9 hw5 hB9 hz1 hk1 hS => ?_)
  obtain ⟨τ5, f5⟩ := u5
  obtain ⟨hP1, hK1, hD1⟩ := hB9
  rw [ht9] at hP1
  obtain ⟨hP, hD⟩ := va_join (wr := [(hm, .inr (2, [.int th, .int (nI M), .ref cl, .ref sa, .ref pa, .int tk])), (cl, .inl (cL, 32768, .inr (.inl (pkF (σ))))), (sa, .inl (cI, 4, .inl (fun i9 => nI ((σ) i9).2.1))), (pa, .inl (cI, 4, .inl (fun i9 => nI ((σ) i9).2.2)))]) (w1 := [(hd, .inr (0, [.ref ra])), (ra, .inl (cR, 4, .inr (.inr (.inr (.inr g))))), ((y 0), .inr (1, [.ref (b2 0), .int (nI ((τ5) 0).2.1), .int (nI ((τ5) 0).2.2)])), ((b2 0), .inl (cB, M, .inl (fun j => sb_b (((τ5) 0).1 j)))), ((y 1), .inr (1, [.ref (b2 1), .int (nI ((τ5) 1).2.1), .int (nI ((τ5) 1).2.2)])), ((b2 1), .inl (cB, M, .inl (fun j => sb_b (((τ5) 1).1 j)))), ((y 2), .inr (1, [.ref (b2 2), .int (nI ((τ5) 2).2.1), .int (nI ((τ5) 2).2.2)])), ((b2 2), .inl (cB, M, .inl (fun j => sb_b (((τ5) 2).1 j)))), ((y 3), .inr (1, [.ref (b2 3), .int (nI ((τ5) 3).2.1), .int (nI ((τ5) 3).2.2)])), ((b2 3), .inl (cB, M, .inl (fun j => sb_b (((τ5) 3).1 j)))), (oa, .inl (cL, 1, .inr (.inl f5)))]) hP hD [0, 1, 2, 3, 4, 5, 6, 7, 8, 9, 10] [11, 12, 13, 14] rfl rfl (by decide) (by decide) hk1 hFc hP1 hD1
  generalize H1 = H at hP hS ⊢
  have hP : va_P D vCl [(hd, .inr (0, [.ref ra])), (ra, .inl (cR, 4, .inr (.inr (.inr (.inr g))))), ((y 0), .inr (1, [.ref (b2 0), .int (nI ((τ5) 0).2.1), .int (nI ((τ5) 0).2.2)])), ((b2 0), .inl (cB, M, .inl (fun j => sb_b (((τ5) 0).1 j)))), ((y 1), .inr (1, [.ref (b2 1), .int (nI ((τ5) 1).2.1), .int (nI ((τ5) 1).2.2)])), ((b2 1), .inl (cB, M, .inl (fun j => sb_b (((τ5) 1).1 j)))), ((y 2), .inr (1, [.ref (b2 2), .int (nI ((τ5) 2).2.1), .int (nI ((τ5) 2).2.2)])), ((b2 2), .inl (cB, M, .inl (fun j => sb_b (((τ5) 2).1 j)))), ((y 3), .inr (1, [.ref (b2 3), .int (nI ((τ5) 3).2.1), .int (nI ((τ5) 3).2.2)])), ((b2 3), .inl (cB, M, .inl (fun j => sb_b (((τ5) 3).1 j)))), (oa, .inl (cL, 1, .inr (.inl f5))), (hm, .inr (2, [.int th, .int (nI M), .ref cl, .ref sa, .ref pa, .int tk])), (cl, .inl (cL, 32768, .inr (.inl (pkF (σ))))), (sa, .inl (cI, 4, .inl (fun i9 => nI ((σ) i9).2.1))), (pa, .inl (cI, 4, .inl (fun i9 => nI ((σ) i9).2.2)))] H := hP.sub [4, 5, 6, 7, 8, 9, 10, 11, 12, 13, 14, 0, 1, 2, 3] rfl
  have hD : va_D (fun q : Nat => s.heap.size ≤ q) [(hd, .inr (0, [.ref ra])), (ra, .inl (cR, 4, .inr (.inr (.inr (.inr g))))), ((y 0), .inr (1, [.ref (b2 0), .int (nI ((τ5) 0).2.1), .int (nI ((τ5) 0).2.2)])), ((b2 0), .inl (cB, M, .inl (fun j => sb_b (((τ5) 0).1 j)))), ((y 1), .inr (1, [.ref (b2 1), .int (nI ((τ5) 1).2.1), .int (nI ((τ5) 1).2.2)])), ((b2 1), .inl (cB, M, .inl (fun j => sb_b (((τ5) 1).1 j)))), ((y 2), .inr (1, [.ref (b2 2), .int (nI ((τ5) 2).2.1), .int (nI ((τ5) 2).2.2)])), ((b2 2), .inl (cB, M, .inl (fun j => sb_b (((τ5) 2).1 j)))), ((y 3), .inr (1, [.ref (b2 3), .int (nI ((τ5) 3).2.1), .int (nI ((τ5) 3).2.2)])), ((b2 3), .inl (cB, M, .inl (fun j => sb_b (((τ5) 3).1 j)))), (oa, .inl (cL, 1, .inr (.inl f5))), (hm, .inr (2, [.int th, .int (nI M), .ref cl, .ref sa, .ref pa, .int tk])), (cl, .inl (cL, 32768, .inr (.inl (pkF (σ))))), (sa, .inl (cI, 4, .inl (fun i9 => nI ((σ) i9).2.1))), (pa, .inl (cI, 4, .inl (fun i9 => nI ((σ) i9).2.2)))] := hD.sub [4, 5, 6, 7, 8, 9, 10, 11, 12, 13, 14, 0, 1, 2, 3] (by decide) rfl
  obtain ⟨h51, h52, h53⟩ := hw5
  refine lv_istore (lv' := [(5, .int r5), (0, .ref b), (1, .ref hd), (2, .ref hm), (3, .ref oa), (4, .int (nI i))]) hx hb d_L_law_637 hl (by decide) rfl (fun ls hl => ?_)
  refine lv_aload_n hx hb d_L_law_639 rfl (lv_at hl 3 rfl) ?_
  refine lv_aload_n hx hb d_L_law_640 rfl (lv_at hl 1 rfl) ?_
  refine lv_iload hx hb d_L_law_641 (lv_at hl 5 rfl) ?_
  refine lv_iconst (v := 1) hx hb d_L_law_643 (by decide) ?_
  refine lv_iadd hx hb d_L_law_644 ?_
  refine lv_topi (fun v644 ev644 => ?_)
  have ev644 : v644 = nI (i + 1) := by rw [ev644]; exact nI_add i 1
  subst ev644
  refine va_sld hx hb hX hbl hbA hS (vp_in_nI (n := i + 1) (N := L) (by omega) (by omega)) d_L_law_645 ?_
  refine lv_topi (fun v645 ev645 => ?_)
  have ev645 : v645 = xs (i + 1) := by rw [ev645, nI_clamp (by omega)]
  subst ev645
  refine lv_aload_n hx hb d_L_law_646 rfl (lv_at hl 1 rfl) ?_
  refine lv_iload hx hb d_L_law_647 (lv_at hl 5 rfl) ?_
  refine lv_iconst (v := 2) hx hb d_L_law_649 (by decide) ?_
  refine lv_iadd hx hb d_L_law_650 ?_
  refine lv_topi (fun v650 ev650 => ?_)
  have ev650 : v650 = nI (i + 2) := by rw [ev650]; exact nI_add i 2
  subst ev650
  refine va_sld hx hb hX hbl hbA hS (vp_in_nI (n := i + 2) (N := L) (by omega) (by omega)) d_L_law_651 ?_
  refine lv_topi (fun v651 ev651 => ?_)
  have ev651 : v651 = xs (i + 2) := by rw [ev651, nI_clamp (by omega)]
  subst ev651
  have hPc := hP.sub (ws' := [(hm, .inr (2, [.int th, .int (nI M), .ref cl, .ref sa, .ref pa, .int tk])), (cl, .inl (cL, 32768, .inr (.inl (pkF (σ))))), (sa, .inl (cI, 4, .inl (fun i9 => nI ((σ) i9).2.1))), (pa, .inl (cI, 4, .inl (fun i9 => nI ((σ) i9).2.2)))]) [11, 12, 13, 14] rfl
  have hDc := hD.sub (ws' := [(hm, .inr (2, [.int th, .int (nI M), .ref cl, .ref sa, .ref pa, .int tk])), (cl, .inl (cL, 32768, .inr (.inl (pkF (σ))))), (sa, .inl (cI, 4, .inl (fun i9 => nI ((σ) i9).2.1))), (pa, .inl (cI, 4, .inl (fun i9 => nI ((σ) i9).2.2)))]) [11, 12, 13, 14] (by decide) rfl
  have hKc := hK.sub (tys' := [(cL, .long), (cI, .int)]) [2, 3] rfl
  have hFc := va_free (wc := [(hm, .inr (2, [.int th, .int (nI M), .ref cl, .ref sa, .ref pa, .int tk])), (cl, .inl (cL, 32768, .inr (.inl (pkF (σ))))), (sa, .inl (cI, 4, .inl (fun i9 => nI ((σ) i9).2.1))), (pa, .inl (cI, 4, .inl (fun i9 => nI ((σ) i9).2.2)))]) hD hS hAq [11, 12, 13, 14] rfl
  refine va_calli (va_runV (As := [.int (xs (i + 1)), .int (xs (i + 2))]) (rest := []) ⟨hx, hb, hml, hown, hA⟩ (c_M_block l D cL cI hm cl sa pa M th tk σ H.size (xs (i + 1)) (xs (i + 2)) hσ) (q_M_block hA k3_70 rfl rfl ⟨(Nat.le_of_ble_eq_true rfl), (Nat.le_of_ble_eq_true rfl)⟩) (ox_V (va_recv hKc hPc (ci := 2) (q0 := 0) rfl rfl) (oxw_S hPc hKc hDc)) rfl rfl hl.1 rfl (lv_room (Nat.le_of_ble_eq_true rfl)) d_L_law_652 ⟨(by show cells + 1 + 0 ≤ 601024; omega), (by show slots + 6 + 0 ≤ 7293000; omega)⟩) hS (fun q _ h => hFc q h) hFc (fun r8 u8 t9 H1 locs ht9 hvm9 hw8 hB9 hz1 hk1 hS => ?_)
  obtain ⟨c8, τ8, k8⟩ := u8
  replace hw8 : spBlock M σ (xs (i + 1)) (xs (i + 2)) = (c8, r8, τ8) := hw8
  obtain ⟨hP1, hK1, hD1⟩ := hB9
  rw [ht9] at hP1
  obtain ⟨hP, hD⟩ := va_join (wr := [(hd, .inr (0, [.ref ra])), (ra, .inl (cR, 4, .inr (.inr (.inr (.inr g))))), ((y 0), .inr (1, [.ref (b2 0), .int (nI ((τ5) 0).2.1), .int (nI ((τ5) 0).2.2)])), ((b2 0), .inl (cB, M, .inl (fun j => sb_b (((τ5) 0).1 j)))), ((y 1), .inr (1, [.ref (b2 1), .int (nI ((τ5) 1).2.1), .int (nI ((τ5) 1).2.2)])), ((b2 1), .inl (cB, M, .inl (fun j => sb_b (((τ5) 1).1 j)))), ((y 2), .inr (1, [.ref (b2 2), .int (nI ((τ5) 2).2.1), .int (nI ((τ5) 2).2.2)])), ((b2 2), .inl (cB, M, .inl (fun j => sb_b (((τ5) 2).1 j)))), ((y 3), .inr (1, [.ref (b2 3), .int (nI ((τ5) 3).2.1), .int (nI ((τ5) 3).2.2)])), ((b2 3), .inl (cB, M, .inl (fun j => sb_b (((τ5) 3).1 j)))), (oa, .inl (cL, 1, .inr (.inl f5)))]) (w1 := [(hm, .inr (2, [.int (nI c8), .int (nI M), .ref cl, .ref sa, .ref pa, .int k8])), (cl, .inl (cL, 32768, .inr (.inl (pkF (τ8))))), (sa, .inl (cI, 4, .inl (fun i9 => nI ((τ8) i9).2.1))), (pa, .inl (cI, 4, .inl (fun i9 => nI ((τ8) i9).2.2)))]) hP hD [11, 12, 13, 14] [0, 1, 2, 3, 4, 5, 6, 7, 8, 9, 10] rfl rfl (by decide) (by decide) hk1 hFc hP1 hD1
  generalize H1 = H at hP hS ⊢
  have hP : va_P D vCl [(hd, .inr (0, [.ref ra])), (ra, .inl (cR, 4, .inr (.inr (.inr (.inr g))))), ((y 0), .inr (1, [.ref (b2 0), .int (nI ((τ5) 0).2.1), .int (nI ((τ5) 0).2.2)])), ((b2 0), .inl (cB, M, .inl (fun j => sb_b (((τ5) 0).1 j)))), ((y 1), .inr (1, [.ref (b2 1), .int (nI ((τ5) 1).2.1), .int (nI ((τ5) 1).2.2)])), ((b2 1), .inl (cB, M, .inl (fun j => sb_b (((τ5) 1).1 j)))), ((y 2), .inr (1, [.ref (b2 2), .int (nI ((τ5) 2).2.1), .int (nI ((τ5) 2).2.2)])), ((b2 2), .inl (cB, M, .inl (fun j => sb_b (((τ5) 2).1 j)))), ((y 3), .inr (1, [.ref (b2 3), .int (nI ((τ5) 3).2.1), .int (nI ((τ5) 3).2.2)])), ((b2 3), .inl (cB, M, .inl (fun j => sb_b (((τ5) 3).1 j)))), (oa, .inl (cL, 1, .inr (.inl f5))), (hm, .inr (2, [.int (nI c8), .int (nI M), .ref cl, .ref sa, .ref pa, .int k8])), (cl, .inl (cL, 32768, .inr (.inl (pkF (τ8))))), (sa, .inl (cI, 4, .inl (fun i9 => nI ((τ8) i9).2.1))), (pa, .inl (cI, 4, .inl (fun i9 => nI ((τ8) i9).2.2)))] H := hP
  have hD : va_D (fun q : Nat => s.heap.size ≤ q) [(hd, .inr (0, [.ref ra])), (ra, .inl (cR, 4, .inr (.inr (.inr (.inr g))))), ((y 0), .inr (1, [.ref (b2 0), .int (nI ((τ5) 0).2.1), .int (nI ((τ5) 0).2.2)])), ((b2 0), .inl (cB, M, .inl (fun j => sb_b (((τ5) 0).1 j)))), ((y 1), .inr (1, [.ref (b2 1), .int (nI ((τ5) 1).2.1), .int (nI ((τ5) 1).2.2)])), ((b2 1), .inl (cB, M, .inl (fun j => sb_b (((τ5) 1).1 j)))), ((y 2), .inr (1, [.ref (b2 2), .int (nI ((τ5) 2).2.1), .int (nI ((τ5) 2).2.2)])), ((b2 2), .inl (cB, M, .inl (fun j => sb_b (((τ5) 2).1 j)))), ((y 3), .inr (1, [.ref (b2 3), .int (nI ((τ5) 3).2.1), .int (nI ((τ5) 3).2.2)])), ((b2 3), .inl (cB, M, .inl (fun j => sb_b (((τ5) 3).1 j)))), (oa, .inl (cL, 1, .inr (.inl f5))), (hm, .inr (2, [.int (nI c8), .int (nI M), .ref cl, .ref sa, .ref pa, .int k8])), (cl, .inl (cL, 32768, .inr (.inl (pkF (τ8))))), (sa, .inl (cI, 4, .inl (fun i9 => nI ((τ8) i9).2.1))), (pa, .inl (cI, 4, .inl (fun i9 => nI ((τ8) i9).2.2)))] := hD
  have hc8 : c8 ≤ 4 := by have h9 := le_spBlock M σ (xs (i + 1)) (xs (i + 2)); rw [hw8] at h9; exact h9
  have hσ8 : dkok M τ8 := by have h9 := ok_spBlock (M := M) (σ := σ) (xs (i + 1)) (xs (i + 2)) hσ; rw [hw8] at h9; exact h9
  rw [hw8] at h51 h52 h53
  have h51 : r5 = nI c8 := h51
  have h52 : τ5 = τ8 := h52
  have h53 : c8 = 0 → f5 0 = r8.toInt64 := h53
  subst h51
  subst h52
  refine lv_istore (lv' := [(6, .int r8), (5, .int (nI c8)), (0, .ref b), (1, .ref hd), (2, .ref hm), (3, .ref oa), (4, .int (nI i))]) hx hb d_L_law_655 hl (by decide) rfl (fun ls hl => ?_)
  refine lv_aload_n hx hb d_L_law_657 rfl (lv_at hl 4 rfl) ?_
  have hPc := hP.sub (ws' := [(hm, .inr (2, [.int (nI c8), .int (nI M), .ref cl, .ref sa, .ref pa, .int k8])), (cl, .inl (cL, 32768, .inr (.inl (pkF (τ5))))), (sa, .inl (cI, 4, .inl (fun i9 => nI ((τ5) i9).2.1))), (pa, .inl (cI, 4, .inl (fun i9 => nI ((τ5) i9).2.2)))]) [11, 12, 13, 14] rfl
  have hKc := hK.sub (tys' := [(cL, .long), (cI, .int)]) [2, 3] rfl
  refine vp_callSi (W.runV (As := []) (rest := []) ⟨hx, hb, hml, hown, hA⟩ (c_M_thrown l D cL cI hm cl sa pa M (nI c8) k8 τ5) (q_M_thrown hA k2_233 rfl rfl ⟨(Nat.le_of_ble_eq_true rfl), (Nat.le_of_ble_eq_true rfl)⟩) (ox_V (va_recv hKc hPc (ci := 2) (q0 := 0) rfl rfl) (ox_S hPc hKc)) rfl rfl hl.1 rfl (lv_room (Nat.le_of_ble_eq_true rfl)) d_L_law_658 ⟨(by show cells + 1 + 0 + 0 ≤ 601024; omega), (by show slots + 6 + 0 + 0 ≤ 7293000; omega)⟩) (fun r7 hr7 => ?_)
  subst hr7
  refine lv_iload hx hb d_L_law_661 (lv_at hl 1 rfl) ?_
  refine lv_icmp_eq (tgt := 668) hx hb d_L_law_663 (by decide) (fun _ => ?_) (fun q9 => absurd rfl q9)
  refine lv_iload hx hb d_L_law_668 (lv_at hl 1 rfl) ?_
  refine lv_if_ne (tgt := 685) hx hb d_L_law_670 (by decide) (fun c670 => ?_) (fun c670 => ?_)
  · refine lv_goto (tgt := 1700) hx hb d_L_law_685 (by decide) ?_
    exact K τ5 f5 (nI c8) k8 H locs hσ8 hP hD hS ls (lv_sub hl [2, 3, 4, 5, 6] rfl)
  · refine lv_aload_n hx hb d_L_law_673 rfl (lv_at hl 5 rfl) ?_
    refine lv_iconst (v := 0) hx hb d_L_law_674 (by decide) ?_
    have hc0 : c8 = 0 := (nI_eq (b := 0) (by omega) (by omega)).mp c670
    have h53 := h53 hc0
    refine va_lald hx hb hK hP 10 2 rfl rfl (by unfold vp_in; decide) d_L_law_675 ?_
    refine lv_topl (fun v675 ev675 => ?_)
    have ev675 : v675 = r8.toInt64 := by rw [ev675, sb_cl0]; exact h53
    subst ev675
    refine lv_iload hx hb d_L_law_676 (lv_at hl 0 rfl) ?_
    refine lv_i2l hx hb d_L_law_678 rfl ?_
    refine lv_topl (fun v678 ev678 => ?_)
    refine W.lcmp hx hb d_L_law_679 ?_
    refine lv_topi (fun v679 ev679 => ?_)
    refine lv_if_eq (tgt := 685) hx hb d_L_law_680 (by decide) (fun _ => ?_) (fun q9 => absurd (by rw [ev679, ev678]; exact (lg_cmp_eq _ _).mpr rfl) q9)
    refine lv_goto (tgt := 1700) hx hb d_L_law_685 (by decide) ?_
    exact K τ5 f5 (nI c8) k8 H locs hσ8 hP hD hS ls (lv_sub hl [2, 3, 4, 5, 6] rfl)
set_option maxHeartbeats 2000000 in
set_option maxRecDepth 100000 in
/-- the law at frame -/
theorem k_frame {p : Program} {l : Launch} {e : Env} {s : State} {m : MethodId} {below : List Frame} {meth : Method} {c : Code} (hL0 : l.stackTraces = false) {b L : Nat} {xs : Nat → Int32} (hL : L ≤ 2561) (hx : p.tables.exec = Jvm.exec) (hb : c.code = code) (hml : c.maxLocals = 8) (hown : s.vm.findClass R_L = some m.cls) (hA : ∀ w ∈ wsA, w.before #[Value.ref b] s = true) (hX : va_X b L xs s s.heap) (hbl : b < s.heap.size) (hG : tx_G s) (hN : tx_N s) {D : va_G} {cR cB cL cI : ClassId} {hd ra oa hm cl sa pa : Nat} {g : Nat → Option Nat} {M : Nat} {y b2 : Nat → Nat} (hg : ∀ i, i < 4 → g i = some (y i)) (hK : va_K D vCl [(cB, .byte), (cR, .object "PacketDesk$Row"), (cL, .long), (cI, .int)] s) (σ : dkS) (f0 : Nat → Int64) (th tk : Int32) (hσ : dkok M σ) (i : Nat) (hi : i + 5 ≤ L) (cells slots : Nat) (hce : cells + 10 ≤ 601024) (hsl : slots + 100 ≤ 7293000) (H : Heap) (locs : List Loc) (hP : va_P D vCl [(hd, .inr (0, [.ref ra])), (ra, .inl (cR, 4, .inr (.inr (.inr (.inr g))))), ((y 0), .inr (1, [.ref (b2 0), .int (nI ((σ) 0).2.1), .int (nI ((σ) 0).2.2)])), ((b2 0), .inl (cB, M, .inl (fun j => sb_b (((σ) 0).1 j)))), ((y 1), .inr (1, [.ref (b2 1), .int (nI ((σ) 1).2.1), .int (nI ((σ) 1).2.2)])), ((b2 1), .inl (cB, M, .inl (fun j => sb_b (((σ) 1).1 j)))), ((y 2), .inr (1, [.ref (b2 2), .int (nI ((σ) 2).2.1), .int (nI ((σ) 2).2.2)])), ((b2 2), .inl (cB, M, .inl (fun j => sb_b (((σ) 2).1 j)))), ((y 3), .inr (1, [.ref (b2 3), .int (nI ((σ) 3).2.1), .int (nI ((σ) 3).2.2)])), ((b2 3), .inl (cB, M, .inl (fun j => sb_b (((σ) 3).1 j)))), (oa, .inl (cL, 1, .inr (.inl f0))), (hm, .inr (2, [.int th, .int (nI M), .ref cl, .ref sa, .ref pa, .int tk])), (cl, .inl (cL, 32768, .inr (.inl (pkF (σ))))), (sa, .inl (cI, 4, .inl (fun i9 => nI ((σ) i9).2.1))), (pa, .inl (cI, 4, .inl (fun i9 => nI ((σ) i9).2.2)))] H) (hD : va_D (fun q : Nat => s.heap.size ≤ q) [(hd, .inr (0, [.ref ra])), (ra, .inl (cR, 4, .inr (.inr (.inr (.inr g))))), ((y 0), .inr (1, [.ref (b2 0), .int (nI ((σ) 0).2.1), .int (nI ((σ) 0).2.2)])), ((b2 0), .inl (cB, M, .inl (fun j => sb_b (((σ) 0).1 j)))), ((y 1), .inr (1, [.ref (b2 1), .int (nI ((σ) 1).2.1), .int (nI ((σ) 1).2.2)])), ((b2 1), .inl (cB, M, .inl (fun j => sb_b (((σ) 1).1 j)))), ((y 2), .inr (1, [.ref (b2 2), .int (nI ((σ) 2).2.1), .int (nI ((σ) 2).2.2)])), ((b2 2), .inl (cB, M, .inl (fun j => sb_b (((σ) 2).1 j)))), ((y 3), .inr (1, [.ref (b2 3), .int (nI ((σ) 3).2.1), .int (nI ((σ) 3).2.2)])), ((b2 3), .inl (cB, M, .inl (fun j => sb_b (((σ) 3).1 j)))), (oa, .inl (cL, 1, .inr (.inl f0))), (hm, .inr (2, [.int th, .int (nI M), .ref cl, .ref sa, .ref pa, .int tk])), (cl, .inl (cL, 32768, .inr (.inl (pkF (σ))))), (sa, .inl (cI, 4, .inl (fun i9 => nI ((σ) i9).2.1))), (pa, .inl (cI, 4, .inl (fun i9 => nI ((σ) i9).2.2)))]) (hS : va_S (fun q : Nat => s.heap.size ≤ q) s.heap H locs) (ls : Array Slot) (hl : lv_has ls 8 [(0, .ref b), (1, .ref hd), (2, .ref hm), (3, .ref oa), (4, .int (nI i))]) (K : ∀ (σ' : dkS) (f' : Nat → Int64) (th' tk' : Int32) (H' : Heap) (locs' : List Loc), dkok M σ' → va_P D vCl [(hd, .inr (0, [.ref ra])), (ra, .inl (cR, 4, .inr (.inr (.inr (.inr g))))), ((y 0), .inr (1, [.ref (b2 0), .int (nI ((σ') 0).2.1), .int (nI ((σ') 0).2.2)])), ((b2 0), .inl (cB, M, .inl (fun j => sb_b (((σ') 0).1 j)))), ((y 1), .inr (1, [.ref (b2 1), .int (nI ((σ') 1).2.1), .int (nI ((σ') 1).2.2)])), ((b2 1), .inl (cB, M, .inl (fun j => sb_b (((σ') 1).1 j)))), ((y 2), .inr (1, [.ref (b2 2), .int (nI ((σ') 2).2.1), .int (nI ((σ') 2).2.2)])), ((b2 2), .inl (cB, M, .inl (fun j => sb_b (((σ') 2).1 j)))), ((y 3), .inr (1, [.ref (b2 3), .int (nI ((σ') 3).2.1), .int (nI ((σ') 3).2.2)])), ((b2 3), .inl (cB, M, .inl (fun j => sb_b (((σ') 3).1 j)))), (oa, .inl (cL, 1, .inr (.inl f'))), (hm, .inr (2, [.int th', .int (nI M), .ref cl, .ref sa, .ref pa, .int tk'])), (cl, .inl (cL, 32768, .inr (.inl (pkF (σ'))))), (sa, .inl (cI, 4, .inl (fun i9 => nI ((σ') i9).2.1))), (pa, .inl (cI, 4, .inl (fun i9 => nI ((σ') i9).2.2)))] H' → va_D (fun q : Nat => s.heap.size ≤ q) [(hd, .inr (0, [.ref ra])), (ra, .inl (cR, 4, .inr (.inr (.inr (.inr g))))), ((y 0), .inr (1, [.ref (b2 0), .int (nI ((σ') 0).2.1), .int (nI ((σ') 0).2.2)])), ((b2 0), .inl (cB, M, .inl (fun j => sb_b (((σ') 0).1 j)))), ((y 1), .inr (1, [.ref (b2 1), .int (nI ((σ') 1).2.1), .int (nI ((σ') 1).2.2)])), ((b2 1), .inl (cB, M, .inl (fun j => sb_b (((σ') 1).1 j)))), ((y 2), .inr (1, [.ref (b2 2), .int (nI ((σ') 2).2.1), .int (nI ((σ') 2).2.2)])), ((b2 2), .inl (cB, M, .inl (fun j => sb_b (((σ') 2).1 j)))), ((y 3), .inr (1, [.ref (b2 3), .int (nI ((σ') 3).2.1), .int (nI ((σ') 3).2.2)])), ((b2 3), .inl (cB, M, .inl (fun j => sb_b (((σ') 3).1 j)))), (oa, .inl (cL, 1, .inr (.inl f'))), (hm, .inr (2, [.int th', .int (nI M), .ref cl, .ref sa, .ref pa, .int tk'])), (cl, .inl (cL, 32768, .inr (.inl (pkF (σ'))))), (sa, .inl (cI, 4, .inl (fun i9 => nI ((σ') i9).2.1))), (pa, .inl (cI, 4, .inl (fun i9 => nI ((σ') i9).2.2)))] → va_S (fun q : Nat => s.heap.size ≤ q) s.heap H' locs' → ∀ ls' : Array Slot, lv_has ls' 8 [(0, .ref b), (1, .ref hd), (2, .ref hm), (3, .ref oa), (4, .int (nI i))] → W p l e room_1 s m #[Value.ref b] below meth c H' locs' (cells + 1) (slots + 6) (lw_Z below #[Value.ref b] s) (F0 m 1700 ls' [])) : W p l e room_1 s m #[Value.ref b] below meth c H locs cells slots (lw_Z below #[Value.ref b] s) (F0 m 688 ls []) := by
  have hAq : ∀ q : Nat, s.heap.size ≤ q → (fun q : Nat => s.heap.size ≤ q) q := fun _ h => h
  have hbA : ¬ (fun q : Nat => s.heap.size ≤ q) b := Nat.not_le.mpr hbl
  refine lv_aload_n hx hb d_L_law_688 rfl (lv_at hl 1 rfl) ?_
  refine lv_aload_n hx hb d_L_law_689 rfl (lv_at hl 0 rfl) ?_
  refine lv_iload hx hb d_L_law_690 (lv_at hl 4 rfl) ?_
  refine lv_iconst (v := 1) hx hb d_L_law_692 (by decide) ?_
  refine lv_iadd hx hb d_L_law_693 ?_
  refine lv_topi (fun v693 ev693 => ?_)
  have ev693 : v693 = nI (i + 1) := by rw [ev693]; exact nI_add i 1
  subst ev693
  refine va_sld hx hb hX hbl hbA hS (vp_in_nI (n := i + 1) (N := L) (by omega) (by omega)) d_L_law_694 ?_
  refine lv_topi (fun v694 ev694 => ?_)
  have ev694 : v694 = xs (i + 1) := by rw [ev694, nI_clamp (by omega)]
  subst ev694
  refine lv_aload_n hx hb d_L_law_695 rfl (lv_at hl 0 rfl) ?_
  refine lv_iload hx hb d_L_law_696 (lv_at hl 4 rfl) ?_
  refine lv_iconst (v := 2) hx hb d_L_law_698 (by decide) ?_
  refine lv_iadd hx hb d_L_law_699 ?_
  refine lv_topi (fun v699 ev699 => ?_)
  have ev699 : v699 = nI (i + 2) := by rw [ev699]; exact nI_add i 2
  subst ev699
  refine va_sld hx hb hX hbl hbA hS (vp_in_nI (n := i + 2) (N := L) (by omega) (by omega)) d_L_law_700 ?_
  refine lv_topi (fun v700 ev700 => ?_)
  have ev700 : v700 = xs (i + 2) := by rw [ev700, nI_clamp (by omega)]
  subst ev700
  refine lv_aload_n hx hb d_L_law_701 rfl (lv_at hl 3 rfl) ?_
  have hPc := hP.sub (ws' := [(hd, .inr (0, [.ref ra])), (ra, .inl (cR, 4, .inr (.inr (.inr (.inr g))))), ((y 0), .inr (1, [.ref (b2 0), .int (nI ((σ) 0).2.1), .int (nI ((σ) 0).2.2)])), ((b2 0), .inl (cB, M, .inl (fun j => sb_b (((σ) 0).1 j)))), ((y 1), .inr (1, [.ref (b2 1), .int (nI ((σ) 1).2.1), .int (nI ((σ) 1).2.2)])), ((b2 1), .inl (cB, M, .inl (fun j => sb_b (((σ) 1).1 j)))), ((y 2), .inr (1, [.ref (b2 2), .int (nI ((σ) 2).2.1), .int (nI ((σ) 2).2.2)])), ((b2 2), .inl (cB, M, .inl (fun j => sb_b (((σ) 2).1 j)))), ((y 3), .inr (1, [.ref (b2 3), .int (nI ((σ) 3).2.1), .int (nI ((σ) 3).2.2)])), ((b2 3), .inl (cB, M, .inl (fun j => sb_b (((σ) 3).1 j)))), (oa, .inl (cL, 1, .inr (.inl f0)))]) [0, 1, 2, 3, 4, 5, 6, 7, 8, 9, 10] rfl
  have hDc := hD.sub (ws' := [(hd, .inr (0, [.ref ra])), (ra, .inl (cR, 4, .inr (.inr (.inr (.inr g))))), ((y 0), .inr (1, [.ref (b2 0), .int (nI ((σ) 0).2.1), .int (nI ((σ) 0).2.2)])), ((b2 0), .inl (cB, M, .inl (fun j => sb_b (((σ) 0).1 j)))), ((y 1), .inr (1, [.ref (b2 1), .int (nI ((σ) 1).2.1), .int (nI ((σ) 1).2.2)])), ((b2 1), .inl (cB, M, .inl (fun j => sb_b (((σ) 1).1 j)))), ((y 2), .inr (1, [.ref (b2 2), .int (nI ((σ) 2).2.1), .int (nI ((σ) 2).2.2)])), ((b2 2), .inl (cB, M, .inl (fun j => sb_b (((σ) 2).1 j)))), ((y 3), .inr (1, [.ref (b2 3), .int (nI ((σ) 3).2.1), .int (nI ((σ) 3).2.2)])), ((b2 3), .inl (cB, M, .inl (fun j => sb_b (((σ) 3).1 j)))), (oa, .inl (cL, 1, .inr (.inl f0)))]) [0, 1, 2, 3, 4, 5, 6, 7, 8, 9, 10] (by decide) rfl
  have hKc := hK.sub (tys' := [(cB, .byte), (cR, .object "PacketDesk$Row"), (cL, .long)]) [0, 1, 2] rfl
  have hFc := va_free (wc := [(hd, .inr (0, [.ref ra])), (ra, .inl (cR, 4, .inr (.inr (.inr (.inr g))))), ((y 0), .inr (1, [.ref (b2 0), .int (nI ((σ) 0).2.1), .int (nI ((σ) 0).2.2)])), ((b2 0), .inl (cB, M, .inl (fun j => sb_b (((σ) 0).1 j)))), ((y 1), .inr (1, [.ref (b2 1), .int (nI ((σ) 1).2.1), .int (nI ((σ) 1).2.2)])), ((b2 1), .inl (cB, M, .inl (fun j => sb_b (((σ) 1).1 j)))), ((y 2), .inr (1, [.ref (b2 2), .int (nI ((σ) 2).2.1), .int (nI ((σ) 2).2.2)])), ((b2 2), .inl (cB, M, .inl (fun j => sb_b (((σ) 2).1 j)))), ((y 3), .inr (1, [.ref (b2 3), .int (nI ((σ) 3).2.1), .int (nI ((σ) 3).2.2)])), ((b2 3), .inl (cB, M, .inl (fun j => sb_b (((σ) 3).1 j)))), (oa, .inl (cL, 1, .inr (.inl f0)))]) hD hS hAq [0, 1, 2, 3, 4, 5, 6, 7, 8, 9, 10] rfl
  have hh9 : ∀ q : Nat, q < s.heap.size → H[q]? = s.heap[q]? := fun q h => hS.2.1 q h (Nat.not_le.mpr h)
  refine lx_wi (lx_runS (As := [.ref hd, .int (xs (i + 1)), .int (xs (i + 2)), .ref oa]) (rest := []) ⟨hx, hb, hml, hown, hA⟩ (c_L_frame l hL0 D cR cB cL hd ra oa g M y b2 σ f0 H.size (xs (i + 1)) (xs (i + 2)) hg hσ) (q_L_frame hA k2_11 rfl rfl ⟨(Nat.le_of_ble_eq_true rfl), (Nat.le_of_ble_eq_true rfl)⟩) (oxn_S hPc hKc hDc hG hh9 hN) rfl rfl hl.1 rfl (lv_room (Nat.le_of_ble_eq_true rfl)) d_L_law_702 ⟨(by show cells + 2 ≤ 601024; omega), (by show slots + 12 ≤ 7293000; omega)⟩) hS (fun q _ h => hFc q h) hFc (fun r5 u5 t9 H1 locs ht9 hvm9 hw5 hB9 hz1 hk1 hS => ?_)
  obtain ⟨τ5, f5⟩ := u5
  obtain ⟨hP1, hK1, hD1⟩ := hB9
  rw [ht9] at hP1
  obtain ⟨hP, hD⟩ := va_join (wr := [(hm, .inr (2, [.int th, .int (nI M), .ref cl, .ref sa, .ref pa, .int tk])), (cl, .inl (cL, 32768, .inr (.inl (pkF (σ))))), (sa, .inl (cI, 4, .inl (fun i9 => nI ((σ) i9).2.1))), (pa, .inl (cI, 4, .inl (fun i9 => nI ((σ) i9).2.2)))]) (w1 := [(hd, .inr (0, [.ref ra])), (ra, .inl (cR, 4, .inr (.inr (.inr (.inr g))))), ((y 0), .inr (1, [.ref (b2 0), .int (nI ((τ5) 0).2.1), .int (nI ((τ5) 0).2.2)])), ((b2 0), .inl (cB, M, .inl (fun j => sb_b (((τ5) 0).1 j)))), ((y 1), .inr (1, [.ref (b2 1), .int (nI ((τ5) 1).2.1), .int (nI ((τ5) 1).2.2)])), ((b2 1), .inl (cB, M, .inl (fun j => sb_b (((τ5) 1).1 j)))), ((y 2), .inr (1, [.ref (b2 2), .int (nI ((τ5) 2).2.1), .int (nI ((τ5) 2).2.2)])), ((b2 2), .inl (cB, M, .inl (fun j => sb_b (((τ5) 2).1 j)))), ((y 3), .inr (1, [.ref (b2 3), .int (nI ((τ5) 3).2.1), .int (nI ((τ5) 3).2.2)])), ((b2 3), .inl (cB, M, .inl (fun j => sb_b (((τ5) 3).1 j)))), (oa, .inl (cL, 1, .inr (.inl f5)))]) hP hD [0, 1, 2, 3, 4, 5, 6, 7, 8, 9, 10] [11, 12, 13, 14] rfl rfl (by decide) (by decide) hk1 hFc hP1 hD1
  generalize H1 = H at hP hS ⊢
  have hP : va_P D vCl [(hd, .inr (0, [.ref ra])), (ra, .inl (cR, 4, .inr (.inr (.inr (.inr g))))), ((y 0), .inr (1, [.ref (b2 0), .int (nI ((τ5) 0).2.1), .int (nI ((τ5) 0).2.2)])), ((b2 0), .inl (cB, M, .inl (fun j => sb_b (((τ5) 0).1 j)))), ((y 1), .inr (1, [.ref (b2 1), .int (nI ((τ5) 1).2.1), .int (nI ((τ5) 1).2.2)])), ((b2 1), .inl (cB, M, .inl (fun j => sb_b (((τ5) 1).1 j)))), ((y 2), .inr (1, [.ref (b2 2), .int (nI ((τ5) 2).2.1), .int (nI ((τ5) 2).2.2)])), ((b2 2), .inl (cB, M, .inl (fun j => sb_b (((τ5) 2).1 j)))), ((y 3), .inr (1, [.ref (b2 3), .int (nI ((τ5) 3).2.1), .int (nI ((τ5) 3).2.2)])), ((b2 3), .inl (cB, M, .inl (fun j => sb_b (((τ5) 3).1 j)))), (oa, .inl (cL, 1, .inr (.inl f5))), (hm, .inr (2, [.int th, .int (nI M), .ref cl, .ref sa, .ref pa, .int tk])), (cl, .inl (cL, 32768, .inr (.inl (pkF (σ))))), (sa, .inl (cI, 4, .inl (fun i9 => nI ((σ) i9).2.1))), (pa, .inl (cI, 4, .inl (fun i9 => nI ((σ) i9).2.2)))] H := hP.sub [4, 5, 6, 7, 8, 9, 10, 11, 12, 13, 14, 0, 1, 2, 3] rfl
  have hD : va_D (fun q : Nat => s.heap.size ≤ q) [(hd, .inr (0, [.ref ra])), (ra, .inl (cR, 4, .inr (.inr (.inr (.inr g))))), ((y 0), .inr (1, [.ref (b2 0), .int (nI ((τ5) 0).2.1), .int (nI ((τ5) 0).2.2)])), ((b2 0), .inl (cB, M, .inl (fun j => sb_b (((τ5) 0).1 j)))), ((y 1), .inr (1, [.ref (b2 1), .int (nI ((τ5) 1).2.1), .int (nI ((τ5) 1).2.2)])), ((b2 1), .inl (cB, M, .inl (fun j => sb_b (((τ5) 1).1 j)))), ((y 2), .inr (1, [.ref (b2 2), .int (nI ((τ5) 2).2.1), .int (nI ((τ5) 2).2.2)])), ((b2 2), .inl (cB, M, .inl (fun j => sb_b (((τ5) 2).1 j)))), ((y 3), .inr (1, [.ref (b2 3), .int (nI ((τ5) 3).2.1), .int (nI ((τ5) 3).2.2)])), ((b2 3), .inl (cB, M, .inl (fun j => sb_b (((τ5) 3).1 j)))), (oa, .inl (cL, 1, .inr (.inl f5))), (hm, .inr (2, [.int th, .int (nI M), .ref cl, .ref sa, .ref pa, .int tk])), (cl, .inl (cL, 32768, .inr (.inl (pkF (σ))))), (sa, .inl (cI, 4, .inl (fun i9 => nI ((σ) i9).2.1))), (pa, .inl (cI, 4, .inl (fun i9 => nI ((σ) i9).2.2)))] := hD.sub [4, 5, 6, 7, 8, 9, 10, 11, 12, 13, 14, 0, 1, 2, 3] (by decide) rfl
  obtain ⟨h51, h52, h53⟩ := hw5
  refine lv_istore (lv' := [(5, .int r5), (0, .ref b), (1, .ref hd), (2, .ref hm), (3, .ref oa), (4, .int (nI i))]) hx hb d_L_law_705 hl (by decide) rfl (fun ls hl => ?_)
  refine lv_aload_n hx hb d_L_law_707 rfl (lv_at hl 3 rfl) ?_
  refine lv_aload_n hx hb d_L_law_708 rfl (lv_at hl 1 rfl) ?_
  refine lv_iload hx hb d_L_law_709 (lv_at hl 5 rfl) ?_
  refine lv_iconst (v := 1) hx hb d_L_law_711 (by decide) ?_
  refine lv_iadd hx hb d_L_law_712 ?_
  refine lv_topi (fun v712 ev712 => ?_)
  have ev712 : v712 = nI (i + 1) := by rw [ev712]; exact nI_add i 1
  subst ev712
  refine va_sld hx hb hX hbl hbA hS (vp_in_nI (n := i + 1) (N := L) (by omega) (by omega)) d_L_law_713 ?_
  refine lv_topi (fun v713 ev713 => ?_)
  have ev713 : v713 = xs (i + 1) := by rw [ev713, nI_clamp (by omega)]
  subst ev713
  refine lv_aload_n hx hb d_L_law_714 rfl (lv_at hl 1 rfl) ?_
  refine lv_iload hx hb d_L_law_715 (lv_at hl 5 rfl) ?_
  refine lv_iconst (v := 2) hx hb d_L_law_717 (by decide) ?_
  refine lv_iadd hx hb d_L_law_718 ?_
  refine lv_topi (fun v718 ev718 => ?_)
  have ev718 : v718 = nI (i + 2) := by rw [ev718]; exact nI_add i 2
  subst ev718
  refine va_sld hx hb hX hbl hbA hS (vp_in_nI (n := i + 2) (N := L) (by omega) (by omega)) d_L_law_719 ?_
  refine lv_topi (fun v719 ev719 => ?_)
  have ev719 : v719 = xs (i + 2) := by rw [ev719, nI_clamp (by omega)]
  subst ev719
  have hPc := hP.sub (ws' := [(hm, .inr (2, [.int th, .int (nI M), .ref cl, .ref sa, .ref pa, .int tk])), (cl, .inl (cL, 32768, .inr (.inl (pkF (σ))))), (sa, .inl (cI, 4, .inl (fun i9 => nI ((σ) i9).2.1))), (pa, .inl (cI, 4, .inl (fun i9 => nI ((σ) i9).2.2)))]) [11, 12, 13, 14] rfl
  have hDc := hD.sub (ws' := [(hm, .inr (2, [.int th, .int (nI M), .ref cl, .ref sa, .ref pa, .int tk])), (cl, .inl (cL, 32768, .inr (.inl (pkF (σ))))), (sa, .inl (cI, 4, .inl (fun i9 => nI ((σ) i9).2.1))), (pa, .inl (cI, 4, .inl (fun i9 => nI ((σ) i9).2.2)))]) [11, 12, 13, 14] (by decide) rfl
  have hKc := hK.sub (tys' := [(cL, .long), (cI, .int)]) [2, 3] rfl
  have hFc := va_free (wc := [(hm, .inr (2, [.int th, .int (nI M), .ref cl, .ref sa, .ref pa, .int tk])), (cl, .inl (cL, 32768, .inr (.inl (pkF (σ))))), (sa, .inl (cI, 4, .inl (fun i9 => nI ((σ) i9).2.1))), (pa, .inl (cI, 4, .inl (fun i9 => nI ((σ) i9).2.2)))]) hD hS hAq [11, 12, 13, 14] rfl
  refine va_calli (va_runV (As := [.int (xs (i + 1)), .int (xs (i + 2))]) (rest := []) ⟨hx, hb, hml, hown, hA⟩ (c_M_frame l D cL cI hm cl sa pa M th tk σ H.size (xs (i + 1)) (xs (i + 2)) hσ) (q_M_frame hA k3_83 rfl rfl ⟨(Nat.le_of_ble_eq_true rfl), (Nat.le_of_ble_eq_true rfl)⟩) (ox_V (va_recv hKc hPc (ci := 2) (q0 := 0) rfl rfl) (oxw_S hPc hKc hDc)) rfl rfl hl.1 rfl (lv_room (Nat.le_of_ble_eq_true rfl)) d_L_law_720 ⟨(by show cells + 1 + 0 ≤ 601024; omega), (by show slots + 6 + 0 ≤ 7293000; omega)⟩) hS (fun q _ h => hFc q h) hFc (fun r8 u8 t9 H1 locs ht9 hvm9 hw8 hB9 hz1 hk1 hS => ?_)
  obtain ⟨c8, τ8, k8⟩ := u8
  replace hw8 : spFrame M σ (xs (i + 1)) (xs (i + 2)) = (c8, r8, τ8) := hw8
  obtain ⟨hP1, hK1, hD1⟩ := hB9
  rw [ht9] at hP1
  obtain ⟨hP, hD⟩ := va_join (wr := [(hd, .inr (0, [.ref ra])), (ra, .inl (cR, 4, .inr (.inr (.inr (.inr g))))), ((y 0), .inr (1, [.ref (b2 0), .int (nI ((τ5) 0).2.1), .int (nI ((τ5) 0).2.2)])), ((b2 0), .inl (cB, M, .inl (fun j => sb_b (((τ5) 0).1 j)))), ((y 1), .inr (1, [.ref (b2 1), .int (nI ((τ5) 1).2.1), .int (nI ((τ5) 1).2.2)])), ((b2 1), .inl (cB, M, .inl (fun j => sb_b (((τ5) 1).1 j)))), ((y 2), .inr (1, [.ref (b2 2), .int (nI ((τ5) 2).2.1), .int (nI ((τ5) 2).2.2)])), ((b2 2), .inl (cB, M, .inl (fun j => sb_b (((τ5) 2).1 j)))), ((y 3), .inr (1, [.ref (b2 3), .int (nI ((τ5) 3).2.1), .int (nI ((τ5) 3).2.2)])), ((b2 3), .inl (cB, M, .inl (fun j => sb_b (((τ5) 3).1 j)))), (oa, .inl (cL, 1, .inr (.inl f5)))]) (w1 := [(hm, .inr (2, [.int (nI c8), .int (nI M), .ref cl, .ref sa, .ref pa, .int k8])), (cl, .inl (cL, 32768, .inr (.inl (pkF (τ8))))), (sa, .inl (cI, 4, .inl (fun i9 => nI ((τ8) i9).2.1))), (pa, .inl (cI, 4, .inl (fun i9 => nI ((τ8) i9).2.2)))]) hP hD [11, 12, 13, 14] [0, 1, 2, 3, 4, 5, 6, 7, 8, 9, 10] rfl rfl (by decide) (by decide) hk1 hFc hP1 hD1
  generalize H1 = H at hP hS ⊢
  have hP : va_P D vCl [(hd, .inr (0, [.ref ra])), (ra, .inl (cR, 4, .inr (.inr (.inr (.inr g))))), ((y 0), .inr (1, [.ref (b2 0), .int (nI ((τ5) 0).2.1), .int (nI ((τ5) 0).2.2)])), ((b2 0), .inl (cB, M, .inl (fun j => sb_b (((τ5) 0).1 j)))), ((y 1), .inr (1, [.ref (b2 1), .int (nI ((τ5) 1).2.1), .int (nI ((τ5) 1).2.2)])), ((b2 1), .inl (cB, M, .inl (fun j => sb_b (((τ5) 1).1 j)))), ((y 2), .inr (1, [.ref (b2 2), .int (nI ((τ5) 2).2.1), .int (nI ((τ5) 2).2.2)])), ((b2 2), .inl (cB, M, .inl (fun j => sb_b (((τ5) 2).1 j)))), ((y 3), .inr (1, [.ref (b2 3), .int (nI ((τ5) 3).2.1), .int (nI ((τ5) 3).2.2)])), ((b2 3), .inl (cB, M, .inl (fun j => sb_b (((τ5) 3).1 j)))), (oa, .inl (cL, 1, .inr (.inl f5))), (hm, .inr (2, [.int (nI c8), .int (nI M), .ref cl, .ref sa, .ref pa, .int k8])), (cl, .inl (cL, 32768, .inr (.inl (pkF (τ8))))), (sa, .inl (cI, 4, .inl (fun i9 => nI ((τ8) i9).2.1))), (pa, .inl (cI, 4, .inl (fun i9 => nI ((τ8) i9).2.2)))] H := hP
  have hD : va_D (fun q : Nat => s.heap.size ≤ q) [(hd, .inr (0, [.ref ra])), (ra, .inl (cR, 4, .inr (.inr (.inr (.inr g))))), ((y 0), .inr (1, [.ref (b2 0), .int (nI ((τ5) 0).2.1), .int (nI ((τ5) 0).2.2)])), ((b2 0), .inl (cB, M, .inl (fun j => sb_b (((τ5) 0).1 j)))), ((y 1), .inr (1, [.ref (b2 1), .int (nI ((τ5) 1).2.1), .int (nI ((τ5) 1).2.2)])), ((b2 1), .inl (cB, M, .inl (fun j => sb_b (((τ5) 1).1 j)))), ((y 2), .inr (1, [.ref (b2 2), .int (nI ((τ5) 2).2.1), .int (nI ((τ5) 2).2.2)])), ((b2 2), .inl (cB, M, .inl (fun j => sb_b (((τ5) 2).1 j)))), ((y 3), .inr (1, [.ref (b2 3), .int (nI ((τ5) 3).2.1), .int (nI ((τ5) 3).2.2)])), ((b2 3), .inl (cB, M, .inl (fun j => sb_b (((τ5) 3).1 j)))), (oa, .inl (cL, 1, .inr (.inl f5))), (hm, .inr (2, [.int (nI c8), .int (nI M), .ref cl, .ref sa, .ref pa, .int k8])), (cl, .inl (cL, 32768, .inr (.inl (pkF (τ8))))), (sa, .inl (cI, 4, .inl (fun i9 => nI ((τ8) i9).2.1))), (pa, .inl (cI, 4, .inl (fun i9 => nI ((τ8) i9).2.2)))] := hD
  have hc8 : c8 ≤ 4 := by have h9 := le_spFrame M σ (xs (i + 1)) (xs (i + 2)); rw [hw8] at h9; exact h9
  have hσ8 : dkok M τ8 := by have h9 := ok_spFrame (M := M) (σ := σ) (xs (i + 1)) (xs (i + 2)) hσ; rw [hw8] at h9; exact h9
  rw [hw8] at h51 h52 h53
  have h51 : r5 = nI c8 := h51
  have h52 : τ5 = τ8 := h52
  have h53 : c8 = 0 → f5 0 = r8.toInt64 := h53
  subst h51
  subst h52
  refine lv_istore (lv' := [(6, .int r8), (5, .int (nI c8)), (0, .ref b), (1, .ref hd), (2, .ref hm), (3, .ref oa), (4, .int (nI i))]) hx hb d_L_law_723 hl (by decide) rfl (fun ls hl => ?_)
  refine lv_aload_n hx hb d_L_law_725 rfl (lv_at hl 4 rfl) ?_
  have hPc := hP.sub (ws' := [(hm, .inr (2, [.int (nI c8), .int (nI M), .ref cl, .ref sa, .ref pa, .int k8])), (cl, .inl (cL, 32768, .inr (.inl (pkF (τ5))))), (sa, .inl (cI, 4, .inl (fun i9 => nI ((τ5) i9).2.1))), (pa, .inl (cI, 4, .inl (fun i9 => nI ((τ5) i9).2.2)))]) [11, 12, 13, 14] rfl
  have hKc := hK.sub (tys' := [(cL, .long), (cI, .int)]) [2, 3] rfl
  refine vp_callSi (W.runV (As := []) (rest := []) ⟨hx, hb, hml, hown, hA⟩ (c_M_thrown l D cL cI hm cl sa pa M (nI c8) k8 τ5) (q_M_thrown hA k2_233 rfl rfl ⟨(Nat.le_of_ble_eq_true rfl), (Nat.le_of_ble_eq_true rfl)⟩) (ox_V (va_recv hKc hPc (ci := 2) (q0 := 0) rfl rfl) (ox_S hPc hKc)) rfl rfl hl.1 rfl (lv_room (Nat.le_of_ble_eq_true rfl)) d_L_law_726 ⟨(by show cells + 1 + 0 + 0 ≤ 601024; omega), (by show slots + 6 + 0 + 0 ≤ 7293000; omega)⟩) (fun r7 hr7 => ?_)
  subst hr7
  refine lv_iload hx hb d_L_law_729 (lv_at hl 1 rfl) ?_
  refine lv_icmp_eq (tgt := 736) hx hb d_L_law_731 (by decide) (fun _ => ?_) (fun q9 => absurd rfl q9)
  refine lv_iload hx hb d_L_law_736 (lv_at hl 1 rfl) ?_
  refine lv_if_ne (tgt := 753) hx hb d_L_law_738 (by decide) (fun c738 => ?_) (fun c738 => ?_)
  · refine lv_goto (tgt := 1700) hx hb d_L_law_753 (by decide) ?_
    exact K τ5 f5 (nI c8) k8 H locs hσ8 hP hD hS ls (lv_sub hl [2, 3, 4, 5, 6] rfl)
  · refine lv_aload_n hx hb d_L_law_741 rfl (lv_at hl 5 rfl) ?_
    refine lv_iconst (v := 0) hx hb d_L_law_742 (by decide) ?_
    have hc0 : c8 = 0 := (nI_eq (b := 0) (by omega) (by omega)).mp c738
    have h53 := h53 hc0
    refine va_lald hx hb hK hP 10 2 rfl rfl (by unfold vp_in; decide) d_L_law_743 ?_
    refine lv_topl (fun v743 ev743 => ?_)
    have ev743 : v743 = r8.toInt64 := by rw [ev743, sb_cl0]; exact h53
    subst ev743
    refine lv_iload hx hb d_L_law_744 (lv_at hl 0 rfl) ?_
    refine lv_i2l hx hb d_L_law_746 rfl ?_
    refine lv_topl (fun v746 ev746 => ?_)
    refine W.lcmp hx hb d_L_law_747 ?_
    refine lv_topi (fun v747 ev747 => ?_)
    refine lv_if_eq (tgt := 753) hx hb d_L_law_748 (by decide) (fun _ => ?_) (fun q9 => absurd (by rw [ev747, ev746]; exact (lg_cmp_eq _ _).mpr rfl) q9)
    refine lv_goto (tgt := 1700) hx hb d_L_law_753 (by decide) ?_
    exact K τ5 f5 (nI c8) k8 H locs hσ8 hP hD hS ls (lv_sub hl [2, 3, 4, 5, 6] rfl)
