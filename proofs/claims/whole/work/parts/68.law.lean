/-! THE LAW'S LOOP -/
set_option maxHeartbeats 4000000 in
set_option maxRecDepth 100000 in
/-- THE LAW'S LOOP -/
theorem law_loop {p : Program} {l : Launch} {e : Env} {s : State} {m : MethodId} {below : List Frame} {meth : Method} {c : Code} (hL0 : l.stackTraces = false) {b L : Nat} {xs : Nat → Int32} (hL : L ≤ 2561) (hx : p.tables.exec = Jvm.exec) (hb : c.code = code) (hml : c.maxLocals = 8) (hown : s.vm.findClass R_L = some m.cls) (hA : ∀ w ∈ wsA, w.before #[Value.ref b] s = true) (hX : va_X b L xs s s.heap) (hbl : b < s.heap.size) (hG : tx_G s) (hN : tx_N s) {D : va_G} {cR cB cL cI : ClassId} {hd ra oa hm cl sa pa : Nat} {g : Nat → Option Nat} {M : Nat} {y b2 : Nat → Nat} (hg : ∀ i, i < 4 → g i = some (y i)) (hK : va_K D vCl [(cB, .byte), (cR, .object "PacketDesk$Row"), (cL, .long), (cI, .int)] s) (hr : meth.sig.returnType = ret) (hlocks : meth.locks = false) : ∀ (n t : Nat) (σ : dkS) (f0 : Nat → Int64) (th tk : Int32) (H : Heap) (locs : List Loc), dkok M σ → 1 + 5 * t ≤ L + 5 → L + 6 ≤ 1 + 5 * t + n → va_P D vCl [(hd, .inr (0, [.ref ra])), (ra, .inl (cR, 4, .inr (.inr (.inr (.inr g))))), ((y 0), .inr (1, [.ref (b2 0), .int (nI ((σ) 0).2.1), .int (nI ((σ) 0).2.2)])), ((b2 0), .inl (cB, M, .inl (fun j => sb_b (((σ) 0).1 j)))), ((y 1), .inr (1, [.ref (b2 1), .int (nI ((σ) 1).2.1), .int (nI ((σ) 1).2.2)])), ((b2 1), .inl (cB, M, .inl (fun j => sb_b (((σ) 1).1 j)))), ((y 2), .inr (1, [.ref (b2 2), .int (nI ((σ) 2).2.1), .int (nI ((σ) 2).2.2)])), ((b2 2), .inl (cB, M, .inl (fun j => sb_b (((σ) 2).1 j)))), ((y 3), .inr (1, [.ref (b2 3), .int (nI ((σ) 3).2.1), .int (nI ((σ) 3).2.2)])), ((b2 3), .inl (cB, M, .inl (fun j => sb_b (((σ) 3).1 j)))), (oa, .inl (cL, 1, .inr (.inl f0))), (hm, .inr (2, [.int th, .int (nI M), .ref cl, .ref sa, .ref pa, .int tk])), (cl, .inl (cL, 32768, .inr (.inl (pkF (σ))))), (sa, .inl (cI, 4, .inl (fun i9 => nI ((σ) i9).2.1))), (pa, .inl (cI, 4, .inl (fun i9 => nI ((σ) i9).2.2)))] H → va_D (fun q : Nat => s.heap.size ≤ q) [(hd, .inr (0, [.ref ra])), (ra, .inl (cR, 4, .inr (.inr (.inr (.inr g))))), ((y 0), .inr (1, [.ref (b2 0), .int (nI ((σ) 0).2.1), .int (nI ((σ) 0).2.2)])), ((b2 0), .inl (cB, M, .inl (fun j => sb_b (((σ) 0).1 j)))), ((y 1), .inr (1, [.ref (b2 1), .int (nI ((σ) 1).2.1), .int (nI ((σ) 1).2.2)])), ((b2 1), .inl (cB, M, .inl (fun j => sb_b (((σ) 1).1 j)))), ((y 2), .inr (1, [.ref (b2 2), .int (nI ((σ) 2).2.1), .int (nI ((σ) 2).2.2)])), ((b2 2), .inl (cB, M, .inl (fun j => sb_b (((σ) 2).1 j)))), ((y 3), .inr (1, [.ref (b2 3), .int (nI ((σ) 3).2.1), .int (nI ((σ) 3).2.2)])), ((b2 3), .inl (cB, M, .inl (fun j => sb_b (((σ) 3).1 j)))), (oa, .inl (cL, 1, .inr (.inl f0))), (hm, .inr (2, [.int th, .int (nI M), .ref cl, .ref sa, .ref pa, .int tk])), (cl, .inl (cL, 32768, .inr (.inl (pkF (σ))))), (sa, .inl (cI, 4, .inl (fun i9 => nI ((σ) i9).2.1))), (pa, .inl (cI, 4, .inl (fun i9 => nI ((σ) i9).2.2)))] → va_S (fun q : Nat => s.heap.size ≤ q) s.heap H locs → ∀ ls : Array Slot, lv_has ls 8 [(0, .ref b), (1, .ref hd), (2, .ref hm), (3, .ref oa), (4, .int (nI (1 + 5 * t)))] → W p l e room_1 s m #[Value.ref b] below meth c H locs (20 + t) (300000 + 6 * t) (lw_Z below #[Value.ref b] s) (F0 m 33 ls []) := by
  intro n
  induction n with
  | zero => intro t σ f0 th tk H locs hσ h1 h2; exact absurd h2 (by omega)
  | succ n ih =>
    intro t σ f0 th tk H locs hσ h1 h2 hP hD hS ls hl
    have hbA : ¬ (fun q : Nat => s.heap.size ≤ q) b := Nat.not_le.mpr hbl
    have KK : ∀ (σ' : dkS) (f' : Nat → Int64) (th' tk' : Int32) (H' : Heap) (locs' : List Loc), 1 + 5 * t + 5 ≤ L → dkok M σ' → va_P D vCl [(hd, .inr (0, [.ref ra])), (ra, .inl (cR, 4, .inr (.inr (.inr (.inr g))))), ((y 0), .inr (1, [.ref (b2 0), .int (nI ((σ') 0).2.1), .int (nI ((σ') 0).2.2)])), ((b2 0), .inl (cB, M, .inl (fun j => sb_b (((σ') 0).1 j)))), ((y 1), .inr (1, [.ref (b2 1), .int (nI ((σ') 1).2.1), .int (nI ((σ') 1).2.2)])), ((b2 1), .inl (cB, M, .inl (fun j => sb_b (((σ') 1).1 j)))), ((y 2), .inr (1, [.ref (b2 2), .int (nI ((σ') 2).2.1), .int (nI ((σ') 2).2.2)])), ((b2 2), .inl (cB, M, .inl (fun j => sb_b (((σ') 2).1 j)))), ((y 3), .inr (1, [.ref (b2 3), .int (nI ((σ') 3).2.1), .int (nI ((σ') 3).2.2)])), ((b2 3), .inl (cB, M, .inl (fun j => sb_b (((σ') 3).1 j)))), (oa, .inl (cL, 1, .inr (.inl f'))), (hm, .inr (2, [.int th', .int (nI M), .ref cl, .ref sa, .ref pa, .int tk'])), (cl, .inl (cL, 32768, .inr (.inl (pkF (σ'))))), (sa, .inl (cI, 4, .inl (fun i9 => nI ((σ') i9).2.1))), (pa, .inl (cI, 4, .inl (fun i9 => nI ((σ') i9).2.2)))] H' → va_D (fun q : Nat => s.heap.size ≤ q) [(hd, .inr (0, [.ref ra])), (ra, .inl (cR, 4, .inr (.inr (.inr (.inr g))))), ((y 0), .inr (1, [.ref (b2 0), .int (nI ((σ') 0).2.1), .int (nI ((σ') 0).2.2)])), ((b2 0), .inl (cB, M, .inl (fun j => sb_b (((σ') 0).1 j)))), ((y 1), .inr (1, [.ref (b2 1), .int (nI ((σ') 1).2.1), .int (nI ((σ') 1).2.2)])), ((b2 1), .inl (cB, M, .inl (fun j => sb_b (((σ') 1).1 j)))), ((y 2), .inr (1, [.ref (b2 2), .int (nI ((σ') 2).2.1), .int (nI ((σ') 2).2.2)])), ((b2 2), .inl (cB, M, .inl (fun j => sb_b (((σ') 2).1 j)))), ((y 3), .inr (1, [.ref (b2 3), .int (nI ((σ') 3).2.1), .int (nI ((σ') 3).2.2)])), ((b2 3), .inl (cB, M, .inl (fun j => sb_b (((σ') 3).1 j)))), (oa, .inl (cL, 1, .inr (.inl f'))), (hm, .inr (2, [.int th', .int (nI M), .ref cl, .ref sa, .ref pa, .int tk'])), (cl, .inl (cL, 32768, .inr (.inl (pkF (σ'))))), (sa, .inl (cI, 4, .inl (fun i9 => nI ((σ') i9).2.1))), (pa, .inl (cI, 4, .inl (fun i9 => nI ((σ') i9).2.2)))] → va_S (fun q : Nat => s.heap.size ≤ q) s.heap H' locs' → ∀ ls' : Array Slot, lv_has ls' 8 [(0, .ref b), (1, .ref hd), (2, .ref hm), (3, .ref oa), (4, .int (nI (1 + 5 * t)))] → W p l e room_1 s m #[Value.ref b] below meth c H' locs' (20 + t + 1) (300000 + 6 * t + 6) (lw_Z below #[Value.ref b] s) (F0 m 1700 ls' []) := by
      intro σ' f' th' tk' H' locs' hi5 hσ' hP hD hS ls hl
      obtain ⟨v1700, ev1700⟩ : ∃ y : Int32, y = nI (1 + 5 * t) + 5 := ⟨_, rfl⟩
      refine lv_iinc (v := v1700) (lv' := [(4, .int v1700), (0, .ref b), (1, .ref hd), (2, .ref hm), (3, .ref oa)]) hx hb d_L_law_1700 hl (k := 4) rfl (by rw [ev1700]; rfl) (by decide) rfl (fun ls hl => ?_)
      have ev1700 : v1700 = nI (1 + 5 * (t + 1)) := by rw [ev1700]; exact (nI_add _ 5).trans (congrArg nI (by omega))
      subst ev1700
      refine lv_goto (tgt := 33) hx hb d_L_law_1703 (by decide) ?_
      refine W.widen (k := 20 + (t + 1)) (n := 300000 + 6 * (t + 1)) (by omega) (by omega) ?_
      exact ih (t + 1) σ' f' th' tk' H' locs' hσ' (by omega) (by omega) hP hD hS ls (lv_sub hl [1, 2, 3, 4, 0] rfl)
    refine lv_iload hx hb d_L_law_33 (lv_at hl 4 rfl) ?_
    refine lv_aload_n hx hb d_L_law_35 rfl (lv_at hl 0 rfl) ?_
    refine va_slen hx hb hX hbl hbA hS d_L_law_36 ?_
    refine lv_iconst (v := 5) hx hb d_L_law_37 (by decide) ?_
    refine lv_isub hx hb d_L_law_38 ?_
    refine lv_topi (fun v38 ev38 => ?_)
    have ev38 : v38 = nI L - 5 := ev38
    subst ev38
    refine lv_icmp_gt (tgt := 1706) hx hb d_L_law_39 (by decide) (fun c39 => ?_) (fun c39 => ?_)
    · refine va_forget hS.2.2 ?_
      refine W.widen (k := 601024) (n := 7293000) (by omega) (by omega) ?_
      refine lv_iconst (v := 1) hx hb d_L_law_1706 (by decide) ?_
      exact lw_ret hx hb hr hlocks d_L_law_1707
    · have hsub : (nI L - 5).toInt = (L : Int) - 5 := pk_sub_toInt (b := 5) (by omega) (by decide)
      have hii : (nI (1 + 5 * t)).toInt = ((1 + 5 * t : Nat) : Int) := nI_toInt (by omega)
      rw [Int32.lt_iff_toInt_lt, hsub, hii] at c39
      have hi5 : 1 + 5 * t + 5 ≤ L := by omega
      refine lv_aload_n hx hb d_L_law_42 rfl (lv_at hl 0 rfl) ?_
      refine lv_iload hx hb d_L_law_43 (lv_at hl 4 rfl) ?_
      refine va_sld hx hb hX hbl hbA hS (vp_in_nI (n := 1 + 5 * t) (N := L) (by omega) (by omega)) d_L_law_45 ?_
      refine lv_topi (fun v45 ev45 => ?_)
      refine lv_bipush (v := 31) hx hb d_L_law_46 (by decide) ?_
      refine lv_iand hx hb d_L_law_48 ?_
      refine lv_topi (fun v48 ev48 => ?_)
      obtain ⟨j, hj, ej⟩ := pk_andE v45 (m := 31) 5 (by decide)
      have ev48 : v48 = nI j := by rw [ev48]; exact ej
      subst ev48
      rcases (show j = 0 ∨ j = 1 ∨ j = 2 ∨ j = 3 ∨ j = 4 ∨ j = 5 ∨ j = 6 ∨ j = 7 ∨ j = 8 ∨ j = 9 ∨ j = 10 ∨ j = 11 ∨ j = 12 ∨ j = 13 ∨ j = 14 ∨ j = 15 ∨ j = 16 ∨ j = 17 ∨ j = 18 ∨ j = 19 ∨ j = 20 ∨ 21 ≤ j by omega) with rfl | rfl | rfl | rfl | rfl | rfl | rfl | rfl | rfl | rfl | rfl | rfl | rfl | rfl | rfl | rfl | rfl | rfl | rfl | rfl | rfl | hj2
      · refine lv_tableIn (tgt := 148) hx hb d_L_law_49 (by decide) (by decide) rfl (by decide) ?_
        exact k_fixed hL0 hL hx hb hml hown hA hX hbl hG hN hg hK σ f0 th tk hσ (1 + 5 * t) hi5 (20 + t) (300000 + 6 * t) (by omega) (by omega) H locs hP hD hS ls (lv_sub hl [0, 1, 2, 3, 4] rfl) (fun σ' f' th' tk' H' locs' hσ' hP' hD' hS' ls' hl' => KK σ' f' th' tk' H' locs' hi5 hσ' hP' hD' hS' ls' hl')
      · refine lv_tableIn (tgt := 260) hx hb d_L_law_49 (by decide) (by decide) rfl (by decide) ?_
        exact k_sevens hL0 hL hx hb hml hown hA hX hbl hG hN hg hK σ f0 th tk hσ (1 + 5 * t) hi5 (20 + t) (300000 + 6 * t) (by omega) (by omega) H locs hP hD hS ls (lv_sub hl [0, 1, 2, 3, 4] rfl) (fun σ' f' th' tk' H' locs' hσ' hP' hD' hS' ls' hl' => KK σ' f' th' tk' H' locs' hi5 hσ' hP' hD' hS' ls' hl')
      · refine lv_tableIn (tgt := 360) hx hb d_L_law_49 (by decide) (by decide) rfl (by decide) ?_
        exact k_signed hL0 hL hx hb hml hown hA hX hbl hG hN hg hK σ f0 th tk hσ (1 + 5 * t) hi5 (20 + t) (300000 + 6 * t) (by omega) (by omega) H locs hP hD hS ls (lv_sub hl [0, 1, 2, 3, 4] rfl) (fun σ' f' th' tk' H' locs' hσ' hP' hD' hS' ls' hl' => KK σ' f' th' tk' H' locs' hi5 hσ' hP' hD' hS' ls' hl')
      · refine lv_tableIn (tgt := 460) hx hb d_L_law_49 (by decide) (by decide) rfl (by decide) ?_
        exact k_letter hL0 hL hx hb hml hown hA hX hbl hG hN hg hK σ f0 th tk hσ (1 + 5 * t) hi5 (20 + t) (300000 + 6 * t) (by omega) (by omega) H locs hP hD hS ls (lv_sub hl [0, 1, 2, 3, 4] rfl) (fun σ' f' th' tk' H' locs' hσ' hP' hD' hS' ls' hl' => KK σ' f' th' tk' H' locs' hi5 hσ' hP' hD' hS' ls' hl')
      · refine lv_tableIn (tgt := 528) hx hb d_L_law_49 (by decide) (by decide) rfl (by decide) ?_
        exact k_copy hL0 hL hx hb hml hown hA hX hbl hG hN hg hK σ f0 th tk hσ (1 + 5 * t) hi5 (20 + t) (300000 + 6 * t) (by omega) (by omega) H locs hP hD hS ls (lv_sub hl [0, 1, 2, 3, 4] rfl) (fun σ' f' th' tk' H' locs' hσ' hP' hD' hS' ls' hl' => KK σ' f' th' tk' H' locs' hi5 hσ' hP' hD' hS' ls' hl')
      · refine lv_tableIn (tgt := 620) hx hb d_L_law_49 (by decide) (by decide) rfl (by decide) ?_
        exact k_block hL0 hL hx hb hml hown hA hX hbl hG hN hg hK σ f0 th tk hσ (1 + 5 * t) hi5 (20 + t) (300000 + 6 * t) (by omega) (by omega) H locs hP hD hS ls (lv_sub hl [0, 1, 2, 3, 4] rfl) (fun σ' f' th' tk' H' locs' hσ' hP' hD' hS' ls' hl' => KK σ' f' th' tk' H' locs' hi5 hσ' hP' hD' hS' ls' hl')
      · refine lv_tableIn (tgt := 688) hx hb d_L_law_49 (by decide) (by decide) rfl (by decide) ?_
        exact k_frame hL0 hL hx hb hml hown hA hX hbl hG hN hg hK σ f0 th tk hσ (1 + 5 * t) hi5 (20 + t) (300000 + 6 * t) (by omega) (by omega) H locs hP hD hS ls (lv_sub hl [0, 1, 2, 3, 4] rfl) (fun σ' f' th' tk' H' locs' hσ' hP' hD' hS' ls' hl' => KK σ' f' th' tk' H' locs' hi5 hσ' hP' hD' hS' ls' hl')
      · refine lv_tableIn (tgt := 756) hx hb d_L_law_49 (by decide) (by decide) rfl (by decide) ?_
        exact k_cut hL0 hL hx hb hml hown hA hX hbl hG hN hg hK σ f0 th tk hσ (1 + 5 * t) hi5 (20 + t) (300000 + 6 * t) (by omega) (by omega) H locs hP hD hS ls (lv_sub hl [0, 1, 2, 3, 4] rfl) (fun σ' f' th' tk' H' locs' hσ' hP' hD' hS' ls' hl' => KK σ' f' th' tk' H' locs' hi5 hσ' hP' hD' hS' ls' hl')
      · refine lv_tableIn (tgt := 824) hx hb d_L_law_49 (by decide) (by decide) rfl (by decide) ?_
        exact k_turn hL0 hL hx hb hml hown hA hX hbl hG hN hg hK σ f0 th tk hσ (1 + 5 * t) hi5 (20 + t) (300000 + 6 * t) (by omega) (by omega) H locs hP hD hS ls (lv_sub hl [0, 1, 2, 3, 4] rfl) (fun σ' f' th' tk' H' locs' hσ' hP' hD' hS' ls' hl' => KK σ' f' th' tk' H' locs' hi5 hσ' hP' hD' hS' ls' hl')
      · refine lv_tableIn (tgt := 892) hx hb d_L_law_49 (by decide) (by decide) rfl (by decide) ?_
        exact k_place hL0 hL hx hb hml hown hA hX hbl hG hN hg hK σ f0 th tk hσ (1 + 5 * t) hi5 (20 + t) (300000 + 6 * t) (by omega) (by omega) H locs hP hD hS ls (lv_sub hl [0, 1, 2, 3, 4] rfl) (fun σ' f' th' tk' H' locs' hσ' hP' hD' hS' ls' hl' => KK σ' f' th' tk' H' locs' hi5 hσ' hP' hD' hS' ls' hl')
      · refine lv_tableIn (tgt := 960) hx hb d_L_law_49 (by decide) (by decide) rfl (by decide) ?_
        exact k_readFixed hL0 hL hx hb hml hown hA hX hbl hG hN hg hK σ f0 th tk hσ (1 + 5 * t) hi5 (20 + t) (300000 + 6 * t) (by omega) (by omega) H locs hP hD hS ls (lv_sub hl [0, 1, 2, 3, 4] rfl) (fun σ' f' th' tk' H' locs' hσ' hP' hD' hS' ls' hl' => KK σ' f' th' tk' H' locs' hi5 hσ' hP' hD' hS' ls' hl')
      · refine lv_tableIn (tgt := 1027) hx hb d_L_law_49 (by decide) (by decide) rfl (by decide) ?_
        exact k_readSevens hL0 hL hx hb hml hown hA hX hbl hG hN hg hK σ f0 th tk hσ (1 + 5 * t) hi5 (20 + t) (300000 + 6 * t) (by omega) (by omega) H locs hP hD hS ls (lv_sub hl [0, 1, 2, 3, 4] rfl) (fun σ' f' th' tk' H' locs' hσ' hP' hD' hS' ls' hl' => KK σ' f' th' tk' H' locs' hi5 hσ' hP' hD' hS' ls' hl')
      · refine lv_tableIn (tgt := 1082) hx hb d_L_law_49 (by decide) (by decide) rfl (by decide) ?_
        exact k_readSigned hL0 hL hx hb hml hown hA hX hbl hG hN hg hK σ f0 th tk hσ (1 + 5 * t) hi5 (20 + t) (300000 + 6 * t) (by omega) (by omega) H locs hP hD hS ls (lv_sub hl [0, 1, 2, 3, 4] rfl) (fun σ' f' th' tk' H' locs' hσ' hP' hD' hS' ls' hl' => KK σ' f' th' tk' H' locs' hi5 hσ' hP' hD' hS' ls' hl')
      · refine lv_tableIn (tgt := 1137) hx hb d_L_law_49 (by decide) (by decide) rfl (by decide) ?_
        exact k_readLetter hL0 hL hx hb hml hown hA hX hbl hG hN hg hK σ f0 th tk hσ (1 + 5 * t) hi5 (20 + t) (300000 + 6 * t) (by omega) (by omega) H locs hP hD hS ls (lv_sub hl [0, 1, 2, 3, 4] rfl) (fun σ' f' th' tk' H' locs' hσ' hP' hD' hS' ls' hl' => KK σ' f' th' tk' H' locs' hi5 hσ' hP' hD' hS' ls' hl')
      · refine lv_tableIn (tgt := 1193) hx hb d_L_law_49 (by decide) (by decide) rfl (by decide) ?_
        exact k_readBlock hL0 hL hx hb hml hown hA hX hbl hG hN hg hK σ f0 th tk hσ (1 + 5 * t) hi5 (20 + t) (300000 + 6 * t) (by omega) (by omega) H locs hP hD hS ls (lv_sub hl [0, 1, 2, 3, 4] rfl) (fun σ' f' th' tk' H' locs' hσ' hP' hD' hS' ls' hl' => KK σ' f' th' tk' H' locs' hi5 hσ' hP' hD' hS' ls' hl')
      · refine lv_tableIn (tgt := 1261) hx hb d_L_law_49 (by decide) (by decide) rfl (by decide) ?_
        exact k_readFrame hL0 hL hx hb hml hown hA hX hbl hG hN hg hK σ f0 th tk hσ (1 + 5 * t) hi5 (20 + t) (300000 + 6 * t) (by omega) (by omega) H locs hP hD hS ls (lv_sub hl [0, 1, 2, 3, 4] rfl) (fun σ' f' th' tk' H' locs' hσ' hP' hD' hS' ls' hl' => KK σ' f' th' tk' H' locs' hi5 hσ' hP' hD' hS' ls' hl')
      · refine lv_tableIn (tgt := 1329) hx hb d_L_law_49 (by decide) (by decide) rfl (by decide) ?_
        exact k_letters hL0 hL hx hb hml hown hA hX hbl hG hN hg hK σ f0 th tk hσ (1 + 5 * t) hi5 (20 + t) (300000 + 6 * t) (by omega) (by omega) H locs hP hD hS ls (lv_sub hl [0, 1, 2, 3, 4] rfl) (fun σ' f' th' tk' H' locs' hσ' hP' hD' hS' ls' hl' => KK σ' f' th' tk' H' locs' hi5 hσ' hP' hD' hS' ls' hl')
      · refine lv_tableIn (tgt := 1409) hx hb d_L_law_49 (by decide) (by decide) rfl (by decide) ?_
        exact k_sum hL0 hL hx hb hml hown hA hX hbl hG hN hg hK σ f0 th tk hσ (1 + 5 * t) hi5 (20 + t) (300000 + 6 * t) (by omega) (by omega) H locs hP hD hS ls (lv_sub hl [0, 1, 2, 3, 4] rfl) (fun σ' f' th' tk' H' locs' hσ' hP' hD' hS' ls' hl' => KK σ' f' th' tk' H' locs' hi5 hσ' hP' hD' hS' ls' hl')
      · refine lv_tableIn (tgt := 1489) hx hb d_L_law_49 (by decide) (by decide) rfl (by decide) ?_
        exact k_same hL0 hL hx hb hml hown hA hX hbl hG hN hg hK σ f0 th tk hσ (1 + 5 * t) hi5 (20 + t) (300000 + 6 * t) (by omega) (by omega) H locs hP hD hS ls (lv_sub hl [0, 1, 2, 3, 4] rfl) (fun σ' f' th' tk' H' locs' hσ' hP' hD' hS' ls' hl' => KK σ' f' th' tk' H' locs' hi5 hσ' hP' hD' hS' ls' hl')
      · refine lv_tableIn (tgt := 1564) hx hb d_L_law_49 (by decide) (by decide) rfl (by decide) ?_
        exact k_row hL0 hL hx hb hml hown hA hX hbl hG hN hg hK σ f0 th tk hσ (1 + 5 * t) hi5 (20 + t) (300000 + 6 * t) (by omega) (by omega) H locs hP hD hS ls (lv_sub hl [0, 1, 2, 3, 4] rfl) (fun σ' f' th' tk' H' locs' hσ' hP' hD' hS' ls' hl' => KK σ' f' th' tk' H' locs' hi5 hσ' hP' hD' hS' ls' hl')
      · refine lv_tableIn (tgt := 1632) hx hb d_L_law_49 (by decide) (by decide) rfl (by decide) ?_
        exact k_byteAt hL0 hL hx hb hml hown hA hX hbl hG hN hg hK σ f0 th tk hσ (1 + 5 * t) hi5 (20 + t) (300000 + 6 * t) (by omega) (by omega) H locs hP hD hS ls (lv_sub hl [0, 1, 2, 3, 4] rfl) (fun σ' f' th' tk' H' locs' hσ' hP' hD' hS' ls' hl' => KK σ' f' th' tk' H' locs' hi5 hσ' hP' hD' hS' ls' hl')
      · refine lv_tableOut (tgt := 1700) hx hb d_L_law_49 (Or.inr (by rw [nI_toInt (by omega)]; omega)) (by decide) ?_
        refine W.widen (k := 20 + t + 1) (n := 300000 + 6 * t + 6) (by omega) (by omega) ?_
        exact KK σ f0 th tk H locs hi5 hσ hP hD hS ls (lv_sub hl [0, 1, 2, 3, 4] rfl)
