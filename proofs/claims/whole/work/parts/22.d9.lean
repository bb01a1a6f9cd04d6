/-! THE CLASS: LETTERS -/
theorem s_u : ∀ n, n < 32 → (((nI n).toUInt32 &&& Int32.toUInt32 31).toBitVec % 32).toNat = n := by decide +kernel
theorem us_n {z k : Nat} (hz : z < 2 ^ 31) (hk : k < 32) : ((nI z).toUInt32 >>> ((nI k).toUInt32 &&& Int32.toUInt32 31)).toInt32 = nI (z / 2 ^ k) := pk_ushrN (by omega) _ k (s_u k hk)
theorem or_192 : ∀ t, t < 32 → nI 192 ||| nI t = nI (192 + t) := by decide +kernel
theorem or_224 : ∀ t, t < 16 → nI 224 ||| nI t = nI (224 + t) := by decide +kernel
theorem or_240 : ∀ t, t < 8 → nI 240 ||| nI t = nI (240 + t) := by decide +kernel
theorem or_0 : ∀ t, t < 128 → nI 0 ||| nI t = nI (0 + t) := by decide +kernel
theorem or128i : ∀ z, z < 64 → (128 : Int32) ||| nI z = nI (128 + z) := by decide +kernel
/-- z can be a letter of w bytes -/
def lz (w z : Nat) : Prop := (w = 1 ∧ z < 128) ∨ (w = 2 ∧ z < 2048) ∨ (w = 3 ∧ z < 65536) ∨ (w = 4 ∧ z < 2097152)
/-- a letter's bytes -/
def ltb (z w i : Nat) : Nat := if i = 0 then fmN w + z / 2 ^ (6 * (w - 1)) else 128 + z / 2 ^ (6 * (w - 1 - i)) % 64
theorem ltb_0 {w z : Nat} (h : lz w z) : (nI (fmN w) ||| nI (z / 2 ^ (6 * (w - 1)))).toBitVec.toNat % 256 = ltb z w 0 := by
  unfold ltb
  rw [if_pos rfl]
  rcases h with ⟨rfl, h⟩ | ⟨rfl, h⟩ | ⟨rfl, h⟩ | ⟨rfl, h⟩
  · rw [show fmN 1 = 0 from rfl, or_0 _ (by simp only [Nat.reduceSub, Nat.reduceMul, Nat.reducePow]; omega), pk_tn (by simp only [Nat.reduceSub, Nat.reduceMul, Nat.reducePow]; omega)]
    simp only [Nat.reduceSub, Nat.reduceMul, Nat.reducePow]; omega
  · rw [show fmN 2 = 192 from rfl, or_192 _ (by simp only [Nat.reduceSub, Nat.reduceMul, Nat.reducePow]; omega), pk_tn (by simp only [Nat.reduceSub, Nat.reduceMul, Nat.reducePow]; omega)]
    simp only [Nat.reduceSub, Nat.reduceMul, Nat.reducePow]; omega
  · rw [show fmN 3 = 224 from rfl, or_224 _ (by simp only [Nat.reduceSub, Nat.reduceMul, Nat.reducePow]; omega), pk_tn (by simp only [Nat.reduceSub, Nat.reduceMul, Nat.reducePow]; omega)]
    simp only [Nat.reduceSub, Nat.reduceMul, Nat.reducePow]; omega
  · rw [show fmN 4 = 240 from rfl, or_240 _ (by simp only [Nat.reduceSub, Nat.reduceMul, Nat.reducePow]; omega), pk_tn (by simp only [Nat.reduceSub, Nat.reduceMul, Nat.reducePow]; omega)]
    simp only [Nat.reduceSub, Nat.reduceMul, Nat.reducePow]; omega
theorem ltb_i {w z i : Nat} (hi : 0 < i) : ((128 : Int32) ||| nI (z / 2 ^ (6 * (w - 1 - i)) % 64)).toBitVec.toNat % 256 = ltb z w i := by
  have h := Nat.mod_lt (z / 2 ^ (6 * (w - 1 - i))) (show 64 > 0 by decide)
  unfold ltb
  rw [if_neg (by omega), or128i _ h, pk_tn (by omega)]
  omega
theorem ltb_lt {z w : Nat} (h : lz w z) (i : Nat) : ltb z w i < 256 := by
  have h2 := Nat.mod_lt (z / 2 ^ (6 * (w - 1 - i))) (show 64 > 0 by decide)
  unfold ltb
  split
  · have := ltb_0 h
    unfold ltb at this
    rw [if_pos rfl] at this
    rw [← this]
    exact Nat.mod_lt _ (by decide)
  · omega
/-- a letter read at a, before e: the letter; -1: wrong, -2: it ends -/
def la (B : Nat → Nat) (a e : Nat) : Int :=
  if e ≤ a then -2 else if B a < 128 then ((B a : Nat) : Int) else if B a < 194 ∨ 244 < B a then -1 else if e ≤ a + 1 then -2 else if B (a + 1) < 128 ∨ 191 < B (a + 1) then -1 else
  if B a < 224 then (((B a - 192) * 64 + (B (a + 1) - 128) : Nat) : Int) else
  if B a < 240 then (if (B a - 224) * 64 + (B (a + 1) - 128) < 32 ∨ (864 ≤ (B a - 224) * 64 + (B (a + 1) - 128) ∧ (B a - 224) * 64 + (B (a + 1) - 128) ≤ 895) then -1 else if e ≤ a + 2 then -2 else if B (a + 2) < 128 ∨ 191 < B (a + 2) then -1 else ((((B a - 224) * 64 + (B (a + 1) - 128)) * 64 + (B (a + 2) - 128) : Nat) : Int))
  else (if (B a - 240) * 64 + (B (a + 1) - 128) < 16 ∨ 271 < (B a - 240) * 64 + (B (a + 1) - 128) then -1 else if e ≤ a + 2 then -2 else if B (a + 2) < 128 ∨ 191 < B (a + 2) then -1 else if e ≤ a + 3 then -2 else if B (a + 3) < 128 ∨ 191 < B (a + 3) then -1 else (((((B a - 240) * 64 + (B (a + 1) - 128)) * 64 + (B (a + 2) - 128)) * 64 + (B (a + 3) - 128) : Nat) : Int))
theorem la_e0 {B : Nat → Nat} {a e : Nat} (h : e ≤ a) : la B a e = -2 := by unfold la; rw [if_pos h]
theorem la_1 {B : Nat → Nat} {a e : Nat} (h : a < e) (h1 : B a < 128) : la B a e = ((B a : Nat) : Int) := by unfold la; rw [if_neg (by omega), if_pos h1]
theorem la_b0 {B : Nat → Nat} {a e : Nat} (h : a < e) (h1 : ¬ B a < 128) (h2 : B a < 194 ∨ 244 < B a) : la B a e = -1 := by unfold la; rw [if_neg (by omega), if_neg h1, if_pos h2]
theorem la_e1 {B : Nat → Nat} {a e : Nat} (h : a < e) (h1 : 194 ≤ B a) (h2 : B a ≤ 244) (h3 : e ≤ a + 1) : la B a e = -2 := by unfold la; rw [if_neg (by omega), if_neg (by omega), if_neg (by omega), if_pos h3]
theorem la_b1 {B : Nat → Nat} {a e : Nat} (h1 : 194 ≤ B a) (h2 : B a ≤ 244) (h3 : a + 1 < e) (h4 : B (a + 1) < 128 ∨ 191 < B (a + 1)) : la B a e = -1 := by unfold la; rw [if_neg (by omega), if_neg (by omega), if_neg (by omega), if_neg (by omega), if_pos h4]
theorem la_2 {B : Nat → Nat} {a e : Nat} (h1 : 194 ≤ B a) (h2 : B a < 224) (h3 : a + 1 < e) (h4 : 128 ≤ B (a + 1)) (h5 : B (a + 1) ≤ 191) : la B a e = (((B a - 192) * 64 + (B (a + 1) - 128) : Nat) : Int) := by unfold la; rw [if_neg (by omega), if_neg (by omega), if_neg (by omega), if_neg (by omega), if_neg (by omega), if_pos h2]
theorem la_3 {B : Nat → Nat} {a e : Nat} (h1 : 224 ≤ B a) (h2 : B a < 240) (h3 : a + 1 < e) (h4 : 128 ≤ B (a + 1)) (h5 : B (a + 1) ≤ 191) : la B a e = (if (B a - 224) * 64 + (B (a + 1) - 128) < 32 ∨ (864 ≤ (B a - 224) * 64 + (B (a + 1) - 128) ∧ (B a - 224) * 64 + (B (a + 1) - 128) ≤ 895) then -1 else if e ≤ a + 2 then -2 else if B (a + 2) < 128 ∨ 191 < B (a + 2) then -1 else ((((B a - 224) * 64 + (B (a + 1) - 128)) * 64 + (B (a + 2) - 128) : Nat) : Int)) := by unfold la; rw [if_neg (by omega), if_neg (by omega), if_neg (by omega), if_neg (by omega), if_neg (by omega), if_neg (by omega), if_pos h2]
theorem la_4 {B : Nat → Nat} {a e : Nat} (h1 : 240 ≤ B a) (h2 : B a ≤ 244) (h3 : a + 1 < e) (h4 : 128 ≤ B (a + 1)) (h5 : B (a + 1) ≤ 191) : la B a e = (if (B a - 240) * 64 + (B (a + 1) - 128) < 16 ∨ 271 < (B a - 240) * 64 + (B (a + 1) - 128) then -1 else if e ≤ a + 2 then -2 else if B (a + 2) < 128 ∨ 191 < B (a + 2) then -1 else if e ≤ a + 3 then -2 else if B (a + 3) < 128 ∨ 191 < B (a + 3) then -1 else (((((B a - 240) * 64 + (B (a + 1) - 128)) * 64 + (B (a + 2) - 128)) * 64 + (B (a + 3) - 128) : Nat) : Int)) := by unfold la; rw [if_neg (by omega), if_neg (by omega), if_neg (by omega), if_neg (by omega), if_neg (by omega), if_neg (by omega), if_neg (by omega)]
theorem or64 {q t : Nat} (ht : t < 64) (hq : q * 64 + t < 2 ^ 32) : nI (q * 64) ||| nI t = nI (q * 64 + t) := by
  apply Int32.toBitVec_inj.mp
  rw [Int32.toBitVec_or]
  show BitVec.ofNat 32 (q * 64) ||| BitVec.ofNat 32 t = BitVec.ofNat 32 (q * 64 + t)
  apply BitVec.eq_of_toNat_eq
  rw [BitVec.toNat_or, BitVec.toNat_ofNat, BitVec.toNat_ofNat, BitVec.toNat_ofNat, Nat.mod_eq_of_lt (by omega), Nat.mod_eq_of_lt (by omega), Nat.mod_eq_of_lt hq]
  have h := Nat.shiftLeft_add_eq_or_of_lt (i := 6) (b := t) (by omega) q
  rw [Nat.shiftLeft_eq] at h
  exact h.symm
theorem s_l : ∀ n, n < 32 → ((nI n &&& 31).toBitVec.smod 32).toNat = n := by decide +kernel
theorem sh_n {n k : Nat} (hk : k < 32) (h : n * 2 ^ k < 2 ^ 32) : nI n <<< (nI k &&& 31) = nI (n * 2 ^ k) := pk_shlN _ k (s_l k hk) h
theorem lwI_le (z : Int) : lwI z ≤ 4 := by unfold lwI; (repeat' split) <;> omega
theorem lwI_1 (z : Nat) : lwI (z : Int) = 1 ↔ z < 128 := by unfold lwI; (repeat' split) <;> omega
theorem lwI_2 (z : Nat) : lwI (z : Int) = 2 ↔ 128 ≤ z ∧ z < 2048 := by unfold lwI; (repeat' split) <;> omega
theorem lwI_3 (z : Nat) : lwI (z : Int) = 3 ↔ 2048 ≤ z ∧ z < 65536 ∧ (z < 55296 ∨ 57343 < z) := by unfold lwI; (repeat' split) <;> omega
theorem lwI_4 (z : Nat) : lwI (z : Int) = 4 ↔ 65536 ≤ z ∧ z ≤ 1114111 := by unfold lwI; (repeat' split) <;> omega
set_option maxHeartbeats 600000 in
set_option maxRecDepth 100000 in
/-- addLetter -/
theorem c_D_addLetter (l : Launch) (D : va_G) (cB : ClassId) (y b M : Nat) (B : Nat → Nat) (n p sz w z : Nat) (hz : lz w z) (hn : n + w ≤ M) (hM : M ≤ 65536) : Met l y_D_addLetter w_D_addLetter ({ frames := 1, cells := 0, slots := 0, locals := 21 }) (va_Pc [.ref y, .int (nI z), .int (nI w)] (oxw sz D [(cB, .byte)] [(y, .inr (1, [.ref b, .int (nI n), .int (nI p)])), (b, .inl (cB, M, .inl (fun j => sb_b (B j))))])) (va_Qv (fun _ : Unit => True) (fun _ => ow D [(cB, .byte)] (va_A [(y, .inr (1, [.ref b, .int (nI n), .int (nI p)])), (b, .inl (cB, M, .inl (fun j => sb_b (B j))))] sz) [(y, .inr (1, [.ref b, .int (nI (n + w)), .int (nI p)])), (b, .inl (cB, M, .inl (fun j => sb_b ((wr B n w (ltb z w)) j))))]) (va_A [(y, .inr (1, [.ref b, .int (nI n), .int (nI p)])), (b, .inl (cB, M, .inl (fun j => sb_b (B j))))] sz)) 0 0 (va_A [(y, .inr (1, [.ref b, .int (nI n), .int (nI p)])), (b, .inl (cB, M, .inl (fun j => sb_b (B j))))] sz) := by
  refine Met.ofW (cc := b_D_addLetter) (maxL := 5) (ret := none) (by decide) rfl ?_
  intro p9 e9 s m args below meth c9 s₁ BL hml hv
  obtain ⟨rfl, hsz, hP, hK, hD0⟩ := hv
  have hx := BL.exec
  have hb := BL.bytes
  have hr := BL.returns
  have hts := atoms_spec (ws := w_D_addLetter) BL.pre
  have hA : ∀ w ∈ wsA, w.before _ s = true := fun w h => hts w (List.mem_cons_of_mem _ h)
  have hown : s.vm.findClass R_D = some m.cls := findClass_of_methodNamed BL.named
  have hlocks := BL.notSynchronized
  subst hsz
  have hD := hD0.self (sz := s.heap.size)
  generalize hAe : va_A [(y, .inr (1, [.ref b, .int (nI n), .int (nI p)])), (b, .inl (cB, M, .inl (fun j => sb_b (B j))))] s.heap.size = A at hD ⊢
  have hAq : ∀ q : Nat, s.heap.size ≤ q → A q := fun q h => by rw [← hAe]; exact Or.inr h
  have hS : va_S A s.heap s.heap [] := va_S.rf
  have hP : va_P D vCl [(y, .inr (1, [.ref b, .int (nI n), .int (nI p)])), (b, .inl (cB, M, .inl (fun j => sb_b (B j))))] s.heap := hP
  have hl := lv_entry ([.ref y, .int (nI z), .int (nI w)]) (n := 5) (Nat.le_of_ble_eq_true rfl)
  rw [lg_entry_eq]
  generalize (lg_sl ([.ref y, .int (nI z), .int (nI w)]) ++ List.replicate (5 - (lg_sl ([.ref y, .int (nI z), .int (nI w)])).length) Slot.unset).toArray = ls at hl ⊢
  have hl : lv_has ls 5 [(0, .ref y), (1, .int (nI z)), (2, .int (nI w))] := hl
  have hw : 1 ≤ w ∧ w ≤ 4 ∧ z < 2097152 := by unfold lz at hz; omega
  refine lv_bipush (v := 6) hx hb d_D_addLetter_0 (by decide) ?_
  refine lv_iload_n hx hb d_D_addLetter_2 rfl (lv_at hl 2 rfl) ?_
  refine lv_iconst (v := 1) hx hb d_D_addLetter_3 (by decide) ?_
  refine lv_isub hx hb d_D_addLetter_4 ?_
  refine lv_topi (fun v4 ev4 => ?_)
  have ev4 : v4 = nI (w - 1) := by rw [ev4]; exact pk_sub (a := w) (b := 1) hw.1
  subst ev4
  refine lv_imul hx hb d_D_addLetter_5 ?_
  refine lv_topi (fun v5 ev5 => ?_)
  have ev5 : v5 = nI (6 * (w - 1)) := by rw [ev5]; exact sw_6 _
  subst ev5
  refine lv_istore_n (lv' := [(3, .int (nI (6 * (w - 1)))), (0, .ref y), (1, .int (nI z)), (2, .int (nI w))]) hx hb d_D_addLetter_6 rfl hl (by decide) rfl (fun ls hl => ?_)
  refine lv_aload_n hx hb d_D_addLetter_7 rfl (lv_at hl 1 rfl) ?_
  refine lv_iload_n hx hb d_D_addLetter_8 rfl (lv_at hl 3 rfl) ?_
  refine vp_callSi (W.runS (As := [.int (nI w)]) (rest := [.ref y]) ⟨hx, hb, hml, hown, hA⟩ (c_D_firstMark l w hw.2.1) (q_D_firstMark hA k1_224 rfl rfl ⟨(Nat.le_of_ble_eq_true rfl), (Nat.le_of_ble_eq_true rfl)⟩) (⟨fun a U g mk q => q, fun U hU hW => ⟨rfl, trivial⟩⟩) rfl rfl hl.1 rfl (lv_room (Nat.le_of_ble_eq_true rfl)) d_D_addLetter_9 ⟨(Nat.le_of_ble_eq_true rfl), (Nat.le_of_ble_eq_true rfl)⟩) (fun r9 hr9 => ?_)
  have er9 : r9 = nI (fmN w) := hr9
  subst er9
  refine lv_iload_n hx hb d_D_addLetter_12 rfl (lv_at hl 2 rfl) ?_
  refine lv_iload_n hx hb d_D_addLetter_13 rfl (lv_at hl 0 rfl) ?_
  refine lv_iushr hx hb d_D_addLetter_14 rfl ?_
  refine lv_topi (fun v14 ev14 => ?_)
  have ev14 : v14 = nI (z / 2 ^ (6 * (w - 1))) := by rw [ev14]; exact us_n (by omega) (by omega)
  subst ev14
  refine lv_ior hx hb d_D_addLetter_15 ?_
  refine lv_topi (fun v15 ev15 => ?_)
  subst ev15
  rw [show (fun j => sb_b (B j)) = (fun j => sb_b (wr B n 0 (ltb z w) j)) from by rw [wr_0]] at hP hD
  have hP : va_P D vCl [(y, .inr (1, [.ref b, .int (nI n), .int (nI p)])), (b, .inl (cB, M, .inl (fun j => sb_b ((wr B n 0 (ltb z w)) j))))] s.heap := hP
  have hD : va_D A [(y, .inr (1, [.ref b, .int (nI n), .int (nI p)])), (b, .inl (cB, M, .inl (fun j => sb_b ((wr B n 0 (ltb z w)) j))))] := hD
  have hPc := hP.sub (ws' := [(y, .inr (1, [.ref b, .int (nI n), .int (nI p)])), (b, .inl (cB, M, .inl (fun j => sb_b ((wr B n 0 (ltb z w)) j))))]) [0, 1] rfl
  have hDc := hD.sub (ws' := [(y, .inr (1, [.ref b, .int (nI n), .int (nI p)])), (b, .inl (cB, M, .inl (fun j => sb_b ((wr B n 0 (ltb z w)) j))))]) [0, 1] (by decide) rfl
  have hKc := hK.sub (tys' := [(cB, .byte)]) [0] rfl
  have hFc := va_free (wc := [(y, .inr (1, [.ref b, .int (nI n), .int (nI p)])), (b, .inl (cB, M, .inl (fun j => sb_b ((wr B n 0 (ltb z w)) j))))]) hD hS hAq [0, 1] rfl
  refine va_callv (va_runV (As := [.int (nI (fmN w) ||| nI (z / 2 ^ (6 * (w - 1))))]) (rest := []) ⟨hx, hb, hml, hown, hA⟩ (c_R_add l D cB y b M (wr B n 0 (ltb z w)) n p s.heap.size (nI (fmN w) ||| nI (z / 2 ^ (6 * (w - 1)))) (by omega) hM) (q_R_add hA k1_180 rfl rfl ⟨(Nat.le_of_ble_eq_true rfl), (Nat.le_of_ble_eq_true rfl)⟩) (ox_V (va_recv hKc hPc (ci := 1) (q0 := 0) rfl rfl) (oxw_S hPc hKc hDc)) rfl rfl hl.1 rfl (lv_room (Nat.le_of_ble_eq_true rfl)) d_D_addLetter_16 ⟨(Nat.le_of_ble_eq_true rfl), (Nat.le_of_ble_eq_true rfl)⟩) hS (fun q _ h => hFc q h) hFc (fun u9 t9 H1 locs ht9 hvm9 hw9 hB9 hz1 hk1 hS => ?_)
  obtain ⟨hP1, hK1, hD1⟩ := hB9
  rw [ht9] at hP1
  obtain ⟨hP, hD⟩ := va_join (wr := []) (w1 := [(y, .inr (1, [.ref b, .int (nI (n + 1)), .int (nI p)])), (b, .inl (cB, M, .inl (fun j => sb_b ((va_up (wr B n 0 (ltb z w)) n ((nI (fmN w) ||| nI (z / 2 ^ (6 * (w - 1)))).toBitVec.toNat % 256)) j))))]) hP hD [0, 1] [] rfl rfl (by decide) (by decide) hk1 hFc hP1 hD1
  generalize H1 = H at hP hS ⊢
  have hP : va_P D vCl [(y, .inr (1, [.ref b, .int (nI (n + 1)), .int (nI p)])), (b, .inl (cB, M, .inl (fun j => sb_b ((va_up (wr B n 0 (ltb z w)) n ((nI (fmN w) ||| nI (z / 2 ^ (6 * (w - 1)))).toBitVec.toNat % 256)) j))))] H := hP.sub [0, 1] rfl
  have hD : va_D A [(y, .inr (1, [.ref b, .int (nI (n + 1)), .int (nI p)])), (b, .inl (cB, M, .inl (fun j => sb_b ((va_up (wr B n 0 (ltb z w)) n ((nI (fmN w) ||| nI (z / 2 ^ (6 * (w - 1)))).toBitVec.toNat % 256)) j))))] := hD.sub [0, 1] (by decide) rfl
  rw [ltb_0 hz, show va_up (wr B n 0 (ltb z w)) n (ltb z w 0) = wr B n 1 (ltb z w) from wr_s B n 0 (ltb z w)] at hP hD
  refine lv_iconst (v := 1) hx hb d_D_addLetter_19 (by decide) ?_
  refine lv_topi (fun v19 ev19 => ?_)
  have ev19 : v19 = nI 1 := by rw [ev19]; rfl
  subst ev19
  refine lv_istore (lv' := [(4, .int (nI 1)), (3, .int (nI (6 * (w - 1)))), (0, .ref y), (1, .int (nI z)), (2, .int (nI w))]) hx hb d_D_addLetter_20 hl (by decide) rfl (fun ls hl => ?_)
  have loop : ∀ (q i : Nat), i + q = w + 1 → 0 < i → i ≤ w → ∀ (H : Heap) (locs : List Loc), va_P D vCl [(y, .inr (1, [.ref b, .int (nI (n + i)), .int (nI p)])), (b, .inl (cB, M, .inl (fun j => sb_b ((wr B n i (ltb z w)) j))))] H → va_D A [(y, .inr (1, [.ref b, .int (nI (n + i)), .int (nI p)])), (b, .inl (cB, M, .inl (fun j => sb_b ((wr B n i (ltb z w)) j))))] → va_S A s.heap H locs → ∀ (ls : Array Slot), lv_has ls 5 [(4, .int (nI i)), (0, .ref y), (1, .int (nI z)), (2, .int (nI w)), (3, .int (nI (6 * (w - 1))))] → W p9 l e9 (headSpec w_D_addLetter ({ frames := 1, cells := 0, slots := 0, locals := 21 })).room s m [.ref y, .int (nI z), .int (nI w)].toArray below meth c9 H locs 0 0 (MQ below (va_Qv (fun _ : Unit => True) (fun _ => ow D [(cB, .byte)] A [(y, .inr (1, [.ref b, .int (nI (n + w)), .int (nI p)])), (b, .inl (cB, M, .inl (fun j => sb_b ((wr B n w (ltb z w)) j))))]) A) [.ref y, .int (nI z), .int (nI w)].toArray s 0 0 A) (F0 m 22 ls []) := by
    intro q
    induction q with
    | zero =>
      intro i hq hi0 hi H locs hP hD hS ls hl
      exact absurd hq (by omega)
    | succ q ih_loop =>
      intro i hq hi0 hi H locs hP hD hS ls hl
      refine lv_iload hx hb d_D_addLetter_22 (lv_at hl 0 rfl) ?_
      refine lv_iload_n hx hb d_D_addLetter_24 rfl (lv_at hl 3 rfl) ?_
      refine lv_icmp_ge (tgt := 54) hx hb d_D_addLetter_25 (by decide) (fun c25 => ?_) (fun c25 => ?_)
      · obtain rfl : i = w := by have := (nI_leI (a := w) (b := i) (by omega) (by omega)).mp c25; omega
        exact W.vret hx hb hr (fun t ht hW => ⟨⟨(), rfl, trivial, by rw [ht]; exact hP, va_K.moved hW.alike hK, hD⟩, hS.F ht⟩) hS.2.2 d_D_addLetter_54
      · have hi2 : i < w := by have := mt (nI_leI (a := w) (b := i) (by omega) (by omega)).mpr c25; omega
        refine lv_aload_n hx hb d_D_addLetter_28 rfl (lv_at hl 1 rfl) ?_
        refine lv_sipush (v := 128) hx hb d_D_addLetter_29 (by decide) ?_
        refine lv_iload_n hx hb d_D_addLetter_32 rfl (lv_at hl 2 rfl) ?_
        refine lv_iload_n hx hb d_D_addLetter_33 rfl (lv_at hl 4 rfl) ?_
        refine lv_bipush (v := 6) hx hb d_D_addLetter_34 (by decide) ?_
        refine lv_iload hx hb d_D_addLetter_36 (lv_at hl 0 rfl) ?_
        refine lv_imul hx hb d_D_addLetter_38 ?_
        refine lv_topi (fun v38 ev38 => ?_)
        have ev38 : v38 = nI (6 * i) := by rw [ev38]; exact sw_6 i
        subst ev38
        refine lv_isub hx hb d_D_addLetter_39 ?_
        refine lv_topi (fun v39 ev39 => ?_)
        have ev39 : v39 = nI (6 * (w - 1 - i)) := by rw [ev39, pk_sub (by omega)]; congr 1; omega
        subst ev39
        refine lv_iushr hx hb d_D_addLetter_40 rfl ?_
        refine lv_topi (fun v40 ev40 => ?_)
        have ev40 : v40 = nI (z / 2 ^ (6 * (w - 1 - i))) := by rw [ev40]; exact us_n (by omega) (by omega)
        subst ev40
        refine lv_bipush (v := 63) hx hb d_D_addLetter_41 (by decide) ?_
        refine lv_iand hx hb d_D_addLetter_43 ?_
        refine lv_topi (fun v43 ev43 => ?_)
        have ev43 : v43 = nI (z / 2 ^ (6 * (w - 1 - i)) % 64) := by rw [ev43]; exact pk_andN (Nat.lt_of_le_of_lt (Nat.div_le_self _ _) (by omega)) 6 (by decide)
        subst ev43
        refine lv_ior hx hb d_D_addLetter_44 ?_
        refine lv_topi (fun v44 ev44 => ?_)
        subst ev44
        have hPc := hP.sub (ws' := [(y, .inr (1, [.ref b, .int (nI (n + i)), .int (nI p)])), (b, .inl (cB, M, .inl (fun j => sb_b ((wr B n i (ltb z w)) j))))]) [0, 1] rfl
        have hDc := hD.sub (ws' := [(y, .inr (1, [.ref b, .int (nI (n + i)), .int (nI p)])), (b, .inl (cB, M, .inl (fun j => sb_b ((wr B n i (ltb z w)) j))))]) [0, 1] (by decide) rfl
        have hKc := hK.sub (tys' := [(cB, .byte)]) [0] rfl
        have hFc := va_free (wc := [(y, .inr (1, [.ref b, .int (nI (n + i)), .int (nI p)])), (b, .inl (cB, M, .inl (fun j => sb_b ((wr B n i (ltb z w)) j))))]) hD hS hAq [0, 1] rfl
        refine va_callv (va_runV (As := [.int ((128 : Int32) ||| nI (z / 2 ^ (6 * (w - 1 - i)) % 64))]) (rest := []) ⟨hx, hb, hml, hown, hA⟩ (c_R_add l D cB y b M (wr B n i (ltb z w)) (n + i) p H.size ((128 : Int32) ||| nI (z / 2 ^ (6 * (w - 1 - i)) % 64)) (by omega) hM) (q_R_add hA k1_180 rfl rfl ⟨(Nat.le_of_ble_eq_true rfl), (Nat.le_of_ble_eq_true rfl)⟩) (ox_V (va_recv hKc hPc (ci := 1) (q0 := 0) rfl rfl) (oxw_S hPc hKc hDc)) rfl rfl hl.1 rfl (lv_room (Nat.le_of_ble_eq_true rfl)) d_D_addLetter_45 ⟨(Nat.le_of_ble_eq_true rfl), (Nat.le_of_ble_eq_true rfl)⟩) hS (fun q _ h => hFc q h) hFc (fun u9 t9 H1 locs ht9 hvm9 hw9 hB9 hz1 hk1 hS => ?_)
        obtain ⟨hP1, hK1, hD1⟩ := hB9
        rw [ht9] at hP1
        obtain ⟨hP, hD⟩ := va_join (wr := []) (w1 := [(y, .inr (1, [.ref b, .int (nI (n + i + 1)), .int (nI p)])), (b, .inl (cB, M, .inl (fun j => sb_b ((va_up (wr B n i (ltb z w)) (n + i) (((128 : Int32) ||| nI (z / 2 ^ (6 * (w - 1 - i)) % 64)).toBitVec.toNat % 256)) j))))]) hP hD [0, 1] [] rfl rfl (by decide) (by decide) hk1 hFc hP1 hD1
        generalize H1 = H at hP hS ⊢
        have hP : va_P D vCl [(y, .inr (1, [.ref b, .int (nI (n + i + 1)), .int (nI p)])), (b, .inl (cB, M, .inl (fun j => sb_b ((va_up (wr B n i (ltb z w)) (n + i) (((128 : Int32) ||| nI (z / 2 ^ (6 * (w - 1 - i)) % 64)).toBitVec.toNat % 256)) j))))] H := hP.sub [0, 1] rfl
        have hD : va_D A [(y, .inr (1, [.ref b, .int (nI (n + i + 1)), .int (nI p)])), (b, .inl (cB, M, .inl (fun j => sb_b ((va_up (wr B n i (ltb z w)) (n + i) (((128 : Int32) ||| nI (z / 2 ^ (6 * (w - 1 - i)) % 64)).toBitVec.toNat % 256)) j))))] := hD.sub [0, 1] (by decide) rfl
        rw [ltb_i (by omega), wr_s] at hP hD
        obtain ⟨v48, ev48⟩ : ∃ y : Int32, y = nI i + 1 := ⟨_, rfl⟩
        refine lv_iinc (v := v48) (lv' := [(4, .int v48), (0, .ref y), (1, .int (nI z)), (2, .int (nI w)), (3, .int (nI (6 * (w - 1))))]) hx hb d_D_addLetter_48 hl (k := 0) rfl (by rw [ev48]; rfl) (by decide) rfl (fun ls hl => ?_)
        have ev48 : v48 = nI (i + 1) := by rw [ev48]; exact nI_1 i
        subst ev48
        refine lv_goto (tgt := 22) hx hb d_D_addLetter_51 (by decide) ?_
        exact ih_loop (i + 1) (by omega) (by omega) (by omega) _ _ (hP.sub [0, 1] rfl) (hD.sub [0, 1] (by decide) rfl) hS ls (lv_sub hl [0, 1, 2, 3, 4] rfl)
  exact loop w 1 (by omega) (by omega) (by omega) _ _ (hP.sub [0, 1] rfl) (hD.sub [0, 1] (by decide) rfl) hS ls (lv_sub hl [0, 2, 3, 4, 1] rfl)
