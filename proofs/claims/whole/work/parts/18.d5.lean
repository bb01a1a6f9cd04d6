/-! THE CLASS: SEVENS -/
theorem g_S {s : State} {H : Heap} {av : List Value} (hG : tx_G s) (hh : ∀ q : Nat, q < s.heap.size → H[q]? = s.heap[q]?) : PreS s H (va_Pc av tx_G) av := ⟨fun a U g mk q => ⟨q.1, q.2.call g mk a⟩, fun U hU hW => ⟨rfl, hG.go hW (by rw [hU]; exact hh)⟩⟩
def sv (u i : Nat) : Nat := (if i + 1 < sw u then 128 else 0) + u / 2 ^ (7 * i) % 128
theorem sv_lt (u i : Nat) : sv u i < 256 := by
  unfold sv
  have := Nat.mod_lt (u / 2 ^ (7 * i)) (show 128 > 0 by decide)
  split <;> omega
theorem sw_hi {u : Nat} (h : sw u < 10) : u < 2 ^ (7 * sw u) := by
  unfold sw at h ⊢
  (repeat' split at h) <;> (repeat' split) <;> first | omega | (simp only [Nat.reduceMul, Nat.reducePow] at *; omega)
theorem or128 : ∀ z, z < 128 → (128 : Int32) ||| nI z = nI (128 + z) := by decide +kernel
theorem and127 (x : Int32) : x &&& 127 = nI (x.toBitVec.toNat % 128) := pk_and x 7 (by decide)
theorem sv_1 {u i : Nat} (hu : u < 2 ^ 64) (hi : i + 1 < sw u) : ((128 : Int32) ||| ((lN (u / 2 ^ (7 * i))).toInt32 &&& 127)).toBitVec.toNat % 256 = sv u i := by
  have hz : u / 2 ^ (7 * i) % 128 < 128 := Nat.mod_lt _ (by decide)
  rw [and127, tn_l2i (Nat.lt_of_le_of_lt (Nat.div_le_self _ _) hu), show u / 2 ^ (7 * i) % 2 ^ 32 % 128 = u / 2 ^ (7 * i) % 128 by omega, or128 _ hz, pk_tn (by omega)]
  unfold sv
  rw [if_pos hi]
  omega
theorem sv_2 {u : Nat} (hu : u < 2 ^ 64) : (lN (u / 2 ^ (7 * (sw u - 1)))).toInt32.toBitVec.toNat % 256 = sv u (sw u - 1) := by
  have h1 := sw_in u
  have h2 : u / 2 ^ (7 * (sw u - 1)) < 128 := by
    rcases Nat.lt_or_ge (sw u) 10 with h | h
    · have h3 := sw_hi h
      rw [show 7 * sw u = 7 + 7 * (sw u - 1) by omega, Nat.pow_add] at h3
      exact Nat.div_lt_of_lt_mul (by rw [Nat.mul_comm]; exact h3)
    · have e1 : sw u = 10 := by omega
      rw [e1]
      exact Nat.div_lt_of_lt_mul (Nat.lt_of_lt_of_le hu (by decide))
  rw [tn_l2i (Nat.lt_of_le_of_lt (Nat.div_le_self _ _) hu)]
  unfold sv
  rw [if_neg (by omega)]
  generalize u / 2 ^ (7 * (sw u - 1)) = z at h2 ⊢
  omega
/-- the number of k groups from p on -/
def gs (B : Nat → Nat) (p : Nat) : Nat → Nat
  | 0 => 0
  | k + 1 => gs B p k + B (p + k) % 128 * 2 ^ (7 * k)
theorem gs_lt (B : Nat → Nat) (p k : Nat) : gs B p k < 2 ^ (7 * k) := by
  induction k with
  | zero => exact Nat.one_pos
  | succ k ih =>
    show gs B p k + B (p + k) % 128 * 2 ^ (7 * k) < 2 ^ (7 * (k + 1))
    rw [show 7 * (k + 1) = 7 * k + 7 by omega, Nat.pow_add]
    have h1 := Nat.mod_lt (B (p + k)) (show 128 > 0 by decide)
    have h2 : B (p + k) % 128 * 2 ^ (7 * k) ≤ 127 * 2 ^ (7 * k) := Nat.mul_le_mul_right _ (by omega)
    omega
theorem gs_mono (B : Nat → Nat) (p : Nat) {i k : Nat} (h : i ≤ k) : gs B p i ≤ gs B p k := by
  induction k with
  | zero => rw [show i = 0 by omega]; exact Nat.le_refl _
  | succ k ih =>
    rcases Nat.lt_or_ge i (k + 1) with q | q
    · exact Nat.le_trans (ih (by omega)) (Nat.le_add_right _ _)
    · rw [show i = k + 1 by omega]; exact Nat.le_refl _
/-- sevens read from p on in a row of n: how many bytes; -2: wrong, -3: it ends -/
def gw (B : Nat → Nat) (p n : Nat) : Nat → Int
  | 0 => -2
  | f + 1 => if n ≤ p + (9 - f) then -3 else if B (p + (9 - f)) < 128 then (if (9 - f = 9 ∧ 1 < B (p + (9 - f))) ∨ (0 < 9 - f ∧ B (p + (9 - f)) = 0) then -2 else ((9 - f : Nat) : Int) + 1) else gw B p n f
theorem gw_s {B : Nat → Nat} {p n g : Nat} (hg : g < 10) : gw B p n (10 - g) = if n ≤ p + g then -3 else if B (p + g) < 128 then (if (g = 9 ∧ 1 < B (p + g)) ∨ (0 < g ∧ B (p + g) = 0) then -2 else (g : Int) + 1) else gw B p n (10 - (g + 1)) := by
  obtain ⟨f, hf⟩ : ∃ f, 10 - g = f + 1 := ⟨9 - g, by omega⟩
  rw [hf]
  show (if n ≤ p + (9 - f) then (-3 : Int) else _) = _
  rw [show 9 - f = g by omega, show 10 - (g + 1) = f by omega]
theorem gw_ok {B : Nat → Nat} {p n : Nat} : ∀ (f : Nat) (w : Nat), f ≤ 10 → gw B p n f = (w : Int) → 10 - f < w ∧ w ≤ 10 ∧ p + w ≤ n ∧ (w = 10 → B (p + 9) ≤ 1) := by
  intro f
  induction f with
  | zero => intro w _ h; exact absurd h (by show ¬ (-2 : Int) = _; omega)
  | succ f ih =>
    intro w hf h
    unfold gw at h
    split at h
    · omega
    · split at h
      · split at h
        · omega
        · have e1 : w = 9 - f + 1 := by omega
          rename_i a b c
          refine ⟨by omega, by omega, by omega, fun e2 => ?_⟩
          have e3 : 9 - f = 9 := by omega
          rw [e3] at c
          omega
      · obtain ⟨a, b, c, d⟩ := ih w (by omega) h
        exact ⟨by omega, b, c, d⟩
theorem gw_in (B : Nat → Nat) (p n : Nat) : ∀ f : Nat, f ≤ 10 → gw B p n f = -2 ∨ gw B p n f = -3 ∨ ∃ w : Nat, gw B p n f = (w : Int) ∧ 1 ≤ w := by
  intro f
  induction f with
  | zero => intro _; exact Or.inl rfl
  | succ f ih =>
    intro hf
    unfold gw
    split
    · exact Or.inr (Or.inl rfl)
    · split
      · split
        · exact Or.inl rfl
        · exact Or.inr (Or.inr ⟨9 - f + 1, rfl, by omega⟩)
      · exact ih (by omega)
theorem gs_64 {B : Nat → Nat} {p w : Nat} (hw : w ≤ 10) (h : w = 10 → B (p + 9) ≤ 1) : gs B p w < 2 ^ 64 := by
  rcases Nat.lt_or_ge w 10 with q | q
  · exact Nat.lt_of_lt_of_le (gs_lt B p w) (Nat.pow_le_pow_right (by decide) (by omega))
  · obtain rfl : w = 10 := by omega
    have h1 := gs_lt B p 9
    have h2 := h rfl
    show gs B p 9 + B (p + 9) % 128 * 2 ^ (7 * 9) < 2 ^ 64
    have h3 : B (p + 9) % 128 * 2 ^ (7 * 9) ≤ 1 * 2 ^ (7 * 9) := Nat.mul_le_mul_right _ (by omega)
    simp only [Nat.reduceMul, Nat.reducePow] at *
    omega
set_option maxHeartbeats 600000 in
set_option maxRecDepth 100000 in
/-- addSevens -/
theorem c_D_addSevens (l : Launch) (D : va_G) (cB : ClassId) (y b M : Nat) (B : Nat → Nat) (n p sz u : Nat) (hu : u < 2 ^ 64) (hn : n + sw u ≤ M) (hM : M ≤ 65536) : Met l y_D_addSevens w_D_addSevens ({ frames := 1, cells := 0, slots := 0, locals := 22 }) (va_Pc [.ref y, .long (lN u)] (oxw sz D [(cB, .byte)] [(y, .inr (1, [.ref b, .int (nI n), .int (nI p)])), (b, .inl (cB, M, .inl (fun j => sb_b (B j))))])) (va_Qv (fun _ : Unit => True) (fun _ => ow D [(cB, .byte)] (va_A [(y, .inr (1, [.ref b, .int (nI n), .int (nI p)])), (b, .inl (cB, M, .inl (fun j => sb_b (B j))))] sz) [(y, .inr (1, [.ref b, .int (nI (n + sw u)), .int (nI p)])), (b, .inl (cB, M, .inl (fun j => sb_b ((wr B n (sw u) (sv u)) j))))]) (va_A [(y, .inr (1, [.ref b, .int (nI n), .int (nI p)])), (b, .inl (cB, M, .inl (fun j => sb_b (B j))))] sz)) 0 0 (va_A [(y, .inr (1, [.ref b, .int (nI n), .int (nI p)])), (b, .inl (cB, M, .inl (fun j => sb_b (B j))))] sz) := by
  refine Met.ofW (cc := b_D_addSevens) (maxL := 5) (ret := none) (by decide) rfl ?_
  intro p9 e9 s m args below meth c9 s₁ BL hml hv
  obtain ⟨rfl, hsz, hP, hK, hD0⟩ := hv
  have hx := BL.exec
  have hb := BL.bytes
  have hr := BL.returns
  have hts := atoms_spec (ws := w_D_addSevens) BL.pre
  have hA : ∀ w ∈ wsA, w.before _ s = true := fun w h => hts w (List.mem_cons_of_mem _ h)
  have hown : s.vm.findClass R_D = some m.cls := findClass_of_methodNamed BL.named
  have hlocks := BL.notSynchronized
  subst hsz
  have hD := hD0.self (sz := s.heap.size)
  generalize hAe : va_A [(y, .inr (1, [.ref b, .int (nI n), .int (nI p)])), (b, .inl (cB, M, .inl (fun j => sb_b (B j))))] s.heap.size = A at hD ⊢
  have hAq : ∀ q : Nat, s.heap.size ≤ q → A q := fun q h => by rw [← hAe]; exact Or.inr h
  have hS : va_S A s.heap s.heap [] := va_S.rf
  have hP : va_P D vCl [(y, .inr (1, [.ref b, .int (nI n), .int (nI p)])), (b, .inl (cB, M, .inl (fun j => sb_b (B j))))] s.heap := hP
  have hl := lv_entry ([.ref y, .long (lN u)]) (n := 5) (Nat.le_of_ble_eq_true rfl)
  rw [lg_entry_eq]
  generalize (lg_sl ([.ref y, .long (lN u)]) ++ List.replicate (5 - (lg_sl ([.ref y, .long (lN u)])).length) Slot.unset).toArray = ls at hl ⊢
  have hl : lv_has ls 5 [(0, .ref y), (1, .long (lN u))] := hl
  refine lv_lload_n hx hb d_D_addSevens_0 rfl (lv_at hl 1 rfl) ?_
  refine vp_callSi (W.runS (As := [.long (lN u)]) (rest := []) ⟨hx, hb, hml, hown, hA⟩ (c_D_sevensWidth l u hu) (q_D_sevensWidth hA k1_194 rfl rfl ⟨(Nat.le_of_ble_eq_true rfl), (Nat.le_of_ble_eq_true rfl)⟩) (⟨fun a U g mk q => q, fun U hU hW => ⟨rfl, trivial⟩⟩) rfl rfl hl.1 rfl (lv_room (Nat.le_of_ble_eq_true rfl)) d_D_addSevens_1 ⟨(Nat.le_of_ble_eq_true rfl), (Nat.le_of_ble_eq_true rfl)⟩) (fun r1 hr1 => ?_)
  have er1 : r1 = nI (sw u) := hr1
  subst er1
  have hsw := sw_in u
  refine lv_iconst (v := 1) hx hb d_D_addSevens_4 (by decide) ?_
  refine lv_isub hx hb d_D_addSevens_5 ?_
  refine lv_topi (fun v5 ev5 => ?_)
  have ev5 : v5 = nI (sw u - 1) := by rw [ev5]; exact pk_sub (a := sw u) (b := 1) hsw.1
  subst ev5
  refine lv_istore_n (lv' := [(3, .int (nI (sw u - 1))), (0, .ref y), (1, .long (lN u))]) hx hb d_D_addSevens_6 rfl hl (by decide) rfl (fun ls hl => ?_)
  refine lv_iconst (v := 0) hx hb d_D_addSevens_7 (by decide) ?_
  refine lv_istore (lv' := [(4, .int 0), (3, .int (nI (sw u - 1))), (0, .ref y), (1, .long (lN u))]) hx hb d_D_addSevens_8 hl (by decide) rfl (fun ls hl => ?_)
  rw [show (fun j => sb_b (B j)) = (fun j => sb_b (wr B n 0 (sv u) j)) from by rw [wr_0]] at hP hD
  have loop : ∀ (q i : Nat), i + q = sw u → i ≤ sw u - 1 → ∀ (H : Heap) (locs : List Loc), va_P D vCl [(y, .inr (1, [.ref b, .int (nI (n + i)), .int (nI p)])), (b, .inl (cB, M, .inl (fun j => sb_b ((wr B n i (sv u)) j))))] H → va_D A [(y, .inr (1, [.ref b, .int (nI (n + i)), .int (nI p)])), (b, .inl (cB, M, .inl (fun j => sb_b ((wr B n i (sv u)) j))))] → va_S A s.heap H locs → ∀ (ls : Array Slot), lv_has ls 5 [(4, .int (nI i)), (3, .int (nI (sw u - 1))), (0, .ref y), (1, .long (lN u))] → W p9 l e9 (headSpec w_D_addSevens ({ frames := 1, cells := 0, slots := 0, locals := 22 })).room s m [.ref y, .long (lN u)].toArray below meth c9 H locs 0 0 (MQ below (va_Qv (fun _ : Unit => True) (fun _ => ow D [(cB, .byte)] A [(y, .inr (1, [.ref b, .int (nI (n + sw u)), .int (nI p)])), (b, .inl (cB, M, .inl (fun j => sb_b ((wr B n (sw u) (sv u)) j))))]) A) [.ref y, .long (lN u)].toArray s 0 0 A) (F0 m 10 ls []) := by
    intro q
    induction q with
    | zero =>
      intro i hq hi H locs hP hD hS ls hl
      exact absurd hq (by omega)
    | succ q ih_loop =>
      intro i hq hi H locs hP hD hS ls hl
      refine lv_iload hx hb d_D_addSevens_10 (lv_at hl 0 rfl) ?_
      refine lv_iload_n hx hb d_D_addSevens_12 rfl (lv_at hl 1 rfl) ?_
      refine lv_icmp_ge (tgt := 41) hx hb d_D_addSevens_13 (by decide) (fun c13 => ?_) (fun c13 => ?_)
      · obtain rfl : i = sw u - 1 := by have := (nI_leI (a := sw u - 1) (b := i) (by omega) (by omega)).mp c13; omega
        refine lv_aload_n hx hb d_D_addSevens_41 rfl (lv_at hl 2 rfl) ?_
        refine lv_lload_n hx hb d_D_addSevens_42 rfl (lv_at hl 3 rfl) ?_
        refine lv_bipush (v := 7) hx hb d_D_addSevens_43 (by decide) ?_
        refine lv_iload_n hx hb d_D_addSevens_45 rfl (lv_at hl 1 rfl) ?_
        refine lv_imul hx hb d_D_addSevens_46 ?_
        refine lv_topi (fun v46 ev46 => ?_)
        refine lv_lushr hx hb d_D_addSevens_47 rfl ?_
        refine lv_topl (fun v47 ev47 => ?_)
        have ev47 : v47 = lN (u / 2 ^ (7 * (sw u - 1))) := by rw [ev47, ev46, sw_7]; exact wb_shr hu (by omega)
        subst ev47
        refine lv_l2i hx hb d_D_addSevens_48 rfl ?_
        refine lv_topi (fun v48 ev48 => ?_)
        subst ev48
        have hPc := hP.sub (ws' := [(y, .inr (1, [.ref b, .int (nI (n + (sw u - 1))), .int (nI p)])), (b, .inl (cB, M, .inl (fun j => sb_b ((wr B n (sw u - 1) (sv u)) j))))]) [0, 1] rfl
        have hDc := hD.sub (ws' := [(y, .inr (1, [.ref b, .int (nI (n + (sw u - 1))), .int (nI p)])), (b, .inl (cB, M, .inl (fun j => sb_b ((wr B n (sw u - 1) (sv u)) j))))]) [0, 1] (by decide) rfl
        have hKc := hK.sub (tys' := [(cB, .byte)]) [0] rfl
        have hFc := va_free (wc := [(y, .inr (1, [.ref b, .int (nI (n + (sw u - 1))), .int (nI p)])), (b, .inl (cB, M, .inl (fun j => sb_b ((wr B n (sw u - 1) (sv u)) j))))]) hD hS hAq [0, 1] rfl
        refine va_callv (va_runV (As := [.int ((lN (u / 2 ^ (7 * (sw u - 1)))).toInt32)]) (rest := []) ⟨hx, hb, hml, hown, hA⟩ (c_R_add l D cB y b M (wr B n (sw u - 1) (sv u)) (n + (sw u - 1)) p H.size (lN (u / 2 ^ (7 * (sw u - 1)))).toInt32 (by omega) hM) (q_R_add hA k1_180 rfl rfl ⟨(Nat.le_of_ble_eq_true rfl), (Nat.le_of_ble_eq_true rfl)⟩) (ox_V (va_recv hKc hPc (ci := 1) (q0 := 0) rfl rfl) (oxw_S hPc hKc hDc)) rfl rfl hl.1 rfl (lv_room (Nat.le_of_ble_eq_true rfl)) d_D_addSevens_49 ⟨(Nat.le_of_ble_eq_true rfl), (Nat.le_of_ble_eq_true rfl)⟩) hS (fun q _ h => hFc q h) hFc (fun u9 t9 H1 locs ht9 hvm9 hw9 hB9 hz1 hk1 hS => ?_)
        obtain ⟨hP1, hK1, hD1⟩ := hB9
        rw [ht9] at hP1
        obtain ⟨hP, hD⟩ := va_join (wr := []) (w1 := [(y, .inr (1, [.ref b, .int (nI (n + (sw u - 1) + 1)), .int (nI p)])), (b, .inl (cB, M, .inl (fun j => sb_b ((va_up (wr B n (sw u - 1) (sv u)) (n + (sw u - 1)) ((lN (u / 2 ^ (7 * (sw u - 1)))).toInt32.toBitVec.toNat % 256)) j))))]) hP hD [0, 1] [] rfl rfl (by decide) (by decide) hk1 hFc hP1 hD1
        generalize H1 = H at hP hS ⊢
        have hP : va_P D vCl [(y, .inr (1, [.ref b, .int (nI (n + (sw u - 1) + 1)), .int (nI p)])), (b, .inl (cB, M, .inl (fun j => sb_b ((va_up (wr B n (sw u - 1) (sv u)) (n + (sw u - 1)) ((lN (u / 2 ^ (7 * (sw u - 1)))).toInt32.toBitVec.toNat % 256)) j))))] H := hP.sub [0, 1] rfl
        have hD : va_D A [(y, .inr (1, [.ref b, .int (nI (n + (sw u - 1) + 1)), .int (nI p)])), (b, .inl (cB, M, .inl (fun j => sb_b ((va_up (wr B n (sw u - 1) (sv u)) (n + (sw u - 1)) ((lN (u / 2 ^ (7 * (sw u - 1)))).toInt32.toBitVec.toNat % 256)) j))))] := hD.sub [0, 1] (by decide) rfl
        rw [sv_2 hu, wr_s, show n + (sw u - 1) + 1 = n + sw u by omega, show sw u - 1 + 1 = sw u by omega] at hP hD
        exact W.vret hx hb hr (fun t ht hW => ⟨⟨(), rfl, trivial, by rw [ht]; exact hP, va_K.moved hW.alike hK, hD⟩, hS.F ht⟩) hS.2.2 d_D_addSevens_52
      · have hi2 : i < sw u - 1 := by have := mt (nI_leI (a := sw u - 1) (b := i) (by omega) (by omega)).mpr c13; omega
        refine lv_aload_n hx hb d_D_addSevens_16 rfl (lv_at hl 2 rfl) ?_
        refine lv_sipush (v := 128) hx hb d_D_addSevens_17 (by decide) ?_
        refine lv_lload_n hx hb d_D_addSevens_20 rfl (lv_at hl 3 rfl) ?_
        refine lv_bipush (v := 7) hx hb d_D_addSevens_21 (by decide) ?_
        refine lv_iload hx hb d_D_addSevens_23 (lv_at hl 0 rfl) ?_
        refine lv_imul hx hb d_D_addSevens_25 ?_
        refine lv_topi (fun v25 ev25 => ?_)
        refine lv_lushr hx hb d_D_addSevens_26 rfl ?_
        refine lv_topl (fun v26 ev26 => ?_)
        have ev26 : v26 = lN (u / 2 ^ (7 * i)) := by rw [ev26, ev25, sw_7]; exact wb_shr hu (by omega)
        subst ev26
        refine lv_l2i hx hb d_D_addSevens_27 rfl ?_
        refine lv_topi (fun v27 ev27 => ?_)
        subst ev27
        refine lv_bipush (v := 127) hx hb d_D_addSevens_28 (by decide) ?_
        refine lv_iand hx hb d_D_addSevens_30 ?_
        refine lv_topi (fun v30 ev30 => ?_)
        subst ev30
        refine lv_ior hx hb d_D_addSevens_31 ?_
        refine lv_topi (fun v31 ev31 => ?_)
        subst ev31
        have hPc := hP.sub (ws' := [(y, .inr (1, [.ref b, .int (nI (n + i)), .int (nI p)])), (b, .inl (cB, M, .inl (fun j => sb_b ((wr B n i (sv u)) j))))]) [0, 1] rfl
        have hDc := hD.sub (ws' := [(y, .inr (1, [.ref b, .int (nI (n + i)), .int (nI p)])), (b, .inl (cB, M, .inl (fun j => sb_b ((wr B n i (sv u)) j))))]) [0, 1] (by decide) rfl
        have hKc := hK.sub (tys' := [(cB, .byte)]) [0] rfl
        have hFc := va_free (wc := [(y, .inr (1, [.ref b, .int (nI (n + i)), .int (nI p)])), (b, .inl (cB, M, .inl (fun j => sb_b ((wr B n i (sv u)) j))))]) hD hS hAq [0, 1] rfl
        refine va_callv (va_runV (As := [.int ((128 : Int32) ||| ((lN (u / 2 ^ (7 * i))).toInt32 &&& 127))]) (rest := []) ⟨hx, hb, hml, hown, hA⟩ (c_R_add l D cB y b M (wr B n i (sv u)) (n + i) p H.size ((128 : Int32) ||| ((lN (u / 2 ^ (7 * i))).toInt32 &&& 127)) (by omega) hM) (q_R_add hA k1_180 rfl rfl ⟨(Nat.le_of_ble_eq_true rfl), (Nat.le_of_ble_eq_true rfl)⟩) (ox_V (va_recv hKc hPc (ci := 1) (q0 := 0) rfl rfl) (oxw_S hPc hKc hDc)) rfl rfl hl.1 rfl (lv_room (Nat.le_of_ble_eq_true rfl)) d_D_addSevens_32 ⟨(Nat.le_of_ble_eq_true rfl), (Nat.le_of_ble_eq_true rfl)⟩) hS (fun q _ h => hFc q h) hFc (fun u9 t9 H1 locs ht9 hvm9 hw9 hB9 hz1 hk1 hS => ?_)
        obtain ⟨hP1, hK1, hD1⟩ := hB9
        rw [ht9] at hP1
        obtain ⟨hP, hD⟩ := va_join (wr := []) (w1 := [(y, .inr (1, [.ref b, .int (nI (n + i + 1)), .int (nI p)])), (b, .inl (cB, M, .inl (fun j => sb_b ((va_up (wr B n i (sv u)) (n + i) (((128 : Int32) ||| ((lN (u / 2 ^ (7 * i))).toInt32 &&& 127)).toBitVec.toNat % 256)) j))))]) hP hD [0, 1] [] rfl rfl (by decide) (by decide) hk1 hFc hP1 hD1
        generalize H1 = H at hP hS ⊢
        have hP : va_P D vCl [(y, .inr (1, [.ref b, .int (nI (n + i + 1)), .int (nI p)])), (b, .inl (cB, M, .inl (fun j => sb_b ((va_up (wr B n i (sv u)) (n + i) (((128 : Int32) ||| ((lN (u / 2 ^ (7 * i))).toInt32 &&& 127)).toBitVec.toNat % 256)) j))))] H := hP.sub [0, 1] rfl
        have hD : va_D A [(y, .inr (1, [.ref b, .int (nI (n + i + 1)), .int (nI p)])), (b, .inl (cB, M, .inl (fun j => sb_b ((va_up (wr B n i (sv u)) (n + i) (((128 : Int32) ||| ((lN (u / 2 ^ (7 * i))).toInt32 &&& 127)).toBitVec.toNat % 256)) j))))] := hD.sub [0, 1] (by decide) rfl
        rw [sv_1 hu (by omega), wr_s] at hP hD
        obtain ⟨v35, ev35⟩ : ∃ y : Int32, y = nI i + 1 := ⟨_, rfl⟩
        refine lv_iinc (v := v35) (lv' := [(4, .int v35), (3, .int (nI (sw u - 1))), (0, .ref y), (1, .long (lN u))]) hx hb d_D_addSevens_35 hl (k := 0) rfl (by rw [ev35]; rfl) (by decide) rfl (fun ls hl => ?_)
        have ev35 : v35 = nI (i + 1) := by rw [ev35]; exact nI_1 i
        subst ev35
        refine lv_goto (tgt := 10) hx hb d_D_addSevens_38 (by decide) ?_
        exact ih_loop (i + 1) (by omega) (by omega) _ _ (hP.sub [0, 1] rfl) (hD.sub [0, 1] (by decide) rfl) hS ls (lv_sub hl [0, 1, 2, 3] rfl)
  exact loop (sw u) 0 (by omega) (by omega) _ _ (hP.sub [0, 1] rfl) (hD.sub [0, 1] (by decide) rfl) hS ls (lv_sub hl [0, 1, 2, 3] rfl)
set_option maxHeartbeats 600000 in
set_option maxRecDepth 100000 in
/-- sevensAtPlace -/
theorem c_D_sevensAtPlace (l : Launch) (D : va_G) (cB : ClassId) (y b M : Nat) (B : Nat → Nat) (nv : Int32) (p w : Nat) (hw : w ≤ 10) (ha : p + w ≤ M) (hM : M ≤ 65536) (hB : ∀ j, B j < 256) (h64 : gs B p w < 2 ^ 64) : Met l y_D_sevensAtPlace w_D_sevensAtPlace ({ frames := 1, cells := 0, slots := 0, locals := 21 }) (va_Pc [.ref y, .int (nI w)] (ox D [(cB, .byte)] [(y, .inr (1, [.ref b, .int nv, .int (nI p)])), (b, .inl (cB, M, .inl (fun j => sb_b (B j))))])) (vp_Sl (fun r => r = lN (gs B p w))) 0 0 (fun _ => False) := by
  refine Met.ofW (cc := b_D_sevensAtPlace) (maxL := 5) (ret := (some .long)) (by decide) rfl ?_
  intro p9 e9 s m args below meth c9 s₁ BL hml hv
  obtain ⟨rfl, hP, hK⟩ := hv
  have hx := BL.exec
  have hb := BL.bytes
  have hr := BL.returns
  have hts := atoms_spec (ws := w_D_sevensAtPlace) BL.pre
  have hA : ∀ w ∈ wsA, w.before _ s = true := fun w h => hts w (List.mem_cons_of_mem _ h)
  have hown : s.vm.findClass R_D = some m.cls := findClass_of_methodNamed BL.named
  have hlocks := BL.notSynchronized
  have hP : va_P D vCl [(y, .inr (1, [.ref b, .int nv, .int (nI p)])), (b, .inl (cB, M, .inl (fun j => sb_b (B j))))] s.heap := hP
  have hl := lv_entry ([.ref y, .int (nI w)]) (n := 5) (Nat.le_of_ble_eq_true rfl)
  rw [lg_entry_eq]
  generalize (lg_sl ([.ref y, .int (nI w)]) ++ List.replicate (5 - (lg_sl ([.ref y, .int (nI w)])).length) Slot.unset).toArray = ls at hl ⊢
  have hl : lv_has ls 5 [(0, .ref y), (1, .int (nI w))] := hl
  refine lv_lconst (v := 0) hx hb d_D_sevensAtPlace_0 (by decide) ?_
  refine lv_lstore_n (lv' := [(2, .long 0), (0, .ref y), (1, .int (nI w))]) hx hb d_D_sevensAtPlace_1 rfl hl (by decide) rfl (fun ls hl => ?_)
  refine lv_iconst (v := 0) hx hb d_D_sevensAtPlace_2 (by decide) ?_
  refine lv_istore (lv' := [(4, .int 0), (2, .long 0), (0, .ref y), (1, .int (nI w))]) hx hb d_D_sevensAtPlace_3 hl (by decide) rfl (fun ls hl => ?_)
  have loop : ∀ (q i : Nat), i + q = w + 1 → i ≤ w → ∀ (ls : Array Slot), lv_has ls 5 [(4, .int (nI i)), (2, .long (lN (gs B p i))), (0, .ref y), (1, .int (nI w))] → W p9 l e9 (headSpec w_D_sevensAtPlace ({ frames := 1, cells := 0, slots := 0, locals := 21 })).room s m [.ref y, .int (nI w)].toArray below meth c9 s.heap [] 0 0 (MQ below (vp_Sl (fun r => r = lN (gs B p w))) [.ref y, .int (nI w)].toArray s 0 0 (fun _ => False)) (F0 m 5 ls []) := by
    intro q
    induction q with
    | zero =>
      intro i hq hi ls hl
      exact absurd hq (by omega)
    | succ q ih_loop =>
      intro i hq hi ls hl
      refine lv_iload hx hb d_D_sevensAtPlace_5 (lv_at hl 0 rfl) ?_
      refine lv_iload_n hx hb d_D_sevensAtPlace_7 rfl (lv_at hl 3 rfl) ?_
      refine lv_icmp_ge (tgt := 41) hx hb d_D_sevensAtPlace_8 (by decide) (fun c8 => ?_) (fun c8 => ?_)
      · refine lv_lload_n hx hb d_D_sevensAtPlace_41 rfl (lv_at hl 1 rfl) ?_
        obtain rfl : i = w := by have := (nI_leI (a := w) (b := i) (by omega) (by omega)).mp c8; omega
        exact W.lret (v := lN (gs B p i)) hx hb hr (fun t ht hW => ⟨_, rfl, (rfl), ht⟩) (fun q h => by cases h) d_D_sevensAtPlace_42
      · have hi2 : i < w := by have := mt (nI_leI (a := w) (b := i) (by omega) (by omega)).mpr c8; omega
        refine lv_lload_n hx hb d_D_sevensAtPlace_11 rfl (lv_at hl 1 rfl) ?_
        refine lv_aload_n hx hb d_D_sevensAtPlace_12 rfl (lv_at hl 2 rfl) ?_
        refine lv_aload_n hx hb d_D_sevensAtPlace_13 rfl (lv_at hl 2 rfl) ?_
        refine va_get (D := D) (ci := 1) (v := .int (nI p)) (C := R_R) (T := F_R) (N := 3) hx hb hA i_R hown hK hP 0 rfl rfl 2 (by decide) (hA _ k1_40) (fun _ h9 => h9) rfl d_D_sevensAtPlace_14 ?_
        refine lv_iload hx hb d_D_sevensAtPlace_17 (lv_at hl 0 rfl) ?_
        refine lv_iadd hx hb d_D_sevensAtPlace_19 ?_
        refine lv_topi (fun v19 ev19 => ?_)
        have ev19 : v19 = nI (p + i) := by rw [ev19]; exact nI_add p i
        subst ev19
        have hPc := hP.sub (ws' := [(y, .inr (1, [.ref b, .int nv, .int (nI p)])), (b, .inl (cB, M, .inl (fun j => sb_b (B j))))]) [0, 1] rfl
        have hKc := hK.sub (tys' := [(cB, .byte)]) [0] rfl
        refine vp_callSi (W.runV (As := [.int (nI (p + i))]) (rest := [.long (lN (gs B p i))]) ⟨hx, hb, hml, hown, hA⟩ (c_R_get l D cB y b M B nv (nI p) (p + i) (by omega) hM hB) (q_R_get hA k2_21 rfl rfl ⟨(Nat.le_of_ble_eq_true rfl), (Nat.le_of_ble_eq_true rfl)⟩) (ox_V (va_recv hKc hPc (ci := 1) (q0 := 0) rfl rfl) (ox_S hPc hKc)) rfl rfl hl.1 rfl (lv_room (Nat.le_of_ble_eq_true rfl)) d_D_sevensAtPlace_20 ⟨(Nat.le_of_ble_eq_true rfl), (Nat.le_of_ble_eq_true rfl)⟩) (fun r20 hr20 => ?_)
        have er20 : r20 = nI (B (p + i)) := hr20
        subst er20
        refine lv_bipush (v := 127) hx hb d_D_sevensAtPlace_23 (by decide) ?_
        refine lv_iand hx hb d_D_sevensAtPlace_25 ?_
        refine lv_topi (fun v25 ev25 => ?_)
        have ev25 : v25 = nI (B (p + i) % 128) := by rw [ev25]; exact pk_andN (by have := hB (p + i); omega) 7 (by decide)
        subst ev25
        refine lv_i2l hx hb d_D_sevensAtPlace_26 rfl ?_
        refine lv_topl (fun v26 ev26 => ?_)
        have ev26 : v26 = lN (B (p + i) % 128) := by rw [ev26]; exact nI_l (by omega)
        subst ev26
        refine lv_bipush (v := 7) hx hb d_D_sevensAtPlace_27 (by decide) ?_
        refine lv_iload hx hb d_D_sevensAtPlace_29 (lv_at hl 0 rfl) ?_
        refine lv_imul hx hb d_D_sevensAtPlace_31 ?_
        refine lv_topi (fun v31 ev31 => ?_)
        refine lv_lshl hx hb d_D_sevensAtPlace_32 rfl ?_
        refine lv_topl (fun v32 ev32 => ?_)
        have ev32 : v32 = lN (B (p + i) % 128 * 2 ^ (7 * i)) := by rw [ev32, ev31, sw_7]; exact wb_shl _ (by omega)
        subst ev32
        have hx1 := gs_lt B p i
        have hx2 : gs B p (i + 1) ≤ gs B p w := gs_mono B p (by omega)
        refine lv_lor hx hb d_D_sevensAtPlace_33 ?_
        refine lv_topl (fun v33 ev33 => ?_)
        have ev33 : v33 = lN (gs B p (i + 1)) := by rw [ev33]; exact g_or' (k := 7 * i) rfl hx1 (Nat.lt_of_le_of_lt hx2 h64)
        subst ev33
        refine lv_lstore_n (lv' := [(2, .long (lN (gs B p (i + 1)))), (4, .int (nI i)), (0, .ref y), (1, .int (nI w))]) hx hb d_D_sevensAtPlace_34 rfl hl (by decide) rfl (fun ls hl => ?_)
        obtain ⟨v35, ev35⟩ : ∃ y : Int32, y = nI i + 1 := ⟨_, rfl⟩
        refine lv_iinc (v := v35) (lv' := [(4, .int v35), (2, .long (lN (gs B p (i + 1)))), (0, .ref y), (1, .int (nI w))]) hx hb d_D_sevensAtPlace_35 hl (k := 1) rfl (by rw [ev35]; rfl) (by decide) rfl (fun ls hl => ?_)
        have ev35 : v35 = nI (i + 1) := by rw [ev35]; exact nI_1 i
        subst ev35
        refine lv_goto (tgt := 5) hx hb d_D_sevensAtPlace_38 (by decide) ?_
        exact ih_loop (i + 1) (by omega) (by omega) ls (lv_sub hl [0, 1, 2, 3] rfl)
  exact loop (w + 1) 0 (by omega) (by omega) ls (lv_sub hl [0, 1, 2, 3] rfl)
