/-! THE CLASS: CONSTRUCTORS -/
theorem arr_1 {D : va_G} {cl : List vw_C} {tys : List (ClassId × FieldType)} {U : State} {k c1 c2 : Nat} (h : va_K D cl tys U) (h1 : tys[k]? = some (c1, .byte)) (h2 : va_K D cl [(c2, .byte)] U) : c2 = c1 :=
  Option.some.inj ((show U.vm.findClass _ = some c2 from (h2.2 0 _ rfl).2).symm.trans (h.2 k _ h1).2)
def f4 (a b c d : Nat) : Nat → Nat
  | 0 => a
  | 1 => b
  | 2 => c
  | _ => d
/-- the limit -/
def lim (x : Int32) : Nat := if x.toInt < 16 then 16 else if 65536 < x.toInt then 65536 else x.toInt.toNat
theorem lim_in (x : Int32) : 16 ≤ lim x ∧ lim x ≤ 65536 := by
  unfold lim
  (repeat' split) <;> omega
theorem lim_eq (x : Int32) {a b : Int32} (ha : a = if x < 65536 then x else 65536) (hb : b = if 16 < a then a else 16) : b = nI (lim x) := by
  have hl := lim_in x
  apply Int32.toInt_inj.mp
  rw [nI_toInt (by omega)]
  have ha' : a.toInt = if x.toInt < 65536 then x.toInt else 65536 := by
    rw [ha]
    by_cases h : x < 65536
    · rw [if_pos h, if_pos (by rw [Int32.lt_iff_toInt_lt, li_65536] at h; exact h)]
    · rw [if_neg h, if_neg (by rw [Int32.lt_iff_toInt_lt, li_65536] at h; exact h)]; rfl
  have hb' : b.toInt = if 16 < a.toInt then a.toInt else 16 := by
    rw [hb]
    by_cases h : 16 < a
    · rw [if_pos h, if_pos (by rw [Int32.lt_iff_toInt_lt, li_16] at h; exact h)]
    · rw [if_neg h, if_neg (by rw [Int32.lt_iff_toInt_lt, li_16] at h; exact h)]; rfl
  rw [hb', ha']
  unfold lim
  (repeat' split) <;> omega
/-- the rows of a new desk -/
def σ0 : dkS := fun _ => (fun _ => 0, 0, 0)
theorem σ0_ok {M : Nat} (h : M ≤ 65536) : dkok M σ0 := ⟨h, fun i _ => ⟨Nat.le_refl _, Nat.zero_le _, fun _ => by show 0 < 256; decide⟩⟩
set_option maxHeartbeats 600000 in
set_option maxRecDepth 100000 in
/-- Row's constructor -/
theorem c_R_init (l : Launch) (D : va_G) (y sz M : Nat) (hM : M ≤ 65536) : Met l y_R_init w_R_init ({ frames := 1, cells := 1, slots := 65536, locals := 30 }) (va_Pc [.ref y, .int (nI M)] (oxw sz D [] [(y, .inr (1, [.null, .int 0, .int 0]))])) (va_Qv (fun _ : ClassId × Nat => True) (fun u => ow D [(u.1, .byte)] (va_A [(y, .inr (1, [.null, .int 0, .int 0]))] sz) [(y, .inr (1, [.ref u.2, .int (nI 0), .int (nI 0)])), (u.2, .inl (u.1, M, .inl (fun _ => sb_b 0)))]) (va_A [(y, .inr (1, [.null, .int 0, .int 0]))] sz)) 1 65536 (va_A [(y, .inr (1, [.null, .int 0, .int 0]))] sz) := by
  refine Met.ofW (cc := b_R_init) (maxL := 2) (ret := none) (by decide) rfl ?_
  intro p9 e9 s m args below meth c9 s₁ BL hml hv
  obtain ⟨rfl, hsz, hP, hK, hD0⟩ := hv
  have hx := BL.exec
  have hb := BL.bytes
  have hr := BL.returns
  have hts := atoms_spec (ws := w_R_init) BL.pre
  have hA : ∀ w ∈ wsA, w.before _ s = true := fun w h => hts w (List.mem_cons_of_mem _ h)
  have hown : s.vm.findClass R_R = some m.cls := findClass_of_methodNamed BL.named
  have hlocks := BL.notSynchronized
  subst hsz
  have hD := hD0.self (sz := s.heap.size)
  generalize hAe : va_A [(y, .inr (1, [.null, .int 0, .int 0]))] s.heap.size = A at hD ⊢
  have hAq : ∀ q : Nat, s.heap.size ≤ q → A q := fun q h => by rw [← hAe]; exact Or.inr h
  have hS : va_S A s.heap s.heap [] := va_S.rf
  have hP : va_P D vCl [(y, .inr (1, [.null, .int 0, .int 0]))] s.heap := hP
  have hin9 : meth.name = "<init>" := (name_of_methodNamed BL.named BL.method).1
  have hl := lv_entry ([.ref y, .int (nI M)]) (n := 2) (Nat.le_of_ble_eq_true rfl)
  rw [lg_entry_eq]
  generalize (lg_sl ([.ref y, .int (nI M)]) ++ List.replicate (2 - (lg_sl ([.ref y, .int (nI M)])).length) Slot.unset).toArray = ls at hl ⊢
  have hl : lv_has ls 2 [(0, .ref y), (1, .int (nI M))] := hl
  refine lv_aload_n hx hb d_R_init_0 rfl (lv_at hl 0 rfl) ?_
  refine W.objInit hx hb hown (hA _ k1_35) (hA _ k1_20) (hA _ k1_21) rfl (by rw [hml]; exact hl.1) rfl d_R_init_1 (Nat.le_of_ble_eq_true rfl) (Nat.le_of_ble_eq_true rfl) ?_
  refine W.eq (g2 := F0 m 4 ls []) rfl ?_
  refine lv_aload_n hx hb d_R_init_4 rfl (lv_at hl 0 rfl) ?_
  refine lv_iload_n hx hb d_R_init_5 rfl (lv_at hl 1 rfl) ?_
  refine va_newa (atype := .byte) (ty := .byte) (a0 := (M, .inl (fun _ => 0))) (N' := M) hx hb (hA _ k1_48) rfl hK hP hD hS hAq (fun _ => rfl) (nI_pos (by omega)) (nI_clamp (by omega)) (by show M * 1 ≤ _; omega) (Nat.le_of_ble_eq_true rfl) (by show 0 + M ≤ 65536; omega) d_R_init_6 (fun b cB H hK hP hD hS => ?_)
  have hK : va_K D vCl [(cB, .byte)] s := hK
  have hP : va_P D vCl [(y, .inr (1, [.null, .int 0, .int 0])), (b, .inl (cB, M, .inl (fun _ => 0)))] H := hP
  have hD : va_D A [(y, .inr (1, [.null, .int 0, .int 0])), (b, .inl (cB, M, .inl (fun _ => 0)))] := hD
  rw [show (fun _ : Nat => (0 : Int32)) = fun _ => sb_b 0 from by funext _; decide] at hP hD
  have hP : va_P D vCl [(y, .inr (1, [.null, .int 0, .int 0])), (b, .inl (cB, M, .inl (fun _ => sb_b 0)))] H := hP
  have hD : va_D A [(y, .inr (1, [.null, .int 0, .int 0])), (b, .inl (cB, M, .inl (fun _ => sb_b 0)))] := hD
  refine va_putF (D := D) (ci := 1) (v := .ref b) (ty := .array .byte) (C := R_R) (T := F_R) (N := 3) hx hb hA i_R t_R t_R_ok n_R hown hK hP hD hS 0 rfl rfl 0 (by decide) (hA _ k1_36) (fun _ h9 => h9) rfl hin9 rfl (by decide +kernel) rfl rfl (Nat.le_of_ble_eq_true rfl) d_R_init_8 (fun H locs hP hD hS => ?_)
  have hP : va_P D vCl [(y, .inr (1, [.ref b, .int 0, .int 0])), (b, .inl (cB, M, .inl (fun _ => sb_b 0)))] H := hP
  have hD : va_D A [(y, .inr (1, [.ref b, .int 0, .int 0])), (b, .inl (cB, M, .inl (fun _ => sb_b 0)))] := hD
  refine W.widen (k := 1) (n := 65536) (by omega) (by omega) ?_
  exact W.vret hx hb hr (fun t ht hW => ⟨⟨(cB, b), rfl, trivial, by rw [ht]; exact hP, va_K.moved hW.alike hK, hD⟩, hS.F ht⟩) hS.2.2 d_R_init_11
set_option maxHeartbeats 2000000 in
set_option maxRecDepth 100000 in
/-- the class's constructor -/
theorem c_D_init (l : Launch) (D : va_G) (h sz : Nat) (x : Int32) : Met l y_D_init w_D_init ({ frames := 2, cells := 9, slots := 262160, locals := 51 }) (va_Pc [.ref h, .int x] (fun U => va_AO "PacketDesk$Row" U ∧ oxw sz D [] [(h, .inr (0, [.null]))] U)) (va_Qv (fun u : ClassId × ClassId × Nat × (Nat → Option Nat) × (Nat → Nat) × (Nat → Nat) => ∀ i, i < 4 → u.2.2.2.1 i = some (u.2.2.2.2.1 i)) (fun u => ow D [(u.2.1, .byte), (u.1, .object "PacketDesk$Row")] (va_A [(h, .inr (0, [.null]))] sz) (dk u.1 u.2.1 h u.2.2.1 u.2.2.2.1 (lim x) u.2.2.2.2.1 u.2.2.2.2.2 σ0)) (va_A [(h, .inr (0, [.null]))] sz)) 9 262160 (va_A [(h, .inr (0, [.null]))] sz) := by
  refine Met.ofW (cc := b_D_init) (maxL := 4) (ret := none) (by decide) rfl ?_
  intro p9 e9 s m args below meth c9 s₁ BL hml hv
  obtain ⟨rfl, hAO, hsz, hP, hK, hD0⟩ := hv
  have hx := BL.exec
  have hb := BL.bytes
  have hr := BL.returns
  have hts := atoms_spec (ws := w_D_init) BL.pre
  have hA : ∀ w ∈ wsA, w.before _ s = true := fun w h => hts w (List.mem_cons_of_mem _ h)
  have hown : s.vm.findClass R_D = some m.cls := findClass_of_methodNamed BL.named
  have hlocks := BL.notSynchronized
  subst hsz
  have hD := hD0.self (sz := s.heap.size)
  generalize hAe : va_A [(h, .inr (0, [.null]))] s.heap.size = A at hD ⊢
  have hAq : ∀ q : Nat, s.heap.size ≤ q → A q := fun q h => by rw [← hAe]; exact Or.inr h
  have hS : va_S A s.heap s.heap [] := va_S.rf
  have hP : va_P D vCl [(h, .inr (0, [.null]))] s.heap := hP
  have hin9 : meth.name = "<init>" := (name_of_methodNamed BL.named BL.method).1
  have hl := lv_entry ([.ref h, .int x]) (n := 4) (Nat.le_of_ble_eq_true rfl)
  rw [lg_entry_eq]
  generalize (lg_sl ([.ref h, .int x]) ++ List.replicate (4 - (lg_sl ([.ref h, .int x])).length) Slot.unset).toArray = ls at hl ⊢
  have hl : lv_has ls 4 [(0, .ref h), (1, .int x)] := hl
  refine lv_aload_n hx hb d_D_init_0 rfl (lv_at hl 0 rfl) ?_
  refine W.objInit hx hb hown (hA _ k1_19) (hA _ k1_20) (hA _ k1_21) rfl (by rw [hml]; exact hl.1) rfl d_D_init_1 (Nat.le_of_ble_eq_true rfl) (Nat.le_of_ble_eq_true rfl) ?_
  refine W.eq (g2 := F0 m 4 ls []) rfl ?_
  refine lv_bipush (v := 16) hx hb d_D_init_4 (by decide) ?_
  refine lv_ldc (v := 65536) hx hb hown (hA _ k1_22) d_D_init_6 ?_
  refine lv_iload_n hx hb d_D_init_8 rfl (lv_at hl 1 rfl) ?_
  refine va_mmin hx hb (hml.trans hl.1.symm) hown (hA _ k1_23) (hA _ k1_24) (hA _ k1_2) (hA _ k1_25) (Nat.le_of_ble_eq_true rfl) (Nat.le_of_ble_eq_true rfl) (Nat.le_of_ble_eq_true rfl) (Nat.le_of_ble_eq_true rfl) d_D_init_9 ?_
  refine lv_topi (fun v9 ev9 => ?_)
  refine va_mmax hx hb (hml.trans hl.1.symm) hown (hA _ k1_26) (hA _ k1_27) (hA _ k1_2) (hA _ k1_28) (Nat.le_of_ble_eq_true rfl) (Nat.le_of_ble_eq_true rfl) (Nat.le_of_ble_eq_true rfl) (Nat.le_of_ble_eq_true rfl) d_D_init_12 ?_
  refine lv_topi (fun v12 ev12 => ?_)
  have hlim := lim_in x
  have ev12 : v12 = nI (lim x) := lim_eq x ev9 ev12
  subst ev12
  refine lv_istore_n (lv' := [(2, .int (nI (lim x))), (0, .ref h), (1, .int x)]) hx hb d_D_init_15 rfl hl (by decide) rfl (fun ls hl => ?_)
  refine lv_aload_n hx hb d_D_init_16 rfl (lv_at hl 1 rfl) ?_
  refine lv_iconst (v := 4) hx hb d_D_init_17 (by decide) ?_
  refine va_newq hx hb hown (hA _ k1_29) hAO hK hP hD hS hAq (N' := 4) (by decide) (by decide) (by decide) (Nat.le_of_ble_eq_true rfl) (Nat.le_of_ble_eq_true rfl) d_D_init_18 (fun ra cR H hK hP hD hS => ?_)
  have hK : va_K D vCl [(cR, .object "PacketDesk$Row")] s := hK
  have hP : va_P D vCl [(h, .inr (0, [.null])), (ra, .inl (cR, 4, .inr (.inr (.inr (.inr (fun _ => none))))))] H := hP
  have hD : va_D A [(h, .inr (0, [.null])), (ra, .inl (cR, 4, .inr (.inr (.inr (.inr (fun _ => none))))))] := hD
  refine va_putF (D := D) (ci := 0) (v := .ref ra) (ty := .array (.object "PacketDesk$Row")) (C := R_D) (T := F_D) (N := 1) hx hb hA i_D t_D t_D_ok n_D hown hK hP hD hS 0 rfl rfl 0 (by decide) (hA _ k1_49) (fun _ h9 => h9) rfl hin9 rfl (by decide +kernel) rfl rfl (Nat.le_of_ble_eq_true rfl) d_D_init_21 (fun H locs hP hD hS => ?_)
  have hP : va_P D vCl [(h, .inr (0, [.ref ra])), (ra, .inl (cR, 4, .inr (.inr (.inr (.inr (fun _ => none))))))] H := hP
  have hD : va_D A [(h, .inr (0, [.ref ra])), (ra, .inl (cR, 4, .inr (.inr (.inr (.inr (fun _ => none))))))] := hD
  refine lv_iconst (v := 0) hx hb d_D_init_24 (by decide) ?_
  refine lv_istore_n (lv' := [(3, .int 0), (2, .int (nI (lim x))), (0, .ref h), (1, .int x)]) hx hb d_D_init_25 rfl hl (by decide) rfl (fun ls hl => ?_)
  refine lv_iload_n hx hb d_D_init_26 rfl (lv_at hl 0 rfl) ?_
  refine lv_iconst (v := 4) hx hb d_D_init_27 (by decide) ?_
  refine lv_icmp_ge (tgt := 51) hx hb d_D_init_28 (by decide) (fun q9 => absurd q9 (by decide)) (fun _ => ?_)
  refine lv_aload_n hx hb d_D_init_31 rfl (lv_at hl 2 rfl) ?_
  refine va_get (D := D) (ci := 0) (v := .ref ra) (C := R_D) (T := F_D) (N := 1) hx hb hA i_D hown hK hP 0 rfl rfl 0 (by decide) (hA _ k1_49) (fun _ h9 => h9) rfl d_D_init_32 ?_
  refine lv_iload_n hx hb d_D_init_35 rfl (lv_at hl 0 rfl) ?_
  refine va_new (ci := 1) (fs := [.null, .int 0, .int 0]) (C := R_R) (T := F_R) (N := 3) hx hb hA i_R t_R t_R_ok hown (hA _ k1_29) (hA _ k1_31) (hA _ k1_3) hK hP hD hS hAq rfl (fun j hj => by rcases (show j = 0 ∨ j = 1 ∨ j = 2 by omega) with rfl | rfl | rfl <;> rfl) (Nat.le_of_ble_eq_true rfl) (Nat.le_of_ble_eq_true rfl) d_D_init_36 (fun y0 H hP hD hS => ?_)
  have hP : va_P D vCl [(h, .inr (0, [.ref ra])), (ra, .inl (cR, 4, .inr (.inr (.inr (.inr (fun _ => none)))))), (y0, .inr (1, [.null, .int 0, .int 0]))] H := hP
  have hD : va_D A [(h, .inr (0, [.ref ra])), (ra, .inl (cR, 4, .inr (.inr (.inr (.inr (fun _ => none)))))), (y0, .inr (1, [.null, .int 0, .int 0]))] := hD
  refine lv_dup hx hb d_D_init_39 rfl ?_
  refine lv_iload_n hx hb d_D_init_40 rfl (lv_at hl 1 rfl) ?_
  have hPc := hP.sub (ws' := [(y0, .inr (1, [.null, .int 0, .int 0]))]) [2] rfl
  have hDc := hD.sub (ws' := [(y0, .inr (1, [.null, .int 0, .int 0]))]) [2] (by decide) rfl
  have hKc := hK.sub (tys' := []) [] rfl
  have hFc := va_free (wc := [(y0, .inr (1, [.null, .int 0, .int 0]))]) hD hS hAq [2] rfl
  refine va_callv (va_runI (As := [.int (nI (lim x))]) (rest := [.ref y0, .int 0, .ref ra]) ⟨hx, hb, hml, hown, hA⟩ (c_R_init l D y0 H.size (lim x) hlim.2) (q_R_init hA k1_32 rfl rfl ⟨(Nat.le_of_ble_eq_true rfl), (Nat.le_of_ble_eq_true rfl)⟩) (oxw_S hPc hKc hDc) rfl rfl hl.1 rfl (lv_room (Nat.le_of_ble_eq_true rfl)) d_D_init_41 ⟨(Nat.le_of_ble_eq_true rfl), (Nat.le_of_ble_eq_true rfl)⟩) hS (fun q _ h => hFc q h) hFc (fun u9 t9 H1 locs ht9 hvm9 hw9 hB9 hz1 hk1 hS => ?_)
  obtain ⟨hP1, hK1, hD1⟩ := hB9
  rw [ht9] at hP1
  have hK1 := va_K.moved hvm9.symm hK1
  obtain ⟨cB0, b0⟩ := u9
  replace hK1 : va_K D vCl [(cB0, .byte)] s := hK1
  have hK : va_K D vCl [(cR, .object "PacketDesk$Row"), (cB0, .byte)] s := hK.app hK1
  obtain ⟨hP, hD⟩ := va_join (wr := [(h, .inr (0, [.ref ra])), (ra, .inl (cR, 4, .inr (.inr (.inr (.inr (fun _ => none))))))]) (w1 := [(y0, .inr (1, [.ref b0, .int (nI 0), .int (nI 0)])), (b0, .inl (cB0, (lim x), .inl (fun _ => sb_b 0)))]) hP hD [2] [0, 1] rfl rfl (by decide) (by decide) hk1 hFc hP1 hD1
  generalize H1 = H at hP hS ⊢
  have hP : va_P D vCl [(h, .inr (0, [.ref ra])), (ra, .inl (cR, 4, .inr (.inr (.inr (.inr (fun _ => none)))))), (y0, .inr (1, [.ref b0, .int (nI 0), .int (nI 0)])), (b0, .inl (cB0, (lim x), .inl (fun _ => sb_b 0)))] H := hP
  have hD : va_D A [(h, .inr (0, [.ref ra])), (ra, .inl (cR, 4, .inr (.inr (.inr (.inr (fun _ => none)))))), (y0, .inr (1, [.ref b0, .int (nI 0), .int (nI 0)])), (b0, .inl (cB0, (lim x), .inl (fun _ => sb_b 0)))] := hD
  refine va_astq hx hb hK hP hD hS 1 0 2 1 rfl rfl rfl rfl (by unfold vp_in; decide) d_D_init_44 (fun H locs hP hD hS => ?_)
  have hP : va_P D vCl [(h, .inr (0, [.ref ra])), (ra, .inl (cR, 4, .inr (.inr (.inr (.inr (va_up (fun _ => none) (0 : Int32).toNatClampNeg (some y0))))))), (y0, .inr (1, [.ref b0, .int (nI 0), .int (nI 0)])), (b0, .inl (cB0, (lim x), .inl (fun _ => sb_b 0)))] H := hP
  have hD : va_D A [(h, .inr (0, [.ref ra])), (ra, .inl (cR, 4, .inr (.inr (.inr (.inr (va_up (fun _ => none) (0 : Int32).toNatClampNeg (some y0))))))), (y0, .inr (1, [.ref b0, .int (nI 0), .int (nI 0)])), (b0, .inl (cB0, (lim x), .inl (fun _ => sb_b 0)))] := hD
  obtain ⟨v45, ev45⟩ : ∃ y : Int32, y = 0 + 1 := ⟨_, rfl⟩
  refine lv_iinc (v := v45) (lv' := [(3, .int v45), (2, .int (nI (lim x))), (0, .ref h), (1, .int x)]) hx hb d_D_init_45 hl (k := 0) rfl (by rw [ev45]; rfl) (by decide) rfl (fun ls hl => ?_)
  have ev45 : v45 = 1 := by rw [ev45]; decide
  subst ev45
  refine lv_goto (tgt := 26) hx hb d_D_init_48 (by decide) ?_
  refine lv_iload_n hx hb d_D_init_26 rfl (lv_at hl 0 rfl) ?_
  refine lv_iconst (v := 4) hx hb d_D_init_27 (by decide) ?_
  refine lv_icmp_ge (tgt := 51) hx hb d_D_init_28 (by decide) (fun q9 => absurd q9 (by decide)) (fun _ => ?_)
  refine lv_aload_n hx hb d_D_init_31 rfl (lv_at hl 2 rfl) ?_
  refine va_get (D := D) (ci := 0) (v := .ref ra) (C := R_D) (T := F_D) (N := 1) hx hb hA i_D hown hK hP 0 rfl rfl 0 (by decide) (hA _ k1_49) (fun _ h9 => h9) rfl d_D_init_32 ?_
  refine lv_iload_n hx hb d_D_init_35 rfl (lv_at hl 0 rfl) ?_
  refine va_new (ci := 1) (fs := [.null, .int 0, .int 0]) (C := R_R) (T := F_R) (N := 3) hx hb hA i_R t_R t_R_ok hown (hA _ k1_29) (hA _ k1_31) (hA _ k1_3) hK hP hD hS hAq rfl (fun j hj => by rcases (show j = 0 ∨ j = 1 ∨ j = 2 by omega) with rfl | rfl | rfl <;> rfl) (Nat.le_of_ble_eq_true rfl) (Nat.le_of_ble_eq_true rfl) d_D_init_36 (fun y1 H hP hD hS => ?_)
  have hP : va_P D vCl [(h, .inr (0, [.ref ra])), (ra, .inl (cR, 4, .inr (.inr (.inr (.inr (va_up (fun _ => none) (0 : Int32).toNatClampNeg (some y0))))))), (y0, .inr (1, [.ref b0, .int (nI 0), .int (nI 0)])), (b0, .inl (cB0, (lim x), .inl (fun _ => sb_b 0))), (y1, .inr (1, [.null, .int 0, .int 0]))] H := hP
  have hD : va_D A [(h, .inr (0, [.ref ra])), (ra, .inl (cR, 4, .inr (.inr (.inr (.inr (va_up (fun _ => none) (0 : Int32).toNatClampNeg (some y0))))))), (y0, .inr (1, [.ref b0, .int (nI 0), .int (nI 0)])), (b0, .inl (cB0, (lim x), .inl (fun _ => sb_b 0))), (y1, .inr (1, [.null, .int 0, .int 0]))] := hD
  refine lv_dup hx hb d_D_init_39 rfl ?_
  refine lv_iload_n hx hb d_D_init_40 rfl (lv_at hl 1 rfl) ?_
  have hPc := hP.sub (ws' := [(y1, .inr (1, [.null, .int 0, .int 0]))]) [4] rfl
  have hDc := hD.sub (ws' := [(y1, .inr (1, [.null, .int 0, .int 0]))]) [4] (by decide) rfl
  have hKc := hK.sub (tys' := []) [] rfl
  have hFc := va_free (wc := [(y1, .inr (1, [.null, .int 0, .int 0]))]) hD hS hAq [4] rfl
  refine va_callv (va_runI (As := [.int (nI (lim x))]) (rest := [.ref y1, .int 1, .ref ra]) ⟨hx, hb, hml, hown, hA⟩ (c_R_init l D y1 H.size (lim x) hlim.2) (q_R_init hA k1_32 rfl rfl ⟨(Nat.le_of_ble_eq_true rfl), (Nat.le_of_ble_eq_true rfl)⟩) (oxw_S hPc hKc hDc) rfl rfl hl.1 rfl (lv_room (Nat.le_of_ble_eq_true rfl)) d_D_init_41 ⟨(Nat.le_of_ble_eq_true rfl), (Nat.le_of_ble_eq_true rfl)⟩) hS (fun q _ h => hFc q h) hFc (fun u9 t9 H1 locs ht9 hvm9 hw9 hB9 hz1 hk1 hS => ?_)
  obtain ⟨hP1, hK1, hD1⟩ := hB9
  rw [ht9] at hP1
  have hK1 := va_K.moved hvm9.symm hK1
  obtain ⟨cB1, b1⟩ := u9
  replace hK1 : va_K D vCl [(cB1, .byte)] s := hK1
  obtain rfl : cB0 = cB1 := (arr_1 hK (k := 1) rfl hK1).symm
  obtain ⟨hP, hD⟩ := va_join (wr := [(h, .inr (0, [.ref ra])), (ra, .inl (cR, 4, .inr (.inr (.inr (.inr (va_up (fun _ => none) (0 : Int32).toNatClampNeg (some y0))))))), (y0, .inr (1, [.ref b0, .int (nI 0), .int (nI 0)])), (b0, .inl (cB0, (lim x), .inl (fun _ => sb_b 0)))]) (w1 := [(y1, .inr (1, [.ref b1, .int (nI 0), .int (nI 0)])), (b1, .inl (cB0, (lim x), .inl (fun _ => sb_b 0)))]) hP hD [4] [0, 1, 2, 3] rfl rfl (by decide) (by decide) hk1 hFc hP1 hD1
  generalize H1 = H at hP hS ⊢
  have hP : va_P D vCl [(h, .inr (0, [.ref ra])), (ra, .inl (cR, 4, .inr (.inr (.inr (.inr (va_up (fun _ => none) (0 : Int32).toNatClampNeg (some y0))))))), (y0, .inr (1, [.ref b0, .int (nI 0), .int (nI 0)])), (b0, .inl (cB0, (lim x), .inl (fun _ => sb_b 0))), (y1, .inr (1, [.ref b1, .int (nI 0), .int (nI 0)])), (b1, .inl (cB0, (lim x), .inl (fun _ => sb_b 0)))] H := hP
  have hD : va_D A [(h, .inr (0, [.ref ra])), (ra, .inl (cR, 4, .inr (.inr (.inr (.inr (va_up (fun _ => none) (0 : Int32).toNatClampNeg (some y0))))))), (y0, .inr (1, [.ref b0, .int (nI 0), .int (nI 0)])), (b0, .inl (cB0, (lim x), .inl (fun _ => sb_b 0))), (y1, .inr (1, [.ref b1, .int (nI 0), .int (nI 0)])), (b1, .inl (cB0, (lim x), .inl (fun _ => sb_b 0)))] := hD
  refine va_astq hx hb hK hP hD hS 1 0 4 1 rfl rfl rfl rfl (by unfold vp_in; decide) d_D_init_44 (fun H locs hP hD hS => ?_)
  have hP : va_P D vCl [(h, .inr (0, [.ref ra])), (ra, .inl (cR, 4, .inr (.inr (.inr (.inr (va_up (va_up (fun _ => none) (0 : Int32).toNatClampNeg (some y0)) (1 : Int32).toNatClampNeg (some y1))))))), (y0, .inr (1, [.ref b0, .int (nI 0), .int (nI 0)])), (b0, .inl (cB0, (lim x), .inl (fun _ => sb_b 0))), (y1, .inr (1, [.ref b1, .int (nI 0), .int (nI 0)])), (b1, .inl (cB0, (lim x), .inl (fun _ => sb_b 0)))] H := hP
  have hD : va_D A [(h, .inr (0, [.ref ra])), (ra, .inl (cR, 4, .inr (.inr (.inr (.inr (va_up (va_up (fun _ => none) (0 : Int32).toNatClampNeg (some y0)) (1 : Int32).toNatClampNeg (some y1))))))), (y0, .inr (1, [.ref b0, .int (nI 0), .int (nI 0)])), (b0, .inl (cB0, (lim x), .inl (fun _ => sb_b 0))), (y1, .inr (1, [.ref b1, .int (nI 0), .int (nI 0)])), (b1, .inl (cB0, (lim x), .inl (fun _ => sb_b 0)))] := hD
  obtain ⟨v45, ev45⟩ : ∃ y : Int32, y = 1 + 1 := ⟨_, rfl⟩
  refine lv_iinc (v := v45) (lv' := [(3, .int v45), (2, .int (nI (lim x))), (0, .ref h), (1, .int x)]) hx hb d_D_init_45 hl (k := 0) rfl (by rw [ev45]; rfl) (by decide) rfl (fun ls hl => ?_)
  have ev45 : v45 = 2 := by rw [ev45]; decide
  subst ev45
  refine lv_goto (tgt := 26) hx hb d_D_init_48 (by decide) ?_
  refine lv_iload_n hx hb d_D_init_26 rfl (lv_at hl 0 rfl) ?_
  refine lv_iconst (v := 4) hx hb d_D_init_27 (by decide) ?_
  refine lv_icmp_ge (tgt := 51) hx hb d_D_init_28 (by decide) (fun q9 => absurd q9 (by decide)) (fun _ => ?_)
  refine lv_aload_n hx hb d_D_init_31 rfl (lv_at hl 2 rfl) ?_
  refine va_get (D := D) (ci := 0) (v := .ref ra) (C := R_D) (T := F_D) (N := 1) hx hb hA i_D hown hK hP 0 rfl rfl 0 (by decide) (hA _ k1_49) (fun _ h9 => h9) rfl d_D_init_32 ?_
  refine lv_iload_n hx hb d_D_init_35 rfl (lv_at hl 0 rfl) ?_
  refine va_new (ci := 1) (fs := [.null, .int 0, .int 0]) (C := R_R) (T := F_R) (N := 3) hx hb hA i_R t_R t_R_ok hown (hA _ k1_29) (hA _ k1_31) (hA _ k1_3) hK hP hD hS hAq rfl (fun j hj => by rcases (show j = 0 ∨ j = 1 ∨ j = 2 by omega) with rfl | rfl | rfl <;> rfl) (Nat.le_of_ble_eq_true rfl) (Nat.le_of_ble_eq_true rfl) d_D_init_36 (fun y2 H hP hD hS => ?_)
  have hP : va_P D vCl [(h, .inr (0, [.ref ra])), (ra, .inl (cR, 4, .inr (.inr (.inr (.inr (va_up (va_up (fun _ => none) (0 : Int32).toNatClampNeg (some y0)) (1 : Int32).toNatClampNeg (some y1))))))), (y0, .inr (1, [.ref b0, .int (nI 0), .int (nI 0)])), (b0, .inl (cB0, (lim x), .inl (fun _ => sb_b 0))), (y1, .inr (1, [.ref b1, .int (nI 0), .int (nI 0)])), (b1, .inl (cB0, (lim x), .inl (fun _ => sb_b 0))), (y2, .inr (1, [.null, .int 0, .int 0]))] H := hP
  have hD : va_D A [(h, .inr (0, [.ref ra])), (ra, .inl (cR, 4, .inr (.inr (.inr (.inr (va_up (va_up (fun _ => none) (0 : Int32).toNatClampNeg (some y0)) (1 : Int32).toNatClampNeg (some y1))))))), (y0, .inr (1, [.ref b0, .int (nI 0), .int (nI 0)])), (b0, .inl (cB0, (lim x), .inl (fun _ => sb_b 0))), (y1, .inr (1, [.ref b1, .int (nI 0), .int (nI 0)])), (b1, .inl (cB0, (lim x), .inl (fun _ => sb_b 0))), (y2, .inr (1, [.null, .int 0, .int 0]))] := hD
  refine lv_dup hx hb d_D_init_39 rfl ?_
  refine lv_iload_n hx hb d_D_init_40 rfl (lv_at hl 1 rfl) ?_
  have hPc := hP.sub (ws' := [(y2, .inr (1, [.null, .int 0, .int 0]))]) [6] rfl
  have hDc := hD.sub (ws' := [(y2, .inr (1, [.null, .int 0, .int 0]))]) [6] (by decide) rfl
  have hKc := hK.sub (tys' := []) [] rfl
  have hFc := va_free (wc := [(y2, .inr (1, [.null, .int 0, .int 0]))]) hD hS hAq [6] rfl
  refine va_callv (va_runI (As := [.int (nI (lim x))]) (rest := [.ref y2, .int 2, .ref ra]) ⟨hx, hb, hml, hown, hA⟩ (c_R_init l D y2 H.size (lim x) hlim.2) (q_R_init hA k1_32 rfl rfl ⟨(Nat.le_of_ble_eq_true rfl), (Nat.le_of_ble_eq_true rfl)⟩) (oxw_S hPc hKc hDc) rfl rfl hl.1 rfl (lv_room (Nat.le_of_ble_eq_true rfl)) d_D_init_41 ⟨(Nat.le_of_ble_eq_true rfl), (Nat.le_of_ble_eq_true rfl)⟩) hS (fun q _ h => hFc q h) hFc (fun u9 t9 H1 locs ht9 hvm9 hw9 hB9 hz1 hk1 hS => ?_)
  obtain ⟨hP1, hK1, hD1⟩ := hB9
  rw [ht9] at hP1
  have hK1 := va_K.moved hvm9.symm hK1
  obtain ⟨cB2, b2⟩ := u9
  replace hK1 : va_K D vCl [(cB2, .byte)] s := hK1
  obtain rfl : cB0 = cB2 := (arr_1 hK (k := 1) rfl hK1).symm
  obtain ⟨hP, hD⟩ := va_join (wr := [(h, .inr (0, [.ref ra])), (ra, .inl (cR, 4, .inr (.inr (.inr (.inr (va_up (va_up (fun _ => none) (0 : Int32).toNatClampNeg (some y0)) (1 : Int32).toNatClampNeg (some y1))))))), (y0, .inr (1, [.ref b0, .int (nI 0), .int (nI 0)])), (b0, .inl (cB0, (lim x), .inl (fun _ => sb_b 0))), (y1, .inr (1, [.ref b1, .int (nI 0), .int (nI 0)])), (b1, .inl (cB0, (lim x), .inl (fun _ => sb_b 0)))]) (w1 := [(y2, .inr (1, [.ref b2, .int (nI 0), .int (nI 0)])), (b2, .inl (cB0, (lim x), .inl (fun _ => sb_b 0)))]) hP hD [6] [0, 1, 2, 3, 4, 5] rfl rfl (by decide) (by decide) hk1 hFc hP1 hD1
  generalize H1 = H at hP hS ⊢
  have hP : va_P D vCl [(h, .inr (0, [.ref ra])), (ra, .inl (cR, 4, .inr (.inr (.inr (.inr (va_up (va_up (fun _ => none) (0 : Int32).toNatClampNeg (some y0)) (1 : Int32).toNatClampNeg (some y1))))))), (y0, .inr (1, [.ref b0, .int (nI 0), .int (nI 0)])), (b0, .inl (cB0, (lim x), .inl (fun _ => sb_b 0))), (y1, .inr (1, [.ref b1, .int (nI 0), .int (nI 0)])), (b1, .inl (cB0, (lim x), .inl (fun _ => sb_b 0))), (y2, .inr (1, [.ref b2, .int (nI 0), .int (nI 0)])), (b2, .inl (cB0, (lim x), .inl (fun _ => sb_b 0)))] H := hP
  have hD : va_D A [(h, .inr (0, [.ref ra])), (ra, .inl (cR, 4, .inr (.inr (.inr (.inr (va_up (va_up (fun _ => none) (0 : Int32).toNatClampNeg (some y0)) (1 : Int32).toNatClampNeg (some y1))))))), (y0, .inr (1, [.ref b0, .int (nI 0), .int (nI 0)])), (b0, .inl (cB0, (lim x), .inl (fun _ => sb_b 0))), (y1, .inr (1, [.ref b1, .int (nI 0), .int (nI 0)])), (b1, .inl (cB0, (lim x), .inl (fun _ => sb_b 0))), (y2, .inr (1, [.ref b2, .int (nI 0), .int (nI 0)])), (b2, .inl (cB0, (lim x), .inl (fun _ => sb_b 0)))] := hD
  refine va_astq hx hb hK hP hD hS 1 0 6 1 rfl rfl rfl rfl (by unfold vp_in; decide) d_D_init_44 (fun H locs hP hD hS => ?_)
  have hP : va_P D vCl [(h, .inr (0, [.ref ra])), (ra, .inl (cR, 4, .inr (.inr (.inr (.inr (va_up (va_up (va_up (fun _ => none) (0 : Int32).toNatClampNeg (some y0)) (1 : Int32).toNatClampNeg (some y1)) (2 : Int32).toNatClampNeg (some y2))))))), (y0, .inr (1, [.ref b0, .int (nI 0), .int (nI 0)])), (b0, .inl (cB0, (lim x), .inl (fun _ => sb_b 0))), (y1, .inr (1, [.ref b1, .int (nI 0), .int (nI 0)])), (b1, .inl (cB0, (lim x), .inl (fun _ => sb_b 0))), (y2, .inr (1, [.ref b2, .int (nI 0), .int (nI 0)])), (b2, .inl (cB0, (lim x), .inl (fun _ => sb_b 0)))] H := hP
  have hD : va_D A [(h, .inr (0, [.ref ra])), (ra, .inl (cR, 4, .inr (.inr (.inr (.inr (va_up (va_up (va_up (fun _ => none) (0 : Int32).toNatClampNeg (some y0)) (1 : Int32).toNatClampNeg (some y1)) (2 : Int32).toNatClampNeg (some y2))))))), (y0, .inr (1, [.ref b0, .int (nI 0), .int (nI 0)])), (b0, .inl (cB0, (lim x), .inl (fun _ => sb_b 0))), (y1, .inr (1, [.ref b1, .int (nI 0), .int (nI 0)])), (b1, .inl (cB0, (lim x), .inl (fun _ => sb_b 0))), (y2, .inr (1, [.ref b2, .int (nI 0), .int (nI 0)])), (b2, .inl (cB0, (lim x), .inl (fun _ => sb_b 0)))] := hD
  obtain ⟨v45, ev45⟩ : ∃ y : Int32, y = 2 + 1 := ⟨_, rfl⟩
  refine lv_iinc (v := v45) (lv' := [(3, .int v45), (2, .int (nI (lim x))), (0, .ref h), (1, .int x)]) hx hb d_D_init_45 hl (k := 0) rfl (by rw [ev45]; rfl) (by decide) rfl (fun ls hl => ?_)
  have ev45 : v45 = 3 := by rw [ev45]; decide
  subst ev45
  refine lv_goto (tgt := 26) hx hb d_D_init_48 (by decide) ?_
  refine lv_iload_n hx hb d_D_init_26 rfl (lv_at hl 0 rfl) ?_
  refine lv_iconst (v := 4) hx hb d_D_init_27 (by decide) ?_
  refine lv_icmp_ge (tgt := 51) hx hb d_D_init_28 (by decide) (fun q9 => absurd q9 (by decide)) (fun _ => ?_)
  refine lv_aload_n hx hb d_D_init_31 rfl (lv_at hl 2 rfl) ?_
  refine va_get (D := D) (ci := 0) (v := .ref ra) (C := R_D) (T := F_D) (N := 1) hx hb hA i_D hown hK hP 0 rfl rfl 0 (by decide) (hA _ k1_49) (fun _ h9 => h9) rfl d_D_init_32 ?_
  refine lv_iload_n hx hb d_D_init_35 rfl (lv_at hl 0 rfl) ?_
  refine va_new (ci := 1) (fs := [.null, .int 0, .int 0]) (C := R_R) (T := F_R) (N := 3) hx hb hA i_R t_R t_R_ok hown (hA _ k1_29) (hA _ k1_31) (hA _ k1_3) hK hP hD hS hAq rfl (fun j hj => by rcases (show j = 0 ∨ j = 1 ∨ j = 2 by omega) with rfl | rfl | rfl <;> rfl) (Nat.le_of_ble_eq_true rfl) (Nat.le_of_ble_eq_true rfl) d_D_init_36 (fun y3 H hP hD hS => ?_)
  have hP : va_P D vCl [(h, .inr (0, [.ref ra])), (ra, .inl (cR, 4, .inr (.inr (.inr (.inr (va_up (va_up (va_up (fun _ => none) (0 : Int32).toNatClampNeg (some y0)) (1 : Int32).toNatClampNeg (some y1)) (2 : Int32).toNatClampNeg (some y2))))))), (y0, .inr (1, [.ref b0, .int (nI 0), .int (nI 0)])), (b0, .inl (cB0, (lim x), .inl (fun _ => sb_b 0))), (y1, .inr (1, [.ref b1, .int (nI 0), .int (nI 0)])), (b1, .inl (cB0, (lim x), .inl (fun _ => sb_b 0))), (y2, .inr (1, [.ref b2, .int (nI 0), .int (nI 0)])), (b2, .inl (cB0, (lim x), .inl (fun _ => sb_b 0))), (y3, .inr (1, [.null, .int 0, .int 0]))] H := hP
  have hD : va_D A [(h, .inr (0, [.ref ra])), (ra, .inl (cR, 4, .inr (.inr (.inr (.inr (va_up (va_up (va_up (fun _ => none) (0 : Int32).toNatClampNeg (some y0)) (1 : Int32).toNatClampNeg (some y1)) (2 : Int32).toNatClampNeg (some y2))))))), (y0, .inr (1, [.ref b0, .int (nI 0), .int (nI 0)])), (b0, .inl (cB0, (lim x), .inl (fun _ => sb_b 0))), (y1, .inr (1, [.ref b1, .int (nI 0), .int (nI 0)])), (b1, .inl (cB0, (lim x), .inl (fun _ => sb_b 0))), (y2, .inr (1, [.ref b2, .int (nI 0), .int (nI 0)])), (b2, .inl (cB0, (lim x), .inl (fun _ => sb_b 0))), (y3, .inr (1, [.null, .int 0, .int 0]))] := hD
  refine lv_dup hx hb d_D_init_39 rfl ?_
  refine lv_iload_n hx hb d_D_init_40 rfl (lv_at hl 1 rfl) ?_
  have hPc := hP.sub (ws' := [(y3, .inr (1, [.null, .int 0, .int 0]))]) [8] rfl
  have hDc := hD.sub (ws' := [(y3, .inr (1, [.null, .int 0, .int 0]))]) [8] (by decide) rfl
  have hKc := hK.sub (tys' := []) [] rfl
  have hFc := va_free (wc := [(y3, .inr (1, [.null, .int 0, .int 0]))]) hD hS hAq [8] rfl
  refine va_callv (va_runI (As := [.int (nI (lim x))]) (rest := [.ref y3, .int 3, .ref ra]) ⟨hx, hb, hml, hown, hA⟩ (c_R_init l D y3 H.size (lim x) hlim.2) (q_R_init hA k1_32 rfl rfl ⟨(Nat.le_of_ble_eq_true rfl), (Nat.le_of_ble_eq_true rfl)⟩) (oxw_S hPc hKc hDc) rfl rfl hl.1 rfl (lv_room (Nat.le_of_ble_eq_true rfl)) d_D_init_41 ⟨(Nat.le_of_ble_eq_true rfl), (Nat.le_of_ble_eq_true rfl)⟩) hS (fun q _ h => hFc q h) hFc (fun u9 t9 H1 locs ht9 hvm9 hw9 hB9 hz1 hk1 hS => ?_)
  obtain ⟨hP1, hK1, hD1⟩ := hB9
  rw [ht9] at hP1
  have hK1 := va_K.moved hvm9.symm hK1
  obtain ⟨cB3, b3⟩ := u9
  replace hK1 : va_K D vCl [(cB3, .byte)] s := hK1
  obtain rfl : cB0 = cB3 := (arr_1 hK (k := 1) rfl hK1).symm
  obtain ⟨hP, hD⟩ := va_join (wr := [(h, .inr (0, [.ref ra])), (ra, .inl (cR, 4, .inr (.inr (.inr (.inr (va_up (va_up (va_up (fun _ => none) (0 : Int32).toNatClampNeg (some y0)) (1 : Int32).toNatClampNeg (some y1)) (2 : Int32).toNatClampNeg (some y2))))))), (y0, .inr (1, [.ref b0, .int (nI 0), .int (nI 0)])), (b0, .inl (cB0, (lim x), .inl (fun _ => sb_b 0))), (y1, .inr (1, [.ref b1, .int (nI 0), .int (nI 0)])), (b1, .inl (cB0, (lim x), .inl (fun _ => sb_b 0))), (y2, .inr (1, [.ref b2, .int (nI 0), .int (nI 0)])), (b2, .inl (cB0, (lim x), .inl (fun _ => sb_b 0)))]) (w1 := [(y3, .inr (1, [.ref b3, .int (nI 0), .int (nI 0)])), (b3, .inl (cB0, (lim x), .inl (fun _ => sb_b 0)))]) hP hD [8] [0, 1, 2, 3, 4, 5, 6, 7] rfl rfl (by decide) (by decide) hk1 hFc hP1 hD1
  generalize H1 = H at hP hS ⊢
  have hP : va_P D vCl [(h, .inr (0, [.ref ra])), (ra, .inl (cR, 4, .inr (.inr (.inr (.inr (va_up (va_up (va_up (fun _ => none) (0 : Int32).toNatClampNeg (some y0)) (1 : Int32).toNatClampNeg (some y1)) (2 : Int32).toNatClampNeg (some y2))))))), (y0, .inr (1, [.ref b0, .int (nI 0), .int (nI 0)])), (b0, .inl (cB0, (lim x), .inl (fun _ => sb_b 0))), (y1, .inr (1, [.ref b1, .int (nI 0), .int (nI 0)])), (b1, .inl (cB0, (lim x), .inl (fun _ => sb_b 0))), (y2, .inr (1, [.ref b2, .int (nI 0), .int (nI 0)])), (b2, .inl (cB0, (lim x), .inl (fun _ => sb_b 0))), (y3, .inr (1, [.ref b3, .int (nI 0), .int (nI 0)])), (b3, .inl (cB0, (lim x), .inl (fun _ => sb_b 0)))] H := hP
  have hD : va_D A [(h, .inr (0, [.ref ra])), (ra, .inl (cR, 4, .inr (.inr (.inr (.inr (va_up (va_up (va_up (fun _ => none) (0 : Int32).toNatClampNeg (some y0)) (1 : Int32).toNatClampNeg (some y1)) (2 : Int32).toNatClampNeg (some y2))))))), (y0, .inr (1, [.ref b0, .int (nI 0), .int (nI 0)])), (b0, .inl (cB0, (lim x), .inl (fun _ => sb_b 0))), (y1, .inr (1, [.ref b1, .int (nI 0), .int (nI 0)])), (b1, .inl (cB0, (lim x), .inl (fun _ => sb_b 0))), (y2, .inr (1, [.ref b2, .int (nI 0), .int (nI 0)])), (b2, .inl (cB0, (lim x), .inl (fun _ => sb_b 0))), (y3, .inr (1, [.ref b3, .int (nI 0), .int (nI 0)])), (b3, .inl (cB0, (lim x), .inl (fun _ => sb_b 0)))] := hD
  refine va_astq hx hb hK hP hD hS 1 0 8 1 rfl rfl rfl rfl (by unfold vp_in; decide) d_D_init_44 (fun H locs hP hD hS => ?_)
  have hP : va_P D vCl [(h, .inr (0, [.ref ra])), (ra, .inl (cR, 4, .inr (.inr (.inr (.inr (va_up (va_up (va_up (va_up (fun _ => none) (0 : Int32).toNatClampNeg (some y0)) (1 : Int32).toNatClampNeg (some y1)) (2 : Int32).toNatClampNeg (some y2)) (3 : Int32).toNatClampNeg (some y3))))))), (y0, .inr (1, [.ref b0, .int (nI 0), .int (nI 0)])), (b0, .inl (cB0, (lim x), .inl (fun _ => sb_b 0))), (y1, .inr (1, [.ref b1, .int (nI 0), .int (nI 0)])), (b1, .inl (cB0, (lim x), .inl (fun _ => sb_b 0))), (y2, .inr (1, [.ref b2, .int (nI 0), .int (nI 0)])), (b2, .inl (cB0, (lim x), .inl (fun _ => sb_b 0))), (y3, .inr (1, [.ref b3, .int (nI 0), .int (nI 0)])), (b3, .inl (cB0, (lim x), .inl (fun _ => sb_b 0)))] H := hP
  have hD : va_D A [(h, .inr (0, [.ref ra])), (ra, .inl (cR, 4, .inr (.inr (.inr (.inr (va_up (va_up (va_up (va_up (fun _ => none) (0 : Int32).toNatClampNeg (some y0)) (1 : Int32).toNatClampNeg (some y1)) (2 : Int32).toNatClampNeg (some y2)) (3 : Int32).toNatClampNeg (some y3))))))), (y0, .inr (1, [.ref b0, .int (nI 0), .int (nI 0)])), (b0, .inl (cB0, (lim x), .inl (fun _ => sb_b 0))), (y1, .inr (1, [.ref b1, .int (nI 0), .int (nI 0)])), (b1, .inl (cB0, (lim x), .inl (fun _ => sb_b 0))), (y2, .inr (1, [.ref b2, .int (nI 0), .int (nI 0)])), (b2, .inl (cB0, (lim x), .inl (fun _ => sb_b 0))), (y3, .inr (1, [.ref b3, .int (nI 0), .int (nI 0)])), (b3, .inl (cB0, (lim x), .inl (fun _ => sb_b 0)))] := hD
  obtain ⟨v45, ev45⟩ : ∃ y : Int32, y = 3 + 1 := ⟨_, rfl⟩
  refine lv_iinc (v := v45) (lv' := [(3, .int v45), (2, .int (nI (lim x))), (0, .ref h), (1, .int x)]) hx hb d_D_init_45 hl (k := 0) rfl (by rw [ev45]; rfl) (by decide) rfl (fun ls hl => ?_)
  have ev45 : v45 = 4 := by rw [ev45]; decide
  subst ev45
  refine lv_goto (tgt := 26) hx hb d_D_init_48 (by decide) ?_
  refine lv_iload_n hx hb d_D_init_26 rfl (lv_at hl 0 rfl) ?_
  refine lv_iconst (v := 4) hx hb d_D_init_27 (by decide) ?_
  refine lv_icmp_ge (tgt := 51) hx hb d_D_init_28 (by decide) (fun _ => ?_) (fun q9 => absurd (by decide) q9)
  refine W.widen (k := 9) (n := 262160) (by decide) (by decide) ?_
  have hg : ∀ i, i < 4 → (va_up (va_up (va_up (va_up (fun _ => none) (0 : Int32).toNatClampNeg (some y0)) (1 : Int32).toNatClampNeg (some y1)) (2 : Int32).toNatClampNeg (some y2)) (3 : Int32).toNatClampNeg (some y3)) i = some ((f4 y0 y1 y2 y3) i) := by
    intro i hi
    rcases (show i = 0 ∨ i = 1 ∨ i = 2 ∨ i = 3 by omega) with rfl | rfl | rfl | rfl <;> rfl
  generalize hgg : va_up (va_up (va_up (va_up (fun _ => none) (0 : Int32).toNatClampNeg (some y0)) (1 : Int32).toNatClampNeg (some y1)) (2 : Int32).toNatClampNeg (some y2)) (3 : Int32).toNatClampNeg (some y3) = g at hP hD hg
  exact W.vret hx hb hr (fun t ht hW => ⟨⟨(cR, cB0, ra, g, (f4 y0 y1 y2 y3), (f4 b0 b1 b2 b3)), rfl, hg, by rw [ht]; exact hP, va_K.moved hW.alike (hK.sub [1, 0] rfl), hD⟩, hS.F ht⟩) hS.2.2 d_D_init_51
