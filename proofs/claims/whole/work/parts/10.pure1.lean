/-! BYTES -/
theorem by_b (x : Int32) : x.toInt8.toInt32 = sb_b (x.toBitVec.toNat % 256) := by
  unfold sb_b
  congr 1
  apply Int8.toBitVec_inj.mp
  rw [Int32.toBitVec_toInt8, Int32.toBitVec_toInt8, BitVec.signExtend_eq_setWidth_of_le _ (by decide), BitVec.signExtend_eq_setWidth_of_le _ (by decide)]
  show x.toBitVec.setWidth 8 = (BitVec.ofNat 32 (x.toBitVec.toNat % 256)).setWidth 8
  apply BitVec.eq_of_toNat_eq
  simp only [BitVec.toNat_setWidth, BitVec.toNat_ofNat]
  omega
theorem by_up (B : Nat → Nat) {n : Nat} (hn : n < 2 ^ 31) (x : Int32) : upd (fun j => sb_b (B j)) (nI n).toNatClampNeg (vp_nar .byte x.toInt8.toInt32) = fun j => sb_b (va_up B n (x.toBitVec.toNat % 256) j) := by
  rw [pk_vb, nI_clamp hn, by_b]
  funext j
  simp only [upd, va_up]
  split <;> rfl
theorem by_lt {B : Nat → Nat} (h : ∀ j, B j < 256) {n v : Nat} (hv : v < 256) : ∀ j, va_up B n v j < 256 := by
  intro j
  unfold va_up
  split
  · exact hv
  · exact h j
theorem by_get {B : Nat → Nat} (h : ∀ j, B j < 256) {i : Nat} (hi : i < 2 ^ 31) : (fun j => sb_b (B j)) (nI i).toNatClampNeg &&& 255 = nI (B i) := by
  show sb_b (B (nI i).toNatClampNeg) &&& 255 = nI (B i)
  rw [nI_clamp hi]
  exact (sb_byte _ (h i)).1
/-! WHAT A METHOD STARTS FROM -/
def ox (D : va_G) (tys : List (ClassId × FieldType)) (ws : va_W) (U : State) : Prop := va_P D vCl ws U.heap ∧ va_K D vCl tys U
def oxg (D : va_G) (tys : List (ClassId × FieldType)) (ws : va_W) (U : State) : Prop := va_P D vCl ws U.heap ∧ va_K D vCl tys U ∧ tx_G U
def oxw (sz : Nat) (D : va_G) (tys : List (ClassId × FieldType)) (ws : va_W) (U : State) : Prop := U.heap.size = sz ∧ va_P D vCl ws U.heap ∧ va_K D vCl tys U ∧ va_D (fun _ => True) ws
def oxv (sz : Nat) (D : va_G) (tys : List (ClassId × FieldType)) (ws : va_W) (U : State) : Prop := U.heap.size = sz ∧ va_P D vCl ws U.heap ∧ va_K D vCl tys U ∧ va_D (fun _ => True) ws ∧ tx_G U
theorem tx_G.call {U : State} (h : tx_G U) (g : JFrame) (mk : MethodId) (a : Array Value) : tx_G (U.calling g mk a) := h.go (State.WarmedH.refl U) (fun _ _ => rfl)
section OX
variable {s : State} {H : Heap} {D : va_G} {tys : List (ClassId × FieldType)} {ws : va_W} {av As : List Value} {A : Nat → Prop} {C : String} {b : Nat}
theorem ox_b : FrameBlind (va_Pc av (ox D tys ws)) := fun a U g mk q => ⟨q.1, q.2.1, va_K.moved (u := U) (U := U.calling g mk a) (Vm.Alike.refl U.vm) q.2.2⟩
theorem oxg_b : FrameBlind (va_Pc av (oxg D tys ws)) := fun a U g mk q => ⟨q.1, q.2.1, va_K.moved (u := U) (U := U.calling g mk a) (Vm.Alike.refl U.vm) q.2.2.1, q.2.2.2.call g mk a⟩
theorem oxw_b {sz : Nat} : FrameBlind (va_Pc av (oxw sz D tys ws)) := fun a U g mk q => ⟨q.1, q.2.1, q.2.2.1, va_K.moved (u := U) (U := U.calling g mk a) (Vm.Alike.refl U.vm) q.2.2.2.1, q.2.2.2.2⟩
theorem oxv_b {sz : Nat} : FrameBlind (va_Pc av (oxv sz D tys ws)) := fun a U g mk q => ⟨q.1, q.2.1, q.2.2.1, va_K.moved (u := U) (U := U.calling g mk a) (Vm.Alike.refl U.vm) q.2.2.2.1, q.2.2.2.2.1, q.2.2.2.2.2.call g mk a⟩
theorem ox_S (hP : va_P D vCl ws H) (hK : va_K D vCl tys s) : PreS s H (va_Pc av (ox D tys ws)) av := ⟨ox_b, fun U hU hW => ⟨rfl, by rw [hU]; exact hP, va_K.moved hW.alike hK⟩⟩
theorem oxg_S (hP : va_P D vCl ws H) (hK : va_K D vCl tys s) (hG : tx_G s) (hh : ∀ q : Nat, q < s.heap.size → H[q]? = s.heap[q]?) : PreS s H (va_Pc av (oxg D tys ws)) av := ⟨oxg_b, fun U hU hW => ⟨rfl, by rw [hU]; exact hP, va_K.moved hW.alike hK, hG.go hW (by rw [hU]; exact hh)⟩⟩
theorem oxw_S (hP : va_P D vCl ws H) (hK : va_K D vCl tys s) (hD : va_D A ws) : PreS s H (va_Pc av (oxw H.size D tys ws)) av := ⟨oxw_b, fun U hU hW => ⟨rfl, by rw [hU], by rw [hU]; exact hP, va_K.moved hW.alike hK, hD.weaken (fun _ _ _ _ => trivial)⟩⟩
theorem oxv_S (hP : va_P D vCl ws H) (hK : va_K D vCl tys s) (hD : va_D A ws) (hG : tx_G s) (hh : ∀ q : Nat, q < s.heap.size → H[q]? = s.heap[q]?) : PreS s H (va_Pc av (oxv H.size D tys ws)) av := ⟨oxv_b, fun U hU hW => ⟨rfl, by rw [hU], by rw [hU]; exact hP, va_K.moved hW.alike hK, hD.weaken (fun _ _ _ _ => trivial), hG.go hW (by rw [hU]; exact hh)⟩⟩
theorem ox_V {Pc : Array Value → State → Prop} (hr : ∃ cellB : Cell, H[b]? = some cellB ∧ cellB.vm.isStatics = false ∧ s.vm.findClass C = some cellB.cls) (h : PreS s H Pc (.ref b :: As)) : PreV s H C b Pc As := ⟨h.1, hr, h.2⟩
end OX
