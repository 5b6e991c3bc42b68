def ww_X0_shiftOf : List Cond := .code yX0_shiftOf cX0_shiftOf 1 (some .int) :: ([])
set_option maxHeartbeats 4000000 in
set_option maxRecDepth 100000 in
theorem ct_shiftOf (l : Launch) (dC : Nat → ClassId) (dI : Nat → Nat → Nat) (sz : Nat) (k : Int32) : Met l yX0_shiftOf ww_X0_shiftOf ({ frames := 0, cells := 0, slots := 0, locals := 0 }) (va_Pc [.int k] (fun U => U.heap.size = sz ∧ va_P (dC, dI) classes [] U.heap ∧ va_K (dC, dI) classes [] U ∧ va_D (fun _ => True) [])) (va_Qi (fun (r : Int32) (_ : Unit) => r = 24 - 8 * (k &&& 3)) (fun (_ : Unit) (_ : State) => True) (va_A [] sz)) 0 0 (va_A [] sz) := by
  refine Met.ofW (cc := cX0_shiftOf) (maxL := 1) (ret := (some .int)) (by decide) rfl ?_
  intro p e s m args below meth c s₁ B hml hv
  obtain ⟨rfl, hsz, hP, hK, hD0⟩ := hv
  have hx := B.exec
  have hb := B.bytes
  have hr := B.returns
  have hts := atoms_spec (ws := ww_X0_shiftOf) B.pre
  have hown : s.vm.findClass RX0 = some m.cls := findClass_of_methodNamed B.named
  have hlocks := B.notSynchronized
  subst hsz
  have hD := hD0.self (sz := s.heap.size)
  generalize hAe : va_A [] s.heap.size = A at hD ⊢
  have hA : ∀ q : Nat, s.heap.size ≤ q → A q := fun q h => by rw [← hAe]; exact Or.inr h
  have hS : va_S A s.heap s.heap [] := va_S.rf
  have hP : va_P (dC, dI) classes [] s.heap := hP
  have hl := lv_entry ([.int k]) (n := 1) (Nat.le_of_ble_eq_true rfl)
  rw [lg_entry_eq]
  generalize (lg_sl ([.int k]) ++ List.replicate (1 - (lg_sl ([.int k])).length) Slot.unset).toArray = ls at hl ⊢
  have hl : lv_has ls 1 [(0, .int k)] := hl
  generalize hHe : s.heap = H at hP ⊢
  have hS : va_S A s.heap H [] := by rw [← hHe]; exact va_S.rf
  refine lv_bipush (v := 24) hx hb dX0_shiftOf_0 (by decide) ?_
  refine lv_bipush (v := 8) hx hb dX0_shiftOf_2 (by decide) ?_
  refine lv_iload_n hx hb dX0_shiftOf_4 rfl (lv_at hl 0 rfl) ?_
  refine lv_iconst (v := 3) hx hb dX0_shiftOf_5 (by decide) ?_
  refine lv_iand hx hb dX0_shiftOf_6 ?_
  refine lv_imul hx hb dX0_shiftOf_7 ?_
  refine lv_isub hx hb dX0_shiftOf_8 ?_
  refine W.widen (k := 0) (n := 0) (Nat.le_of_ble_eq_true rfl) (Nat.le_of_ble_eq_true rfl) ?_
  exact W.iret (v := (24 - (8 * (k &&& 3)))) hx hb hr (fun t ht hW => ⟨⟨(24 - (8 * (k &&& 3))), (), rfl, rfl, trivial⟩, hS.F ht⟩) hS.2.2 dX0_shiftOf_9
def ww_X0_byteAt : List Cond := .code yX0_byteAt cX0_byteAt 2 (some .int) :: ([.fieldLink RX0 15 "LeafSigner$ByteRow" "count" "I"] ++ (wsX00))
theorem iX0_byteAt_X0 : ∀ w ∈ wsX00, w ∈ ww_X0_byteAt := fun w h => List.mem_cons_of_mem _ (List.mem_append_right _ h)
set_option maxHeartbeats 4000000 in
set_option maxRecDepth 100000 in
theorem ct_byteAt0 (l : Launch) (dC : Nat → ClassId) (dI : Nat → Nat → Nat) (sz : Nat) (h0 : Nat) (k : Int32) (w : Nat) : Met l yX0_byteAt ww_X0_byteAt ({ frames := 0, cells := 0, slots := 0, locals := 0 }) (va_Pc [.ref h0, .int k] (fun U => U.heap.size = sz ∧ va_P (dC, dI) classes [(h0, .inr (0, [.ref w, .int 0]))] U.heap ∧ va_K (dC, dI) classes [] U ∧ va_D (fun _ => True) [(h0, .inr (0, [.ref w, .int 0]))])) (va_Qi (fun (r : Int32) (_ : Unit) => r = -1) (fun (_ : Unit) (_ : State) => True) (va_A [(h0, .inr (0, [.ref w, .int 0]))] sz)) 0 0 (va_A [(h0, .inr (0, [.ref w, .int 0]))] sz) := by
  refine Met.ofW (cc := cX0_byteAt) (maxL := 2) (ret := (some .int)) (by decide) rfl ?_
  intro p e s m args below meth c s₁ B hml hv
  obtain ⟨rfl, hsz, hP, hK, hD0⟩ := hv
  have hx := B.exec
  have hb := B.bytes
  have hr := B.returns
  have hts := atoms_spec (ws := ww_X0_byteAt) B.pre
  have hown : s.vm.findClass RX0 = some m.cls := findClass_of_methodNamed B.named
  have hlocks := B.notSynchronized
  subst hsz
  have hD := hD0.self (sz := s.heap.size)
  generalize hAe : va_A [(h0, .inr (0, [.ref w, .int 0]))] s.heap.size = A at hD ⊢
  have hA : ∀ q : Nat, s.heap.size ≤ q → A q := fun q h => by rw [← hAe]; exact Or.inr h
  have hS : va_S A s.heap s.heap [] := va_S.rf
  have hP : va_P (dC, dI) classes [(h0, .inr (0, [.ref w, .int 0]))] s.heap := hP
  have hl := lv_entry ([.ref h0, .int k]) (n := 2) (Nat.le_of_ble_eq_true rfl)
  rw [lg_entry_eq]
  generalize (lg_sl ([.ref h0, .int k]) ++ List.replicate (2 - (lg_sl ([.ref h0, .int k])).length) Slot.unset).toArray = ls at hl ⊢
  have hl : lv_has ls 2 [(0, .ref h0), (1, .int k)] := hl
  generalize hHe : s.heap = H at hP ⊢
  have hS : va_S A s.heap H [] := by rw [← hHe]; exact va_S.rf
  refine lv_iload_n hx hb dX0_byteAt_0 rfl (lv_at hl 1 rfl) ?_
  refine lv_if_lt (tgt := 12) hx hb dX0_byteAt_1 (by decide) (fun c1 => ?_) (fun c1 => ?_)
  · refine lv_iconst (v := (-1)) hx hb dX0_byteAt_12 (by decide) ?_
    refine lv_goto (tgt := 33) hx hb dX0_byteAt_13 (by decide) ?_
    refine W.widen (k := 0) (n := 0) (Nat.le_of_ble_eq_true rfl) (Nat.le_of_ble_eq_true rfl) ?_
    exact W.iret (v := (-1)) hx hb hr (fun t ht hW => ⟨⟨(-1), (), rfl, rfl, trivial⟩, hS.F ht⟩) hS.2.2 dX0_byteAt_33
  · refine lv_iload_n hx hb dX0_byteAt_4 rfl (lv_at hl 1 rfl) ?_
    refine lv_aload_n hx hb dX0_byteAt_5 rfl (lv_at hl 0 rfl) ?_
    refine va_get (D := (dC, dI)) (ci := 0) (v := .int 0) (C := RX0) (T := TX0) (N := 2) hx hb hts iX0_byteAt_X0 hown hK hP 0 rfl rfl 1 (by decide) (hts (.fieldLink RX0 15 "LeafSigner$ByteRow" "count" "I") (List.mem_of_getElem? (i := 1) rfl)) (fun _ h9 => h9) rfl dX0_byteAt_6 ?_
    refine lv_icmp_lt (tgt := 16) hx hb dX0_byteAt_9 (by decide) (fun c2 => absurd c2 c1) (fun c2 => ?_)
    refine lv_iconst (v := (-1)) hx hb dX0_byteAt_12 (by decide) ?_
    refine lv_goto (tgt := 33) hx hb dX0_byteAt_13 (by decide) ?_
    refine W.widen (k := 0) (n := 0) (Nat.le_of_ble_eq_true rfl) (Nat.le_of_ble_eq_true rfl) ?_
    exact W.iret (v := (-1)) hx hb hr (fun t ht hW => ⟨⟨(-1), (), rfl, rfl, trivial⟩, hS.F ht⟩) hS.2.2 dX0_byteAt_33
def ww_X0_byteAtD : List Cond := .code yX0_byteAt cX0_byteAt 2 (some .int) :: ([.fieldLink RX0 15 "LeafSigner$ByteRow" "count" "I", .fieldLink RX0 9 "LeafSigner$ByteRow" "words" "[I", .methodLink RX0 19 yX0_shiftOf, .static yX0_shiftOf, .initialized RX0, .code yX0_shiftOf cX0_shiftOf 1 (some .int)] ++ (wsX00))
theorem iX0_byteAtD_X0 : ∀ w ∈ wsX00, w ∈ ww_X0_byteAtD := fun w h => List.mem_cons_of_mem _ (List.mem_append_right _ h)
set_option maxRecDepth 20000 in
theorem gX0_byteAtD_X0_shiftOf_19 : GoodIn ww_X0_byteAtD (va_wsS RX0 19 yX0_shiftOf ww_X0_shiftOf) := vx_good _ [3, 4, 5, 6] rfl (by decide +kernel)
set_option maxHeartbeats 4000000 in
set_option maxRecDepth 100000 in
theorem ct_byteAtD (l : Launch) (dC : Nat → ClassId) (dI : Nat → Nat → Nat) (sz : Nat) (h0 : Nat) (k : Int32) (w : Nat) (cA : ClassId) : Met l yX0_byteAt ww_X0_byteAtD ({ frames := 1, cells := 0, slots := 0, locals := 20 }) (va_Pc [.ref h0, .int k] (fun U => U.heap.size = sz ∧ va_P (dC, dI) classes [(h0, .inr (0, [.ref w, .int 24])), (w, .inl (cA, 6, .inl (fun _ => 0)))] U.heap ∧ va_K (dC, dI) classes [(cA, .int)] U ∧ va_D (fun _ => True) [(h0, .inr (0, [.ref w, .int 24])), (w, .inl (cA, 6, .inl (fun _ => 0)))])) (va_Qi (fun (r : Int32) (_ : Unit) => r = fk_disk k) (fun (_ : Unit) (_ : State) => True) (va_A [(h0, .inr (0, [.ref w, .int 24])), (w, .inl (cA, 6, .inl (fun _ => 0)))] sz)) 0 0 (va_A [(h0, .inr (0, [.ref w, .int 24])), (w, .inl (cA, 6, .inl (fun _ => 0)))] sz) := by
  refine Met.ofW (cc := cX0_byteAt) (maxL := 2) (ret := (some .int)) (by decide) rfl ?_
  intro p e s m args below meth c s₁ B hml hv
  obtain ⟨rfl, hsz, hP, hK, hD0⟩ := hv
  have hx := B.exec
  have hb := B.bytes
  have hr := B.returns
  have hts := atoms_spec (ws := ww_X0_byteAtD) B.pre
  have hown : s.vm.findClass RX0 = some m.cls := findClass_of_methodNamed B.named
  have hlocks := B.notSynchronized
  subst hsz
  have hD := hD0.self (sz := s.heap.size)
  generalize hAe : va_A [(h0, .inr (0, [.ref w, .int 24])), (w, .inl (cA, 6, .inl (fun _ => 0)))] s.heap.size = A at hD ⊢
  have hA : ∀ q : Nat, s.heap.size ≤ q → A q := fun q h => by rw [← hAe]; exact Or.inr h
  have hS : va_S A s.heap s.heap [] := va_S.rf
  have hP : va_P (dC, dI) classes [(h0, .inr (0, [.ref w, .int 24])), (w, .inl (cA, 6, .inl (fun _ => 0)))] s.heap := hP
  have hl := lv_entry ([.ref h0, .int k]) (n := 2) (Nat.le_of_ble_eq_true rfl)
  rw [lg_entry_eq]
  generalize (lg_sl ([.ref h0, .int k]) ++ List.replicate (2 - (lg_sl ([.ref h0, .int k])).length) Slot.unset).toArray = ls at hl ⊢
  have hl : lv_has ls 2 [(0, .ref h0), (1, .int k)] := hl
  generalize hHe : s.heap = H at hP ⊢
  have hS : va_S A s.heap H [] := by rw [← hHe]; exact va_S.rf
  refine lv_iload_n hx hb dX0_byteAt_0 rfl (lv_at hl 1 rfl) ?_
  refine lv_if_lt (tgt := 12) hx hb dX0_byteAt_1 (by decide) (fun c3 => ?_) (fun c3 => ?_)
  · refine lv_iconst (v := (-1)) hx hb dX0_byteAt_12 (by decide) ?_
    refine lv_goto (tgt := 33) hx hb dX0_byteAt_13 (by decide) ?_
    refine W.widen (k := 0) (n := 0) (Nat.le_of_ble_eq_true rfl) (Nat.le_of_ble_eq_true rfl) ?_
    exact W.iret (v := (-1)) hx hb hr (fun t ht hW => ⟨⟨(-1), (), rfl, (by unfold fk_disk; rw [if_pos c3]), trivial⟩, hS.F ht⟩) hS.2.2 dX0_byteAt_33
  · refine lv_iload_n hx hb dX0_byteAt_4 rfl (lv_at hl 1 rfl) ?_
    refine lv_aload_n hx hb dX0_byteAt_5 rfl (lv_at hl 0 rfl) ?_
    refine va_get (D := (dC, dI)) (ci := 0) (v := .int 24) (C := RX0) (T := TX0) (N := 2) hx hb hts iX0_byteAtD_X0 hown hK hP 0 rfl rfl 1 (by decide) (hts (.fieldLink RX0 15 "LeafSigner$ByteRow" "count" "I") (List.mem_of_getElem? (i := 1) rfl)) (fun _ h9 => h9) rfl dX0_byteAt_6 ?_
    refine lv_icmp_lt (tgt := 16) hx hb dX0_byteAt_9 (by decide) (fun c4 => ?_) (fun c4 => ?_)
    · refine lv_aload_n hx hb dX0_byteAt_16 rfl (lv_at hl 0 rfl) ?_
      refine va_get (D := (dC, dI)) (ci := 0) (v := .ref w) (C := RX0) (T := TX0) (N := 2) hx hb hts iX0_byteAtD_X0 hown hK hP 0 rfl rfl 0 (by decide) (hts (.fieldLink RX0 9 "LeafSigner$ByteRow" "words" "[I") (List.mem_of_getElem? (i := 2) rfl)) (fun _ h9 => h9) rfl dX0_byteAt_17 ?_
      refine lv_iload_n hx hb dX0_byteAt_20 rfl (lv_at hl 1 rfl) ?_
      refine lv_iconst (v := 2) hx hb dX0_byteAt_21 (by decide) ?_
      refine lv_ishr hx hb dX0_byteAt_22 ?_
      refine va_iald hx hb hK hP 1 0 rfl rfl (vx_disk c3 c4) dX0_byteAt_23 ?_
      refine vx_topk 0 rfl ?_
      refine lv_iload_n hx hb dX0_byteAt_24 rfl (lv_at hl 1 rfl) ?_
      have hPc := hP.sub (ws' := []) [] rfl
      have hDc := hD.sub (ws' := []) [] (by decide) rfl
      have hKc := hK.sub (tys' := []) [] rfl
      have hFc := va_free (wc := []) hD hS hA [] rfl
      refine va_calli (va_runS (As := [.int k]) (rest := [.int 0]) ⟨hx, hb, hml, hown, hts⟩ (ct_shiftOf l dC dI H.size k) (va_cwS 1 hts gX0_byteAtD_X0_shiftOf_19 rfl rfl rfl (by decide +kernel) ⟨(Nat.le_of_ble_eq_true rfl), (Nat.le_of_ble_eq_true rfl)⟩) ⟨fun a U g mk q => by obtain ⟨q0, q1, qP, qK, qD⟩ := q; exact ⟨q0, q1, qP, va_K.moved (u := U) (U := U.calling g mk a) (Vm.Alike.refl U.vm) qK, qD⟩, fun U hU hW => ⟨rfl, by rw [hU], by rw [hU]; exact hPc, va_K.moved hW.alike hKc, hDc.weaken (fun _ _ _ _ => trivial)⟩⟩ rfl rfl hl.1 rfl (lv_room (Nat.le_of_ble_eq_true rfl)) dX0_byteAt_25 ⟨(Nat.le_of_ble_eq_true rfl), (Nat.le_of_ble_eq_true rfl)⟩) hS (fun q _ h => hFc q h) hFc (fun r5 u t H1 locs ht hvm hw hB hz1 hk1 hS => ?_)
      have hP1 : va_P (dC, dI) classes [] H1 := vx_P0
      have hD1 : va_D (va_A [] H.size) [] := vx_D0
      obtain ⟨hP, hD⟩ := va_join (wr := [(h0, .inr (0, [.ref w, .int 24])), (w, .inl (cA, 6, .inl (fun _ => 0)))]) (w1 := []) hP hD [] [0, 1] rfl rfl (by decide) (by decide) hk1 hFc hP1 hD1
      have hK := hK.sub (tys' := [(cA, .int)]) [0] rfl
      generalize H1 = H at hP hS ⊢
      have hP : va_P (dC, dI) classes [(h0, .inr (0, [.ref w, .int 24])), (w, .inl (cA, 6, .inl (fun _ => 0)))] H := hP
      have hD : va_D A [(h0, .inr (0, [.ref w, .int 24])), (w, .inl (cA, 6, .inl (fun _ => 0)))] := hD
      have hK : va_K (dC, dI) classes [(cA, .int)] s := hK
      refine W.widen (k := 0) (n := 0) (Nat.le_of_ble_eq_true rfl) (Nat.le_of_ble_eq_true rfl) ?_
      refine lv_iushr (v := 0) hx hb dX0_byteAt_28 (vx_shr0 _) ?_
      refine lv_sipush (v := 255) hx hb dX0_byteAt_29 (by decide) ?_
      refine lv_iand hx hb dX0_byteAt_32 ?_
      refine vx_topk 0 (by decide) ?_
      refine W.widen (k := 0) (n := 0) (Nat.le_of_ble_eq_true rfl) (Nat.le_of_ble_eq_true rfl) ?_
      exact W.iret (v := 0) hx hb hr (fun t ht hW => ⟨⟨0, (), rfl, (by unfold fk_disk; rw [if_neg c3, if_pos c4]), trivial⟩, hS.F ht⟩) hS.2.2 dX0_byteAt_33
    · refine lv_iconst (v := (-1)) hx hb dX0_byteAt_12 (by decide) ?_
      refine lv_goto (tgt := 33) hx hb dX0_byteAt_13 (by decide) ?_
      refine W.widen (k := 0) (n := 0) (Nat.le_of_ble_eq_true rfl) (Nat.le_of_ble_eq_true rfl) ?_
      exact W.iret (v := (-1)) hx hb hr (fun t ht hW => ⟨⟨(-1), (), rfl, (by unfold fk_disk; rw [if_neg c3, if_neg c4]), trivial⟩, hS.F ht⟩) hS.2.2 dX0_byteAt_33
def ww_X0_flip : List Cond := .code yX0_flip cX0_flip 3 none :: ([.fieldLink RX0 15 "LeafSigner$ByteRow" "count" "I"] ++ (wsX00))
theorem iX0_flip_X0 : ∀ w ∈ wsX00, w ∈ ww_X0_flip := fun w h => List.mem_cons_of_mem _ (List.mem_append_right _ h)
set_option maxHeartbeats 4000000 in
set_option maxRecDepth 100000 in
theorem ct_flip0 (l : Launch) (dC : Nat → ClassId) (dI : Nat → Nat → Nat) (sz : Nat) (h0 : Nat) (k : Int32) (z : Int32) (w : Nat) : Met l yX0_flip ww_X0_flip ({ frames := 0, cells := 0, slots := 0, locals := 0 }) (va_Pc [.ref h0, .int k, .int z] (fun U => U.heap.size = sz ∧ va_P (dC, dI) classes [(h0, .inr (0, [.ref w, .int 0]))] U.heap ∧ va_K (dC, dI) classes [] U ∧ va_D (fun _ => True) [(h0, .inr (0, [.ref w, .int 0]))])) (va_Qv (fun (_ : Unit) => True) (fun (_ : Unit) (t : State) => va_P (dC, dI) classes [(h0, .inr (0, [.ref w, .int 0]))] t.heap ∧ va_K (dC, dI) classes [] t ∧ va_D (va_A [(h0, .inr (0, [.ref w, .int 0]))] sz) [(h0, .inr (0, [.ref w, .int 0]))]) (va_A [(h0, .inr (0, [.ref w, .int 0]))] sz)) 0 0 (va_A [(h0, .inr (0, [.ref w, .int 0]))] sz) := by
  refine Met.ofW (cc := cX0_flip) (maxL := 3) (ret := none) (by decide) rfl ?_
  intro p e s m args below meth c s₁ B hml hv
  obtain ⟨rfl, hsz, hP, hK, hD0⟩ := hv
  have hx := B.exec
  have hb := B.bytes
  have hr := B.returns
  have hts := atoms_spec (ws := ww_X0_flip) B.pre
  have hown : s.vm.findClass RX0 = some m.cls := findClass_of_methodNamed B.named
  have hlocks := B.notSynchronized
  subst hsz
  have hD := hD0.self (sz := s.heap.size)
  generalize hAe : va_A [(h0, .inr (0, [.ref w, .int 0]))] s.heap.size = A at hD ⊢
  have hA : ∀ q : Nat, s.heap.size ≤ q → A q := fun q h => by rw [← hAe]; exact Or.inr h
  have hS : va_S A s.heap s.heap [] := va_S.rf
  have hP : va_P (dC, dI) classes [(h0, .inr (0, [.ref w, .int 0]))] s.heap := hP
  have hl := lv_entry ([.ref h0, .int k, .int z]) (n := 3) (Nat.le_of_ble_eq_true rfl)
  rw [lg_entry_eq]
  generalize (lg_sl ([.ref h0, .int k, .int z]) ++ List.replicate (3 - (lg_sl ([.ref h0, .int k, .int z])).length) Slot.unset).toArray = ls at hl ⊢
  have hl : lv_has ls 3 [(0, .ref h0), (1, .int k), (2, .int z)] := hl
  generalize hHe : s.heap = H at hP ⊢
  have hS : va_S A s.heap H [] := by rw [← hHe]; exact va_S.rf
  refine lv_iload_n hx hb dX0_flip_0 rfl (lv_at hl 1 rfl) ?_
  refine lv_if_lt (tgt := 33) hx hb dX0_flip_1 (by decide) (fun c6 => ?_) (fun c6 => ?_)
  · refine W.widen (k := 0) (n := 0) (Nat.le_of_ble_eq_true rfl) (Nat.le_of_ble_eq_true rfl) ?_
    have hP9 := hP.sub (ws' := [(h0, .inr (0, [.ref w, .int 0]))]) [0] rfl
    have hD9 := hD.sub (ws' := [(h0, .inr (0, [.ref w, .int 0]))]) [0] (by decide) rfl
    have hK9 := hK.sub (tys' := []) [] rfl
    exact W.vret hx hb hr (fun t ht hW => ⟨⟨(), rfl, trivial, ⟨by rw [ht]; exact hP9, va_K.moved hW.alike hK9, hD9⟩⟩, hS.F ht⟩) hS.2.2 dX0_flip_33
  · refine lv_iload_n hx hb dX0_flip_4 rfl (lv_at hl 1 rfl) ?_
    refine lv_aload_n hx hb dX0_flip_5 rfl (lv_at hl 0 rfl) ?_
    refine va_get (D := (dC, dI)) (ci := 0) (v := .int 0) (C := RX0) (T := TX0) (N := 2) hx hb hts iX0_flip_X0 hown hK hP 0 rfl rfl 1 (by decide) (hts (.fieldLink RX0 15 "LeafSigner$ByteRow" "count" "I") (List.mem_of_getElem? (i := 1) rfl)) (fun _ h9 => h9) rfl dX0_flip_6 ?_
    refine lv_icmp_ge (tgt := 33) hx hb dX0_flip_9 (by decide) (fun c7 => ?_) (fun c7 => absurd (Int32.not_lt.mp c6) c7)
    refine W.widen (k := 0) (n := 0) (Nat.le_of_ble_eq_true rfl) (Nat.le_of_ble_eq_true rfl) ?_
    have hP9 := hP.sub (ws' := [(h0, .inr (0, [.ref w, .int 0]))]) [0] rfl
    have hD9 := hD.sub (ws' := [(h0, .inr (0, [.ref w, .int 0]))]) [0] (by decide) rfl
    have hK9 := hK.sub (tys' := []) [] rfl
    exact W.vret hx hb hr (fun t ht hW => ⟨⟨(), rfl, trivial, ⟨by rw [ht]; exact hP9, va_K.moved hW.alike hK9, hD9⟩⟩, hS.F ht⟩) hS.2.2 dX0_flip_33
def ww_X0_append : List Cond := .code yX0_append cX0_append 2 none :: ([.fieldLink RX0 15 "LeafSigner$ByteRow" "count" "I", .fieldLink RX0 9 "LeafSigner$ByteRow" "words" "[I"] ++ (wsX00))
theorem iX0_append_X0 : ∀ w ∈ wsX00, w ∈ ww_X0_append := fun w h => List.mem_cons_of_mem _ (List.mem_append_right _ h)
set_option maxHeartbeats 4000000 in
set_option maxRecDepth 100000 in
theorem ct_append (l : Launch) (dC : Nat → ClassId) (dI : Nat → Nat → Nat) (sz : Nat) (h0 : Nat) (k : Int32) (w : Nat) (cnt : Int32) (cA : ClassId) (f : (Nat → Int32)) (cnt2 : Int32) (hc : ¬ 50 ≤ (cnt >>> (2 &&& 31))) (hix : vp_in (cnt >>> (2 &&& 31)) 50) (h2 : cnt + 4 = cnt2) : Met l yX0_append ww_X0_append ({ frames := 0, cells := 0, slots := 0, locals := 0 }) (va_Pc [.ref h0, .int k] (fun U => U.heap.size = sz ∧ va_P (dC, dI) classes [(h0, .inr (0, [.ref w, .int cnt])), (w, .inl (cA, 50, .inl f))] U.heap ∧ va_K (dC, dI) classes [(cA, .int)] U ∧ va_D (fun _ => True) [(h0, .inr (0, [.ref w, .int cnt])), (w, .inl (cA, 50, .inl f))])) (va_Qv (fun (_ : Unit) => True) (fun (_ : Unit) (t : State) => ∃ f2 : (Nat → Int32), va_P (dC, dI) classes [(h0, .inr (0, [.ref w, .int cnt2])), (w, .inl (cA, 50, .inl f2))] t.heap ∧ va_K (dC, dI) classes [(cA, .int)] t ∧ va_D (va_A [(h0, .inr (0, [.ref w, .int cnt])), (w, .inl (cA, 50, .inl f))] sz) [(h0, .inr (0, [.ref w, .int cnt2])), (w, .inl (cA, 50, .inl f2))]) (va_A [(h0, .inr (0, [.ref w, .int cnt])), (w, .inl (cA, 50, .inl f))] sz)) 0 0 (va_A [(h0, .inr (0, [.ref w, .int cnt])), (w, .inl (cA, 50, .inl f))] sz) := by
  refine Met.ofW (cc := cX0_append) (maxL := 2) (ret := none) (by decide) rfl ?_
  intro p e s m args below meth c s₁ B hml hv
  obtain ⟨rfl, hsz, hP, hK, hD0⟩ := hv
  have hx := B.exec
  have hb := B.bytes
  have hr := B.returns
  have hts := atoms_spec (ws := ww_X0_append) B.pre
  have hown : s.vm.findClass RX0 = some m.cls := findClass_of_methodNamed B.named
  have hlocks := B.notSynchronized
  subst hsz
  have hD := hD0.self (sz := s.heap.size)
  generalize hAe : va_A [(h0, .inr (0, [.ref w, .int cnt])), (w, .inl (cA, 50, .inl f))] s.heap.size = A at hD ⊢
  have hA : ∀ q : Nat, s.heap.size ≤ q → A q := fun q h => by rw [← hAe]; exact Or.inr h
  have hS : va_S A s.heap s.heap [] := va_S.rf
  have hP : va_P (dC, dI) classes [(h0, .inr (0, [.ref w, .int cnt])), (w, .inl (cA, 50, .inl f))] s.heap := hP
  have hl := lv_entry ([.ref h0, .int k]) (n := 2) (Nat.le_of_ble_eq_true rfl)
  rw [lg_entry_eq]
  generalize (lg_sl ([.ref h0, .int k]) ++ List.replicate (2 - (lg_sl ([.ref h0, .int k])).length) Slot.unset).toArray = ls at hl ⊢
  have hl : lv_has ls 2 [(0, .ref h0), (1, .int k)] := hl
  generalize hHe : s.heap = H at hP ⊢
  have hS : va_S A s.heap H [] := by rw [← hHe]; exact va_S.rf
  refine lv_aload_n hx hb dX0_append_0 rfl (lv_at hl 0 rfl) ?_
  refine va_get (D := (dC, dI)) (ci := 0) (v := .int cnt) (C := RX0) (T := TX0) (N := 2) hx hb hts iX0_append_X0 hown hK hP 0 rfl rfl 1 (by decide) (hts (.fieldLink RX0 15 "LeafSigner$ByteRow" "count" "I") (List.mem_of_getElem? (i := 1) rfl)) (fun _ h9 => h9) rfl dX0_append_1 ?_
  refine lv_iconst (v := 2) hx hb dX0_append_4 (by decide) ?_
  refine lv_ishr hx hb dX0_append_5 ?_
  refine lv_aload_n hx hb dX0_append_6 rfl (lv_at hl 0 rfl) ?_
  refine va_get (D := (dC, dI)) (ci := 0) (v := .ref w) (C := RX0) (T := TX0) (N := 2) hx hb hts iX0_append_X0 hown hK hP 0 rfl rfl 0 (by decide) (hts (.fieldLink RX0 9 "LeafSigner$ByteRow" "words" "[I") (List.mem_of_getElem? (i := 2) rfl)) (fun _ h9 => h9) rfl dX0_append_7 ?_
  refine va_alen (v := 50) hx hb hK hP 1 0 rfl rfl (by decide) dX0_append_10 ?_
  refine lv_icmp_ge (tgt := 36) hx hb dX0_append_11 (by decide) (fun c8 => absurd c8 hc) (fun c8 => ?_)
  refine lv_aload_n hx hb dX0_append_14 rfl (lv_at hl 0 rfl) ?_
  refine va_get (D := (dC, dI)) (ci := 0) (v := .ref w) (C := RX0) (T := TX0) (N := 2) hx hb hts iX0_append_X0 hown hK hP 0 rfl rfl 0 (by decide) (hts (.fieldLink RX0 9 "LeafSigner$ByteRow" "words" "[I") (List.mem_of_getElem? (i := 2) rfl)) (fun _ h9 => h9) rfl dX0_append_15 ?_
  refine lv_aload_n hx hb dX0_append_18 rfl (lv_at hl 0 rfl) ?_
  refine va_get (D := (dC, dI)) (ci := 0) (v := .int cnt) (C := RX0) (T := TX0) (N := 2) hx hb hts iX0_append_X0 hown hK hP 0 rfl rfl 1 (by decide) (hts (.fieldLink RX0 15 "LeafSigner$ByteRow" "count" "I") (List.mem_of_getElem? (i := 1) rfl)) (fun _ h9 => h9) rfl dX0_append_19 ?_
  refine lv_iconst (v := 2) hx hb dX0_append_22 (by decide) ?_
  refine lv_ishr hx hb dX0_append_23 ?_
  refine lv_iload_n hx hb dX0_append_24 rfl (lv_at hl 1 rfl) ?_
  refine vx_iast hx hb hK hP hD hS 1 0 rfl rfl hix dX0_append_25 (fun H locs f9 hP hD hS => ?_)
  have hP : va_P (dC, dI) classes [(h0, .inr (0, [.ref w, .int cnt])), (w, .inl (cA, 50, .inl f9))] H := hP
  have hD : va_D A [(h0, .inr (0, [.ref w, .int cnt])), (w, .inl (cA, 50, .inl f9))] := hD
  refine lv_aload_n hx hb dX0_append_26 rfl (lv_at hl 0 rfl) ?_
  refine lv_dup hx hb dX0_append_27 rfl ?_
  refine va_get (D := (dC, dI)) (ci := 0) (v := .int cnt) (C := RX0) (T := TX0) (N := 2) hx hb hts iX0_append_X0 hown hK hP 0 rfl rfl 1 (by decide) (hts (.fieldLink RX0 15 "LeafSigner$ByteRow" "count" "I") (List.mem_of_getElem? (i := 1) rfl)) (fun _ h9 => h9) rfl dX0_append_28 ?_
  refine lv_iconst (v := 4) hx hb dX0_append_31 (by decide) ?_
  refine lv_iadd hx hb dX0_append_32 ?_
  refine vx_topk cnt2 h2 ?_
  refine va_put (D := (dC, dI)) (ci := 0) (v := .int cnt2) (ty := .int) (C := RX0) (T := TX0) (N := 2) hx hb hts iX0_append_X0 tyX0 tyX0_ok nmX0 hown hK hP hD hS 0 rfl rfl 1 (by decide) (hts (.fieldLink RX0 15 "LeafSigner$ByteRow" "count" "I") (List.mem_of_getElem? (i := 1) rfl)) (fun _ h9 => h9) rfl (by decide +kernel) rfl rfl (Nat.le_of_ble_eq_true rfl) dX0_append_33 (fun H locs hP hD hS => ?_)
  have hP : va_P (dC, dI) classes [(h0, .inr (0, [.ref w, .int cnt2])), (w, .inl (cA, 50, .inl f9))] H := hP
  have hD : va_D A [(h0, .inr (0, [.ref w, .int cnt2])), (w, .inl (cA, 50, .inl f9))] := hD
  refine W.widen (k := 0) (n := 0) (Nat.le_of_ble_eq_true rfl) (Nat.le_of_ble_eq_true rfl) ?_
  have hP9 := hP.sub (ws' := [(h0, .inr (0, [.ref w, .int cnt2])), (w, .inl (cA, 50, .inl f9))]) [0, 1] rfl
  have hD9 := hD.sub (ws' := [(h0, .inr (0, [.ref w, .int cnt2])), (w, .inl (cA, 50, .inl f9))]) [0, 1] (by decide) rfl
  have hK9 := hK.sub (tys' := [(cA, .int)]) [0] rfl
  exact W.vret hx hb hr (fun t ht hW => ⟨⟨(), rfl, trivial, ⟨f9, by rw [ht]; exact hP9, va_K.moved hW.alike hK9, hD9⟩⟩, hS.F ht⟩) hS.2.2 dX0_append_36
def ww_X0_fill : List Cond := .code yX0_fill cX0_fill 1 none :: ([.fieldLink RX0 9 "LeafSigner$ByteRow" "words" "[I", .fieldLink RX0 15 "LeafSigner$ByteRow" "count" "I"] ++ (wsX00))
theorem iX0_fill_X0 : ∀ w ∈ wsX00, w ∈ ww_X0_fill := fun w h => List.mem_cons_of_mem _ (List.mem_append_right _ h)
set_option maxHeartbeats 4000000 in
set_option maxRecDepth 100000 in
theorem ct_fill (l : Launch) (dC : Nat → ClassId) (dI : Nat → Nat → Nat) (sz : Nat) (h0 : Nat) (w : Nat) (c0 : Int32) (cA : ClassId) (N : Nat) (f : (Nat → Int32)) (v : Int32) (hv : Int32.ofNat N * 4 = v) : Met l yX0_fill ww_X0_fill ({ frames := 0, cells := 0, slots := 0, locals := 0 }) (va_Pc [.ref h0] (fun U => U.heap.size = sz ∧ va_P (dC, dI) classes [(h0, .inr (0, [.ref w, .int c0])), (w, .inl (cA, N, .inl f))] U.heap ∧ va_K (dC, dI) classes [(cA, .int)] U ∧ va_D (fun _ => True) [(h0, .inr (0, [.ref w, .int c0])), (w, .inl (cA, N, .inl f))])) (va_Qv (fun (_ : Unit) => True) (fun (_ : Unit) (t : State) => va_P (dC, dI) classes [(h0, .inr (0, [.ref w, .int v])), (w, .inl (cA, N, .inl f))] t.heap ∧ va_K (dC, dI) classes [(cA, .int)] t ∧ va_D (va_A [(h0, .inr (0, [.ref w, .int c0])), (w, .inl (cA, N, .inl f))] sz) [(h0, .inr (0, [.ref w, .int v])), (w, .inl (cA, N, .inl f))]) (va_A [(h0, .inr (0, [.ref w, .int c0])), (w, .inl (cA, N, .inl f))] sz)) 0 0 (va_A [(h0, .inr (0, [.ref w, .int c0])), (w, .inl (cA, N, .inl f))] sz) := by
  refine Met.ofW (cc := cX0_fill) (maxL := 1) (ret := none) (by decide) rfl ?_
  intro p e s m args below meth c s₁ B hml hv
  obtain ⟨rfl, hsz, hP, hK, hD0⟩ := hv
  have hx := B.exec
  have hb := B.bytes
  have hr := B.returns
  have hts := atoms_spec (ws := ww_X0_fill) B.pre
  have hown : s.vm.findClass RX0 = some m.cls := findClass_of_methodNamed B.named
  have hlocks := B.notSynchronized
  subst hsz
  have hD := hD0.self (sz := s.heap.size)
  generalize hAe : va_A [(h0, .inr (0, [.ref w, .int c0])), (w, .inl (cA, N, .inl f))] s.heap.size = A at hD ⊢
  have hA : ∀ q : Nat, s.heap.size ≤ q → A q := fun q h => by rw [← hAe]; exact Or.inr h
  have hS : va_S A s.heap s.heap [] := va_S.rf
  have hP : va_P (dC, dI) classes [(h0, .inr (0, [.ref w, .int c0])), (w, .inl (cA, N, .inl f))] s.heap := hP
  have hl := lv_entry ([.ref h0]) (n := 1) (Nat.le_of_ble_eq_true rfl)
  rw [lg_entry_eq]
  generalize (lg_sl ([.ref h0]) ++ List.replicate (1 - (lg_sl ([.ref h0])).length) Slot.unset).toArray = ls at hl ⊢
  have hl : lv_has ls 1 [(0, .ref h0)] := hl
  generalize hHe : s.heap = H at hP ⊢
  have hS : va_S A s.heap H [] := by rw [← hHe]; exact va_S.rf
  refine lv_aload_n hx hb dX0_fill_0 rfl (lv_at hl 0 rfl) ?_
  refine lv_aload_n hx hb dX0_fill_1 rfl (lv_at hl 0 rfl) ?_
  refine va_get (D := (dC, dI)) (ci := 0) (v := .ref w) (C := RX0) (T := TX0) (N := 2) hx hb hts iX0_fill_X0 hown hK hP 0 rfl rfl 0 (by decide) (hts (.fieldLink RX0 9 "LeafSigner$ByteRow" "words" "[I") (List.mem_of_getElem? (i := 1) rfl)) (fun _ h9 => h9) rfl dX0_fill_2 ?_
  refine va_alen (v := (Int32.ofNat N)) hx hb hK hP 1 0 rfl rfl rfl dX0_fill_5 ?_
  refine lv_iconst (v := 4) hx hb dX0_fill_6 (by decide) ?_
  refine lv_imul hx hb dX0_fill_7 ?_
  refine vx_topk v hv ?_
  refine va_put (D := (dC, dI)) (ci := 0) (v := .int v) (ty := .int) (C := RX0) (T := TX0) (N := 2) hx hb hts iX0_fill_X0 tyX0 tyX0_ok nmX0 hown hK hP hD hS 0 rfl rfl 1 (by decide) (hts (.fieldLink RX0 15 "LeafSigner$ByteRow" "count" "I") (List.mem_of_getElem? (i := 2) rfl)) (fun _ h9 => h9) rfl (by decide +kernel) rfl rfl (Nat.le_of_ble_eq_true rfl) dX0_fill_8 (fun H locs hP hD hS => ?_)
  have hP : va_P (dC, dI) classes [(h0, .inr (0, [.ref w, .int v])), (w, .inl (cA, N, .inl f))] H := hP
  have hD : va_D A [(h0, .inr (0, [.ref w, .int v])), (w, .inl (cA, N, .inl f))] := hD
  refine W.widen (k := 0) (n := 0) (Nat.le_of_ble_eq_true rfl) (Nat.le_of_ble_eq_true rfl) ?_
  have hP9 := hP.sub (ws' := [(h0, .inr (0, [.ref w, .int v])), (w, .inl (cA, N, .inl f))]) [0, 1] rfl
  have hD9 := hD.sub (ws' := [(h0, .inr (0, [.ref w, .int v])), (w, .inl (cA, N, .inl f))]) [0, 1] (by decide) rfl
  have hK9 := hK.sub (tys' := [(cA, .int)]) [0] rfl
  exact W.vret hx hb hr (fun t ht hW => ⟨⟨(), rfl, trivial, ⟨by rw [ht]; exact hP9, va_K.moved hW.alike hK9, hD9⟩⟩, hS.F ht⟩) hS.2.2 dX0_fill_11
def ww_X0_copyOf : List Cond := .code yX0_copyOf cX0_copyOf 3 none :: ([.fieldLink RX0 9 "LeafSigner$ByteRow" "words" "[I", .methodLink RX0 23 Lib.Math.min.name, .static Lib.Math.min.name, .initialized "java/lang/Math", .code Lib.Math.min.name Lib.Math.min.code 2 (some .int), .methodLink RX0 29 arraycopyName, .native arraycopyName, .static arraycopyName, .initialized "java/lang/System", .fieldLink RX0 15 "LeafSigner$ByteRow" "count" "I"] ++ (wsX00))
theorem iX0_copyOf_X0 : ∀ w ∈ wsX00, w ∈ ww_X0_copyOf := fun w h => List.mem_cons_of_mem _ (List.mem_append_right _ h)
set_option maxHeartbeats 4000000 in
set_option maxRecDepth 100000 in
theorem ct_copyOf (l : Launch) (dC : Nat → ClassId) (dI : Nat → Nat → Nat) (sz : Nat) (h0 : Nat) (h1 : Nat) (w : Nat) (cA : ClassId) (N : Nat) (f : (Nat → Int32)) (w1 : Nat) (cB : ClassId) (f1 : (Nat → Int32)) (hN : N = 553 ∨ N = 561 ∨ N = 569 ∨ N = 577) : Met l yX0_copyOf ww_X0_copyOf ({ frames := 1, cells := 0, slots := 0, locals := 60 }) (va_Pc [.ref h0, .ref h1] (fun U => U.heap.size = sz ∧ va_P (dC, dI) classes [(h0, .inr (0, [.ref w, .int 0])), (w, .inl (cA, N, .inl f)), (h1, .inr (0, [.ref w1, .int 0])), (w1, .inl (cB, N, .inl f1))] U.heap ∧ va_K (dC, dI) classes [(cA, .int), (cB, .int)] U ∧ va_D (fun _ => True) [(h0, .inr (0, [.ref w, .int 0])), (w, .inl (cA, N, .inl f)), (h1, .inr (0, [.ref w1, .int 0])), (w1, .inl (cB, N, .inl f1))])) (va_Qv (fun (_ : Unit) => True) (fun (_ : Unit) (t : State) => va_P (dC, dI) classes [(h0, .inr (0, [.ref w, .int 0]))] t.heap ∧ va_K (dC, dI) classes [] t ∧ va_D (va_A [(h0, .inr (0, [.ref w, .int 0])), (w, .inl (cA, N, .inl f)), (h1, .inr (0, [.ref w1, .int 0])), (w1, .inl (cB, N, .inl f1))] sz) [(h0, .inr (0, [.ref w, .int 0]))]) (va_A [(h0, .inr (0, [.ref w, .int 0])), (w, .inl (cA, N, .inl f)), (h1, .inr (0, [.ref w1, .int 0])), (w1, .inl (cB, N, .inl f1))] sz)) 0 0 (va_A [(h0, .inr (0, [.ref w, .int 0])), (w, .inl (cA, N, .inl f)), (h1, .inr (0, [.ref w1, .int 0])), (w1, .inl (cB, N, .inl f1))] sz) := by
  refine Met.ofW (cc := cX0_copyOf) (maxL := 3) (ret := none) (by decide) rfl ?_
  intro p e s m args below meth c s₁ B hml hv
  obtain ⟨rfl, hsz, hP, hK, hD0⟩ := hv
  have hx := B.exec
  have hb := B.bytes
  have hr := B.returns
  have hts := atoms_spec (ws := ww_X0_copyOf) B.pre
  have hown : s.vm.findClass RX0 = some m.cls := findClass_of_methodNamed B.named
  have hlocks := B.notSynchronized
  subst hsz
  have hD := hD0.self (sz := s.heap.size)
  generalize hAe : va_A [(h0, .inr (0, [.ref w, .int 0])), (w, .inl (cA, N, .inl f)), (h1, .inr (0, [.ref w1, .int 0])), (w1, .inl (cB, N, .inl f1))] s.heap.size = A at hD ⊢
  have hA : ∀ q : Nat, s.heap.size ≤ q → A q := fun q h => by rw [← hAe]; exact Or.inr h
  have hS : va_S A s.heap s.heap [] := va_S.rf
  have hP : va_P (dC, dI) classes [(h0, .inr (0, [.ref w, .int 0])), (w, .inl (cA, N, .inl f)), (h1, .inr (0, [.ref w1, .int 0])), (w1, .inl (cB, N, .inl f1))] s.heap := hP
  have hl := lv_entry ([.ref h0, .ref h1]) (n := 3) (Nat.le_of_ble_eq_true rfl)
  rw [lg_entry_eq]
  generalize (lg_sl ([.ref h0, .ref h1]) ++ List.replicate (3 - (lg_sl ([.ref h0, .ref h1])).length) Slot.unset).toArray = ls at hl ⊢
  have hl : lv_has ls 3 [(0, .ref h0), (1, .ref h1)] := hl
  generalize hHe : s.heap = H at hP ⊢
  have hS : va_S A s.heap H [] := by rw [← hHe]; exact va_S.rf
  refine lv_aload_n hx hb dX0_copyOf_0 rfl (lv_at hl 0 rfl) ?_
  refine va_get (D := (dC, dI)) (ci := 0) (v := .ref w) (C := RX0) (T := TX0) (N := 2) hx hb hts iX0_copyOf_X0 hown hK hP 0 rfl rfl 0 (by decide) (hts (.fieldLink RX0 9 "LeafSigner$ByteRow" "words" "[I") (List.mem_of_getElem? (i := 1) rfl)) (fun _ h9 => h9) rfl dX0_copyOf_1 ?_
  refine va_alen (v := (Int32.ofNat N)) hx hb hK hP 1 0 rfl rfl rfl dX0_copyOf_4 ?_
  refine lv_aload_n hx hb dX0_copyOf_5 rfl (lv_at hl 1 rfl) ?_
  refine va_get (D := (dC, dI)) (ci := 0) (v := .ref w1) (C := RX0) (T := TX0) (N := 2) hx hb hts iX0_copyOf_X0 hown hK hP 2 rfl rfl 0 (by decide) (hts (.fieldLink RX0 9 "LeafSigner$ByteRow" "words" "[I") (List.mem_of_getElem? (i := 1) rfl)) (fun _ h9 => h9) rfl dX0_copyOf_6 ?_
  refine va_alen (v := (Int32.ofNat N)) hx hb hK hP 3 1 rfl rfl rfl dX0_copyOf_9 ?_
  refine va_mmin hx hb (hml.trans hl.1.symm) hown (hts (.methodLink RX0 23 Lib.Math.min.name) (List.mem_of_getElem? (i := 2) rfl)) (hts (.static Lib.Math.min.name) (List.mem_of_getElem? (i := 3) rfl)) (hts (.initialized "java/lang/Math") (List.mem_of_getElem? (i := 4) rfl)) (hts (.code Lib.Math.min.name Lib.Math.min.code 2 (some .int)) (List.mem_of_getElem? (i := 5) rfl)) (Nat.le_of_ble_eq_true rfl) (Nat.le_of_ble_eq_true rfl) (Nat.le_of_ble_eq_true rfl) (Nat.le_of_ble_eq_true rfl) dX0_copyOf_10 ?_
  refine vx_topk (Int32.ofNat N) (vx_mm _) ?_
  refine lv_istore_n (lv' := [(2, .int (Int32.ofNat N)), (0, .ref h0), (1, .ref h1)]) hx hb dX0_copyOf_13 rfl hl (by decide) rfl (fun ls hl => ?_)
  refine lv_aload_n hx hb dX0_copyOf_14 rfl (lv_at hl 2 rfl) ?_
  refine va_get (D := (dC, dI)) (ci := 0) (v := .ref w1) (C := RX0) (T := TX0) (N := 2) hx hb hts iX0_copyOf_X0 hown hK hP 2 rfl rfl 0 (by decide) (hts (.fieldLink RX0 9 "LeafSigner$ByteRow" "words" "[I") (List.mem_of_getElem? (i := 1) rfl)) (fun _ h9 => h9) rfl dX0_copyOf_15 ?_
  refine lv_iconst (v := 0) hx hb dX0_copyOf_18 (by decide) ?_
  refine lv_aload_n hx hb dX0_copyOf_19 rfl (lv_at hl 1 rfl) ?_
  refine va_get (D := (dC, dI)) (ci := 0) (v := .ref w) (C := RX0) (T := TX0) (N := 2) hx hb hts iX0_copyOf_X0 hown hK hP 0 rfl rfl 0 (by decide) (hts (.fieldLink RX0 9 "LeafSigner$ByteRow" "words" "[I") (List.mem_of_getElem? (i := 1) rfl)) (fun _ h9 => h9) rfl dX0_copyOf_20 ?_
  refine lv_iconst (v := 0) hx hb dX0_copyOf_23 (by decide) ?_
  refine lv_iload_n hx hb dX0_copyOf_24 rfl (lv_at hl 0 rfl) ?_
  refine va_copyi hx hb (hml.trans hl.1.symm) hown (hts (.methodLink RX0 29 arraycopyName) (List.mem_of_getElem? (i := 6) rfl)) (hts (.native arraycopyName) (List.mem_of_getElem? (i := 7) rfl)) (hts (.static arraycopyName) (List.mem_of_getElem? (i := 8) rfl)) (hts (.initialized "java/lang/System") (List.mem_of_getElem? (i := 9) rfl)) hK hP hD hS 3 1 1 0 rfl rfl rfl rfl rfl (by decide) (by decide) (vx_N3 hN).1 (vx_N3 hN).2.1 (vx_N3 hN).2.1 (fun _ _ => rfl) (Nat.le_of_ble_eq_true rfl) (Nat.le_of_ble_eq_true rfl) dX0_copyOf_25 (fun H locs hP hD hS => ?_)
  have hP : va_P (dC, dI) classes [(h0, .inr (0, [.ref w, .int 0])), (w, .inl (cA, N, .inl (va_cpy f1 f (0 : Int32).toNatClampNeg (0 : Int32).toNatClampNeg (Int32.ofNat N).toNatClampNeg))), (h1, .inr (0, [.ref w1, .int 0])), (w1, .inl (cB, N, .inl f1))] H := hP
  have hD : va_D A [(h0, .inr (0, [.ref w, .int 0])), (w, .inl (cA, N, .inl (va_cpy f1 f (0 : Int32).toNatClampNeg (0 : Int32).toNatClampNeg (Int32.ofNat N).toNatClampNeg))), (h1, .inr (0, [.ref w1, .int 0])), (w1, .inl (cB, N, .inl f1))] := hD
  refine lv_aload_n hx hb dX0_copyOf_28 rfl (lv_at hl 1 rfl) ?_
  refine lv_iload_n hx hb dX0_copyOf_29 rfl (lv_at hl 0 rfl) ?_
  refine lv_iconst (v := 4) hx hb dX0_copyOf_30 (by decide) ?_
  refine lv_imul hx hb dX0_copyOf_31 ?_
  refine lv_aload_n hx hb dX0_copyOf_32 rfl (lv_at hl 2 rfl) ?_
  refine va_get (D := (dC, dI)) (ci := 0) (v := .int 0) (C := RX0) (T := TX0) (N := 2) hx hb hts iX0_copyOf_X0 hown hK hP 2 rfl rfl 1 (by decide) (hts (.fieldLink RX0 15 "LeafSigner$ByteRow" "count" "I") (List.mem_of_getElem? (i := 10) rfl)) (fun _ h9 => h9) rfl dX0_copyOf_33 ?_
  refine va_mmin hx hb (hml.trans hl.1.symm) hown (hts (.methodLink RX0 23 Lib.Math.min.name) (List.mem_of_getElem? (i := 2) rfl)) (hts (.static Lib.Math.min.name) (List.mem_of_getElem? (i := 3) rfl)) (hts (.initialized "java/lang/Math") (List.mem_of_getElem? (i := 4) rfl)) (hts (.code Lib.Math.min.name Lib.Math.min.code 2 (some .int)) (List.mem_of_getElem? (i := 5) rfl)) (Nat.le_of_ble_eq_true rfl) (Nat.le_of_ble_eq_true rfl) (Nat.le_of_ble_eq_true rfl) (Nat.le_of_ble_eq_true rfl) dX0_copyOf_36 ?_
  refine vx_topk 0 (vx_N3 hN).2.2 ?_
  refine va_put (D := (dC, dI)) (ci := 0) (v := .int 0) (ty := .int) (C := RX0) (T := TX0) (N := 2) hx hb hts iX0_copyOf_X0 tyX0 tyX0_ok nmX0 hown hK hP hD hS 0 rfl rfl 1 (by decide) (hts (.fieldLink RX0 15 "LeafSigner$ByteRow" "count" "I") (List.mem_of_getElem? (i := 10) rfl)) (fun _ h9 => h9) rfl (by decide +kernel) rfl rfl (Nat.le_of_ble_eq_true rfl) dX0_copyOf_39 (fun H locs hP hD hS => ?_)
  have hP : va_P (dC, dI) classes [(h0, .inr (0, [.ref w, .int 0])), (w, .inl (cA, N, .inl (va_cpy f1 f (0 : Int32).toNatClampNeg (0 : Int32).toNatClampNeg (Int32.ofNat N).toNatClampNeg))), (h1, .inr (0, [.ref w1, .int 0])), (w1, .inl (cB, N, .inl f1))] H := hP
  have hD : va_D A [(h0, .inr (0, [.ref w, .int 0])), (w, .inl (cA, N, .inl (va_cpy f1 f (0 : Int32).toNatClampNeg (0 : Int32).toNatClampNeg (Int32.ofNat N).toNatClampNeg))), (h1, .inr (0, [.ref w1, .int 0])), (w1, .inl (cB, N, .inl f1))] := hD
  refine W.widen (k := 0) (n := 0) (Nat.le_of_ble_eq_true rfl) (Nat.le_of_ble_eq_true rfl) ?_
  have hP9 := hP.sub (ws' := [(h0, .inr (0, [.ref w, .int 0]))]) [0] rfl
  have hD9 := hD.sub (ws' := [(h0, .inr (0, [.ref w, .int 0]))]) [0] (by decide) rfl
  have hK9 := hK.sub (tys' := []) [] rfl
  exact W.vret hx hb hr (fun t ht hW => ⟨⟨(), rfl, trivial, ⟨by rw [ht]; exact hP9, va_K.moved hW.alike hK9, hD9⟩⟩, hS.F ht⟩) hS.2.2 dX0_copyOf_42
def ww_X0_init : List Cond := .code yX0_init cX0_init 2 none :: ([.methodLink RX0 3 objectInit, .instanceMethod objectInit, .code objectInit ⟨#[0xb1]⟩ 1 none, .arrayClass .int, .fieldLink RX0 9 "LeafSigner$ByteRow" "words" "[I", .fieldLink RX0 15 "LeafSigner$ByteRow" "count" "I"] ++ (wsX00))
theorem iX0_init_X0 : ∀ w ∈ wsX00, w ∈ ww_X0_init := fun w h => List.mem_cons_of_mem _ (List.mem_append_right _ h)
set_option maxHeartbeats 4000000 in
set_option maxRecDepth 100000 in
theorem ct_ByteRow (l : Launch) (dC : Nat → ClassId) (dI : Nat → Nat → Nat) (sz : Nat) (h0 : Nat) (n : Int32) (N : Nat) (MS : Nat) (hn : ¬ n < 0) (hN : n.toNatClampNeg = N) (hM : N ≤ MS) (hB : N ≤ 100000) : Met l yX0_init ww_X0_init ({ frames := 1, cells := 1, slots := MS, locals := 20 }) (va_Pc [.ref h0, .int n] (fun U => U.heap.size = sz ∧ va_P (dC, dI) classes [(h0, .inr (0, [.null, .int 0]))] U.heap ∧ va_K (dC, dI) classes [] U ∧ va_D (fun _ => True) [(h0, .inr (0, [.null, .int 0]))])) (va_Qv (fun (_ : Unit) => True) (fun (_ : Unit) (t : State) => ∃ qw0 : Nat, ∃ cA0 : ClassId, va_P (dC, dI) classes [(h0, .inr (0, [.ref qw0, .int 0])), (qw0, .inl (cA0, N, .inl (fun _ => 0)))] t.heap ∧ va_K (dC, dI) classes [(cA0, .int)] t ∧ va_D (va_A [(h0, .inr (0, [.null, .int 0]))] sz) [(h0, .inr (0, [.ref qw0, .int 0])), (qw0, .inl (cA0, N, .inl (fun _ => 0)))]) (va_A [(h0, .inr (0, [.null, .int 0]))] sz)) 1 MS (va_A [(h0, .inr (0, [.null, .int 0]))] sz) := by
  refine Met.ofW (cc := cX0_init) (maxL := 2) (ret := none) (by decide) rfl ?_
  intro p e s m args below meth c s₁ B hml hv
  obtain ⟨rfl, hsz, hP, hK, hD0⟩ := hv
  have hx := B.exec
  have hb := B.bytes
  have hr := B.returns
  have hts := atoms_spec (ws := ww_X0_init) B.pre
  have hown : s.vm.findClass RX0 = some m.cls := findClass_of_methodNamed B.named
  have hlocks := B.notSynchronized
  have hin : meth.name = "<init>" := (name_of_methodNamed B.named B.method).1
  subst hsz
  have hD := hD0.self (sz := s.heap.size)
  generalize hAe : va_A [(h0, .inr (0, [.null, .int 0]))] s.heap.size = A at hD ⊢
  have hA : ∀ q : Nat, s.heap.size ≤ q → A q := fun q h => by rw [← hAe]; exact Or.inr h
  have hS : va_S A s.heap s.heap [] := va_S.rf
  have hP : va_P (dC, dI) classes [(h0, .inr (0, [.null, .int 0]))] s.heap := hP
  have hl := lv_entry ([.ref h0, .int n]) (n := 2) (Nat.le_of_ble_eq_true rfl)
  rw [lg_entry_eq]
  generalize (lg_sl ([.ref h0, .int n]) ++ List.replicate (2 - (lg_sl ([.ref h0, .int n])).length) Slot.unset).toArray = ls at hl ⊢
  have hl : lv_has ls 2 [(0, .ref h0), (1, .int n)] := hl
  generalize hHe : s.heap = H at hP ⊢
  have hS : va_S A s.heap H [] := by rw [← hHe]; exact va_S.rf
  refine lv_aload_n hx hb dX0_init_0 rfl (lv_at hl 0 rfl) ?_
  refine W.objInit hx hb hown (hts (.methodLink RX0 3 objectInit) (List.mem_of_getElem? (i := 1) rfl)) (hts (.instanceMethod objectInit) (List.mem_of_getElem? (i := 2) rfl)) (hts (.code objectInit ⟨#[0xb1]⟩ 1 none) (List.mem_of_getElem? (i := 3) rfl)) rfl (by rw [hml]; exact hl.1) rfl dX0_init_1 (Nat.le_of_ble_eq_true rfl) (Nat.le_of_ble_eq_true rfl) ?_
  refine W.eq (g2 := F0 m 4 ls []) rfl ?_
  refine lv_aload_n hx hb dX0_init_4 rfl (lv_at hl 0 rfl) ?_
  refine lv_iload_n hx hb dX0_init_5 rfl (lv_at hl 1 rfl) ?_
  refine va_newa (a0 := (N, .inl (fun _ => 0))) hx hb (hts (.arrayClass .int) (List.mem_of_getElem? (i := 4) rfl)) rfl hK hP hD hS hA (fun _ => rfl) hn hN (by show N * 4 ≤ 536870912; omega) (Nat.le_of_ble_eq_true rfl) (by show 0 + N ≤ MS; omega) dX0_init_6 (fun q10 cA11 H hK hP hD hS => ?_)
  have hK : va_K (dC, dI) classes [(cA11, .int)] s := hK
  have hP : va_P (dC, dI) classes [(h0, .inr (0, [.null, .int 0])), (q10, .inl (cA11, N, .inl (fun _ => 0)))] H := hP
  have hD : va_D A [(h0, .inr (0, [.null, .int 0])), (q10, .inl (cA11, N, .inl (fun _ => 0)))] := hD
  refine va_putF (D := (dC, dI)) (ci := 0) (v := .ref q10) (ty := .array .int) (C := RX0) (T := TX0) (N := 2) hx hb hts iX0_init_X0 tyX0 tyX0_ok nmX0 hown hK hP hD hS 0 rfl rfl 0 (by decide) (hts (.fieldLink RX0 9 "LeafSigner$ByteRow" "words" "[I") (List.mem_of_getElem? (i := 5) rfl)) (fun _ h9 => h9) rfl hin rfl (by decide +kernel) rfl rfl (Nat.le_of_ble_eq_true rfl) dX0_init_8 (fun H locs hP hD hS => ?_)
  have hP : va_P (dC, dI) classes [(h0, .inr (0, [.ref q10, .int 0])), (q10, .inl (cA11, N, .inl (fun _ => 0)))] H := hP
  have hD : va_D A [(h0, .inr (0, [.ref q10, .int 0])), (q10, .inl (cA11, N, .inl (fun _ => 0)))] := hD
  refine lv_aload_n hx hb dX0_init_11 rfl (lv_at hl 0 rfl) ?_
  refine lv_iconst (v := 0) hx hb dX0_init_12 (by decide) ?_
  refine va_put (D := (dC, dI)) (ci := 0) (v := .int 0) (ty := .int) (C := RX0) (T := TX0) (N := 2) hx hb hts iX0_init_X0 tyX0 tyX0_ok nmX0 hown hK hP hD hS 0 rfl rfl 1 (by decide) (hts (.fieldLink RX0 15 "LeafSigner$ByteRow" "count" "I") (List.mem_of_getElem? (i := 6) rfl)) (fun _ h9 => h9) rfl (by decide +kernel) rfl rfl (Nat.le_of_ble_eq_true rfl) dX0_init_13 (fun H locs hP hD hS => ?_)
  have hP : va_P (dC, dI) classes [(h0, .inr (0, [.ref q10, .int 0])), (q10, .inl (cA11, N, .inl (fun _ => 0)))] H := hP
  have hD : va_D A [(h0, .inr (0, [.ref q10, .int 0])), (q10, .inl (cA11, N, .inl (fun _ => 0)))] := hD
  refine W.widen (k := 1) (n := MS) (Nat.le_of_ble_eq_true rfl) (by show 0 + N ≤ MS; omega) ?_
  have hP9 := hP.sub (ws' := [(h0, .inr (0, [.ref q10, .int 0])), (q10, .inl (cA11, N, .inl (fun _ => 0)))]) [0, 1] rfl
  have hD9 := hD.sub (ws' := [(h0, .inr (0, [.ref q10, .int 0])), (q10, .inl (cA11, N, .inl (fun _ => 0)))]) [0, 1] (by decide) rfl
  have hK9 := hK.sub (tys' := [(cA11, .int)]) [0] rfl
  exact W.vret hx hb hr (fun t ht hW => ⟨⟨(), rfl, trivial, ⟨q10, cA11, by rw [ht]; exact hP9, va_K.moved hW.alike hK9, hD9⟩⟩, hS.F ht⟩) hS.2.2 dX0_init_16
def ww_X1_init : List Cond := .code yX1_init cX1_init 1 none :: ([.methodLink RX1 3 objectInit, .instanceMethod objectInit, .code objectInit ⟨#[0xb1]⟩ 1 none, .classLink RX1 9 RX0, .instantiable RX0 2, .initialized RX0, .code yX0_init cX0_init 2 none, .methodLink RX0 3 objectInit, .arrayClass .int, .fieldLink RX0 9 "LeafSigner$ByteRow" "words" "[I", .fieldLink RX0 15 "LeafSigner$ByteRow" "count" "I", .methodLink RX1 13 yX0_init, .instanceMethod yX0_init, .fieldLink RX1 16 "LeafSigner$Disk" "bytes" "LLeafSigner$ByteRow;", .methodLink RX1 20 yX0_fill, .instanceMethod yX0_fill, .selects RX0 yX0_fill yX0_fill, .code yX0_fill cX0_fill 1 none, .fieldLink RX1 23 "LeafSigner$Disk" "written" "I", .fieldLink RX1 27 "LeafSigner$Disk" "fuseLeft" "I"] ++ (wsX00 ++ wsX10))
theorem iX1_init_X0 : ∀ w ∈ wsX00, w ∈ ww_X1_init := fun w h => List.mem_cons_of_mem _ (List.mem_append_right _ (List.mem_append_left _ h))
theorem iX1_init_X1 : ∀ w ∈ wsX10, w ∈ ww_X1_init := fun w h => List.mem_cons_of_mem _ (List.mem_append_right _ (List.mem_append_right _ h))
set_option maxRecDepth 20000 in
theorem gX1_init_X0_init_13 : GoodIn ww_X1_init ww_X0_init := vx_good _ [7, 8, 2, 3, 9, 10, 11, 21, 22] rfl (by decide +kernel)
set_option maxRecDepth 20000 in
theorem gX1_init_X0_fill_20 : GoodIn ww_X1_init (wsV RX1 20 RX0 yX0_fill ww_X0_fill) := vx_good _ [15, 16, 17, 6, 18, 10, 11, 21, 22] rfl (by decide +kernel)
set_option maxHeartbeats 4000000 in
set_option maxRecDepth 100000 in
theorem ct_Disk (l : Launch) (dC : Nat → ClassId) (dI : Nat → Nat → Nat) (sz : Nat) (h0 : Nat) : Met l yX1_init ww_X1_init ({ frames := 2, cells := 2, slots := 8, locals := 41 }) (va_Pc [.ref h0] (fun U => U.heap.size = sz ∧ va_P (dC, dI) classes [(h0, .inr (1, [.null, .int 0, .int 0]))] U.heap ∧ va_K (dC, dI) classes [] U ∧ va_D (fun _ => True) [(h0, .inr (1, [.null, .int 0, .int 0]))])) (va_Qv (fun (_ : Unit) => True) (fun (_ : Unit) (t : State) => ∃ qb0 : Nat, ∃ qw0 : Nat, ∃ cA0 : ClassId, va_P (dC, dI) classes [(h0, .inr (1, [.ref qb0, .int 0, .int (-1)])), (qb0, .inr (0, [.ref qw0, .int 24])), (qw0, .inl (cA0, 6, .inl (fun _ => 0)))] t.heap ∧ va_K (dC, dI) classes [(cA0, .int)] t ∧ va_D (va_A [(h0, .inr (1, [.null, .int 0, .int 0]))] sz) [(h0, .inr (1, [.ref qb0, .int 0, .int (-1)])), (qb0, .inr (0, [.ref qw0, .int 24])), (qw0, .inl (cA0, 6, .inl (fun _ => 0)))]) (va_A [(h0, .inr (1, [.null, .int 0, .int 0]))] sz)) 2 8 (va_A [(h0, .inr (1, [.null, .int 0, .int 0]))] sz) := by
  refine Met.ofW (cc := cX1_init) (maxL := 1) (ret := none) (by decide) rfl ?_
  intro p e s m args below meth c s₁ B hml hv
  obtain ⟨rfl, hsz, hP, hK, hD0⟩ := hv
  have hx := B.exec
  have hb := B.bytes
  have hr := B.returns
  have hts := atoms_spec (ws := ww_X1_init) B.pre
  have hown : s.vm.findClass RX1 = some m.cls := findClass_of_methodNamed B.named
  have hlocks := B.notSynchronized
  have hin : meth.name = "<init>" := (name_of_methodNamed B.named B.method).1
  subst hsz
  have hD := hD0.self (sz := s.heap.size)
  generalize hAe : va_A [(h0, .inr (1, [.null, .int 0, .int 0]))] s.heap.size = A at hD ⊢
  have hA : ∀ q : Nat, s.heap.size ≤ q → A q := fun q h => by rw [← hAe]; exact Or.inr h
  have hS : va_S A s.heap s.heap [] := va_S.rf
  have hP : va_P (dC, dI) classes [(h0, .inr (1, [.null, .int 0, .int 0]))] s.heap := hP
  have hl := lv_entry ([.ref h0]) (n := 1) (Nat.le_of_ble_eq_true rfl)
  rw [lg_entry_eq]
  generalize (lg_sl ([.ref h0]) ++ List.replicate (1 - (lg_sl ([.ref h0])).length) Slot.unset).toArray = ls at hl ⊢
  have hl : lv_has ls 1 [(0, .ref h0)] := hl
  generalize hHe : s.heap = H at hP ⊢
  have hS : va_S A s.heap H [] := by rw [← hHe]; exact va_S.rf
  refine lv_aload_n hx hb dX1_init_0 rfl (lv_at hl 0 rfl) ?_
  refine W.objInit hx hb hown (hts (.methodLink RX1 3 objectInit) (List.mem_of_getElem? (i := 1) rfl)) (hts (.instanceMethod objectInit) (List.mem_of_getElem? (i := 2) rfl)) (hts (.code objectInit ⟨#[0xb1]⟩ 1 none) (List.mem_of_getElem? (i := 3) rfl)) rfl (by rw [hml]; exact hl.1) rfl dX1_init_1 (Nat.le_of_ble_eq_true rfl) (Nat.le_of_ble_eq_true rfl) ?_
  refine W.eq (g2 := F0 m 4 ls []) rfl ?_
  refine lv_aload_n hx hb dX1_init_4 rfl (lv_at hl 0 rfl) ?_
  refine va_new (ci := 0) (fs := [.null, .int 0]) (C := RX0) (T := TX0) (N := 2) hx hb hts iX1_init_X0 tyX0 tyX0_ok hown (hts (.classLink RX1 9 RX0) (List.mem_of_getElem? (i := 4) rfl)) (hts (.instantiable RX0 2) (List.mem_of_getElem? (i := 5) rfl)) (hts (.initialized RX0) (List.mem_of_getElem? (i := 6) rfl)) hK hP hD hS hA rfl (by decide) (Nat.le_of_ble_eq_true rfl) (Nat.le_of_ble_eq_true rfl) dX1_init_5 (fun q12 H hP hD hS => ?_)
  have hP : va_P (dC, dI) classes [(h0, .inr (1, [.null, .int 0, .int 0])), (q12, .inr (0, [.null, .int 0]))] H := hP
  have hD : va_D A [(h0, .inr (1, [.null, .int 0, .int 0])), (q12, .inr (0, [.null, .int 0]))] := hD
  refine W.widen (k := 1) (n := 2) (Nat.le_of_ble_eq_true rfl) (Nat.le_of_ble_eq_true rfl) ?_
  refine lv_dup hx hb dX1_init_8 rfl ?_
  refine lv_bipush (v := 6) hx hb dX1_init_9 (by decide) ?_
  have hPc := hP.sub (ws' := [(q12, .inr (0, [.null, .int 0]))]) [1] rfl
  have hDc := hD.sub (ws' := [(q12, .inr (0, [.null, .int 0]))]) [1] (by decide) rfl
  have hKc := hK.sub (tys' := []) [] rfl
  have hFc := va_free (wc := [(q12, .inr (0, [.null, .int 0]))]) hD hS hA [1] rfl
  refine va_callv (va_runI (As := [.int 6]) (rest := [.ref q12, .ref h0]) ⟨hx, hb, hml, hown, hts⟩ (ct_ByteRow l dC dI H.size q12 6 6 6 (by decide) (by decide) (by decide) (by decide)) (cwI 1 hts gX1_init_X0_init_13 rfl rfl rfl (hts (.initialized RX0) (List.mem_of_getElem? (i := 6) rfl)) (hts (.methodLink RX1 13 yX0_init) (List.mem_of_getElem? (i := 12) rfl)) (hts (.instanceMethod yX0_init) (List.mem_of_getElem? (i := 13) rfl)) rfl (by decide +kernel) ⟨(Nat.le_of_ble_eq_true rfl), (Nat.le_of_ble_eq_true rfl)⟩) ⟨fun a U g mk q => by obtain ⟨q0, q1, qP, qK, qD⟩ := q; exact ⟨q0, q1, qP, va_K.moved (u := U) (U := U.calling g mk a) (Vm.Alike.refl U.vm) qK, qD⟩, fun U hU hW => ⟨rfl, by rw [hU], by rw [hU]; exact hPc, va_K.moved hW.alike hKc, hDc.weaken (fun _ _ _ _ => trivial)⟩⟩ rfl rfl hl.1 rfl (lv_room (Nat.le_of_ble_eq_true rfl)) dX1_init_11 ⟨(Nat.le_of_ble_eq_true rfl), (Nat.le_of_ble_eq_true rfl)⟩) hS (fun q _ h => hFc q h) hFc (fun u t H1 locs ht hvm hw hB hz1 hk1 hS => ?_)
  obtain ⟨qw_14, cA_15, hP1, hK1, hD1⟩ := hB
  rw [ht] at hP1
  have hK1 := va_K.moved hvm.symm hK1
  obtain ⟨hP, hD⟩ := va_join (wr := [(h0, .inr (1, [.null, .int 0, .int 0]))]) (w1 := [(q12, .inr (0, [.ref qw_14, .int 0])), (qw_14, .inl (cA_15, 6, .inl (fun _ => 0)))]) hP hD [1] [0] rfl rfl (by decide) (by decide) hk1 hFc hP1 hD1
  have hK := hK.sub (tys' := []) [] rfl
  have hK := hK.app hK1
  generalize H1 = H at hP hS ⊢
  have hP : va_P (dC, dI) classes [(h0, .inr (1, [.null, .int 0, .int 0])), (q12, .inr (0, [.ref qw_14, .int 0])), (qw_14, .inl (cA_15, 6, .inl (fun _ => 0)))] H := hP
  have hD : va_D A [(h0, .inr (1, [.null, .int 0, .int 0])), (q12, .inr (0, [.ref qw_14, .int 0])), (qw_14, .inl (cA_15, 6, .inl (fun _ => 0)))] := hD
  have hK : va_K (dC, dI) classes [(cA_15, .int)] s := hK
  refine W.widen (k := 2) (n := 8) (Nat.le_of_ble_eq_true rfl) (Nat.le_of_ble_eq_true rfl) ?_
  refine va_putF (D := (dC, dI)) (ci := 1) (v := .ref q12) (ty := .object "LeafSigner$ByteRow") (C := RX1) (T := TX1) (N := 3) hx hb hts iX1_init_X1 tyX1 tyX1_ok nmX1 hown hK hP hD hS 0 rfl rfl 0 (by decide) (hts (.fieldLink RX1 16 "LeafSigner$Disk" "bytes" "LLeafSigner$ByteRow;") (List.mem_of_getElem? (i := 14) rfl)) (fun _ h9 => h9) rfl hin rfl (by decide +kernel) rfl rfl (Nat.le_of_ble_eq_true rfl) dX1_init_14 (fun H locs hP hD hS => ?_)
  have hP : va_P (dC, dI) classes [(h0, .inr (1, [.ref q12, .int 0, .int 0])), (q12, .inr (0, [.ref qw_14, .int 0])), (qw_14, .inl (cA_15, 6, .inl (fun _ => 0)))] H := hP
  have hD : va_D A [(h0, .inr (1, [.ref q12, .int 0, .int 0])), (q12, .inr (0, [.ref qw_14, .int 0])), (qw_14, .inl (cA_15, 6, .inl (fun _ => 0)))] := hD
  refine lv_aload_n hx hb dX1_init_17 rfl (lv_at hl 0 rfl) ?_
  refine va_get (D := (dC, dI)) (ci := 1) (v := .ref q12) (C := RX1) (T := TX1) (N := 3) hx hb hts iX1_init_X1 hown hK hP 0 rfl rfl 0 (by decide) (hts (.fieldLink RX1 16 "LeafSigner$Disk" "bytes" "LLeafSigner$ByteRow;") (List.mem_of_getElem? (i := 14) rfl)) (fun _ h9 => h9) rfl dX1_init_18 ?_
  have hPc := hP.sub (ws' := [(q12, .inr (0, [.ref qw_14, .int 0])), (qw_14, .inl (cA_15, 6, .inl (fun _ => 0)))]) [1, 2] rfl
  have hDc := hD.sub (ws' := [(q12, .inr (0, [.ref qw_14, .int 0])), (qw_14, .inl (cA_15, 6, .inl (fun _ => 0)))]) [1, 2] (by decide) rfl
  have hKc := hK.sub (tys' := [(cA_15, .int)]) [0] rfl
  have hFc := va_free (wc := [(q12, .inr (0, [.ref qw_14, .int 0])), (qw_14, .inl (cA_15, 6, .inl (fun _ => 0)))]) hD hS hA [1, 2] rfl
  refine va_callv (va_runV (As := []) (rest := []) ⟨hx, hb, hml, hown, hts⟩ (ct_fill l dC dI H.size q12 qw_14 0 cA_15 6 (fun _ => 0) 24 (by decide)) (cwV 0 hts gX1_init_X0_fill_20 rfl rfl rfl (by decide +kernel) ⟨(Nat.le_of_ble_eq_true rfl), (Nat.le_of_ble_eq_true rfl)⟩) ⟨fun a U g mk q => by obtain ⟨q0, q1, qP, qK, qD⟩ := q; exact ⟨q0, q1, qP, va_K.moved (u := U) (U := U.calling g mk a) (Vm.Alike.refl U.vm) qK, qD⟩, va_recv hKc hPc (ci := 0) (q0 := 0) rfl rfl, fun U hU hW => ⟨rfl, by rw [hU], by rw [hU]; exact hPc, va_K.moved hW.alike hKc, hDc.weaken (fun _ _ _ _ => trivial)⟩⟩ rfl rfl hl.1 rfl (lv_room (Nat.le_of_ble_eq_true rfl)) dX1_init_21 ⟨(Nat.le_of_ble_eq_true rfl), (Nat.le_of_ble_eq_true rfl)⟩) hS (fun q _ h => hFc q h) hFc (fun u t H1 locs ht hvm hw hB hz1 hk1 hS => ?_)
  obtain ⟨hP1, hK1, hD1⟩ := hB
  rw [ht] at hP1
  have hK1 := va_K.moved hvm.symm hK1
  obtain ⟨hP, hD⟩ := va_join (wr := [(h0, .inr (1, [.ref q12, .int 0, .int 0]))]) (w1 := [(q12, .inr (0, [.ref qw_14, .int 24])), (qw_14, .inl (cA_15, 6, .inl (fun _ => 0)))]) hP hD [1, 2] [0] rfl rfl (by decide) (by decide) hk1 hFc hP1 hD1
  have hK := hK.sub (tys' := []) [] rfl
  have hK := hK.app hK1
  generalize H1 = H at hP hS ⊢
  have hP : va_P (dC, dI) classes [(h0, .inr (1, [.ref q12, .int 0, .int 0])), (q12, .inr (0, [.ref qw_14, .int 24])), (qw_14, .inl (cA_15, 6, .inl (fun _ => 0)))] H := hP
  have hD : va_D A [(h0, .inr (1, [.ref q12, .int 0, .int 0])), (q12, .inr (0, [.ref qw_14, .int 24])), (qw_14, .inl (cA_15, 6, .inl (fun _ => 0)))] := hD
  have hK : va_K (dC, dI) classes [(cA_15, .int)] s := hK
  refine W.widen (k := 2) (n := 8) (Nat.le_of_ble_eq_true rfl) (Nat.le_of_ble_eq_true rfl) ?_
  refine lv_aload_n hx hb dX1_init_24 rfl (lv_at hl 0 rfl) ?_
  refine lv_iconst (v := 0) hx hb dX1_init_25 (by decide) ?_
  refine va_put (D := (dC, dI)) (ci := 1) (v := .int 0) (ty := .int) (C := RX1) (T := TX1) (N := 3) hx hb hts iX1_init_X1 tyX1 tyX1_ok nmX1 hown hK hP hD hS 0 rfl rfl 1 (by decide) (hts (.fieldLink RX1 23 "LeafSigner$Disk" "written" "I") (List.mem_of_getElem? (i := 19) rfl)) (fun _ h9 => h9) rfl (by decide +kernel) rfl rfl (Nat.le_of_ble_eq_true rfl) dX1_init_26 (fun H locs hP hD hS => ?_)
  have hP : va_P (dC, dI) classes [(h0, .inr (1, [.ref q12, .int 0, .int 0])), (q12, .inr (0, [.ref qw_14, .int 24])), (qw_14, .inl (cA_15, 6, .inl (fun _ => 0)))] H := hP
  have hD : va_D A [(h0, .inr (1, [.ref q12, .int 0, .int 0])), (q12, .inr (0, [.ref qw_14, .int 24])), (qw_14, .inl (cA_15, 6, .inl (fun _ => 0)))] := hD
  refine lv_aload_n hx hb dX1_init_29 rfl (lv_at hl 0 rfl) ?_
  refine lv_iconst (v := (-1)) hx hb dX1_init_30 (by decide) ?_
  refine va_put (D := (dC, dI)) (ci := 1) (v := .int (-1)) (ty := .int) (C := RX1) (T := TX1) (N := 3) hx hb hts iX1_init_X1 tyX1 tyX1_ok nmX1 hown hK hP hD hS 0 rfl rfl 2 (by decide) (hts (.fieldLink RX1 27 "LeafSigner$Disk" "fuseLeft" "I") (List.mem_of_getElem? (i := 20) rfl)) (fun _ h9 => h9) rfl (by decide +kernel) rfl rfl (Nat.le_of_ble_eq_true rfl) dX1_init_31 (fun H locs hP hD hS => ?_)
  have hP : va_P (dC, dI) classes [(h0, .inr (1, [.ref q12, .int 0, .int (-1)])), (q12, .inr (0, [.ref qw_14, .int 24])), (qw_14, .inl (cA_15, 6, .inl (fun _ => 0)))] H := hP
  have hD : va_D A [(h0, .inr (1, [.ref q12, .int 0, .int (-1)])), (q12, .inr (0, [.ref qw_14, .int 24])), (qw_14, .inl (cA_15, 6, .inl (fun _ => 0)))] := hD
  refine W.widen (k := 2) (n := 8) (Nat.le_of_ble_eq_true rfl) (Nat.le_of_ble_eq_true rfl) ?_
  have hP9 := hP.sub (ws' := [(h0, .inr (1, [.ref q12, .int 0, .int (-1)])), (q12, .inr (0, [.ref qw_14, .int 24])), (qw_14, .inl (cA_15, 6, .inl (fun _ => 0)))]) [0, 1, 2] rfl
  have hD9 := hD.sub (ws' := [(h0, .inr (1, [.ref q12, .int 0, .int (-1)])), (q12, .inr (0, [.ref qw_14, .int 24])), (qw_14, .inl (cA_15, 6, .inl (fun _ => 0)))]) [0, 1, 2] (by decide) rfl
  have hK9 := hK.sub (tys' := [(cA_15, .int)]) [0] rfl
  exact W.vret hx hb hr (fun t ht hW => ⟨⟨(), rfl, trivial, ⟨q12, qw_14, cA_15, by rw [ht]; exact hP9, va_K.moved hW.alike hK9, hD9⟩⟩, hS.F ht⟩) hS.2.2 dX1_init_34
def ww_X3_init : List Cond := .code yX3_init cX3_init 4 none :: ([.methodLink RX3 1 objectInit, .instanceMethod objectInit, .code objectInit ⟨#[0xb1]⟩ 1 none, .arrayClass .int, .fieldLink RX3 7 "LeafSigner$Machine" "fates" "[I", .fieldLink RX3 13 "LeafSigner$Machine" "reserve" "I", .fieldLink RX3 17 "LeafSigner$Machine" "disk" "LLeafSigner$Disk;", .fieldLink RX3 21 "LeafSigner$Machine" "state" "I", .fieldLink RX3 24 "LeafSigner$Machine" "next" "I", .fieldLink RX3 27 "LeafSigner$Machine" "end" "I", .fieldLink RX3 30 "LeafSigner$Machine" "sequence" "I"] ++ (wsX30))
theorem iX3_init_X3 : ∀ w ∈ wsX30, w ∈ ww_X3_init := fun w h => List.mem_cons_of_mem _ (List.mem_append_right _ h)
set_option maxHeartbeats 4000000 in
set_option maxRecDepth 100000 in
theorem ct_Machine (l : Launch) (dC : Nat → ClassId) (dI : Nat → Nat → Nat) (sz : Nat) (h0 : Nat) (n : Int32) (k : Int32) (dq : Nat) (N : Nat) (hn : ¬ n < 0) (hN : n.toNatClampNeg = N) (hB : N ≤ 16) : Met l yX3_init ww_X3_init ({ frames := 1, cells := 1, slots := 16, locals := 20 }) (va_Pc [.ref h0, .int n, .int k, .ref dq] (fun U => U.heap.size = sz ∧ va_P (dC, dI) classes [(h0, .inr (3, [.null, .int 0, .null, .int 0, .int 0, .int 0, .int 0]))] U.heap ∧ va_K (dC, dI) classes [] U ∧ va_D (fun _ => True) [(h0, .inr (3, [.null, .int 0, .null, .int 0, .int 0, .int 0, .int 0]))])) (va_Qv (fun (_ : Unit) => True) (fun (_ : Unit) (t : State) => ∃ qf0 : Nat, ∃ cA0 : ClassId, va_P (dC, dI) classes [(h0, .inr (3, [.ref qf0, .int k, .ref dq, .int 0, .int 0, .int 0, .int 0])), (qf0, .inl (cA0, N, .inl (fun _ => 0)))] t.heap ∧ va_K (dC, dI) classes [(cA0, .int)] t ∧ va_D (va_A [(h0, .inr (3, [.null, .int 0, .null, .int 0, .int 0, .int 0, .int 0]))] sz) [(h0, .inr (3, [.ref qf0, .int k, .ref dq, .int 0, .int 0, .int 0, .int 0])), (qf0, .inl (cA0, N, .inl (fun _ => 0)))]) (va_A [(h0, .inr (3, [.null, .int 0, .null, .int 0, .int 0, .int 0, .int 0]))] sz)) 1 16 (va_A [(h0, .inr (3, [.null, .int 0, .null, .int 0, .int 0, .int 0, .int 0]))] sz) := by
  refine Met.ofW (cc := cX3_init) (maxL := 4) (ret := none) (by decide) rfl ?_
  intro p e s m args below meth c s₁ B hml hv
  obtain ⟨rfl, hsz, hP, hK, hD0⟩ := hv
  have hx := B.exec
  have hb := B.bytes
  have hr := B.returns
  have hts := atoms_spec (ws := ww_X3_init) B.pre
  have hown : s.vm.findClass RX3 = some m.cls := findClass_of_methodNamed B.named
  have hlocks := B.notSynchronized
  have hin : meth.name = "<init>" := (name_of_methodNamed B.named B.method).1
  subst hsz
  have hD := hD0.self (sz := s.heap.size)
  generalize hAe : va_A [(h0, .inr (3, [.null, .int 0, .null, .int 0, .int 0, .int 0, .int 0]))] s.heap.size = A at hD ⊢
  have hA : ∀ q : Nat, s.heap.size ≤ q → A q := fun q h => by rw [← hAe]; exact Or.inr h
  have hS : va_S A s.heap s.heap [] := va_S.rf
  have hP : va_P (dC, dI) classes [(h0, .inr (3, [.null, .int 0, .null, .int 0, .int 0, .int 0, .int 0]))] s.heap := hP
  have hl := lv_entry ([.ref h0, .int n, .int k, .ref dq]) (n := 4) (Nat.le_of_ble_eq_true rfl)
  rw [lg_entry_eq]
  generalize (lg_sl ([.ref h0, .int n, .int k, .ref dq]) ++ List.replicate (4 - (lg_sl ([.ref h0, .int n, .int k, .ref dq])).length) Slot.unset).toArray = ls at hl ⊢
  have hl : lv_has ls 4 [(0, .ref h0), (1, .int n), (2, .int k), (3, .ref dq)] := hl
  generalize hHe : s.heap = H at hP ⊢
  have hS : va_S A s.heap H [] := by rw [← hHe]; exact va_S.rf
  refine lv_aload_n hx hb dX3_init_0 rfl (lv_at hl 0 rfl) ?_
  refine W.objInit hx hb hown (hts (.methodLink RX3 1 objectInit) (List.mem_of_getElem? (i := 1) rfl)) (hts (.instanceMethod objectInit) (List.mem_of_getElem? (i := 2) rfl)) (hts (.code objectInit ⟨#[0xb1]⟩ 1 none) (List.mem_of_getElem? (i := 3) rfl)) rfl (by rw [hml]; exact hl.1) rfl dX3_init_1 (Nat.le_of_ble_eq_true rfl) (Nat.le_of_ble_eq_true rfl) ?_
  refine W.eq (g2 := F0 m 4 ls []) rfl ?_
  refine lv_aload_n hx hb dX3_init_4 rfl (lv_at hl 0 rfl) ?_
  refine lv_iload_n hx hb dX3_init_5 rfl (lv_at hl 1 rfl) ?_
  refine va_newa (a0 := (N, .inl (fun _ => 0))) hx hb (hts (.arrayClass .int) (List.mem_of_getElem? (i := 4) rfl)) rfl hK hP hD hS hA (fun _ => rfl) hn hN (by show N * 4 ≤ 536870912; omega) (Nat.le_of_ble_eq_true rfl) (by show 0 + N ≤ 16; omega) dX3_init_6 (fun q17 cA18 H hK hP hD hS => ?_)
  have hK : va_K (dC, dI) classes [(cA18, .int)] s := hK
  have hP : va_P (dC, dI) classes [(h0, .inr (3, [.null, .int 0, .null, .int 0, .int 0, .int 0, .int 0])), (q17, .inl (cA18, N, .inl (fun _ => 0)))] H := hP
  have hD : va_D A [(h0, .inr (3, [.null, .int 0, .null, .int 0, .int 0, .int 0, .int 0])), (q17, .inl (cA18, N, .inl (fun _ => 0)))] := hD
  refine W.widen (k := 1) (n := 16) (Nat.le_of_ble_eq_true rfl) (by show 0 + N ≤ 16; omega) ?_
  refine va_putF (D := (dC, dI)) (ci := 3) (v := .ref q17) (ty := .array .int) (C := RX3) (T := TX3) (N := 7) hx hb hts iX3_init_X3 tyX3 tyX3_ok nmX3 hown hK hP hD hS 0 rfl rfl 0 (by decide) (hts (.fieldLink RX3 7 "LeafSigner$Machine" "fates" "[I") (List.mem_of_getElem? (i := 5) rfl)) (fun _ h9 => h9) rfl hin rfl (by decide +kernel) rfl rfl (Nat.le_of_ble_eq_true rfl) dX3_init_8 (fun H locs hP hD hS => ?_)
  have hP : va_P (dC, dI) classes [(h0, .inr (3, [.ref q17, .int 0, .null, .int 0, .int 0, .int 0, .int 0])), (q17, .inl (cA18, N, .inl (fun _ => 0)))] H := hP
  have hD : va_D A [(h0, .inr (3, [.ref q17, .int 0, .null, .int 0, .int 0, .int 0, .int 0])), (q17, .inl (cA18, N, .inl (fun _ => 0)))] := hD
  refine lv_aload_n hx hb dX3_init_11 rfl (lv_at hl 0 rfl) ?_
  refine lv_iload_n hx hb dX3_init_12 rfl (lv_at hl 2 rfl) ?_
  refine va_putF (D := (dC, dI)) (ci := 3) (v := .int k) (ty := .int) (C := RX3) (T := TX3) (N := 7) hx hb hts iX3_init_X3 tyX3 tyX3_ok nmX3 hown hK hP hD hS 0 rfl rfl 1 (by decide) (hts (.fieldLink RX3 13 "LeafSigner$Machine" "reserve" "I") (List.mem_of_getElem? (i := 6) rfl)) (fun _ h9 => h9) rfl hin rfl (by decide +kernel) rfl rfl (Nat.le_of_ble_eq_true rfl) dX3_init_13 (fun H locs hP hD hS => ?_)
  have hP : va_P (dC, dI) classes [(h0, .inr (3, [.ref q17, .int k, .null, .int 0, .int 0, .int 0, .int 0])), (q17, .inl (cA18, N, .inl (fun _ => 0)))] H := hP
  have hD : va_D A [(h0, .inr (3, [.ref q17, .int k, .null, .int 0, .int 0, .int 0, .int 0])), (q17, .inl (cA18, N, .inl (fun _ => 0)))] := hD
  refine lv_aload_n hx hb dX3_init_16 rfl (lv_at hl 0 rfl) ?_
  refine lv_aload_n hx hb dX3_init_17 rfl (lv_at hl 3 rfl) ?_
  refine va_putF (D := (dC, dI)) (ci := 3) (v := .ref dq) (ty := .object "LeafSigner$Disk") (C := RX3) (T := TX3) (N := 7) hx hb hts iX3_init_X3 tyX3 tyX3_ok nmX3 hown hK hP hD hS 0 rfl rfl 2 (by decide) (hts (.fieldLink RX3 17 "LeafSigner$Machine" "disk" "LLeafSigner$Disk;") (List.mem_of_getElem? (i := 7) rfl)) (fun _ h9 => h9) rfl hin rfl (by decide +kernel) rfl rfl (Nat.le_of_ble_eq_true rfl) dX3_init_18 (fun H locs hP hD hS => ?_)
  have hP : va_P (dC, dI) classes [(h0, .inr (3, [.ref q17, .int k, .ref dq, .int 0, .int 0, .int 0, .int 0])), (q17, .inl (cA18, N, .inl (fun _ => 0)))] H := hP
  have hD : va_D A [(h0, .inr (3, [.ref q17, .int k, .ref dq, .int 0, .int 0, .int 0, .int 0])), (q17, .inl (cA18, N, .inl (fun _ => 0)))] := hD
  refine lv_aload_n hx hb dX3_init_21 rfl (lv_at hl 0 rfl) ?_
  refine lv_iconst (v := 0) hx hb dX3_init_22 (by decide) ?_
  refine va_put (D := (dC, dI)) (ci := 3) (v := .int 0) (ty := .int) (C := RX3) (T := TX3) (N := 7) hx hb hts iX3_init_X3 tyX3 tyX3_ok nmX3 hown hK hP hD hS 0 rfl rfl 3 (by decide) (hts (.fieldLink RX3 21 "LeafSigner$Machine" "state" "I") (List.mem_of_getElem? (i := 8) rfl)) (fun _ h9 => h9) rfl (by decide +kernel) rfl rfl (Nat.le_of_ble_eq_true rfl) dX3_init_23 (fun H locs hP hD hS => ?_)
  have hP : va_P (dC, dI) classes [(h0, .inr (3, [.ref q17, .int k, .ref dq, .int 0, .int 0, .int 0, .int 0])), (q17, .inl (cA18, N, .inl (fun _ => 0)))] H := hP
  have hD : va_D A [(h0, .inr (3, [.ref q17, .int k, .ref dq, .int 0, .int 0, .int 0, .int 0])), (q17, .inl (cA18, N, .inl (fun _ => 0)))] := hD
  refine lv_aload_n hx hb dX3_init_26 rfl (lv_at hl 0 rfl) ?_
  refine lv_iconst (v := 0) hx hb dX3_init_27 (by decide) ?_
  refine va_put (D := (dC, dI)) (ci := 3) (v := .int 0) (ty := .int) (C := RX3) (T := TX3) (N := 7) hx hb hts iX3_init_X3 tyX3 tyX3_ok nmX3 hown hK hP hD hS 0 rfl rfl 4 (by decide) (hts (.fieldLink RX3 24 "LeafSigner$Machine" "next" "I") (List.mem_of_getElem? (i := 9) rfl)) (fun _ h9 => h9) rfl (by decide +kernel) rfl rfl (Nat.le_of_ble_eq_true rfl) dX3_init_28 (fun H locs hP hD hS => ?_)
  have hP : va_P (dC, dI) classes [(h0, .inr (3, [.ref q17, .int k, .ref dq, .int 0, .int 0, .int 0, .int 0])), (q17, .inl (cA18, N, .inl (fun _ => 0)))] H := hP
  have hD : va_D A [(h0, .inr (3, [.ref q17, .int k, .ref dq, .int 0, .int 0, .int 0, .int 0])), (q17, .inl (cA18, N, .inl (fun _ => 0)))] := hD
  refine lv_aload_n hx hb dX3_init_31 rfl (lv_at hl 0 rfl) ?_
  refine lv_iconst (v := 0) hx hb dX3_init_32 (by decide) ?_
  refine va_put (D := (dC, dI)) (ci := 3) (v := .int 0) (ty := .int) (C := RX3) (T := TX3) (N := 7) hx hb hts iX3_init_X3 tyX3 tyX3_ok nmX3 hown hK hP hD hS 0 rfl rfl 5 (by decide) (hts (.fieldLink RX3 27 "LeafSigner$Machine" "end" "I") (List.mem_of_getElem? (i := 10) rfl)) (fun _ h9 => h9) rfl (by decide +kernel) rfl rfl (Nat.le_of_ble_eq_true rfl) dX3_init_33 (fun H locs hP hD hS => ?_)
  have hP : va_P (dC, dI) classes [(h0, .inr (3, [.ref q17, .int k, .ref dq, .int 0, .int 0, .int 0, .int 0])), (q17, .inl (cA18, N, .inl (fun _ => 0)))] H := hP
  have hD : va_D A [(h0, .inr (3, [.ref q17, .int k, .ref dq, .int 0, .int 0, .int 0, .int 0])), (q17, .inl (cA18, N, .inl (fun _ => 0)))] := hD
  refine lv_aload_n hx hb dX3_init_36 rfl (lv_at hl 0 rfl) ?_
  refine lv_iconst (v := 0) hx hb dX3_init_37 (by decide) ?_
  refine va_put (D := (dC, dI)) (ci := 3) (v := .int 0) (ty := .int) (C := RX3) (T := TX3) (N := 7) hx hb hts iX3_init_X3 tyX3 tyX3_ok nmX3 hown hK hP hD hS 0 rfl rfl 6 (by decide) (hts (.fieldLink RX3 30 "LeafSigner$Machine" "sequence" "I") (List.mem_of_getElem? (i := 11) rfl)) (fun _ h9 => h9) rfl (by decide +kernel) rfl rfl (Nat.le_of_ble_eq_true rfl) dX3_init_38 (fun H locs hP hD hS => ?_)
  have hP : va_P (dC, dI) classes [(h0, .inr (3, [.ref q17, .int k, .ref dq, .int 0, .int 0, .int 0, .int 0])), (q17, .inl (cA18, N, .inl (fun _ => 0)))] H := hP
  have hD : va_D A [(h0, .inr (3, [.ref q17, .int k, .ref dq, .int 0, .int 0, .int 0, .int 0])), (q17, .inl (cA18, N, .inl (fun _ => 0)))] := hD
  refine W.widen (k := 1) (n := 16) (Nat.le_of_ble_eq_true rfl) (Nat.le_of_ble_eq_true rfl) ?_
  have hP9 := hP.sub (ws' := [(h0, .inr (3, [.ref q17, .int k, .ref dq, .int 0, .int 0, .int 0, .int 0])), (q17, .inl (cA18, N, .inl (fun _ => 0)))]) [0, 1] rfl
  have hD9 := hD.sub (ws' := [(h0, .inr (3, [.ref q17, .int k, .ref dq, .int 0, .int 0, .int 0, .int 0])), (q17, .inl (cA18, N, .inl (fun _ => 0)))]) [0, 1] (by decide) rfl
  have hK9 := hK.sub (tys' := [(cA18, .int)]) [0] rfl
  exact W.vret hx hb hr (fun t ht hW => ⟨⟨(), rfl, trivial, ⟨q17, cA18, by rw [ht]; exact hP9, va_K.moved hW.alike hK9, hD9⟩⟩, hS.F ht⟩) hS.2.2 dX3_init_41
def ww_X5_init : List Cond := .code yX5_init cX5_init 1 none :: ([.methodLink RX5 3 objectInit, .instanceMethod objectInit, .code objectInit ⟨#[0xb1]⟩ 1 none, .arrayClass .int, .fieldLink RX5 9 "LeafSigner$Sha256" "state" "[I", .fieldLink RX5 15 "LeafSigner$Sha256" "words" "[I"] ++ (wsX50))
theorem iX5_init_X5 : ∀ w ∈ wsX50, w ∈ ww_X5_init := fun w h => List.mem_cons_of_mem _ (List.mem_append_right _ h)
set_option maxHeartbeats 4000000 in
set_option maxRecDepth 100000 in
theorem ct_Sha (l : Launch) (dC : Nat → ClassId) (dI : Nat → Nat → Nat) (sz : Nat) (h0 : Nat) : Met l yX5_init ww_X5_init ({ frames := 1, cells := 2, slots := 72, locals := 20 }) (va_Pc [.ref h0] (fun U => U.heap.size = sz ∧ va_P (dC, dI) classes [(h0, .inr (5, [.null, .null]))] U.heap ∧ va_K (dC, dI) classes [] U ∧ va_D (fun _ => True) [(h0, .inr (5, [.null, .null]))])) (va_Qv (fun (_ : Unit) => True) (fun (_ : Unit) (_ : State) => True) (va_A [(h0, .inr (5, [.null, .null]))] sz)) 2 72 (va_A [(h0, .inr (5, [.null, .null]))] sz) := by
  refine Met.ofW (cc := cX5_init) (maxL := 1) (ret := none) (by decide) rfl ?_
  intro p e s m args below meth c s₁ B hml hv
  obtain ⟨rfl, hsz, hP, hK, hD0⟩ := hv
  have hx := B.exec
  have hb := B.bytes
  have hr := B.returns
  have hts := atoms_spec (ws := ww_X5_init) B.pre
  have hown : s.vm.findClass RX5 = some m.cls := findClass_of_methodNamed B.named
  have hlocks := B.notSynchronized
  have hin : meth.name = "<init>" := (name_of_methodNamed B.named B.method).1
  subst hsz
  have hD := hD0.self (sz := s.heap.size)
  generalize hAe : va_A [(h0, .inr (5, [.null, .null]))] s.heap.size = A at hD ⊢
  have hA : ∀ q : Nat, s.heap.size ≤ q → A q := fun q h => by rw [← hAe]; exact Or.inr h
  have hS : va_S A s.heap s.heap [] := va_S.rf
  have hP : va_P (dC, dI) classes [(h0, .inr (5, [.null, .null]))] s.heap := hP
  have hl := lv_entry ([.ref h0]) (n := 1) (Nat.le_of_ble_eq_true rfl)
  rw [lg_entry_eq]
  generalize (lg_sl ([.ref h0]) ++ List.replicate (1 - (lg_sl ([.ref h0])).length) Slot.unset).toArray = ls at hl ⊢
  have hl : lv_has ls 1 [(0, .ref h0)] := hl
  generalize hHe : s.heap = H at hP ⊢
  have hS : va_S A s.heap H [] := by rw [← hHe]; exact va_S.rf
  refine lv_aload_n hx hb dX5_init_0 rfl (lv_at hl 0 rfl) ?_
  refine W.objInit hx hb hown (hts (.methodLink RX5 3 objectInit) (List.mem_of_getElem? (i := 1) rfl)) (hts (.instanceMethod objectInit) (List.mem_of_getElem? (i := 2) rfl)) (hts (.code objectInit ⟨#[0xb1]⟩ 1 none) (List.mem_of_getElem? (i := 3) rfl)) rfl (by rw [hml]; exact hl.1) rfl dX5_init_1 (Nat.le_of_ble_eq_true rfl) (Nat.le_of_ble_eq_true rfl) ?_
  refine W.eq (g2 := F0 m 4 ls []) rfl ?_
  refine lv_aload_n hx hb dX5_init_4 rfl (lv_at hl 0 rfl) ?_
  refine lv_bipush (v := 8) hx hb dX5_init_5 (by decide) ?_
  refine va_newa (a0 := (8, .inl (fun _ => 0))) hx hb (hts (.arrayClass .int) (List.mem_of_getElem? (i := 4) rfl)) rfl hK hP hD hS hA (fun _ => rfl) (by decide) (by decide) (by decide) (Nat.le_of_ble_eq_true rfl) (Nat.le_of_ble_eq_true rfl) dX5_init_7 (fun q19 cA20 H hK hP hD hS => ?_)
  have hK : va_K (dC, dI) classes [(cA20, .int)] s := hK
  have hP : va_P (dC, dI) classes [(h0, .inr (5, [.null, .null])), (q19, .inl (cA20, 8, .inl (fun _ => 0)))] H := hP
  have hD : va_D A [(h0, .inr (5, [.null, .null])), (q19, .inl (cA20, 8, .inl (fun _ => 0)))] := hD
  refine W.widen (k := 1) (n := 8) (Nat.le_of_ble_eq_true rfl) (Nat.le_of_ble_eq_true rfl) ?_
  refine va_putF (D := (dC, dI)) (ci := 5) (v := .ref q19) (ty := .array .int) (C := RX5) (T := TX5) (N := 2) hx hb hts iX5_init_X5 tyX5 tyX5_ok nmX5 hown hK hP hD hS 0 rfl rfl 0 (by decide) (hts (.fieldLink RX5 9 "LeafSigner$Sha256" "state" "[I") (List.mem_of_getElem? (i := 5) rfl)) (fun _ h9 => h9) rfl hin rfl (by decide +kernel) rfl rfl (Nat.le_of_ble_eq_true rfl) dX5_init_9 (fun H locs hP hD hS => ?_)
  have hP : va_P (dC, dI) classes [(h0, .inr (5, [.ref q19, .null])), (q19, .inl (cA20, 8, .inl (fun _ => 0)))] H := hP
  have hD : va_D A [(h0, .inr (5, [.ref q19, .null])), (q19, .inl (cA20, 8, .inl (fun _ => 0)))] := hD
  refine lv_aload_n hx hb dX5_init_12 rfl (lv_at hl 0 rfl) ?_
  refine lv_bipush (v := 64) hx hb dX5_init_13 (by decide) ?_
  refine va_newa (a0 := (64, .inl (fun _ => 0))) hx hb (hts (.arrayClass .int) (List.mem_of_getElem? (i := 4) rfl)) rfl hK hP hD hS hA (fun _ => rfl) (by decide) (by decide) (by decide) (Nat.le_of_ble_eq_true rfl) (Nat.le_of_ble_eq_true rfl) dX5_init_15 (fun q21 cA22 H hK hP hD hS => ?_)
  have hK : va_K (dC, dI) classes [(cA20, .int), (cA22, .int)] s := hK
  have hP : va_P (dC, dI) classes [(h0, .inr (5, [.ref q19, .null])), (q19, .inl (cA20, 8, .inl (fun _ => 0))), (q21, .inl (cA22, 64, .inl (fun _ => 0)))] H := hP
  have hD : va_D A [(h0, .inr (5, [.ref q19, .null])), (q19, .inl (cA20, 8, .inl (fun _ => 0))), (q21, .inl (cA22, 64, .inl (fun _ => 0)))] := hD
  refine W.widen (k := 2) (n := 72) (Nat.le_of_ble_eq_true rfl) (Nat.le_of_ble_eq_true rfl) ?_
  refine va_putF (D := (dC, dI)) (ci := 5) (v := .ref q21) (ty := .array .int) (C := RX5) (T := TX5) (N := 2) hx hb hts iX5_init_X5 tyX5 tyX5_ok nmX5 hown hK hP hD hS 0 rfl rfl 1 (by decide) (hts (.fieldLink RX5 15 "LeafSigner$Sha256" "words" "[I") (List.mem_of_getElem? (i := 6) rfl)) (fun _ h9 => h9) rfl hin rfl (by decide +kernel) rfl rfl (Nat.le_of_ble_eq_true rfl) dX5_init_17 (fun H locs hP hD hS => ?_)
  have hP : va_P (dC, dI) classes [(h0, .inr (5, [.ref q19, .ref q21])), (q19, .inl (cA20, 8, .inl (fun _ => 0))), (q21, .inl (cA22, 64, .inl (fun _ => 0)))] H := hP
  have hD : va_D A [(h0, .inr (5, [.ref q19, .ref q21])), (q19, .inl (cA20, 8, .inl (fun _ => 0))), (q21, .inl (cA22, 64, .inl (fun _ => 0)))] := hD
  refine W.widen (k := 2) (n := 72) (Nat.le_of_ble_eq_true rfl) (Nat.le_of_ble_eq_true rfl) ?_
  exact W.vret hx hb hr (fun t ht hW => ⟨⟨(), rfl, trivial, trivial⟩, hS.F ht⟩) hS.2.2 dX5_init_20
def ww_X2_init : List Cond := .code yX2_init cX2_init 1 none :: ([.methodLink RX2 3 objectInit, .instanceMethod objectInit, .code objectInit ⟨#[0xb1]⟩ 1 none, .classLink RX2 9 RX5, .instantiable RX5 2, .initialized RX5, .code yX5_init cX5_init 1 none, .methodLink RX5 3 objectInit, .arrayClass .int, .fieldLink RX5 9 "LeafSigner$Sha256" "state" "[I", .fieldLink RX5 15 "LeafSigner$Sha256" "words" "[I", .methodLink RX2 11 yX5_init, .instanceMethod yX5_init, .fieldLink RX2 12 "LeafSigner$Hashes" "sha" "LLeafSigner$Sha256;", .fieldLink RX2 18 "LeafSigner$Hashes" "seedState" "[I", .fieldLink RX2 22 "LeafSigner$Hashes" "address" "[I", .fieldLink RX2 25 "LeafSigner$Hashes" "key" "[I", .fieldLink RX2 28 "LeafSigner$Hashes" "mask" "[I", .fieldLink RX2 31 "LeafSigner$Hashes" "otherMask" "[I"] ++ (wsX50 ++ wsX20))
theorem iX2_init_X5 : ∀ w ∈ wsX50, w ∈ ww_X2_init := fun w h => List.mem_cons_of_mem _ (List.mem_append_right _ (List.mem_append_left _ h))
theorem iX2_init_X2 : ∀ w ∈ wsX20, w ∈ ww_X2_init := fun w h => List.mem_cons_of_mem _ (List.mem_append_right _ (List.mem_append_right _ h))
set_option maxRecDepth 20000 in
theorem gX2_init_X5_init_11 : GoodIn ww_X2_init ww_X5_init := vx_good _ [7, 8, 2, 3, 9, 10, 11, 20, 21] rfl (by decide +kernel)
set_option maxHeartbeats 4000000 in
set_option maxRecDepth 100000 in
theorem ct_Hashes (l : Launch) (dC : Nat → ClassId) (dI : Nat → Nat → Nat) (sz : Nat) (h0 : Nat) : Met l yX2_init ww_X2_init ({ frames := 2, cells := 8, slots := 114, locals := 40 }) (va_Pc [.ref h0] (fun U => U.heap.size = sz ∧ va_P (dC, dI) classes [(h0, .inr (2, [.null, .null, .null, .null, .null, .null]))] U.heap ∧ va_K (dC, dI) classes [] U ∧ va_D (fun _ => True) [(h0, .inr (2, [.null, .null, .null, .null, .null, .null]))])) (va_Qv (fun (_ : Unit) => True) (fun (_ : Unit) (_ : State) => True) (va_A [(h0, .inr (2, [.null, .null, .null, .null, .null, .null]))] sz)) 8 114 (va_A [(h0, .inr (2, [.null, .null, .null, .null, .null, .null]))] sz) := by
  refine Met.ofW (cc := cX2_init) (maxL := 1) (ret := none) (by decide) rfl ?_
  intro p e s m args below meth c s₁ B hml hv
  obtain ⟨rfl, hsz, hP, hK, hD0⟩ := hv
  have hx := B.exec
  have hb := B.bytes
  have hr := B.returns
  have hts := atoms_spec (ws := ww_X2_init) B.pre
  have hown : s.vm.findClass RX2 = some m.cls := findClass_of_methodNamed B.named
  have hlocks := B.notSynchronized
  have hin : meth.name = "<init>" := (name_of_methodNamed B.named B.method).1
  subst hsz
  have hD := hD0.self (sz := s.heap.size)
  generalize hAe : va_A [(h0, .inr (2, [.null, .null, .null, .null, .null, .null]))] s.heap.size = A at hD ⊢
  have hA : ∀ q : Nat, s.heap.size ≤ q → A q := fun q h => by rw [← hAe]; exact Or.inr h
  have hS : va_S A s.heap s.heap [] := va_S.rf
  have hP : va_P (dC, dI) classes [(h0, .inr (2, [.null, .null, .null, .null, .null, .null]))] s.heap := hP
  have hl := lv_entry ([.ref h0]) (n := 1) (Nat.le_of_ble_eq_true rfl)
  rw [lg_entry_eq]
  generalize (lg_sl ([.ref h0]) ++ List.replicate (1 - (lg_sl ([.ref h0])).length) Slot.unset).toArray = ls at hl ⊢
  have hl : lv_has ls 1 [(0, .ref h0)] := hl
  generalize hHe : s.heap = H at hP ⊢
  have hS : va_S A s.heap H [] := by rw [← hHe]; exact va_S.rf
  refine lv_aload_n hx hb dX2_init_0 rfl (lv_at hl 0 rfl) ?_
  refine W.objInit hx hb hown (hts (.methodLink RX2 3 objectInit) (List.mem_of_getElem? (i := 1) rfl)) (hts (.instanceMethod objectInit) (List.mem_of_getElem? (i := 2) rfl)) (hts (.code objectInit ⟨#[0xb1]⟩ 1 none) (List.mem_of_getElem? (i := 3) rfl)) rfl (by rw [hml]; exact hl.1) rfl dX2_init_1 (Nat.le_of_ble_eq_true rfl) (Nat.le_of_ble_eq_true rfl) ?_
  refine W.eq (g2 := F0 m 4 ls []) rfl ?_
  refine lv_aload_n hx hb dX2_init_4 rfl (lv_at hl 0 rfl) ?_
  refine va_new (ci := 5) (fs := [.null, .null]) (C := RX5) (T := TX5) (N := 2) hx hb hts iX2_init_X5 tyX5 tyX5_ok hown (hts (.classLink RX2 9 RX5) (List.mem_of_getElem? (i := 4) rfl)) (hts (.instantiable RX5 2) (List.mem_of_getElem? (i := 5) rfl)) (hts (.initialized RX5) (List.mem_of_getElem? (i := 6) rfl)) hK hP hD hS hA rfl (by decide) (Nat.le_of_ble_eq_true rfl) (Nat.le_of_ble_eq_true rfl) dX2_init_5 (fun q23 H hP hD hS => ?_)
  have hP : va_P (dC, dI) classes [(h0, .inr (2, [.null, .null, .null, .null, .null, .null])), (q23, .inr (5, [.null, .null]))] H := hP
  have hD : va_D A [(h0, .inr (2, [.null, .null, .null, .null, .null, .null])), (q23, .inr (5, [.null, .null]))] := hD
  refine W.widen (k := 1) (n := 2) (Nat.le_of_ble_eq_true rfl) (Nat.le_of_ble_eq_true rfl) ?_
  refine lv_dup hx hb dX2_init_8 rfl ?_
  have hPc := hP.sub (ws' := [(q23, .inr (5, [.null, .null]))]) [1] rfl
  have hDc := hD.sub (ws' := [(q23, .inr (5, [.null, .null]))]) [1] (by decide) rfl
  have hKc := hK.sub (tys' := []) [] rfl
  have hFc := va_free (wc := [(q23, .inr (5, [.null, .null]))]) hD hS hA [1] rfl
  refine va_callv (va_runI (As := []) (rest := [.ref q23, .ref h0]) ⟨hx, hb, hml, hown, hts⟩ (ct_Sha l dC dI H.size q23) (cwI 0 hts gX2_init_X5_init_11 rfl rfl rfl (hts (.initialized RX5) (List.mem_of_getElem? (i := 6) rfl)) (hts (.methodLink RX2 11 yX5_init) (List.mem_of_getElem? (i := 12) rfl)) (hts (.instanceMethod yX5_init) (List.mem_of_getElem? (i := 13) rfl)) rfl (by decide +kernel) ⟨(Nat.le_of_ble_eq_true rfl), (Nat.le_of_ble_eq_true rfl)⟩) ⟨fun a U g mk q => by obtain ⟨q0, q1, qP, qK, qD⟩ := q; exact ⟨q0, q1, qP, va_K.moved (u := U) (U := U.calling g mk a) (Vm.Alike.refl U.vm) qK, qD⟩, fun U hU hW => ⟨rfl, by rw [hU], by rw [hU]; exact hPc, va_K.moved hW.alike hKc, hDc.weaken (fun _ _ _ _ => trivial)⟩⟩ rfl rfl hl.1 rfl (lv_room (Nat.le_of_ble_eq_true rfl)) dX2_init_9 ⟨(Nat.le_of_ble_eq_true rfl), (Nat.le_of_ble_eq_true rfl)⟩) hS (fun q _ h => hFc q h) hFc (fun u t H1 locs ht hvm hw hB hz1 hk1 hS => ?_)
  have hP1 : va_P (dC, dI) classes [] H1 := vx_P0
  have hD1 : va_D (va_A [(q23, .inr (5, [.null, .null]))] H.size) [] := vx_D0
  obtain ⟨hP, hD⟩ := va_join (wr := [(h0, .inr (2, [.null, .null, .null, .null, .null, .null]))]) (w1 := []) hP hD [1] [0] rfl rfl (by decide) (by decide) hk1 hFc hP1 hD1
  have hK := hK.sub (tys' := []) [] rfl
  generalize H1 = H at hP hS ⊢
  have hP : va_P (dC, dI) classes [(h0, .inr (2, [.null, .null, .null, .null, .null, .null]))] H := hP
  have hD : va_D A [(h0, .inr (2, [.null, .null, .null, .null, .null, .null]))] := hD
  have hK : va_K (dC, dI) classes [] s := hK
  refine W.widen (k := 3) (n := 74) (Nat.le_of_ble_eq_true rfl) (Nat.le_of_ble_eq_true rfl) ?_
  refine va_putF (D := (dC, dI)) (ci := 2) (v := .ref q23) (ty := .object "LeafSigner$Sha256") (C := RX2) (T := TX2) (N := 6) hx hb hts iX2_init_X2 tyX2 tyX2_ok nmX2 hown hK hP hD hS 0 rfl rfl 0 (by decide) (hts (.fieldLink RX2 12 "LeafSigner$Hashes" "sha" "LLeafSigner$Sha256;") (List.mem_of_getElem? (i := 14) rfl)) (fun _ h9 => h9) rfl hin rfl (by decide +kernel) rfl rfl (Nat.le_of_ble_eq_true rfl) dX2_init_12 (fun H locs hP hD hS => ?_)
  have hP : va_P (dC, dI) classes [(h0, .inr (2, [.ref q23, .null, .null, .null, .null, .null]))] H := hP
  have hD : va_D A [(h0, .inr (2, [.ref q23, .null, .null, .null, .null, .null]))] := hD
  refine lv_aload_n hx hb dX2_init_15 rfl (lv_at hl 0 rfl) ?_
  refine lv_bipush (v := 8) hx hb dX2_init_16 (by decide) ?_
  refine va_newa (a0 := (8, .inl (fun _ => 0))) hx hb (hts (.arrayClass .int) (List.mem_of_getElem? (i := 9) rfl)) rfl hK hP hD hS hA (fun _ => rfl) (by decide) (by decide) (by decide) (Nat.le_of_ble_eq_true rfl) (Nat.le_of_ble_eq_true rfl) dX2_init_18 (fun q25 cA26 H hK hP hD hS => ?_)
  have hK : va_K (dC, dI) classes [(cA26, .int)] s := hK
  have hP : va_P (dC, dI) classes [(h0, .inr (2, [.ref q23, .null, .null, .null, .null, .null])), (q25, .inl (cA26, 8, .inl (fun _ => 0)))] H := hP
  have hD : va_D A [(h0, .inr (2, [.ref q23, .null, .null, .null, .null, .null])), (q25, .inl (cA26, 8, .inl (fun _ => 0)))] := hD
  refine W.widen (k := 4) (n := 82) (Nat.le_of_ble_eq_true rfl) (Nat.le_of_ble_eq_true rfl) ?_
  refine va_putF (D := (dC, dI)) (ci := 2) (v := .ref q25) (ty := .array .int) (C := RX2) (T := TX2) (N := 6) hx hb hts iX2_init_X2 tyX2 tyX2_ok nmX2 hown hK hP hD hS 0 rfl rfl 1 (by decide) (hts (.fieldLink RX2 18 "LeafSigner$Hashes" "seedState" "[I") (List.mem_of_getElem? (i := 15) rfl)) (fun _ h9 => h9) rfl hin rfl (by decide +kernel) rfl rfl (Nat.le_of_ble_eq_true rfl) dX2_init_20 (fun H locs hP hD hS => ?_)
  have hP : va_P (dC, dI) classes [(h0, .inr (2, [.ref q23, .ref q25, .null, .null, .null, .null])), (q25, .inl (cA26, 8, .inl (fun _ => 0)))] H := hP
  have hD : va_D A [(h0, .inr (2, [.ref q23, .ref q25, .null, .null, .null, .null])), (q25, .inl (cA26, 8, .inl (fun _ => 0)))] := hD
  have hP := hP.sub (ws' := [(h0, .inr (2, [.ref q23, .ref q25, .null, .null, .null, .null]))]) [0] rfl
  have hD := hD.sub (ws' := [(h0, .inr (2, [.ref q23, .ref q25, .null, .null, .null, .null]))]) [0] (by decide) rfl
  have hK := hK.sub (tys' := []) [] rfl
  refine lv_aload_n hx hb dX2_init_23 rfl (lv_at hl 0 rfl) ?_
  refine lv_bipush (v := 8) hx hb dX2_init_24 (by decide) ?_
  refine va_newa (a0 := (8, .inl (fun _ => 0))) hx hb (hts (.arrayClass .int) (List.mem_of_getElem? (i := 9) rfl)) rfl hK hP hD hS hA (fun _ => rfl) (by decide) (by decide) (by decide) (Nat.le_of_ble_eq_true rfl) (Nat.le_of_ble_eq_true rfl) dX2_init_26 (fun q27 cA28 H hK hP hD hS => ?_)
  have hK : va_K (dC, dI) classes [(cA28, .int)] s := hK
  have hP : va_P (dC, dI) classes [(h0, .inr (2, [.ref q23, .ref q25, .null, .null, .null, .null])), (q27, .inl (cA28, 8, .inl (fun _ => 0)))] H := hP
  have hD : va_D A [(h0, .inr (2, [.ref q23, .ref q25, .null, .null, .null, .null])), (q27, .inl (cA28, 8, .inl (fun _ => 0)))] := hD
  refine W.widen (k := 5) (n := 90) (Nat.le_of_ble_eq_true rfl) (Nat.le_of_ble_eq_true rfl) ?_
  refine va_putF (D := (dC, dI)) (ci := 2) (v := .ref q27) (ty := .array .int) (C := RX2) (T := TX2) (N := 6) hx hb hts iX2_init_X2 tyX2 tyX2_ok nmX2 hown hK hP hD hS 0 rfl rfl 2 (by decide) (hts (.fieldLink RX2 22 "LeafSigner$Hashes" "address" "[I") (List.mem_of_getElem? (i := 16) rfl)) (fun _ h9 => h9) rfl hin rfl (by decide +kernel) rfl rfl (Nat.le_of_ble_eq_true rfl) dX2_init_28 (fun H locs hP hD hS => ?_)
  have hP : va_P (dC, dI) classes [(h0, .inr (2, [.ref q23, .ref q25, .ref q27, .null, .null, .null])), (q27, .inl (cA28, 8, .inl (fun _ => 0)))] H := hP
  have hD : va_D A [(h0, .inr (2, [.ref q23, .ref q25, .ref q27, .null, .null, .null])), (q27, .inl (cA28, 8, .inl (fun _ => 0)))] := hD
  have hP := hP.sub (ws' := [(h0, .inr (2, [.ref q23, .ref q25, .ref q27, .null, .null, .null]))]) [0] rfl
  have hD := hD.sub (ws' := [(h0, .inr (2, [.ref q23, .ref q25, .ref q27, .null, .null, .null]))]) [0] (by decide) rfl
  have hK := hK.sub (tys' := []) [] rfl
  refine lv_aload_n hx hb dX2_init_31 rfl (lv_at hl 0 rfl) ?_
  refine lv_bipush (v := 8) hx hb dX2_init_32 (by decide) ?_
  refine va_newa (a0 := (8, .inl (fun _ => 0))) hx hb (hts (.arrayClass .int) (List.mem_of_getElem? (i := 9) rfl)) rfl hK hP hD hS hA (fun _ => rfl) (by decide) (by decide) (by decide) (Nat.le_of_ble_eq_true rfl) (Nat.le_of_ble_eq_true rfl) dX2_init_34 (fun q29 cA30 H hK hP hD hS => ?_)
  have hK : va_K (dC, dI) classes [(cA30, .int)] s := hK
  have hP : va_P (dC, dI) classes [(h0, .inr (2, [.ref q23, .ref q25, .ref q27, .null, .null, .null])), (q29, .inl (cA30, 8, .inl (fun _ => 0)))] H := hP
  have hD : va_D A [(h0, .inr (2, [.ref q23, .ref q25, .ref q27, .null, .null, .null])), (q29, .inl (cA30, 8, .inl (fun _ => 0)))] := hD
  refine W.widen (k := 6) (n := 98) (Nat.le_of_ble_eq_true rfl) (Nat.le_of_ble_eq_true rfl) ?_
  refine va_putF (D := (dC, dI)) (ci := 2) (v := .ref q29) (ty := .array .int) (C := RX2) (T := TX2) (N := 6) hx hb hts iX2_init_X2 tyX2 tyX2_ok nmX2 hown hK hP hD hS 0 rfl rfl 3 (by decide) (hts (.fieldLink RX2 25 "LeafSigner$Hashes" "key" "[I") (List.mem_of_getElem? (i := 17) rfl)) (fun _ h9 => h9) rfl hin rfl (by decide +kernel) rfl rfl (Nat.le_of_ble_eq_true rfl) dX2_init_36 (fun H locs hP hD hS => ?_)
  have hP : va_P (dC, dI) classes [(h0, .inr (2, [.ref q23, .ref q25, .ref q27, .ref q29, .null, .null])), (q29, .inl (cA30, 8, .inl (fun _ => 0)))] H := hP
  have hD : va_D A [(h0, .inr (2, [.ref q23, .ref q25, .ref q27, .ref q29, .null, .null])), (q29, .inl (cA30, 8, .inl (fun _ => 0)))] := hD
  have hP := hP.sub (ws' := [(h0, .inr (2, [.ref q23, .ref q25, .ref q27, .ref q29, .null, .null]))]) [0] rfl
  have hD := hD.sub (ws' := [(h0, .inr (2, [.ref q23, .ref q25, .ref q27, .ref q29, .null, .null]))]) [0] (by decide) rfl
  have hK := hK.sub (tys' := []) [] rfl
  refine lv_aload_n hx hb dX2_init_39 rfl (lv_at hl 0 rfl) ?_
  refine lv_bipush (v := 8) hx hb dX2_init_40 (by decide) ?_
  refine va_newa (a0 := (8, .inl (fun _ => 0))) hx hb (hts (.arrayClass .int) (List.mem_of_getElem? (i := 9) rfl)) rfl hK hP hD hS hA (fun _ => rfl) (by decide) (by decide) (by decide) (Nat.le_of_ble_eq_true rfl) (Nat.le_of_ble_eq_true rfl) dX2_init_42 (fun q31 cA32 H hK hP hD hS => ?_)
  have hK : va_K (dC, dI) classes [(cA32, .int)] s := hK
  have hP : va_P (dC, dI) classes [(h0, .inr (2, [.ref q23, .ref q25, .ref q27, .ref q29, .null, .null])), (q31, .inl (cA32, 8, .inl (fun _ => 0)))] H := hP
  have hD : va_D A [(h0, .inr (2, [.ref q23, .ref q25, .ref q27, .ref q29, .null, .null])), (q31, .inl (cA32, 8, .inl (fun _ => 0)))] := hD
  refine W.widen (k := 7) (n := 106) (Nat.le_of_ble_eq_true rfl) (Nat.le_of_ble_eq_true rfl) ?_
  refine va_putF (D := (dC, dI)) (ci := 2) (v := .ref q31) (ty := .array .int) (C := RX2) (T := TX2) (N := 6) hx hb hts iX2_init_X2 tyX2 tyX2_ok nmX2 hown hK hP hD hS 0 rfl rfl 4 (by decide) (hts (.fieldLink RX2 28 "LeafSigner$Hashes" "mask" "[I") (List.mem_of_getElem? (i := 18) rfl)) (fun _ h9 => h9) rfl hin rfl (by decide +kernel) rfl rfl (Nat.le_of_ble_eq_true rfl) dX2_init_44 (fun H locs hP hD hS => ?_)
  have hP : va_P (dC, dI) classes [(h0, .inr (2, [.ref q23, .ref q25, .ref q27, .ref q29, .ref q31, .null])), (q31, .inl (cA32, 8, .inl (fun _ => 0)))] H := hP
  have hD : va_D A [(h0, .inr (2, [.ref q23, .ref q25, .ref q27, .ref q29, .ref q31, .null])), (q31, .inl (cA32, 8, .inl (fun _ => 0)))] := hD
  have hP := hP.sub (ws' := [(h0, .inr (2, [.ref q23, .ref q25, .ref q27, .ref q29, .ref q31, .null]))]) [0] rfl
  have hD := hD.sub (ws' := [(h0, .inr (2, [.ref q23, .ref q25, .ref q27, .ref q29, .ref q31, .null]))]) [0] (by decide) rfl
  have hK := hK.sub (tys' := []) [] rfl
  refine lv_aload_n hx hb dX2_init_47 rfl (lv_at hl 0 rfl) ?_
  refine lv_bipush (v := 8) hx hb dX2_init_48 (by decide) ?_
  refine va_newa (a0 := (8, .inl (fun _ => 0))) hx hb (hts (.arrayClass .int) (List.mem_of_getElem? (i := 9) rfl)) rfl hK hP hD hS hA (fun _ => rfl) (by decide) (by decide) (by decide) (Nat.le_of_ble_eq_true rfl) (Nat.le_of_ble_eq_true rfl) dX2_init_50 (fun q33 cA34 H hK hP hD hS => ?_)
  have hK : va_K (dC, dI) classes [(cA34, .int)] s := hK
  have hP : va_P (dC, dI) classes [(h0, .inr (2, [.ref q23, .ref q25, .ref q27, .ref q29, .ref q31, .null])), (q33, .inl (cA34, 8, .inl (fun _ => 0)))] H := hP
  have hD : va_D A [(h0, .inr (2, [.ref q23, .ref q25, .ref q27, .ref q29, .ref q31, .null])), (q33, .inl (cA34, 8, .inl (fun _ => 0)))] := hD
  refine W.widen (k := 8) (n := 114) (Nat.le_of_ble_eq_true rfl) (Nat.le_of_ble_eq_true rfl) ?_
  refine va_putF (D := (dC, dI)) (ci := 2) (v := .ref q33) (ty := .array .int) (C := RX2) (T := TX2) (N := 6) hx hb hts iX2_init_X2 tyX2 tyX2_ok nmX2 hown hK hP hD hS 0 rfl rfl 5 (by decide) (hts (.fieldLink RX2 31 "LeafSigner$Hashes" "otherMask" "[I") (List.mem_of_getElem? (i := 19) rfl)) (fun _ h9 => h9) rfl hin rfl (by decide +kernel) rfl rfl (Nat.le_of_ble_eq_true rfl) dX2_init_52 (fun H locs hP hD hS => ?_)
  have hP : va_P (dC, dI) classes [(h0, .inr (2, [.ref q23, .ref q25, .ref q27, .ref q29, .ref q31, .ref q33])), (q33, .inl (cA34, 8, .inl (fun _ => 0)))] H := hP
  have hD : va_D A [(h0, .inr (2, [.ref q23, .ref q25, .ref q27, .ref q29, .ref q31, .ref q33])), (q33, .inl (cA34, 8, .inl (fun _ => 0)))] := hD
  refine W.widen (k := 8) (n := 114) (Nat.le_of_ble_eq_true rfl) (Nat.le_of_ble_eq_true rfl) ?_
  exact W.vret hx hb hr (fun t ht hW => ⟨⟨(), rfl, trivial, trivial⟩, hS.F ht⟩) hS.2.2 dX2_init_55
set_option maxHeartbeats 4000000 in
set_option maxRecDepth 100000 in
/-- Arrays.fill's loop; what is behind it is a premise -/
theorem lp_fill {p : Program} {l : Launch} {e : Env} {R : Room} {s : State} {m : MethodId} {args : Array Value} {below : List Frame} {meth : Method} {c : Code} {Q : State → Prop} {A : Nat → Prop} {dC : Nat → ClassId} {dI : Nat → Nat → Nat} {a : Nat} {cA : ClassId} {N : Nat} {v : Int32} {cells slots : Nat} (hx : p.tables.exec = Jvm.exec) (hb : c.code = cJ7_fill_53178) (hK : va_K (dC, dI) classes [(cA, .int)] s) (hN : N < 2 ^ 31)
    (kend : ∀ (H : Heap) (locs : List Loc) (ls : Array Slot), va_S A s.heap H locs → W p l e R s m args below meth c H locs cells slots Q (F0 m 20 ls [])) :
    ∀ (n j : Nat) (x : Int32), j + n = N → x = nI j → ∀ (f : Nat → Int32) (H : Heap) (locs : List Loc) (ls : Array Slot), va_P (dC, dI) classes [(a, .inl (cA, N, .inl f))] H → va_D A [(a, .inl (cA, N, .inl f))] → va_S A s.heap H locs → lv_has ls 4 [(2, .int x), (3, .int (Int32.ofNat N)), (0, .ref a), (1, .int v)] → W p l e R s m args below meth c H locs cells slots Q (F0 m 5 ls []) := by
  intro n
  induction n with
  | zero =>
    intro j x hj ex f H locs ls hP hD hS hl
    refine lv_iload_n hx hb dJ7_fill_53178_5 rfl (lv_at hl 0 rfl) ?_
    refine lv_iload_n hx hb dJ7_fill_53178_6 rfl (lv_at hl 1 rfl) ?_
    refine lv_icmp_ge (tgt := 20) hx hb dJ7_fill_53178_7 (by decide) (fun c1 => ?_) (fun c1 => absurd (by rw [ex]; exact nI_le (show N ≤ j by omega) (by omega)) c1)
    exact kend H locs ls hS
  | succ n ih =>
    intro j x hj ex f H locs ls hP hD hS hl
    refine lv_iload_n hx hb dJ7_fill_53178_5 rfl (lv_at hl 0 rfl) ?_
    refine lv_iload_n hx hb dJ7_fill_53178_6 rfl (lv_at hl 1 rfl) ?_
    refine lv_icmp_ge (tgt := 20) hx hb dJ7_fill_53178_7 (by decide) (fun c1 => absurd c1 (by rw [ex]; exact nI_ge (show j < N by omega) hN)) (fun c1 => ?_)
    refine lv_aload_n hx hb dJ7_fill_53178_10 rfl (lv_at hl 2 rfl) ?_
    refine lv_iload_n hx hb dJ7_fill_53178_11 rfl (lv_at hl 0 rfl) ?_
    refine lv_iload_n hx hb dJ7_fill_53178_12 rfl (lv_at hl 3 rfl) ?_
    refine vx_iast hx hb hK hP hD hS 0 0 rfl rfl (by rw [ex]; exact vp_in_nI (show j < N by omega) hN) dJ7_fill_53178_13 (fun H locs f1 hP hD hS => ?_)
    have hP : va_P (dC, dI) classes [(a, .inl (cA, N, .inl f1))] H := hP
    have hD : va_D A [(a, .inl (cA, N, .inl f1))] := hD
    obtain ⟨x1, ex1⟩ : ∃ y : Int32, y = x + 1 := ⟨_, rfl⟩
    refine lv_iinc (v := x1) (lv' := [(2, .int x1), (3, .int (Int32.ofNat N)), (0, .ref a), (1, .int v)]) hx hb dJ7_fill_53178_14 hl (k := 0) rfl (by rw [ex1]; rfl) (by decide) rfl (fun ls hl => ?_)
    refine lv_goto (tgt := 5) hx hb dJ7_fill_53178_17 (by decide) ?_
    exact ih (j + 1) x1 (by omega) (by rw [ex1, ex]; exact nI_1 j) f1 H locs ls hP hD hS hl
def ww_J7_fill_53178 : List Cond := .code yJ7_fill_53178 cJ7_fill_53178 4 none :: ([])
set_option maxHeartbeats 4000000 in
set_option maxRecDepth 100000 in
theorem ct_afill (l : Launch) (dC : Nat → ClassId) (dI : Nat → Nat → Nat) (sz : Nat) (a : Nat) (v : Int32) (cA : ClassId) (N : Nat) (f : (Nat → Int32)) (hN : N < 2 ^ 31) : Met l yJ7_fill_53178 ww_J7_fill_53178 ({ frames := 0, cells := 0, slots := 0, locals := 0 }) (va_Pc [.ref a, .int v] (fun U => U.heap.size = sz ∧ va_P (dC, dI) classes [(a, .inl (cA, N, .inl f))] U.heap ∧ va_K (dC, dI) classes [(cA, .int)] U ∧ va_D (fun _ => True) [(a, .inl (cA, N, .inl f))])) (va_Qv (fun (_ : Unit) => True) (fun (_ : Unit) (_ : State) => True) (va_A [(a, .inl (cA, N, .inl f))] sz)) 0 0 (va_A [(a, .inl (cA, N, .inl f))] sz) := by
  refine Met.ofW (cc := cJ7_fill_53178) (maxL := 4) (ret := none) (by decide) rfl ?_
  intro p e s m args below meth c s₁ B hml hv
  obtain ⟨rfl, hsz, hP, hK, hD0⟩ := hv
  have hx := B.exec
  have hb := B.bytes
  have hr := B.returns
  have hts := atoms_spec (ws := ww_J7_fill_53178) B.pre
  have hown : s.vm.findClass RJ7 = some m.cls := findClass_of_methodNamed B.named
  have hlocks := B.notSynchronized
  subst hsz
  have hD := hD0.self (sz := s.heap.size)
  generalize hAe : va_A [(a, .inl (cA, N, .inl f))] s.heap.size = A at hD ⊢
  have hA : ∀ q : Nat, s.heap.size ≤ q → A q := fun q h => by rw [← hAe]; exact Or.inr h
  have hS : va_S A s.heap s.heap [] := va_S.rf
  have hP : va_P (dC, dI) classes [(a, .inl (cA, N, .inl f))] s.heap := hP
  have hl := lv_entry ([.ref a, .int v]) (n := 4) (Nat.le_of_ble_eq_true rfl)
  rw [lg_entry_eq]
  generalize (lg_sl ([.ref a, .int v]) ++ List.replicate (4 - (lg_sl ([.ref a, .int v])).length) Slot.unset).toArray = ls at hl ⊢
  have hl : lv_has ls 4 [(0, .ref a), (1, .int v)] := hl
  generalize hHe : s.heap = H at hP ⊢
  have hS : va_S A s.heap H [] := by rw [← hHe]; exact va_S.rf
  refine lv_iconst (v := 0) hx hb dJ7_fill_53178_0 (by decide) ?_
  refine lv_istore_n (lv' := [(2, .int 0), (0, .ref a), (1, .int v)]) hx hb dJ7_fill_53178_1 rfl hl (by decide) rfl (fun ls hl => ?_)
  refine lv_aload_n hx hb dJ7_fill_53178_2 rfl (lv_at hl 1 rfl) ?_
  refine va_alen (v := (Int32.ofNat N)) hx hb hK hP 0 0 rfl rfl rfl dJ7_fill_53178_3 ?_
  refine lv_istore_n (lv' := [(3, .int (Int32.ofNat N)), (2, .int 0), (0, .ref a), (1, .int v)]) hx hb dJ7_fill_53178_4 rfl hl (by decide) rfl (fun ls hl => ?_)
  refine lp_fill hx hb hK hN (fun H locs ls hS => ?_) N 0 0 (by omega) nI_0.symm f H _ ls hP hD hS (lv_sub hl [1, 0, 2, 3] rfl)
  refine W.widen (k := 0) (n := 0) (Nat.le_of_ble_eq_true rfl) (Nat.le_of_ble_eq_true rfl) ?_
  exact W.vret hx hb hr (fun t ht hW => ⟨⟨(), rfl, trivial, trivial⟩, hS.F ht⟩) hS.2.2 dJ7_fill_53178_20
def ww_X4_init : List Cond := .code yX4_init cX4_init 2 none :: ([.methodLink RX4 3 objectInit, .instanceMethod objectInit, .code objectInit ⟨#[0xb1]⟩ 1 none, .fieldLink RX4 9 "LeafSigner$OneTime" "hashes" "LLeafSigner$Hashes;", .arrayClass .int, .fieldLink RX4 15 "LeafSigner$OneTime" "leafSecret" "[I", .fieldLink RX4 19 "LeafSigner$OneTime" "bottoms" "[I", .fieldLink RX4 22 "LeafSigner$OneTime" "digits" "[I", .fieldLink RX4 25 "LeafSigner$OneTime" "tops" "[I", .methodLink RX4 28 yJ7_fill_53178, .static yJ7_fill_53178, .initialized RJ7, .code yJ7_fill_53178 cJ7_fill_53178 4 none] ++ (wsX40))
theorem iX4_init_X4 : ∀ w ∈ wsX40, w ∈ ww_X4_init := fun w h => List.mem_cons_of_mem _ (List.mem_append_right _ h)
set_option maxRecDepth 20000 in
theorem gX4_init_J7_fill_53178_28 : GoodIn ww_X4_init (va_wsS RX4 28 yJ7_fill_53178 ww_J7_fill_53178) := vx_good _ [10, 11, 12, 13] rfl (by decide +kernel)
set_option maxHeartbeats 4000000 in
set_option maxRecDepth 100000 in
theorem ct_OneTime (l : Launch) (dC : Nat → ClassId) (dI : Nat → Nat → Nat) (sz : Nat) (h0 : Nat) (hq : Nat) : Met l yX4_init ww_X4_init ({ frames := 1, cells := 4, slots := 209, locals := 23 }) (va_Pc [.ref h0, .ref hq] (fun U => U.heap.size = sz ∧ va_P (dC, dI) classes [(h0, .inr (4, [.null, .null, .null, .null, .null]))] U.heap ∧ va_K (dC, dI) classes [] U ∧ va_D (fun _ => True) [(h0, .inr (4, [.null, .null, .null, .null, .null]))])) (va_Qv (fun (_ : Unit) => True) (fun (_ : Unit) (_ : State) => True) (va_A [(h0, .inr (4, [.null, .null, .null, .null, .null]))] sz)) 4 209 (va_A [(h0, .inr (4, [.null, .null, .null, .null, .null]))] sz) := by
  refine Met.ofW (cc := cX4_init) (maxL := 2) (ret := none) (by decide) rfl ?_
  intro p e s m args below meth c s₁ B hml hv
  obtain ⟨rfl, hsz, hP, hK, hD0⟩ := hv
  have hx := B.exec
  have hb := B.bytes
  have hr := B.returns
  have hts := atoms_spec (ws := ww_X4_init) B.pre
  have hown : s.vm.findClass RX4 = some m.cls := findClass_of_methodNamed B.named
  have hlocks := B.notSynchronized
  have hin : meth.name = "<init>" := (name_of_methodNamed B.named B.method).1
  subst hsz
  have hD := hD0.self (sz := s.heap.size)
  generalize hAe : va_A [(h0, .inr (4, [.null, .null, .null, .null, .null]))] s.heap.size = A at hD ⊢
  have hA : ∀ q : Nat, s.heap.size ≤ q → A q := fun q h => by rw [← hAe]; exact Or.inr h
  have hS : va_S A s.heap s.heap [] := va_S.rf
  have hP : va_P (dC, dI) classes [(h0, .inr (4, [.null, .null, .null, .null, .null]))] s.heap := hP
  have hl := lv_entry ([.ref h0, .ref hq]) (n := 2) (Nat.le_of_ble_eq_true rfl)
  rw [lg_entry_eq]
  generalize (lg_sl ([.ref h0, .ref hq]) ++ List.replicate (2 - (lg_sl ([.ref h0, .ref hq])).length) Slot.unset).toArray = ls at hl ⊢
  have hl : lv_has ls 2 [(0, .ref h0), (1, .ref hq)] := hl
  generalize hHe : s.heap = H at hP ⊢
  have hS : va_S A s.heap H [] := by rw [← hHe]; exact va_S.rf
  refine lv_aload_n hx hb dX4_init_0 rfl (lv_at hl 0 rfl) ?_
  refine W.objInit hx hb hown (hts (.methodLink RX4 3 objectInit) (List.mem_of_getElem? (i := 1) rfl)) (hts (.instanceMethod objectInit) (List.mem_of_getElem? (i := 2) rfl)) (hts (.code objectInit ⟨#[0xb1]⟩ 1 none) (List.mem_of_getElem? (i := 3) rfl)) rfl (by rw [hml]; exact hl.1) rfl dX4_init_1 (Nat.le_of_ble_eq_true rfl) (Nat.le_of_ble_eq_true rfl) ?_
  refine W.eq (g2 := F0 m 4 ls []) rfl ?_
  refine lv_aload_n hx hb dX4_init_4 rfl (lv_at hl 0 rfl) ?_
  refine lv_aload_n hx hb dX4_init_5 rfl (lv_at hl 1 rfl) ?_
  refine va_putF (D := (dC, dI)) (ci := 4) (v := .ref hq) (ty := .object "LeafSigner$Hashes") (C := RX4) (T := TX4) (N := 5) hx hb hts iX4_init_X4 tyX4 tyX4_ok nmX4 hown hK hP hD hS 0 rfl rfl 0 (by decide) (hts (.fieldLink RX4 9 "LeafSigner$OneTime" "hashes" "LLeafSigner$Hashes;") (List.mem_of_getElem? (i := 4) rfl)) (fun _ h9 => h9) rfl hin rfl (by decide +kernel) rfl rfl (Nat.le_of_ble_eq_true rfl) dX4_init_6 (fun H locs hP hD hS => ?_)
  have hP : va_P (dC, dI) classes [(h0, .inr (4, [.ref hq, .null, .null, .null, .null]))] H := hP
  have hD : va_D A [(h0, .inr (4, [.ref hq, .null, .null, .null, .null]))] := hD
  refine lv_aload_n hx hb dX4_init_9 rfl (lv_at hl 0 rfl) ?_
  refine lv_bipush (v := 8) hx hb dX4_init_10 (by decide) ?_
  refine va_newa (a0 := (8, .inl (fun _ => 0))) hx hb (hts (.arrayClass .int) (List.mem_of_getElem? (i := 5) rfl)) rfl hK hP hD hS hA (fun _ => rfl) (by decide) (by decide) (by decide) (Nat.le_of_ble_eq_true rfl) (Nat.le_of_ble_eq_true rfl) dX4_init_12 (fun q35 cA36 H hK hP hD hS => ?_)
  have hK : va_K (dC, dI) classes [(cA36, .int)] s := hK
  have hP : va_P (dC, dI) classes [(h0, .inr (4, [.ref hq, .null, .null, .null, .null])), (q35, .inl (cA36, 8, .inl (fun _ => 0)))] H := hP
  have hD : va_D A [(h0, .inr (4, [.ref hq, .null, .null, .null, .null])), (q35, .inl (cA36, 8, .inl (fun _ => 0)))] := hD
  refine W.widen (k := 1) (n := 8) (Nat.le_of_ble_eq_true rfl) (Nat.le_of_ble_eq_true rfl) ?_
  refine va_putF (D := (dC, dI)) (ci := 4) (v := .ref q35) (ty := .array .int) (C := RX4) (T := TX4) (N := 5) hx hb hts iX4_init_X4 tyX4 tyX4_ok nmX4 hown hK hP hD hS 0 rfl rfl 1 (by decide) (hts (.fieldLink RX4 15 "LeafSigner$OneTime" "leafSecret" "[I") (List.mem_of_getElem? (i := 6) rfl)) (fun _ h9 => h9) rfl hin rfl (by decide +kernel) rfl rfl (Nat.le_of_ble_eq_true rfl) dX4_init_14 (fun H locs hP hD hS => ?_)
  have hP : va_P (dC, dI) classes [(h0, .inr (4, [.ref hq, .ref q35, .null, .null, .null])), (q35, .inl (cA36, 8, .inl (fun _ => 0)))] H := hP
  have hD : va_D A [(h0, .inr (4, [.ref hq, .ref q35, .null, .null, .null])), (q35, .inl (cA36, 8, .inl (fun _ => 0)))] := hD
  have hP := hP.sub (ws' := [(h0, .inr (4, [.ref hq, .ref q35, .null, .null, .null]))]) [0] rfl
  have hD := hD.sub (ws' := [(h0, .inr (4, [.ref hq, .ref q35, .null, .null, .null]))]) [0] (by decide) rfl
  have hK := hK.sub (tys' := []) [] rfl
  refine lv_aload_n hx hb dX4_init_17 rfl (lv_at hl 0 rfl) ?_
  refine lv_bipush (v := 67) hx hb dX4_init_18 (by decide) ?_
  refine va_newa (a0 := (67, .inl (fun _ => 0))) hx hb (hts (.arrayClass .int) (List.mem_of_getElem? (i := 5) rfl)) rfl hK hP hD hS hA (fun _ => rfl) (by decide) (by decide) (by decide) (Nat.le_of_ble_eq_true rfl) (Nat.le_of_ble_eq_true rfl) dX4_init_20 (fun q37 cA38 H hK hP hD hS => ?_)
  have hK : va_K (dC, dI) classes [(cA38, .int)] s := hK
  have hP : va_P (dC, dI) classes [(h0, .inr (4, [.ref hq, .ref q35, .null, .null, .null])), (q37, .inl (cA38, 67, .inl (fun _ => 0)))] H := hP
  have hD : va_D A [(h0, .inr (4, [.ref hq, .ref q35, .null, .null, .null])), (q37, .inl (cA38, 67, .inl (fun _ => 0)))] := hD
  refine W.widen (k := 2) (n := 75) (Nat.le_of_ble_eq_true rfl) (Nat.le_of_ble_eq_true rfl) ?_
  refine va_putF (D := (dC, dI)) (ci := 4) (v := .ref q37) (ty := .array .int) (C := RX4) (T := TX4) (N := 5) hx hb hts iX4_init_X4 tyX4 tyX4_ok nmX4 hown hK hP hD hS 0 rfl rfl 2 (by decide) (hts (.fieldLink RX4 19 "LeafSigner$OneTime" "bottoms" "[I") (List.mem_of_getElem? (i := 7) rfl)) (fun _ h9 => h9) rfl hin rfl (by decide +kernel) rfl rfl (Nat.le_of_ble_eq_true rfl) dX4_init_22 (fun H locs hP hD hS => ?_)
  have hP : va_P (dC, dI) classes [(h0, .inr (4, [.ref hq, .ref q35, .ref q37, .null, .null])), (q37, .inl (cA38, 67, .inl (fun _ => 0)))] H := hP
  have hD : va_D A [(h0, .inr (4, [.ref hq, .ref q35, .ref q37, .null, .null])), (q37, .inl (cA38, 67, .inl (fun _ => 0)))] := hD
  have hP := hP.sub (ws' := [(h0, .inr (4, [.ref hq, .ref q35, .ref q37, .null, .null]))]) [0] rfl
  have hD := hD.sub (ws' := [(h0, .inr (4, [.ref hq, .ref q35, .ref q37, .null, .null]))]) [0] (by decide) rfl
  have hK := hK.sub (tys' := []) [] rfl
  refine lv_aload_n hx hb dX4_init_25 rfl (lv_at hl 0 rfl) ?_
  refine lv_bipush (v := 67) hx hb dX4_init_26 (by decide) ?_
  refine va_newa (a0 := (67, .inl (fun _ => 0))) hx hb (hts (.arrayClass .int) (List.mem_of_getElem? (i := 5) rfl)) rfl hK hP hD hS hA (fun _ => rfl) (by decide) (by decide) (by decide) (Nat.le_of_ble_eq_true rfl) (Nat.le_of_ble_eq_true rfl) dX4_init_28 (fun q39 cA40 H hK hP hD hS => ?_)
  have hK : va_K (dC, dI) classes [(cA40, .int)] s := hK
  have hP : va_P (dC, dI) classes [(h0, .inr (4, [.ref hq, .ref q35, .ref q37, .null, .null])), (q39, .inl (cA40, 67, .inl (fun _ => 0)))] H := hP
  have hD : va_D A [(h0, .inr (4, [.ref hq, .ref q35, .ref q37, .null, .null])), (q39, .inl (cA40, 67, .inl (fun _ => 0)))] := hD
  refine W.widen (k := 3) (n := 142) (Nat.le_of_ble_eq_true rfl) (Nat.le_of_ble_eq_true rfl) ?_
  refine va_putF (D := (dC, dI)) (ci := 4) (v := .ref q39) (ty := .array .int) (C := RX4) (T := TX4) (N := 5) hx hb hts iX4_init_X4 tyX4 tyX4_ok nmX4 hown hK hP hD hS 0 rfl rfl 3 (by decide) (hts (.fieldLink RX4 22 "LeafSigner$OneTime" "digits" "[I") (List.mem_of_getElem? (i := 8) rfl)) (fun _ h9 => h9) rfl hin rfl (by decide +kernel) rfl rfl (Nat.le_of_ble_eq_true rfl) dX4_init_30 (fun H locs hP hD hS => ?_)
  have hP : va_P (dC, dI) classes [(h0, .inr (4, [.ref hq, .ref q35, .ref q37, .ref q39, .null])), (q39, .inl (cA40, 67, .inl (fun _ => 0)))] H := hP
  have hD : va_D A [(h0, .inr (4, [.ref hq, .ref q35, .ref q37, .ref q39, .null])), (q39, .inl (cA40, 67, .inl (fun _ => 0)))] := hD
  have hP := hP.sub (ws' := [(h0, .inr (4, [.ref hq, .ref q35, .ref q37, .ref q39, .null]))]) [0] rfl
  have hD := hD.sub (ws' := [(h0, .inr (4, [.ref hq, .ref q35, .ref q37, .ref q39, .null]))]) [0] (by decide) rfl
  have hK := hK.sub (tys' := []) [] rfl
  refine lv_aload_n hx hb dX4_init_33 rfl (lv_at hl 0 rfl) ?_
  refine lv_bipush (v := 67) hx hb dX4_init_34 (by decide) ?_
  refine va_newa (a0 := (67, .inl (fun _ => 0))) hx hb (hts (.arrayClass .int) (List.mem_of_getElem? (i := 5) rfl)) rfl hK hP hD hS hA (fun _ => rfl) (by decide) (by decide) (by decide) (Nat.le_of_ble_eq_true rfl) (Nat.le_of_ble_eq_true rfl) dX4_init_36 (fun q41 cA42 H hK hP hD hS => ?_)
  have hK : va_K (dC, dI) classes [(cA42, .int)] s := hK
  have hP : va_P (dC, dI) classes [(h0, .inr (4, [.ref hq, .ref q35, .ref q37, .ref q39, .null])), (q41, .inl (cA42, 67, .inl (fun _ => 0)))] H := hP
  have hD : va_D A [(h0, .inr (4, [.ref hq, .ref q35, .ref q37, .ref q39, .null])), (q41, .inl (cA42, 67, .inl (fun _ => 0)))] := hD
  refine W.widen (k := 4) (n := 209) (Nat.le_of_ble_eq_true rfl) (Nat.le_of_ble_eq_true rfl) ?_
  refine va_putF (D := (dC, dI)) (ci := 4) (v := .ref q41) (ty := .array .int) (C := RX4) (T := TX4) (N := 5) hx hb hts iX4_init_X4 tyX4 tyX4_ok nmX4 hown hK hP hD hS 0 rfl rfl 4 (by decide) (hts (.fieldLink RX4 25 "LeafSigner$OneTime" "tops" "[I") (List.mem_of_getElem? (i := 9) rfl)) (fun _ h9 => h9) rfl hin rfl (by decide +kernel) rfl rfl (Nat.le_of_ble_eq_true rfl) dX4_init_38 (fun H locs hP hD hS => ?_)
  have hP : va_P (dC, dI) classes [(h0, .inr (4, [.ref hq, .ref q35, .ref q37, .ref q39, .ref q41])), (q41, .inl (cA42, 67, .inl (fun _ => 0)))] H := hP
  have hD : va_D A [(h0, .inr (4, [.ref hq, .ref q35, .ref q37, .ref q39, .ref q41])), (q41, .inl (cA42, 67, .inl (fun _ => 0)))] := hD
  refine lv_aload_n hx hb dX4_init_41 rfl (lv_at hl 0 rfl) ?_
  refine va_get (D := (dC, dI)) (ci := 4) (v := .ref q41) (C := RX4) (T := TX4) (N := 5) hx hb hts iX4_init_X4 hown hK hP 0 rfl rfl 4 (by decide) (hts (.fieldLink RX4 25 "LeafSigner$OneTime" "tops" "[I") (List.mem_of_getElem? (i := 9) rfl)) (fun _ h9 => h9) rfl dX4_init_42 ?_
  refine lv_bipush (v := 15) hx hb dX4_init_45 (by decide) ?_
  have hPc := hP.sub (ws' := [(q41, .inl (cA42, 67, .inl (fun _ => 0)))]) [1] rfl
  have hDc := hD.sub (ws' := [(q41, .inl (cA42, 67, .inl (fun _ => 0)))]) [1] (by decide) rfl
  have hKc := hK.sub (tys' := [(cA42, .int)]) [0] rfl
  have hFc := va_free (wc := [(q41, .inl (cA42, 67, .inl (fun _ => 0)))]) hD hS hA [1] rfl
  refine va_callv (va_runS (As := [.ref q41, .int 15]) (rest := []) ⟨hx, hb, hml, hown, hts⟩ (ct_afill l dC dI H.size q41 15 cA42 67 (fun _ => 0) (by decide)) (va_cwS 2 hts gX4_init_J7_fill_53178_28 rfl rfl rfl (by decide +kernel) ⟨(Nat.le_of_ble_eq_true rfl), (Nat.le_of_ble_eq_true rfl)⟩) ⟨fun a U g mk q => by obtain ⟨q0, q1, qP, qK, qD⟩ := q; exact ⟨q0, q1, qP, va_K.moved (u := U) (U := U.calling g mk a) (Vm.Alike.refl U.vm) qK, qD⟩, fun U hU hW => ⟨rfl, by rw [hU], by rw [hU]; exact hPc, va_K.moved hW.alike hKc, hDc.weaken (fun _ _ _ _ => trivial)⟩⟩ rfl rfl hl.1 rfl (lv_room (Nat.le_of_ble_eq_true rfl)) dX4_init_47 ⟨(Nat.le_of_ble_eq_true rfl), (Nat.le_of_ble_eq_true rfl)⟩) hS (fun q _ h => hFc q h) hFc (fun u t H1 locs ht hvm hw hB hz1 hk1 hS => ?_)
  have hP1 : va_P (dC, dI) classes [] H1 := vx_P0
  have hD1 : va_D (va_A [(q41, .inl (cA42, 67, .inl (fun _ => 0)))] H.size) [] := vx_D0
  obtain ⟨hP, hD⟩ := va_join (wr := [(h0, .inr (4, [.ref hq, .ref q35, .ref q37, .ref q39, .ref q41]))]) (w1 := []) hP hD [1] [0] rfl rfl (by decide) (by decide) hk1 hFc hP1 hD1
  have hK := hK.sub (tys' := []) [] rfl
  generalize H1 = H at hP hS ⊢
  have hP : va_P (dC, dI) classes [(h0, .inr (4, [.ref hq, .ref q35, .ref q37, .ref q39, .ref q41]))] H := hP
  have hD : va_D A [(h0, .inr (4, [.ref hq, .ref q35, .ref q37, .ref q39, .ref q41]))] := hD
  have hK : va_K (dC, dI) classes [] s := hK
  refine W.widen (k := 4) (n := 209) (Nat.le_of_ble_eq_true rfl) (Nat.le_of_ble_eq_true rfl) ?_
  refine W.widen (k := 4) (n := 209) (Nat.le_of_ble_eq_true rfl) (Nat.le_of_ble_eq_true rfl) ?_
  exact W.vret hx hb hr (fun t ht hW => ⟨⟨(), rfl, trivial, trivial⟩, hS.F ht⟩) hS.2.2 dX4_init_50
def ww_X6_init : List Cond := .code yX6_init cX6_init 2 none :: ([.methodLink RX6 3 objectInit, .instanceMethod objectInit, .code objectInit ⟨#[0xb1]⟩ 1 none, .fieldLink RX6 9 "LeafSigner$Tree" "height" "I", .fieldLink RX6 15 "LeafSigner$Tree" "leaves" "I", .classLink RX6 18 RX0, .instantiable RX0 2, .initialized RX0, .code yX0_init cX0_init 2 none, .methodLink RX0 3 objectInit, .arrayClass .int, .fieldLink RX0 9 "LeafSigner$ByteRow" "words" "[I", .fieldLink RX0 15 "LeafSigner$ByteRow" "count" "I", .methodLink RX6 20 yX0_init, .instanceMethod yX0_init, .fieldLink RX6 23 "LeafSigner$Tree" "nodes" "LLeafSigner$ByteRow;", .methodLink RX6 27 yX0_fill, .instanceMethod yX0_fill, .selects RX0 yX0_fill yX0_fill, .code yX0_fill cX0_fill 1 none, .classLink RX6 30 RX2, .instantiable RX2 6, .initialized RX2, .code yX2_init cX2_init 1 none, .methodLink RX2 3 objectInit, .classLink RX2 9 RX5, .instantiable RX5 2, .initialized RX5, .code yX5_init cX5_init 1 none, .methodLink RX5 3 objectInit, .fieldLink RX5 9 "LeafSigner$Sha256" "state" "[I", .fieldLink RX5 15 "LeafSigner$Sha256" "words" "[I", .methodLink RX2 11 yX5_init, .instanceMethod yX5_init, .fieldLink RX2 12 "LeafSigner$Hashes" "sha" "LLeafSigner$Sha256;", .fieldLink RX2 18 "LeafSigner$Hashes" "seedState" "[I", .fieldLink RX2 22 "LeafSigner$Hashes" "address" "[I", .fieldLink RX2 25 "LeafSigner$Hashes" "key" "[I", .fieldLink RX2 28 "LeafSigner$Hashes" "mask" "[I", .fieldLink RX2 31 "LeafSigner$Hashes" "otherMask" "[I", .methodLink RX6 32 yX2_init, .instanceMethod yX2_init, .fieldLink RX6 33 "LeafSigner$Tree" "hashes" "LLeafSigner$Hashes;", .classLink RX6 37 RX4, .instantiable RX4 5, .initialized RX4, .code yX4_init cX4_init 2 none, .methodLink RX4 3 objectInit, .fieldLink RX4 9 "LeafSigner$OneTime" "hashes" "LLeafSigner$Hashes;", .fieldLink RX4 15 "LeafSigner$OneTime" "leafSecret" "[I", .fieldLink RX4 19 "LeafSigner$OneTime" "bottoms" "[I", .fieldLink RX4 22 "LeafSigner$OneTime" "digits" "[I", .fieldLink RX4 25 "LeafSigner$OneTime" "tops" "[I", .methodLink RX4 28 yJ7_fill_53178, .static yJ7_fill_53178, .initialized RJ7, .code yJ7_fill_53178 cJ7_fill_53178 4 none, .methodLink RX6 39 yX4_init, .instanceMethod yX4_init, .fieldLink RX6 42 "LeafSigner$Tree" "oneTime" "LLeafSigner$OneTime;", .fieldLink RX6 46 "LeafSigner$Tree" "secret" "[I", .fieldLink RX6 50 "LeafSigner$Tree" "randomKey" "[I", .fieldLink RX6 53 "LeafSigner$Tree" "digest" "[I", .fieldLink RX6 56 "LeafSigner$Tree" "parts" "[I", .fieldLink RX6 59 "LeafSigner$Tree" "pair" "[I", .fieldLink RX6 62 "LeafSigner$Tree" "grown" "Z"] ++ (wsX60 ++ wsX00 ++ wsX20 ++ wsX50 ++ wsX40))
theorem iX6_init_X6 : ∀ w ∈ wsX60, w ∈ ww_X6_init := fun w h => List.mem_cons_of_mem _ (List.mem_append_right _ (List.mem_append_left _ (List.mem_append_left _ (List.mem_append_left _ (List.mem_append_left _ h)))))
theorem iX6_init_X0 : ∀ w ∈ wsX00, w ∈ ww_X6_init := fun w h => List.mem_cons_of_mem _ (List.mem_append_right _ (List.mem_append_left _ (List.mem_append_left _ (List.mem_append_left _ (List.mem_append_right _ h)))))
theorem iX6_init_X2 : ∀ w ∈ wsX20, w ∈ ww_X6_init := fun w h => List.mem_cons_of_mem _ (List.mem_append_right _ (List.mem_append_left _ (List.mem_append_left _ (List.mem_append_right _ h))))
theorem iX6_init_X5 : ∀ w ∈ wsX50, w ∈ ww_X6_init := fun w h => List.mem_cons_of_mem _ (List.mem_append_right _ (List.mem_append_left _ (List.mem_append_right _ h)))
theorem iX6_init_X4 : ∀ w ∈ wsX40, w ∈ ww_X6_init := fun w h => List.mem_cons_of_mem _ (List.mem_append_right _ (List.mem_append_right _ h))
set_option maxRecDepth 20000 in
theorem gX6_init_X0_init_20 : GoodIn ww_X6_init ww_X0_init := vx_good _ [9, 10, 2, 3, 11, 12, 13, 78, 79] rfl (by decide +kernel)
set_option maxRecDepth 20000 in
theorem gX6_init_X0_fill_27 : GoodIn ww_X6_init (wsV RX6 27 RX0 yX0_fill ww_X0_fill) := vx_good _ [17, 18, 19, 8, 20, 12, 13, 78, 79] rfl (by decide +kernel)
set_option maxRecDepth 20000 in
theorem gX6_init_X2_init_32 : GoodIn ww_X6_init ww_X2_init := vx_good _ [24, 25, 2, 3, 26, 27, 28, 29, 30, 11, 31, 32, 33, 34, 35, 36, 37, 38, 39, 40, 86, 87, 80, 81, 82, 83, 84, 85] rfl (by decide +kernel)
set_option maxRecDepth 20000 in
theorem gX6_init_X4_init_39 : GoodIn ww_X6_init ww_X4_init := vx_good _ [47, 48, 2, 3, 49, 11, 50, 51, 52, 53, 54, 55, 56, 57, 88, 89, 90, 91, 92] rfl (by decide +kernel)
set_option maxHeartbeats 4000000 in
set_option maxRecDepth 100000 in
theorem ct_Tree (l : Launch) (dC : Nat → ClassId) (dI : Nat → Nat → Nat) (sz : Nat) (h0 : Nat) (h : Int32) (hh : h = 1 ∨ h = 2 ∨ h = 3 ∨ h = 4) : Met l yX6_init ww_X6_init ({ frames := 3, cells := 21, slots := 1168, locals := 60 }) (va_Pc [.ref h0, .int h] (fun U => U.heap.size = sz ∧ va_P (dC, dI) classes [(h0, .inr (6, [.int 0, .int 0, .null, .null, .null, .null, .null, .null, .null, .null, .int 0]))] U.heap ∧ va_K (dC, dI) classes [] U ∧ va_D (fun _ => True) [(h0, .inr (6, [.int 0, .int 0, .null, .null, .null, .null, .null, .null, .null, .null, .int 0]))])) (va_Qv (fun (_ : Unit) => True) (fun (_ : Unit) (_ : State) => True) (va_A [(h0, .inr (6, [.int 0, .int 0, .null, .null, .null, .null, .null, .null, .null, .null, .int 0]))] sz)) 21 1168 (va_A [(h0, .inr (6, [.int 0, .int 0, .null, .null, .null, .null, .null, .null, .null, .null, .int 0]))] sz) := by
  refine Met.ofW (cc := cX6_init) (maxL := 2) (ret := none) (by decide) rfl ?_
  intro p e s m args below meth c s₁ B hml hv
  obtain ⟨rfl, hsz, hP, hK, hD0⟩ := hv
  have hx := B.exec
  have hb := B.bytes
  have hr := B.returns
  have hts := atoms_spec (ws := ww_X6_init) B.pre
  have hown : s.vm.findClass RX6 = some m.cls := findClass_of_methodNamed B.named
  have hlocks := B.notSynchronized
  have hin : meth.name = "<init>" := (name_of_methodNamed B.named B.method).1
  subst hsz
  have hD := hD0.self (sz := s.heap.size)
  generalize hAe : va_A [(h0, .inr (6, [.int 0, .int 0, .null, .null, .null, .null, .null, .null, .null, .null, .int 0]))] s.heap.size = A at hD ⊢
  have hA : ∀ q : Nat, s.heap.size ≤ q → A q := fun q h => by rw [← hAe]; exact Or.inr h
  have hS : va_S A s.heap s.heap [] := va_S.rf
  have hP : va_P (dC, dI) classes [(h0, .inr (6, [.int 0, .int 0, .null, .null, .null, .null, .null, .null, .null, .null, .int 0]))] s.heap := hP
  have hl := lv_entry ([.ref h0, .int h]) (n := 2) (Nat.le_of_ble_eq_true rfl)
  rw [lg_entry_eq]
  generalize (lg_sl ([.ref h0, .int h]) ++ List.replicate (2 - (lg_sl ([.ref h0, .int h])).length) Slot.unset).toArray = ls at hl ⊢
  have hl : lv_has ls 2 [(0, .ref h0), (1, .int h)] := hl
  generalize hHe : s.heap = H at hP ⊢
  have hS : va_S A s.heap H [] := by rw [← hHe]; exact va_S.rf
  refine lv_aload_n hx hb dX6_init_0 rfl (lv_at hl 0 rfl) ?_
  refine W.objInit hx hb hown (hts (.methodLink RX6 3 objectInit) (List.mem_of_getElem? (i := 1) rfl)) (hts (.instanceMethod objectInit) (List.mem_of_getElem? (i := 2) rfl)) (hts (.code objectInit ⟨#[0xb1]⟩ 1 none) (List.mem_of_getElem? (i := 3) rfl)) rfl (by rw [hml]; exact hl.1) rfl dX6_init_1 (Nat.le_of_ble_eq_true rfl) (Nat.le_of_ble_eq_true rfl) ?_
  refine W.eq (g2 := F0 m 4 ls []) rfl ?_
  refine lv_aload_n hx hb dX6_init_4 rfl (lv_at hl 0 rfl) ?_
  refine lv_iload_n hx hb dX6_init_5 rfl (lv_at hl 1 rfl) ?_
  refine va_putF (D := (dC, dI)) (ci := 6) (v := .int h) (ty := .int) (C := RX6) (T := TX6) (N := 11) hx hb hts iX6_init_X6 tyX6 tyX6_ok nmX6 hown hK hP hD hS 0 rfl rfl 0 (by decide) (hts (.fieldLink RX6 9 "LeafSigner$Tree" "height" "I") (List.mem_of_getElem? (i := 4) rfl)) (fun _ h9 => h9) rfl hin rfl (by decide +kernel) rfl rfl (Nat.le_of_ble_eq_true rfl) dX6_init_6 (fun H locs hP hD hS => ?_)
  have hP : va_P (dC, dI) classes [(h0, .inr (6, [.int h, .int 0, .null, .null, .null, .null, .null, .null, .null, .null, .int 0]))] H := hP
  have hD : va_D A [(h0, .inr (6, [.int h, .int 0, .null, .null, .null, .null, .null, .null, .null, .null, .int 0]))] := hD
  refine lv_aload_n hx hb dX6_init_9 rfl (lv_at hl 0 rfl) ?_
  refine lv_iconst (v := 1) hx hb dX6_init_10 (by decide) ?_
  refine lv_iload_n hx hb dX6_init_11 rfl (lv_at hl 1 rfl) ?_
  refine lv_ishl hx hb dX6_init_12 ?_
  refine va_putF (D := (dC, dI)) (ci := 6) (v := .int (1 <<< (h &&& 31))) (ty := .int) (C := RX6) (T := TX6) (N := 11) hx hb hts iX6_init_X6 tyX6 tyX6_ok nmX6 hown hK hP hD hS 0 rfl rfl 1 (by decide) (hts (.fieldLink RX6 15 "LeafSigner$Tree" "leaves" "I") (List.mem_of_getElem? (i := 5) rfl)) (fun _ h9 => h9) rfl hin rfl (by decide +kernel) rfl rfl (Nat.le_of_ble_eq_true rfl) dX6_init_13 (fun H locs hP hD hS => ?_)
  have hP : va_P (dC, dI) classes [(h0, .inr (6, [.int h, .int (1 <<< (h &&& 31)), .null, .null, .null, .null, .null, .null, .null, .null, .int 0]))] H := hP
  have hD : va_D A [(h0, .inr (6, [.int h, .int (1 <<< (h &&& 31)), .null, .null, .null, .null, .null, .null, .null, .null, .int 0]))] := hD
  refine lv_aload_n hx hb dX6_init_16 rfl (lv_at hl 0 rfl) ?_
  refine va_new (ci := 0) (fs := [.null, .int 0]) (C := RX0) (T := TX0) (N := 2) hx hb hts iX6_init_X0 tyX0 tyX0_ok hown (hts (.classLink RX6 18 RX0) (List.mem_of_getElem? (i := 6) rfl)) (hts (.instantiable RX0 2) (List.mem_of_getElem? (i := 7) rfl)) (hts (.initialized RX0) (List.mem_of_getElem? (i := 8) rfl)) hK hP hD hS hA rfl (by decide) (Nat.le_of_ble_eq_true rfl) (Nat.le_of_ble_eq_true rfl) dX6_init_17 (fun q44 H hP hD hS => ?_)
  have hP : va_P (dC, dI) classes [(h0, .inr (6, [.int h, .int (1 <<< (h &&& 31)), .null, .null, .null, .null, .null, .null, .null, .null, .int 0])), (q44, .inr (0, [.null, .int 0]))] H := hP
  have hD : va_D A [(h0, .inr (6, [.int h, .int (1 <<< (h &&& 31)), .null, .null, .null, .null, .null, .null, .null, .null, .int 0])), (q44, .inr (0, [.null, .int 0]))] := hD
  refine W.widen (k := 1) (n := 2) (Nat.le_of_ble_eq_true rfl) (Nat.le_of_ble_eq_true rfl) ?_
  refine lv_dup hx hb dX6_init_20 rfl ?_
  refine lv_iconst (v := 2) hx hb dX6_init_21 (by decide) ?_
  refine lv_aload_n hx hb dX6_init_22 rfl (lv_at hl 0 rfl) ?_
  refine va_get (D := (dC, dI)) (ci := 6) (v := .int (1 <<< (h &&& 31))) (C := RX6) (T := TX6) (N := 11) hx hb hts iX6_init_X6 hown hK hP 0 rfl rfl 1 (by decide) (hts (.fieldLink RX6 15 "LeafSigner$Tree" "leaves" "I") (List.mem_of_getElem? (i := 5) rfl)) (fun _ h9 => h9) rfl dX6_init_23 ?_
  refine lv_imul hx hb dX6_init_26 ?_
  refine lv_bipush (v := 8) hx hb dX6_init_27 (by decide) ?_
  refine lv_imul hx hb dX6_init_29 ?_
  have hPc := hP.sub (ws' := [(q44, .inr (0, [.null, .int 0]))]) [1] rfl
  have hDc := hD.sub (ws' := [(q44, .inr (0, [.null, .int 0]))]) [1] (by decide) rfl
  have hKc := hK.sub (tys' := []) [] rfl
  have hFc := va_free (wc := [(q44, .inr (0, [.null, .int 0]))]) hD hS hA [1] rfl
  refine va_callv (va_runI (As := [.int ((2 * (1 <<< (h &&& 31))) * 8)]) (rest := [.ref q44, .ref h0]) ⟨hx, hb, hml, hown, hts⟩ (ct_ByteRow l dC dI H.size q44 ((2 * (1 <<< (h &&& 31))) * 8) ((2 * (1 <<< (h &&& 31))) * 8).toNatClampNeg 256 (vx_T hh).1 rfl (vx_T hh).2 (Nat.le_trans (vx_T hh).2 (by decide))) (cwI 1 hts gX6_init_X0_init_20 rfl rfl rfl (hts (.initialized RX0) (List.mem_of_getElem? (i := 8) rfl)) (hts (.methodLink RX6 20 yX0_init) (List.mem_of_getElem? (i := 14) rfl)) (hts (.instanceMethod yX0_init) (List.mem_of_getElem? (i := 15) rfl)) rfl (by decide +kernel) ⟨(Nat.le_of_ble_eq_true rfl), (Nat.le_of_ble_eq_true rfl)⟩) ⟨fun a U g mk q => by obtain ⟨q0, q1, qP, qK, qD⟩ := q; exact ⟨q0, q1, qP, va_K.moved (u := U) (U := U.calling g mk a) (Vm.Alike.refl U.vm) qK, qD⟩, fun U hU hW => ⟨rfl, by rw [hU], by rw [hU]; exact hPc, va_K.moved hW.alike hKc, hDc.weaken (fun _ _ _ _ => trivial)⟩⟩ rfl rfl hl.1 rfl (lv_room (Nat.le_of_ble_eq_true rfl)) dX6_init_30 ⟨(Nat.le_of_ble_eq_true rfl), (Nat.le_of_ble_eq_true rfl)⟩) hS (fun q _ h => hFc q h) hFc (fun u t H1 locs ht hvm hw hB hz1 hk1 hS => ?_)
  obtain ⟨qw_46, cA_47, hP1, hK1, hD1⟩ := hB
  rw [ht] at hP1
  have hK1 := va_K.moved hvm.symm hK1
  obtain ⟨hP, hD⟩ := va_join (wr := [(h0, .inr (6, [.int h, .int (1 <<< (h &&& 31)), .null, .null, .null, .null, .null, .null, .null, .null, .int 0]))]) (w1 := [(q44, .inr (0, [.ref qw_46, .int 0])), (qw_46, .inl (cA_47, ((2 * (1 <<< (h &&& 31))) * 8).toNatClampNeg, .inl (fun _ => 0)))]) hP hD [1] [0] rfl rfl (by decide) (by decide) hk1 hFc hP1 hD1
  have hK := hK.sub (tys' := []) [] rfl
  have hK := hK.app hK1
  generalize H1 = H at hP hS ⊢
  have hP : va_P (dC, dI) classes [(h0, .inr (6, [.int h, .int (1 <<< (h &&& 31)), .null, .null, .null, .null, .null, .null, .null, .null, .int 0])), (q44, .inr (0, [.ref qw_46, .int 0])), (qw_46, .inl (cA_47, ((2 * (1 <<< (h &&& 31))) * 8).toNatClampNeg, .inl (fun _ => 0)))] H := hP
  have hD : va_D A [(h0, .inr (6, [.int h, .int (1 <<< (h &&& 31)), .null, .null, .null, .null, .null, .null, .null, .null, .int 0])), (q44, .inr (0, [.ref qw_46, .int 0])), (qw_46, .inl (cA_47, ((2 * (1 <<< (h &&& 31))) * 8).toNatClampNeg, .inl (fun _ => 0)))] := hD
  have hK : va_K (dC, dI) classes [(cA_47, .int)] s := hK
  refine W.widen (k := 2) (n := 258) (Nat.le_of_ble_eq_true rfl) (Nat.le_of_ble_eq_true rfl) ?_
  refine va_putF (D := (dC, dI)) (ci := 6) (v := .ref q44) (ty := .object "LeafSigner$ByteRow") (C := RX6) (T := TX6) (N := 11) hx hb hts iX6_init_X6 tyX6 tyX6_ok nmX6 hown hK hP hD hS 0 rfl rfl 2 (by decide) (hts (.fieldLink RX6 23 "LeafSigner$Tree" "nodes" "LLeafSigner$ByteRow;") (List.mem_of_getElem? (i := 16) rfl)) (fun _ h9 => h9) rfl hin rfl (by decide +kernel) rfl rfl (Nat.le_of_ble_eq_true rfl) dX6_init_33 (fun H locs hP hD hS => ?_)
  have hP : va_P (dC, dI) classes [(h0, .inr (6, [.int h, .int (1 <<< (h &&& 31)), .ref q44, .null, .null, .null, .null, .null, .null, .null, .int 0])), (q44, .inr (0, [.ref qw_46, .int 0])), (qw_46, .inl (cA_47, ((2 * (1 <<< (h &&& 31))) * 8).toNatClampNeg, .inl (fun _ => 0)))] H := hP
  have hD : va_D A [(h0, .inr (6, [.int h, .int (1 <<< (h &&& 31)), .ref q44, .null, .null, .null, .null, .null, .null, .null, .int 0])), (q44, .inr (0, [.ref qw_46, .int 0])), (qw_46, .inl (cA_47, ((2 * (1 <<< (h &&& 31))) * 8).toNatClampNeg, .inl (fun _ => 0)))] := hD
  refine lv_aload_n hx hb dX6_init_36 rfl (lv_at hl 0 rfl) ?_
  refine va_get (D := (dC, dI)) (ci := 6) (v := .ref q44) (C := RX6) (T := TX6) (N := 11) hx hb hts iX6_init_X6 hown hK hP 0 rfl rfl 2 (by decide) (hts (.fieldLink RX6 23 "LeafSigner$Tree" "nodes" "LLeafSigner$ByteRow;") (List.mem_of_getElem? (i := 16) rfl)) (fun _ h9 => h9) rfl dX6_init_37 ?_
  have hPc := hP.sub (ws' := [(q44, .inr (0, [.ref qw_46, .int 0])), (qw_46, .inl (cA_47, ((2 * (1 <<< (h &&& 31))) * 8).toNatClampNeg, .inl (fun _ => 0)))]) [1, 2] rfl
  have hDc := hD.sub (ws' := [(q44, .inr (0, [.ref qw_46, .int 0])), (qw_46, .inl (cA_47, ((2 * (1 <<< (h &&& 31))) * 8).toNatClampNeg, .inl (fun _ => 0)))]) [1, 2] (by decide) rfl
  have hKc := hK.sub (tys' := [(cA_47, .int)]) [0] rfl
  have hFc := va_free (wc := [(q44, .inr (0, [.ref qw_46, .int 0])), (qw_46, .inl (cA_47, ((2 * (1 <<< (h &&& 31))) * 8).toNatClampNeg, .inl (fun _ => 0)))]) hD hS hA [1, 2] rfl
  refine va_callv (va_runV (As := []) (rest := []) ⟨hx, hb, hml, hown, hts⟩ (ct_fill l dC dI H.size q44 qw_46 0 cA_47 ((2 * (1 <<< (h &&& 31))) * 8).toNatClampNeg (fun _ => 0) (Int32.ofNat ((2 * (1 <<< (h &&& 31))) * 8).toNatClampNeg * 4) rfl) (cwV 0 hts gX6_init_X0_fill_27 rfl rfl rfl (by decide +kernel) ⟨(Nat.le_of_ble_eq_true rfl), (Nat.le_of_ble_eq_true rfl)⟩) ⟨fun a U g mk q => by obtain ⟨q0, q1, qP, qK, qD⟩ := q; exact ⟨q0, q1, qP, va_K.moved (u := U) (U := U.calling g mk a) (Vm.Alike.refl U.vm) qK, qD⟩, va_recv hKc hPc (ci := 0) (q0 := 0) rfl rfl, fun U hU hW => ⟨rfl, by rw [hU], by rw [hU]; exact hPc, va_K.moved hW.alike hKc, hDc.weaken (fun _ _ _ _ => trivial)⟩⟩ rfl rfl hl.1 rfl (lv_room (Nat.le_of_ble_eq_true rfl)) dX6_init_40 ⟨(Nat.le_of_ble_eq_true rfl), (Nat.le_of_ble_eq_true rfl)⟩) hS (fun q _ h => hFc q h) hFc (fun u t H1 locs ht hvm hw hB hz1 hk1 hS => ?_)
  obtain ⟨hP1, hK1, hD1⟩ := hB
  rw [ht] at hP1
  have hK1 := va_K.moved hvm.symm hK1
  obtain ⟨hP, hD⟩ := va_join (wr := [(h0, .inr (6, [.int h, .int (1 <<< (h &&& 31)), .ref q44, .null, .null, .null, .null, .null, .null, .null, .int 0]))]) (w1 := [(q44, .inr (0, [.ref qw_46, .int (Int32.ofNat ((2 * (1 <<< (h &&& 31))) * 8).toNatClampNeg * 4)])), (qw_46, .inl (cA_47, ((2 * (1 <<< (h &&& 31))) * 8).toNatClampNeg, .inl (fun _ => 0)))]) hP hD [1, 2] [0] rfl rfl (by decide) (by decide) hk1 hFc hP1 hD1
  have hK := hK.sub (tys' := []) [] rfl
  have hK := hK.app hK1
  generalize H1 = H at hP hS ⊢
  have hP : va_P (dC, dI) classes [(h0, .inr (6, [.int h, .int (1 <<< (h &&& 31)), .ref q44, .null, .null, .null, .null, .null, .null, .null, .int 0])), (q44, .inr (0, [.ref qw_46, .int (Int32.ofNat ((2 * (1 <<< (h &&& 31))) * 8).toNatClampNeg * 4)])), (qw_46, .inl (cA_47, ((2 * (1 <<< (h &&& 31))) * 8).toNatClampNeg, .inl (fun _ => 0)))] H := hP
  have hD : va_D A [(h0, .inr (6, [.int h, .int (1 <<< (h &&& 31)), .ref q44, .null, .null, .null, .null, .null, .null, .null, .int 0])), (q44, .inr (0, [.ref qw_46, .int (Int32.ofNat ((2 * (1 <<< (h &&& 31))) * 8).toNatClampNeg * 4)])), (qw_46, .inl (cA_47, ((2 * (1 <<< (h &&& 31))) * 8).toNatClampNeg, .inl (fun _ => 0)))] := hD
  have hK : va_K (dC, dI) classes [(cA_47, .int)] s := hK
  refine W.widen (k := 2) (n := 258) (Nat.le_of_ble_eq_true rfl) (Nat.le_of_ble_eq_true rfl) ?_
  have hP := hP.sub (ws' := [(h0, .inr (6, [.int h, .int (1 <<< (h &&& 31)), .ref q44, .null, .null, .null, .null, .null, .null, .null, .int 0]))]) [0] rfl
  have hD := hD.sub (ws' := [(h0, .inr (6, [.int h, .int (1 <<< (h &&& 31)), .ref q44, .null, .null, .null, .null, .null, .null, .null, .int 0]))]) [0] (by decide) rfl
  have hK := hK.sub (tys' := []) [] rfl
  refine lv_aload_n hx hb dX6_init_43 rfl (lv_at hl 0 rfl) ?_
  refine va_new (ci := 2) (fs := [.null, .null, .null, .null, .null, .null]) (C := RX2) (T := TX2) (N := 6) hx hb hts iX6_init_X2 tyX2 tyX2_ok hown (hts (.classLink RX6 30 RX2) (List.mem_of_getElem? (i := 21) rfl)) (hts (.instantiable RX2 6) (List.mem_of_getElem? (i := 22) rfl)) (hts (.initialized RX2) (List.mem_of_getElem? (i := 23) rfl)) hK hP hD hS hA rfl (by decide) (Nat.le_of_ble_eq_true rfl) (Nat.le_of_ble_eq_true rfl) dX6_init_44 (fun q49 H hP hD hS => ?_)
  have hP : va_P (dC, dI) classes [(h0, .inr (6, [.int h, .int (1 <<< (h &&& 31)), .ref q44, .null, .null, .null, .null, .null, .null, .null, .int 0])), (q49, .inr (2, [.null, .null, .null, .null, .null, .null]))] H := hP
  have hD : va_D A [(h0, .inr (6, [.int h, .int (1 <<< (h &&& 31)), .ref q44, .null, .null, .null, .null, .null, .null, .null, .int 0])), (q49, .inr (2, [.null, .null, .null, .null, .null, .null]))] := hD
  refine W.widen (k := 3) (n := 264) (Nat.le_of_ble_eq_true rfl) (Nat.le_of_ble_eq_true rfl) ?_
  refine lv_dup hx hb dX6_init_47 rfl ?_
  have hPc := hP.sub (ws' := [(q49, .inr (2, [.null, .null, .null, .null, .null, .null]))]) [1] rfl
  have hDc := hD.sub (ws' := [(q49, .inr (2, [.null, .null, .null, .null, .null, .null]))]) [1] (by decide) rfl
  have hKc := hK.sub (tys' := []) [] rfl
  have hFc := va_free (wc := [(q49, .inr (2, [.null, .null, .null, .null, .null, .null]))]) hD hS hA [1] rfl
  refine va_callv (va_runI (As := []) (rest := [.ref q49, .ref h0]) ⟨hx, hb, hml, hown, hts⟩ (ct_Hashes l dC dI H.size q49) (cwI 0 hts gX6_init_X2_init_32 rfl rfl rfl (hts (.initialized RX2) (List.mem_of_getElem? (i := 23) rfl)) (hts (.methodLink RX6 32 yX2_init) (List.mem_of_getElem? (i := 41) rfl)) (hts (.instanceMethod yX2_init) (List.mem_of_getElem? (i := 42) rfl)) rfl (by decide +kernel) ⟨(Nat.le_of_ble_eq_true rfl), (Nat.le_of_ble_eq_true rfl)⟩) ⟨fun a U g mk q => by obtain ⟨q0, q1, qP, qK, qD⟩ := q; exact ⟨q0, q1, qP, va_K.moved (u := U) (U := U.calling g mk a) (Vm.Alike.refl U.vm) qK, qD⟩, fun U hU hW => ⟨rfl, by rw [hU], by rw [hU]; exact hPc, va_K.moved hW.alike hKc, hDc.weaken (fun _ _ _ _ => trivial)⟩⟩ rfl rfl hl.1 rfl (lv_room (Nat.le_of_ble_eq_true rfl)) dX6_init_48 ⟨(Nat.le_of_ble_eq_true rfl), (Nat.le_of_ble_eq_true rfl)⟩) hS (fun q _ h => hFc q h) hFc (fun u t H1 locs ht hvm hw hB hz1 hk1 hS => ?_)
  have hP1 : va_P (dC, dI) classes [] H1 := vx_P0
  have hD1 : va_D (va_A [(q49, .inr (2, [.null, .null, .null, .null, .null, .null]))] H.size) [] := vx_D0
  obtain ⟨hP, hD⟩ := va_join (wr := [(h0, .inr (6, [.int h, .int (1 <<< (h &&& 31)), .ref q44, .null, .null, .null, .null, .null, .null, .null, .int 0]))]) (w1 := []) hP hD [1] [0] rfl rfl (by decide) (by decide) hk1 hFc hP1 hD1
  have hK := hK.sub (tys' := []) [] rfl
  generalize H1 = H at hP hS ⊢
  have hP : va_P (dC, dI) classes [(h0, .inr (6, [.int h, .int (1 <<< (h &&& 31)), .ref q44, .null, .null, .null, .null, .null, .null, .null, .int 0]))] H := hP
  have hD : va_D A [(h0, .inr (6, [.int h, .int (1 <<< (h &&& 31)), .ref q44, .null, .null, .null, .null, .null, .null, .null, .int 0]))] := hD
  have hK : va_K (dC, dI) classes [] s := hK
  refine W.widen (k := 11) (n := 378) (Nat.le_of_ble_eq_true rfl) (Nat.le_of_ble_eq_true rfl) ?_
  refine va_putF (D := (dC, dI)) (ci := 6) (v := .ref q49) (ty := .object "LeafSigner$Hashes") (C := RX6) (T := TX6) (N := 11) hx hb hts iX6_init_X6 tyX6 tyX6_ok nmX6 hown hK hP hD hS 0 rfl rfl 3 (by decide) (hts (.fieldLink RX6 33 "LeafSigner$Tree" "hashes" "LLeafSigner$Hashes;") (List.mem_of_getElem? (i := 43) rfl)) (fun _ h9 => h9) rfl hin rfl (by decide +kernel) rfl rfl (Nat.le_of_ble_eq_true rfl) dX6_init_51 (fun H locs hP hD hS => ?_)
  have hP : va_P (dC, dI) classes [(h0, .inr (6, [.int h, .int (1 <<< (h &&& 31)), .ref q44, .ref q49, .null, .null, .null, .null, .null, .null, .int 0]))] H := hP
  have hD : va_D A [(h0, .inr (6, [.int h, .int (1 <<< (h &&& 31)), .ref q44, .ref q49, .null, .null, .null, .null, .null, .null, .int 0]))] := hD
  refine lv_aload_n hx hb dX6_init_54 rfl (lv_at hl 0 rfl) ?_
  refine va_new (ci := 4) (fs := [.null, .null, .null, .null, .null]) (C := RX4) (T := TX4) (N := 5) hx hb hts iX6_init_X4 tyX4 tyX4_ok hown (hts (.classLink RX6 37 RX4) (List.mem_of_getElem? (i := 44) rfl)) (hts (.instantiable RX4 5) (List.mem_of_getElem? (i := 45) rfl)) (hts (.initialized RX4) (List.mem_of_getElem? (i := 46) rfl)) hK hP hD hS hA rfl (by decide) (Nat.le_of_ble_eq_true rfl) (Nat.le_of_ble_eq_true rfl) dX6_init_55 (fun q51 H hP hD hS => ?_)
  have hP : va_P (dC, dI) classes [(h0, .inr (6, [.int h, .int (1 <<< (h &&& 31)), .ref q44, .ref q49, .null, .null, .null, .null, .null, .null, .int 0])), (q51, .inr (4, [.null, .null, .null, .null, .null]))] H := hP
  have hD : va_D A [(h0, .inr (6, [.int h, .int (1 <<< (h &&& 31)), .ref q44, .ref q49, .null, .null, .null, .null, .null, .null, .int 0])), (q51, .inr (4, [.null, .null, .null, .null, .null]))] := hD
  refine W.widen (k := 12) (n := 383) (Nat.le_of_ble_eq_true rfl) (Nat.le_of_ble_eq_true rfl) ?_
  refine lv_dup hx hb dX6_init_58 rfl ?_
  refine lv_aload_n hx hb dX6_init_59 rfl (lv_at hl 0 rfl) ?_
  refine va_get (D := (dC, dI)) (ci := 6) (v := .ref q49) (C := RX6) (T := TX6) (N := 11) hx hb hts iX6_init_X6 hown hK hP 0 rfl rfl 3 (by decide) (hts (.fieldLink RX6 33 "LeafSigner$Tree" "hashes" "LLeafSigner$Hashes;") (List.mem_of_getElem? (i := 43) rfl)) (fun _ h9 => h9) rfl dX6_init_60 ?_
  have hPc := hP.sub (ws' := [(q51, .inr (4, [.null, .null, .null, .null, .null]))]) [1] rfl
  have hDc := hD.sub (ws' := [(q51, .inr (4, [.null, .null, .null, .null, .null]))]) [1] (by decide) rfl
  have hKc := hK.sub (tys' := []) [] rfl
  have hFc := va_free (wc := [(q51, .inr (4, [.null, .null, .null, .null, .null]))]) hD hS hA [1] rfl
  refine va_callv (va_runI (As := [.ref q49]) (rest := [.ref q51, .ref h0]) ⟨hx, hb, hml, hown, hts⟩ (ct_OneTime l dC dI H.size q51 q49) (cwI 1 hts gX6_init_X4_init_39 rfl rfl rfl (hts (.initialized RX4) (List.mem_of_getElem? (i := 46) rfl)) (hts (.methodLink RX6 39 yX4_init) (List.mem_of_getElem? (i := 58) rfl)) (hts (.instanceMethod yX4_init) (List.mem_of_getElem? (i := 59) rfl)) rfl (by decide +kernel) ⟨(Nat.le_of_ble_eq_true rfl), (Nat.le_of_ble_eq_true rfl)⟩) ⟨fun a U g mk q => by obtain ⟨q0, q1, qP, qK, qD⟩ := q; exact ⟨q0, q1, qP, va_K.moved (u := U) (U := U.calling g mk a) (Vm.Alike.refl U.vm) qK, qD⟩, fun U hU hW => ⟨rfl, by rw [hU], by rw [hU]; exact hPc, va_K.moved hW.alike hKc, hDc.weaken (fun _ _ _ _ => trivial)⟩⟩ rfl rfl hl.1 rfl (lv_room (Nat.le_of_ble_eq_true rfl)) dX6_init_63 ⟨(Nat.le_of_ble_eq_true rfl), (Nat.le_of_ble_eq_true rfl)⟩) hS (fun q _ h => hFc q h) hFc (fun u t H1 locs ht hvm hw hB hz1 hk1 hS => ?_)
  have hP1 : va_P (dC, dI) classes [] H1 := vx_P0
  have hD1 : va_D (va_A [(q51, .inr (4, [.null, .null, .null, .null, .null]))] H.size) [] := vx_D0
  obtain ⟨hP, hD⟩ := va_join (wr := [(h0, .inr (6, [.int h, .int (1 <<< (h &&& 31)), .ref q44, .ref q49, .null, .null, .null, .null, .null, .null, .int 0]))]) (w1 := []) hP hD [1] [0] rfl rfl (by decide) (by decide) hk1 hFc hP1 hD1
  have hK := hK.sub (tys' := []) [] rfl
  generalize H1 = H at hP hS ⊢
  have hP : va_P (dC, dI) classes [(h0, .inr (6, [.int h, .int (1 <<< (h &&& 31)), .ref q44, .ref q49, .null, .null, .null, .null, .null, .null, .int 0]))] H := hP
  have hD : va_D A [(h0, .inr (6, [.int h, .int (1 <<< (h &&& 31)), .ref q44, .ref q49, .null, .null, .null, .null, .null, .null, .int 0]))] := hD
  have hK : va_K (dC, dI) classes [] s := hK
  refine W.widen (k := 16) (n := 592) (Nat.le_of_ble_eq_true rfl) (Nat.le_of_ble_eq_true rfl) ?_
  refine va_putF (D := (dC, dI)) (ci := 6) (v := .ref q51) (ty := .object "LeafSigner$OneTime") (C := RX6) (T := TX6) (N := 11) hx hb hts iX6_init_X6 tyX6 tyX6_ok nmX6 hown hK hP hD hS 0 rfl rfl 4 (by decide) (hts (.fieldLink RX6 42 "LeafSigner$Tree" "oneTime" "LLeafSigner$OneTime;") (List.mem_of_getElem? (i := 60) rfl)) (fun _ h9 => h9) rfl hin rfl (by decide +kernel) rfl rfl (Nat.le_of_ble_eq_true rfl) dX6_init_66 (fun H locs hP hD hS => ?_)
  have hP : va_P (dC, dI) classes [(h0, .inr (6, [.int h, .int (1 <<< (h &&& 31)), .ref q44, .ref q49, .ref q51, .null, .null, .null, .null, .null, .int 0]))] H := hP
  have hD : va_D A [(h0, .inr (6, [.int h, .int (1 <<< (h &&& 31)), .ref q44, .ref q49, .ref q51, .null, .null, .null, .null, .null, .int 0]))] := hD
  refine lv_aload_n hx hb dX6_init_69 rfl (lv_at hl 0 rfl) ?_
  refine lv_bipush (v := 8) hx hb dX6_init_70 (by decide) ?_
  refine va_newa (a0 := (8, .inl (fun _ => 0))) hx hb (hts (.arrayClass .int) (List.mem_of_getElem? (i := 11) rfl)) rfl hK hP hD hS hA (fun _ => rfl) (by decide) (by decide) (by decide) (Nat.le_of_ble_eq_true rfl) (Nat.le_of_ble_eq_true rfl) dX6_init_72 (fun q53 cA54 H hK hP hD hS => ?_)
  have hK : va_K (dC, dI) classes [(cA54, .int)] s := hK
  have hP : va_P (dC, dI) classes [(h0, .inr (6, [.int h, .int (1 <<< (h &&& 31)), .ref q44, .ref q49, .ref q51, .null, .null, .null, .null, .null, .int 0])), (q53, .inl (cA54, 8, .inl (fun _ => 0)))] H := hP
  have hD : va_D A [(h0, .inr (6, [.int h, .int (1 <<< (h &&& 31)), .ref q44, .ref q49, .ref q51, .null, .null, .null, .null, .null, .int 0])), (q53, .inl (cA54, 8, .inl (fun _ => 0)))] := hD
  refine W.widen (k := 17) (n := 600) (Nat.le_of_ble_eq_true rfl) (Nat.le_of_ble_eq_true rfl) ?_
  refine va_putF (D := (dC, dI)) (ci := 6) (v := .ref q53) (ty := .array .int) (C := RX6) (T := TX6) (N := 11) hx hb hts iX6_init_X6 tyX6 tyX6_ok nmX6 hown hK hP hD hS 0 rfl rfl 5 (by decide) (hts (.fieldLink RX6 46 "LeafSigner$Tree" "secret" "[I") (List.mem_of_getElem? (i := 61) rfl)) (fun _ h9 => h9) rfl hin rfl (by decide +kernel) rfl rfl (Nat.le_of_ble_eq_true rfl) dX6_init_74 (fun H locs hP hD hS => ?_)
  have hP : va_P (dC, dI) classes [(h0, .inr (6, [.int h, .int (1 <<< (h &&& 31)), .ref q44, .ref q49, .ref q51, .ref q53, .null, .null, .null, .null, .int 0])), (q53, .inl (cA54, 8, .inl (fun _ => 0)))] H := hP
  have hD : va_D A [(h0, .inr (6, [.int h, .int (1 <<< (h &&& 31)), .ref q44, .ref q49, .ref q51, .ref q53, .null, .null, .null, .null, .int 0])), (q53, .inl (cA54, 8, .inl (fun _ => 0)))] := hD
  have hP := hP.sub (ws' := [(h0, .inr (6, [.int h, .int (1 <<< (h &&& 31)), .ref q44, .ref q49, .ref q51, .ref q53, .null, .null, .null, .null, .int 0]))]) [0] rfl
  have hD := hD.sub (ws' := [(h0, .inr (6, [.int h, .int (1 <<< (h &&& 31)), .ref q44, .ref q49, .ref q51, .ref q53, .null, .null, .null, .null, .int 0]))]) [0] (by decide) rfl
  have hK := hK.sub (tys' := []) [] rfl
  refine lv_aload_n hx hb dX6_init_77 rfl (lv_at hl 0 rfl) ?_
  refine lv_bipush (v := 8) hx hb dX6_init_78 (by decide) ?_
  refine va_newa (a0 := (8, .inl (fun _ => 0))) hx hb (hts (.arrayClass .int) (List.mem_of_getElem? (i := 11) rfl)) rfl hK hP hD hS hA (fun _ => rfl) (by decide) (by decide) (by decide) (Nat.le_of_ble_eq_true rfl) (Nat.le_of_ble_eq_true rfl) dX6_init_80 (fun q55 cA56 H hK hP hD hS => ?_)
  have hK : va_K (dC, dI) classes [(cA56, .int)] s := hK
  have hP : va_P (dC, dI) classes [(h0, .inr (6, [.int h, .int (1 <<< (h &&& 31)), .ref q44, .ref q49, .ref q51, .ref q53, .null, .null, .null, .null, .int 0])), (q55, .inl (cA56, 8, .inl (fun _ => 0)))] H := hP
  have hD : va_D A [(h0, .inr (6, [.int h, .int (1 <<< (h &&& 31)), .ref q44, .ref q49, .ref q51, .ref q53, .null, .null, .null, .null, .int 0])), (q55, .inl (cA56, 8, .inl (fun _ => 0)))] := hD
  refine W.widen (k := 18) (n := 608) (Nat.le_of_ble_eq_true rfl) (Nat.le_of_ble_eq_true rfl) ?_
  refine va_putF (D := (dC, dI)) (ci := 6) (v := .ref q55) (ty := .array .int) (C := RX6) (T := TX6) (N := 11) hx hb hts iX6_init_X6 tyX6 tyX6_ok nmX6 hown hK hP hD hS 0 rfl rfl 6 (by decide) (hts (.fieldLink RX6 50 "LeafSigner$Tree" "randomKey" "[I") (List.mem_of_getElem? (i := 62) rfl)) (fun _ h9 => h9) rfl hin rfl (by decide +kernel) rfl rfl (Nat.le_of_ble_eq_true rfl) dX6_init_82 (fun H locs hP hD hS => ?_)
  have hP : va_P (dC, dI) classes [(h0, .inr (6, [.int h, .int (1 <<< (h &&& 31)), .ref q44, .ref q49, .ref q51, .ref q53, .ref q55, .null, .null, .null, .int 0])), (q55, .inl (cA56, 8, .inl (fun _ => 0)))] H := hP
  have hD : va_D A [(h0, .inr (6, [.int h, .int (1 <<< (h &&& 31)), .ref q44, .ref q49, .ref q51, .ref q53, .ref q55, .null, .null, .null, .int 0])), (q55, .inl (cA56, 8, .inl (fun _ => 0)))] := hD
  have hP := hP.sub (ws' := [(h0, .inr (6, [.int h, .int (1 <<< (h &&& 31)), .ref q44, .ref q49, .ref q51, .ref q53, .ref q55, .null, .null, .null, .int 0]))]) [0] rfl
  have hD := hD.sub (ws' := [(h0, .inr (6, [.int h, .int (1 <<< (h &&& 31)), .ref q44, .ref q49, .ref q51, .ref q53, .ref q55, .null, .null, .null, .int 0]))]) [0] (by decide) rfl
  have hK := hK.sub (tys' := []) [] rfl
  refine lv_aload_n hx hb dX6_init_85 rfl (lv_at hl 0 rfl) ?_
  refine lv_bipush (v := 8) hx hb dX6_init_86 (by decide) ?_
  refine va_newa (a0 := (8, .inl (fun _ => 0))) hx hb (hts (.arrayClass .int) (List.mem_of_getElem? (i := 11) rfl)) rfl hK hP hD hS hA (fun _ => rfl) (by decide) (by decide) (by decide) (Nat.le_of_ble_eq_true rfl) (Nat.le_of_ble_eq_true rfl) dX6_init_88 (fun q57 cA58 H hK hP hD hS => ?_)
  have hK : va_K (dC, dI) classes [(cA58, .int)] s := hK
  have hP : va_P (dC, dI) classes [(h0, .inr (6, [.int h, .int (1 <<< (h &&& 31)), .ref q44, .ref q49, .ref q51, .ref q53, .ref q55, .null, .null, .null, .int 0])), (q57, .inl (cA58, 8, .inl (fun _ => 0)))] H := hP
  have hD : va_D A [(h0, .inr (6, [.int h, .int (1 <<< (h &&& 31)), .ref q44, .ref q49, .ref q51, .ref q53, .ref q55, .null, .null, .null, .int 0])), (q57, .inl (cA58, 8, .inl (fun _ => 0)))] := hD
  refine W.widen (k := 19) (n := 616) (Nat.le_of_ble_eq_true rfl) (Nat.le_of_ble_eq_true rfl) ?_
  refine va_putF (D := (dC, dI)) (ci := 6) (v := .ref q57) (ty := .array .int) (C := RX6) (T := TX6) (N := 11) hx hb hts iX6_init_X6 tyX6 tyX6_ok nmX6 hown hK hP hD hS 0 rfl rfl 7 (by decide) (hts (.fieldLink RX6 53 "LeafSigner$Tree" "digest" "[I") (List.mem_of_getElem? (i := 63) rfl)) (fun _ h9 => h9) rfl hin rfl (by decide +kernel) rfl rfl (Nat.le_of_ble_eq_true rfl) dX6_init_90 (fun H locs hP hD hS => ?_)
  have hP : va_P (dC, dI) classes [(h0, .inr (6, [.int h, .int (1 <<< (h &&& 31)), .ref q44, .ref q49, .ref q51, .ref q53, .ref q55, .ref q57, .null, .null, .int 0])), (q57, .inl (cA58, 8, .inl (fun _ => 0)))] H := hP
  have hD : va_D A [(h0, .inr (6, [.int h, .int (1 <<< (h &&& 31)), .ref q44, .ref q49, .ref q51, .ref q53, .ref q55, .ref q57, .null, .null, .int 0])), (q57, .inl (cA58, 8, .inl (fun _ => 0)))] := hD
  have hP := hP.sub (ws' := [(h0, .inr (6, [.int h, .int (1 <<< (h &&& 31)), .ref q44, .ref q49, .ref q51, .ref q53, .ref q55, .ref q57, .null, .null, .int 0]))]) [0] rfl
  have hD := hD.sub (ws' := [(h0, .inr (6, [.int h, .int (1 <<< (h &&& 31)), .ref q44, .ref q49, .ref q51, .ref q53, .ref q55, .ref q57, .null, .null, .int 0]))]) [0] (by decide) rfl
  have hK := hK.sub (tys' := []) [] rfl
  refine lv_aload_n hx hb dX6_init_93 rfl (lv_at hl 0 rfl) ?_
  refine lv_sipush (v := 536) hx hb dX6_init_94 (by decide) ?_
  refine va_newa (a0 := (536, .inl (fun _ => 0))) hx hb (hts (.arrayClass .int) (List.mem_of_getElem? (i := 11) rfl)) rfl hK hP hD hS hA (fun _ => rfl) (by decide) (by decide) (by decide) (Nat.le_of_ble_eq_true rfl) (Nat.le_of_ble_eq_true rfl) dX6_init_97 (fun q59 cA60 H hK hP hD hS => ?_)
  have hK : va_K (dC, dI) classes [(cA60, .int)] s := hK
  have hP : va_P (dC, dI) classes [(h0, .inr (6, [.int h, .int (1 <<< (h &&& 31)), .ref q44, .ref q49, .ref q51, .ref q53, .ref q55, .ref q57, .null, .null, .int 0])), (q59, .inl (cA60, 536, .inl (fun _ => 0)))] H := hP
  have hD : va_D A [(h0, .inr (6, [.int h, .int (1 <<< (h &&& 31)), .ref q44, .ref q49, .ref q51, .ref q53, .ref q55, .ref q57, .null, .null, .int 0])), (q59, .inl (cA60, 536, .inl (fun _ => 0)))] := hD
  refine W.widen (k := 20) (n := 1152) (Nat.le_of_ble_eq_true rfl) (Nat.le_of_ble_eq_true rfl) ?_
  refine va_putF (D := (dC, dI)) (ci := 6) (v := .ref q59) (ty := .array .int) (C := RX6) (T := TX6) (N := 11) hx hb hts iX6_init_X6 tyX6 tyX6_ok nmX6 hown hK hP hD hS 0 rfl rfl 8 (by decide) (hts (.fieldLink RX6 56 "LeafSigner$Tree" "parts" "[I") (List.mem_of_getElem? (i := 64) rfl)) (fun _ h9 => h9) rfl hin rfl (by decide +kernel) rfl rfl (Nat.le_of_ble_eq_true rfl) dX6_init_99 (fun H locs hP hD hS => ?_)
  have hP : va_P (dC, dI) classes [(h0, .inr (6, [.int h, .int (1 <<< (h &&& 31)), .ref q44, .ref q49, .ref q51, .ref q53, .ref q55, .ref q57, .ref q59, .null, .int 0])), (q59, .inl (cA60, 536, .inl (fun _ => 0)))] H := hP
  have hD : va_D A [(h0, .inr (6, [.int h, .int (1 <<< (h &&& 31)), .ref q44, .ref q49, .ref q51, .ref q53, .ref q55, .ref q57, .ref q59, .null, .int 0])), (q59, .inl (cA60, 536, .inl (fun _ => 0)))] := hD
  have hP := hP.sub (ws' := [(h0, .inr (6, [.int h, .int (1 <<< (h &&& 31)), .ref q44, .ref q49, .ref q51, .ref q53, .ref q55, .ref q57, .ref q59, .null, .int 0]))]) [0] rfl
  have hD := hD.sub (ws' := [(h0, .inr (6, [.int h, .int (1 <<< (h &&& 31)), .ref q44, .ref q49, .ref q51, .ref q53, .ref q55, .ref q57, .ref q59, .null, .int 0]))]) [0] (by decide) rfl
  have hK := hK.sub (tys' := []) [] rfl
  refine lv_aload_n hx hb dX6_init_102 rfl (lv_at hl 0 rfl) ?_
  refine lv_bipush (v := 16) hx hb dX6_init_103 (by decide) ?_
  refine va_newa (a0 := (16, .inl (fun _ => 0))) hx hb (hts (.arrayClass .int) (List.mem_of_getElem? (i := 11) rfl)) rfl hK hP hD hS hA (fun _ => rfl) (by decide) (by decide) (by decide) (Nat.le_of_ble_eq_true rfl) (Nat.le_of_ble_eq_true rfl) dX6_init_105 (fun q61 cA62 H hK hP hD hS => ?_)
  have hK : va_K (dC, dI) classes [(cA62, .int)] s := hK
  have hP : va_P (dC, dI) classes [(h0, .inr (6, [.int h, .int (1 <<< (h &&& 31)), .ref q44, .ref q49, .ref q51, .ref q53, .ref q55, .ref q57, .ref q59, .null, .int 0])), (q61, .inl (cA62, 16, .inl (fun _ => 0)))] H := hP
  have hD : va_D A [(h0, .inr (6, [.int h, .int (1 <<< (h &&& 31)), .ref q44, .ref q49, .ref q51, .ref q53, .ref q55, .ref q57, .ref q59, .null, .int 0])), (q61, .inl (cA62, 16, .inl (fun _ => 0)))] := hD
  refine W.widen (k := 21) (n := 1168) (Nat.le_of_ble_eq_true rfl) (Nat.le_of_ble_eq_true rfl) ?_
  refine va_putF (D := (dC, dI)) (ci := 6) (v := .ref q61) (ty := .array .int) (C := RX6) (T := TX6) (N := 11) hx hb hts iX6_init_X6 tyX6 tyX6_ok nmX6 hown hK hP hD hS 0 rfl rfl 9 (by decide) (hts (.fieldLink RX6 59 "LeafSigner$Tree" "pair" "[I") (List.mem_of_getElem? (i := 65) rfl)) (fun _ h9 => h9) rfl hin rfl (by decide +kernel) rfl rfl (Nat.le_of_ble_eq_true rfl) dX6_init_107 (fun H locs hP hD hS => ?_)
  have hP : va_P (dC, dI) classes [(h0, .inr (6, [.int h, .int (1 <<< (h &&& 31)), .ref q44, .ref q49, .ref q51, .ref q53, .ref q55, .ref q57, .ref q59, .ref q61, .int 0])), (q61, .inl (cA62, 16, .inl (fun _ => 0)))] H := hP
  have hD : va_D A [(h0, .inr (6, [.int h, .int (1 <<< (h &&& 31)), .ref q44, .ref q49, .ref q51, .ref q53, .ref q55, .ref q57, .ref q59, .ref q61, .int 0])), (q61, .inl (cA62, 16, .inl (fun _ => 0)))] := hD
  have hP := hP.sub (ws' := [(h0, .inr (6, [.int h, .int (1 <<< (h &&& 31)), .ref q44, .ref q49, .ref q51, .ref q53, .ref q55, .ref q57, .ref q59, .ref q61, .int 0]))]) [0] rfl
  have hD := hD.sub (ws' := [(h0, .inr (6, [.int h, .int (1 <<< (h &&& 31)), .ref q44, .ref q49, .ref q51, .ref q53, .ref q55, .ref q57, .ref q59, .ref q61, .int 0]))]) [0] (by decide) rfl
  have hK := hK.sub (tys' := []) [] rfl
  refine lv_aload_n hx hb dX6_init_110 rfl (lv_at hl 0 rfl) ?_
  refine lv_iconst (v := 0) hx hb dX6_init_111 (by decide) ?_
  refine va_put (D := (dC, dI)) (ci := 6) (v := .int 0) (ty := .boolean) (C := RX6) (T := TX6) (N := 11) hx hb hts iX6_init_X6 tyX6 tyX6_ok nmX6 hown hK hP hD hS 0 rfl rfl 10 (by decide) (hts (.fieldLink RX6 62 "LeafSigner$Tree" "grown" "Z") (List.mem_of_getElem? (i := 66) rfl)) (fun _ h9 => h9) rfl (by decide +kernel) rfl rfl (Nat.le_of_ble_eq_true rfl) dX6_init_112 (fun H locs hP hD hS => ?_)
  have hP : va_P (dC, dI) classes [(h0, .inr (6, [.int h, .int (1 <<< (h &&& 31)), .ref q44, .ref q49, .ref q51, .ref q53, .ref q55, .ref q57, .ref q59, .ref q61, .int 0]))] H := hP
  have hD : va_D A [(h0, .inr (6, [.int h, .int (1 <<< (h &&& 31)), .ref q44, .ref q49, .ref q51, .ref q53, .ref q55, .ref q57, .ref q59, .ref q61, .int 0]))] := hD
  refine W.widen (k := 21) (n := 1168) (Nat.le_of_ble_eq_true rfl) (Nat.le_of_ble_eq_true rfl) ?_
  exact W.vret hx hb hr (fun t ht hW => ⟨⟨(), rfl, trivial, trivial⟩, hS.F ht⟩) hS.2.2 dX6_init_115
def ww_X7_init : List Cond := .code yX7_init cX7_init 4 none :: ([.methodLink RX7 3 objectInit, .instanceMethod objectInit, .code objectInit ⟨#[0xb1]⟩ 1 none, .methodLink RX7 9 Lib.Math.min.name, .static Lib.Math.min.name, .initialized "java/lang/Math", .code Lib.Math.min.name Lib.Math.min.code 2 (some .int), .methodLink RX7 15 Lib.Math.max.name, .static Lib.Math.max.name, .code Lib.Math.max.name Lib.Math.max.code 2 (some .int), .fieldLink RX7 18 "LeafSigner" "height" "I", .fieldLink RX7 22 "LeafSigner" "reserve" "I", .classLink RX7 25 RX0, .instantiable RX0 2, .initialized RX0, .code yX0_init cX0_init 2 none, .methodLink RX0 3 objectInit, .arrayClass .int, .fieldLink RX0 9 "LeafSigner$ByteRow" "words" "[I", .fieldLink RX0 15 "LeafSigner$ByteRow" "count" "I", .methodLink RX7 27 yX0_init, .instanceMethod yX0_init, .fieldLink RX7 30 "LeafSigner" "tape" "LLeafSigner$ByteRow;", .fieldLink RX7 34 "LeafSigner" "output" "LLeafSigner$ByteRow;", .fieldLink RX7 37 "LeafSigner" "held" "LLeafSigner$ByteRow;", .classLink RX7 40 RX1, .instantiable RX1 3, .initialized RX1, .code yX1_init cX1_init 1 none, .methodLink RX1 3 objectInit, .classLink RX1 9 RX0, .methodLink RX1 13 yX0_init, .fieldLink RX1 16 "LeafSigner$Disk" "bytes" "LLeafSigner$ByteRow;", .methodLink RX1 20 yX0_fill, .instanceMethod yX0_fill, .selects RX0 yX0_fill yX0_fill, .code yX0_fill cX0_fill 1 none, .fieldLink RX1 23 "LeafSigner$Disk" "written" "I", .fieldLink RX1 27 "LeafSigner$Disk" "fuseLeft" "I", .methodLink RX7 42 yX1_init, .instanceMethod yX1_init, .fieldLink RX7 43 "LeafSigner" "store" "LLeafSigner$Disk;", .classLink RX7 47 RX3, .instantiable RX3 7, .initialized RX3, .code yX3_init cX3_init 4 none, .methodLink RX3 1 objectInit, .fieldLink RX3 7 "LeafSigner$Machine" "fates" "[I", .fieldLink RX3 13 "LeafSigner$Machine" "reserve" "I", .fieldLink RX3 17 "LeafSigner$Machine" "disk" "LLeafSigner$Disk;", .fieldLink RX3 21 "LeafSigner$Machine" "state" "I", .fieldLink RX3 24 "LeafSigner$Machine" "next" "I", .fieldLink RX3 27 "LeafSigner$Machine" "end" "I", .fieldLink RX3 30 "LeafSigner$Machine" "sequence" "I", .methodLink RX7 49 yX3_init, .instanceMethod yX3_init, .fieldLink RX7 52 "LeafSigner" "machine" "LLeafSigner$Machine;", .classLink RX7 56 RX6, .instantiable RX6 11, .initialized RX6, .code yX6_init cX6_init 2 none, .methodLink RX6 3 objectInit, .fieldLink RX6 9 "LeafSigner$Tree" "height" "I", .fieldLink RX6 15 "LeafSigner$Tree" "leaves" "I", .classLink RX6 18 RX0, .methodLink RX6 20 yX0_init, .fieldLink RX6 23 "LeafSigner$Tree" "nodes" "LLeafSigner$ByteRow;", .methodLink RX6 27 yX0_fill, .classLink RX6 30 RX2, .instantiable RX2 6, .initialized RX2, .code yX2_init cX2_init 1 none, .methodLink RX2 3 objectInit, .classLink RX2 9 RX5, .instantiable RX5 2, .initialized RX5, .code yX5_init cX5_init 1 none, .methodLink RX5 3 objectInit, .fieldLink RX5 9 "LeafSigner$Sha256" "state" "[I", .fieldLink RX5 15 "LeafSigner$Sha256" "words" "[I", .methodLink RX2 11 yX5_init, .instanceMethod yX5_init, .fieldLink RX2 12 "LeafSigner$Hashes" "sha" "LLeafSigner$Sha256;", .fieldLink RX2 18 "LeafSigner$Hashes" "seedState" "[I", .fieldLink RX2 22 "LeafSigner$Hashes" "address" "[I", .fieldLink RX2 25 "LeafSigner$Hashes" "key" "[I", .fieldLink RX2 28 "LeafSigner$Hashes" "mask" "[I", .fieldLink RX2 31 "LeafSigner$Hashes" "otherMask" "[I", .methodLink RX6 32 yX2_init, .instanceMethod yX2_init, .fieldLink RX6 33 "LeafSigner$Tree" "hashes" "LLeafSigner$Hashes;", .classLink RX6 37 RX4, .instantiable RX4 5, .initialized RX4, .code yX4_init cX4_init 2 none, .methodLink RX4 3 objectInit, .fieldLink RX4 9 "LeafSigner$OneTime" "hashes" "LLeafSigner$Hashes;", .fieldLink RX4 15 "LeafSigner$OneTime" "leafSecret" "[I", .fieldLink RX4 19 "LeafSigner$OneTime" "bottoms" "[I", .fieldLink RX4 22 "LeafSigner$OneTime" "digits" "[I", .fieldLink RX4 25 "LeafSigner$OneTime" "tops" "[I", .methodLink RX4 28 yJ7_fill_53178, .static yJ7_fill_53178, .initialized RJ7, .code yJ7_fill_53178 cJ7_fill_53178 4 none, .methodLink RX6 39 yX4_init, .instanceMethod yX4_init, .fieldLink RX6 42 "LeafSigner$Tree" "oneTime" "LLeafSigner$OneTime;", .fieldLink RX6 46 "LeafSigner$Tree" "secret" "[I", .fieldLink RX6 50 "LeafSigner$Tree" "randomKey" "[I", .fieldLink RX6 53 "LeafSigner$Tree" "digest" "[I", .fieldLink RX6 56 "LeafSigner$Tree" "parts" "[I", .fieldLink RX6 59 "LeafSigner$Tree" "pair" "[I", .fieldLink RX6 62 "LeafSigner$Tree" "grown" "Z", .methodLink RX7 58 yX6_init, .instanceMethod yX6_init, .fieldLink RX7 59 "LeafSigner" "tree" "LLeafSigner$Tree;"] ++ (wsX70 ++ wsX00 ++ wsX10 ++ wsX30 ++ wsX60 ++ wsX20 ++ wsX50 ++ wsX40))
theorem iX7_init_X7 : ∀ w ∈ wsX70, w ∈ ww_X7_init := fun w h => List.mem_cons_of_mem _ (List.mem_append_right _ (List.mem_append_left _ (List.mem_append_left _ (List.mem_append_left _ (List.mem_append_left _ (List.mem_append_left _ (List.mem_append_left _ (List.mem_append_left _ h))))))))
theorem iX7_init_X0 : ∀ w ∈ wsX00, w ∈ ww_X7_init := fun w h => List.mem_cons_of_mem _ (List.mem_append_right _ (List.mem_append_left _ (List.mem_append_left _ (List.mem_append_left _ (List.mem_append_left _ (List.mem_append_left _ (List.mem_append_left _ (List.mem_append_right _ h))))))))
theorem iX7_init_X1 : ∀ w ∈ wsX10, w ∈ ww_X7_init := fun w h => List.mem_cons_of_mem _ (List.mem_append_right _ (List.mem_append_left _ (List.mem_append_left _ (List.mem_append_left _ (List.mem_append_left _ (List.mem_append_left _ (List.mem_append_right _ h)))))))
theorem iX7_init_X3 : ∀ w ∈ wsX30, w ∈ ww_X7_init := fun w h => List.mem_cons_of_mem _ (List.mem_append_right _ (List.mem_append_left _ (List.mem_append_left _ (List.mem_append_left _ (List.mem_append_left _ (List.mem_append_right _ h))))))
theorem iX7_init_X6 : ∀ w ∈ wsX60, w ∈ ww_X7_init := fun w h => List.mem_cons_of_mem _ (List.mem_append_right _ (List.mem_append_left _ (List.mem_append_left _ (List.mem_append_left _ (List.mem_append_right _ h)))))
theorem iX7_init_X2 : ∀ w ∈ wsX20, w ∈ ww_X7_init := fun w h => List.mem_cons_of_mem _ (List.mem_append_right _ (List.mem_append_left _ (List.mem_append_left _ (List.mem_append_right _ h))))
theorem iX7_init_X5 : ∀ w ∈ wsX50, w ∈ ww_X7_init := fun w h => List.mem_cons_of_mem _ (List.mem_append_right _ (List.mem_append_left _ (List.mem_append_right _ h)))
theorem iX7_init_X4 : ∀ w ∈ wsX40, w ∈ ww_X7_init := fun w h => List.mem_cons_of_mem _ (List.mem_append_right _ (List.mem_append_right _ h))
set_option maxRecDepth 20000 in
theorem gX7_init_X0_init_27 : GoodIn ww_X7_init ww_X0_init := vx_good _ [16, 17, 2, 3, 18, 19, 20, 126, 127] rfl (by decide +kernel)
set_option maxRecDepth 20000 in
theorem gX7_init_X1_init_42 : GoodIn ww_X7_init ww_X1_init := vx_good _ [29, 30, 2, 3, 31, 14, 15, 16, 17, 18, 19, 20, 32, 22, 33, 34, 35, 36, 37, 38, 39, 126, 127, 128, 129, 130] rfl (by decide +kernel)
set_option maxRecDepth 20000 in
theorem gX7_init_X3_init_49 : GoodIn ww_X7_init ww_X3_init := vx_good _ [46, 47, 2, 3, 18, 48, 49, 50, 51, 52, 53, 54, 131, 132, 133, 134, 135, 136, 137] rfl (by decide +kernel)
set_option maxRecDepth 20000 in
theorem gX7_init_X6_init_58 : GoodIn ww_X7_init ww_X6_init := vx_good _ [61, 62, 2, 3, 63, 64, 65, 14, 15, 16, 17, 18, 19, 20, 66, 22, 67, 68, 35, 36, 37, 69, 70, 71, 72, 73, 74, 75, 76, 77, 78, 79, 80, 81, 82, 83, 84, 85, 86, 87, 88, 89, 90, 91, 92, 93, 94, 95, 96, 97, 98, 99, 100, 101, 102, 103, 104, 105, 106, 107, 108, 109, 110, 111, 112, 113, 114, 138, 139, 140, 141, 142, 143, 144, 145, 146, 147, 148, 126, 127, 149, 150, 151, 152, 153, 154, 155, 156, 157, 158, 159, 160, 161] rfl (by decide +kernel)
set_option maxHeartbeats 4000000 in
set_option maxRecDepth 100000 in
theorem ct_Signer (l : Launch) (dC : Nat → ClassId) (dI : Nat → Nat → Nat) (sz : Nat) (h0 : Nat) (k1 : Int32) (k2 : Int32) : Met l yX7_init ww_X7_init ({ frames := 4, cells := 33, slots := 2423, locals := 81 }) (va_Pc [.ref h0, .int k1, .int k2] (fun U => U.heap.size = sz ∧ va_P (dC, dI) classes [(h0, .inr (7, [.int 0, .int 0, .null, .null, .null, .null, .null, .null]))] U.heap ∧ va_K (dC, dI) classes [] U ∧ va_D (fun _ => True) [(h0, .inr (7, [.int 0, .int 0, .null, .null, .null, .null, .null, .null]))])) (va_Qv (fun (_ : Unit) => True) (fun (_ : Unit) (t : State) => ∃ xt : Nat, ∃ xo : Nat, ∃ xh : Nat, ∃ xs : Nat, ∃ xm : Nat, ∃ xq : Nat, ∃ xtw : Nat, ∃ xow : Nat, ∃ xhw : Nat, ∃ xb : Nat, ∃ xbw : Nat, ∃ xf : Nat, ∃ cT : ClassId, ∃ cO : ClassId, ∃ cH : ClassId, ∃ cB : ClassId, ∃ cF : ClassId, va_P (dC, dI) classes [(h0, .inr (7, [.int (ch_h k1), .int (ch_r k2), .ref xt, .ref xo, .ref xh, .ref xs, .ref xm, .ref xq])), (xt, .inr (0, [.ref xtw, .int 0])), (xtw, .inl (cT, 50, .inl (fun _ => 0))), (xo, .inr (0, [.ref xow, .int 0])), (xow, .inl (cO, (ch_N (ch_h k1)), .inl (fun _ => 0))), (xh, .inr (0, [.ref xhw, .int 0])), (xhw, .inl (cH, (ch_N (ch_h k1)), .inl (fun _ => 0))), (xs, .inr (1, [.ref xb, .int 0, .int (-1)])), (xb, .inr (0, [.ref xbw, .int 24])), (xbw, .inl (cB, 6, .inl (fun _ => 0))), (xm, .inr (3, [.ref xf, .int (ch_r k2), .ref xs, .int 0, .int 0, .int 0, .int 0])), (xf, .inl (cF, (ch_L (ch_h k1)), .inl (fun _ => 0)))] t.heap ∧ va_K (dC, dI) classes [(cT, .int), (cO, .int), (cH, .int), (cB, .int), (cF, .int)] t ∧ va_D (va_A [(h0, .inr (7, [.int 0, .int 0, .null, .null, .null, .null, .null, .null]))] sz) [(h0, .inr (7, [.int (ch_h k1), .int (ch_r k2), .ref xt, .ref xo, .ref xh, .ref xs, .ref xm, .ref xq])), (xt, .inr (0, [.ref xtw, .int 0])), (xtw, .inl (cT, 50, .inl (fun _ => 0))), (xo, .inr (0, [.ref xow, .int 0])), (xow, .inl (cO, (ch_N (ch_h k1)), .inl (fun _ => 0))), (xh, .inr (0, [.ref xhw, .int 0])), (xhw, .inl (cH, (ch_N (ch_h k1)), .inl (fun _ => 0))), (xs, .inr (1, [.ref xb, .int 0, .int (-1)])), (xb, .inr (0, [.ref xbw, .int 24])), (xbw, .inl (cB, 6, .inl (fun _ => 0))), (xm, .inr (3, [.ref xf, .int (ch_r k2), .ref xs, .int 0, .int 0, .int 0, .int 0])), (xf, .inl (cF, (ch_L (ch_h k1)), .inl (fun _ => 0)))]) (va_A [(h0, .inr (7, [.int 0, .int 0, .null, .null, .null, .null, .null, .null]))] sz)) 33 2423 (va_A [(h0, .inr (7, [.int 0, .int 0, .null, .null, .null, .null, .null, .null]))] sz) := by
  refine Met.ofW (cc := cX7_init) (maxL := 4) (ret := none) (by decide) rfl ?_
  intro p e s m args below meth c s₁ B hml hv
  obtain ⟨rfl, hsz, hP, hK, hD0⟩ := hv
  have hx := B.exec
  have hb := B.bytes
  have hr := B.returns
  have hts := atoms_spec (ws := ww_X7_init) B.pre
  have hown : s.vm.findClass RX7 = some m.cls := findClass_of_methodNamed B.named
  have hlocks := B.notSynchronized
  have hin : meth.name = "<init>" := (name_of_methodNamed B.named B.method).1
  subst hsz
  have hD := hD0.self (sz := s.heap.size)
  generalize hAe : va_A [(h0, .inr (7, [.int 0, .int 0, .null, .null, .null, .null, .null, .null]))] s.heap.size = A at hD ⊢
  have hA : ∀ q : Nat, s.heap.size ≤ q → A q := fun q h => by rw [← hAe]; exact Or.inr h
  have hS : va_S A s.heap s.heap [] := va_S.rf
  have hP : va_P (dC, dI) classes [(h0, .inr (7, [.int 0, .int 0, .null, .null, .null, .null, .null, .null]))] s.heap := hP
  have hl := lv_entry ([.ref h0, .int k1, .int k2]) (n := 4) (Nat.le_of_ble_eq_true rfl)
  rw [lg_entry_eq]
  generalize (lg_sl ([.ref h0, .int k1, .int k2]) ++ List.replicate (4 - (lg_sl ([.ref h0, .int k1, .int k2])).length) Slot.unset).toArray = ls at hl ⊢
  have hl : lv_has ls 4 [(0, .ref h0), (1, .int k1), (2, .int k2)] := hl
  generalize hHe : s.heap = H at hP ⊢
  have hS : va_S A s.heap H [] := by rw [← hHe]; exact va_S.rf
  refine lv_aload_n hx hb dX7_init_0 rfl (lv_at hl 0 rfl) ?_
  refine W.objInit hx hb hown (hts (.methodLink RX7 3 objectInit) (List.mem_of_getElem? (i := 1) rfl)) (hts (.instanceMethod objectInit) (List.mem_of_getElem? (i := 2) rfl)) (hts (.code objectInit ⟨#[0xb1]⟩ 1 none) (List.mem_of_getElem? (i := 3) rfl)) rfl (by rw [hml]; exact hl.1) rfl dX7_init_1 (Nat.le_of_ble_eq_true rfl) (Nat.le_of_ble_eq_true rfl) ?_
  refine W.eq (g2 := F0 m 4 ls []) rfl ?_
  refine lv_aload_n hx hb dX7_init_4 rfl (lv_at hl 0 rfl) ?_
  refine lv_iconst (v := 1) hx hb dX7_init_5 (by decide) ?_
  refine lv_iconst (v := 4) hx hb dX7_init_6 (by decide) ?_
  refine lv_iload_n hx hb dX7_init_7 rfl (lv_at hl 1 rfl) ?_
  refine va_mmin hx hb (hml.trans hl.1.symm) hown (hts (.methodLink RX7 9 Lib.Math.min.name) (List.mem_of_getElem? (i := 4) rfl)) (hts (.static Lib.Math.min.name) (List.mem_of_getElem? (i := 5) rfl)) (hts (.initialized "java/lang/Math") (List.mem_of_getElem? (i := 6) rfl)) (hts (.code Lib.Math.min.name Lib.Math.min.code 2 (some .int)) (List.mem_of_getElem? (i := 7) rfl)) (Nat.le_of_ble_eq_true rfl) (Nat.le_of_ble_eq_true rfl) (Nat.le_of_ble_eq_true rfl) (Nat.le_of_ble_eq_true rfl) dX7_init_8 ?_
  refine va_mmax hx hb (hml.trans hl.1.symm) hown (hts (.methodLink RX7 15 Lib.Math.max.name) (List.mem_of_getElem? (i := 8) rfl)) (hts (.static Lib.Math.max.name) (List.mem_of_getElem? (i := 9) rfl)) (hts (.initialized "java/lang/Math") (List.mem_of_getElem? (i := 6) rfl)) (hts (.code Lib.Math.max.name Lib.Math.max.code 2 (some .int)) (List.mem_of_getElem? (i := 10) rfl)) (Nat.le_of_ble_eq_true rfl) (Nat.le_of_ble_eq_true rfl) (Nat.le_of_ble_eq_true rfl) (Nat.le_of_ble_eq_true rfl) dX7_init_11 ?_
  refine vx_topk (ch_h k1) rfl ?_
  refine va_putF (D := (dC, dI)) (ci := 7) (v := .int (ch_h k1)) (ty := .int) (C := RX7) (T := TX7) (N := 8) hx hb hts iX7_init_X7 tyX7 tyX7_ok nmX7 hown hK hP hD hS 0 rfl rfl 0 (by decide) (hts (.fieldLink RX7 18 "LeafSigner" "height" "I") (List.mem_of_getElem? (i := 11) rfl)) (fun _ h9 => h9) rfl hin rfl (by decide +kernel) rfl rfl (Nat.le_of_ble_eq_true rfl) dX7_init_14 (fun H locs hP hD hS => ?_)
  have hP : va_P (dC, dI) classes [(h0, .inr (7, [.int (ch_h k1), .int 0, .null, .null, .null, .null, .null, .null]))] H := hP
  have hD : va_D A [(h0, .inr (7, [.int (ch_h k1), .int 0, .null, .null, .null, .null, .null, .null]))] := hD
  refine lv_aload_n hx hb dX7_init_17 rfl (lv_at hl 0 rfl) ?_
  refine lv_iconst (v := 1) hx hb dX7_init_18 (by decide) ?_
  refine lv_bipush (v := 8) hx hb dX7_init_19 (by decide) ?_
  refine lv_iload_n hx hb dX7_init_21 rfl (lv_at hl 2 rfl) ?_
  refine va_mmin hx hb (hml.trans hl.1.symm) hown (hts (.methodLink RX7 9 Lib.Math.min.name) (List.mem_of_getElem? (i := 4) rfl)) (hts (.static Lib.Math.min.name) (List.mem_of_getElem? (i := 5) rfl)) (hts (.initialized "java/lang/Math") (List.mem_of_getElem? (i := 6) rfl)) (hts (.code Lib.Math.min.name Lib.Math.min.code 2 (some .int)) (List.mem_of_getElem? (i := 7) rfl)) (Nat.le_of_ble_eq_true rfl) (Nat.le_of_ble_eq_true rfl) (Nat.le_of_ble_eq_true rfl) (Nat.le_of_ble_eq_true rfl) dX7_init_22 ?_
  refine va_mmax hx hb (hml.trans hl.1.symm) hown (hts (.methodLink RX7 15 Lib.Math.max.name) (List.mem_of_getElem? (i := 8) rfl)) (hts (.static Lib.Math.max.name) (List.mem_of_getElem? (i := 9) rfl)) (hts (.initialized "java/lang/Math") (List.mem_of_getElem? (i := 6) rfl)) (hts (.code Lib.Math.max.name Lib.Math.max.code 2 (some .int)) (List.mem_of_getElem? (i := 10) rfl)) (Nat.le_of_ble_eq_true rfl) (Nat.le_of_ble_eq_true rfl) (Nat.le_of_ble_eq_true rfl) (Nat.le_of_ble_eq_true rfl) dX7_init_25 ?_
  refine vx_topk (ch_r k2) rfl ?_
  refine va_putF (D := (dC, dI)) (ci := 7) (v := .int (ch_r k2)) (ty := .int) (C := RX7) (T := TX7) (N := 8) hx hb hts iX7_init_X7 tyX7 tyX7_ok nmX7 hown hK hP hD hS 0 rfl rfl 1 (by decide) (hts (.fieldLink RX7 22 "LeafSigner" "reserve" "I") (List.mem_of_getElem? (i := 12) rfl)) (fun _ h9 => h9) rfl hin rfl (by decide +kernel) rfl rfl (Nat.le_of_ble_eq_true rfl) dX7_init_28 (fun H locs hP hD hS => ?_)
  have hP : va_P (dC, dI) classes [(h0, .inr (7, [.int (ch_h k1), .int (ch_r k2), .null, .null, .null, .null, .null, .null]))] H := hP
  have hD : va_D A [(h0, .inr (7, [.int (ch_h k1), .int (ch_r k2), .null, .null, .null, .null, .null, .null]))] := hD
  refine lv_sipush (v := 545) hx hb dX7_init_31 (by decide) ?_
  refine lv_aload_n hx hb dX7_init_34 rfl (lv_at hl 0 rfl) ?_
  refine va_get (D := (dC, dI)) (ci := 7) (v := .int (ch_h k1)) (C := RX7) (T := TX7) (N := 8) hx hb hts iX7_init_X7 hown hK hP 0 rfl rfl 0 (by decide) (hts (.fieldLink RX7 18 "LeafSigner" "height" "I") (List.mem_of_getElem? (i := 11) rfl)) (fun _ h9 => h9) rfl dX7_init_35 ?_
  refine lv_bipush (v := 8) hx hb dX7_init_38 (by decide) ?_
  refine lv_imul hx hb dX7_init_40 ?_
  refine lv_iadd hx hb dX7_init_41 ?_
  refine vx_topk (ch_n (ch_h k1)) rfl ?_
  refine lv_istore_n (lv' := [(3, .int (ch_n (ch_h k1))), (0, .ref h0), (1, .int k1), (2, .int k2)]) hx hb dX7_init_42 rfl hl (by decide) rfl (fun ls hl => ?_)
  refine lv_aload_n hx hb dX7_init_43 rfl (lv_at hl 1 rfl) ?_
  refine va_new (ci := 0) (fs := [.null, .int 0]) (C := RX0) (T := TX0) (N := 2) hx hb hts iX7_init_X0 tyX0 tyX0_ok hown (hts (.classLink RX7 25 RX0) (List.mem_of_getElem? (i := 13) rfl)) (hts (.instantiable RX0 2) (List.mem_of_getElem? (i := 14) rfl)) (hts (.initialized RX0) (List.mem_of_getElem? (i := 15) rfl)) hK hP hD hS hA rfl (by decide) (Nat.le_of_ble_eq_true rfl) (Nat.le_of_ble_eq_true rfl) dX7_init_44 (fun q63 H hP hD hS => ?_)
  have hP : va_P (dC, dI) classes [(h0, .inr (7, [.int (ch_h k1), .int (ch_r k2), .null, .null, .null, .null, .null, .null])), (q63, .inr (0, [.null, .int 0]))] H := hP
  have hD : va_D A [(h0, .inr (7, [.int (ch_h k1), .int (ch_r k2), .null, .null, .null, .null, .null, .null])), (q63, .inr (0, [.null, .int 0]))] := hD
  refine W.widen (k := 1) (n := 2) (Nat.le_of_ble_eq_true rfl) (Nat.le_of_ble_eq_true rfl) ?_
  refine lv_dup hx hb dX7_init_47 rfl ?_
  refine lv_bipush (v := 50) hx hb dX7_init_48 (by decide) ?_
  have hh := vx_h4 k1
  have hPc := hP.sub (ws' := [(q63, .inr (0, [.null, .int 0]))]) [1] rfl
  have hDc := hD.sub (ws' := [(q63, .inr (0, [.null, .int 0]))]) [1] (by decide) rfl
  have hKc := hK.sub (tys' := []) [] rfl
  have hFc := va_free (wc := [(q63, .inr (0, [.null, .int 0]))]) hD hS hA [1] rfl
  refine va_callv (va_runI (As := [.int 50]) (rest := [.ref q63, .ref h0]) ⟨hx, hb, hml, hown, hts⟩ (ct_ByteRow l dC dI H.size q63 50 50 50 (by decide) (by decide) (by decide) (by decide)) (cwI 1 hts gX7_init_X0_init_27 rfl rfl rfl (hts (.initialized RX0) (List.mem_of_getElem? (i := 15) rfl)) (hts (.methodLink RX7 27 yX0_init) (List.mem_of_getElem? (i := 21) rfl)) (hts (.instanceMethod yX0_init) (List.mem_of_getElem? (i := 22) rfl)) rfl (by decide +kernel) ⟨(Nat.le_of_ble_eq_true rfl), (Nat.le_of_ble_eq_true rfl)⟩) ⟨fun a U g mk q => by obtain ⟨q0, q1, qP, qK, qD⟩ := q; exact ⟨q0, q1, qP, va_K.moved (u := U) (U := U.calling g mk a) (Vm.Alike.refl U.vm) qK, qD⟩, fun U hU hW => ⟨rfl, by rw [hU], by rw [hU]; exact hPc, va_K.moved hW.alike hKc, hDc.weaken (fun _ _ _ _ => trivial)⟩⟩ rfl rfl hl.1 rfl (lv_room (Nat.le_of_ble_eq_true rfl)) dX7_init_50 ⟨(Nat.le_of_ble_eq_true rfl), (Nat.le_of_ble_eq_true rfl)⟩) hS (fun q _ h => hFc q h) hFc (fun u t H1 locs ht hvm hw hB hz1 hk1 hS => ?_)
  obtain ⟨qw_65, cA_66, hP1, hK1, hD1⟩ := hB
  rw [ht] at hP1
  have hK1 := va_K.moved hvm.symm hK1
  obtain ⟨hP, hD⟩ := va_join (wr := [(h0, .inr (7, [.int (ch_h k1), .int (ch_r k2), .null, .null, .null, .null, .null, .null]))]) (w1 := [(q63, .inr (0, [.ref qw_65, .int 0])), (qw_65, .inl (cA_66, 50, .inl (fun _ => 0)))]) hP hD [1] [0] rfl rfl (by decide) (by decide) hk1 hFc hP1 hD1
  have hK := hK.sub (tys' := []) [] rfl
  have hK := hK.app hK1
  generalize H1 = H at hP hS ⊢
  have hP : va_P (dC, dI) classes [(h0, .inr (7, [.int (ch_h k1), .int (ch_r k2), .null, .null, .null, .null, .null, .null])), (q63, .inr (0, [.ref qw_65, .int 0])), (qw_65, .inl (cA_66, 50, .inl (fun _ => 0)))] H := hP
  have hD : va_D A [(h0, .inr (7, [.int (ch_h k1), .int (ch_r k2), .null, .null, .null, .null, .null, .null])), (q63, .inr (0, [.ref qw_65, .int 0])), (qw_65, .inl (cA_66, 50, .inl (fun _ => 0)))] := hD
  have hK : va_K (dC, dI) classes [(cA_66, .int)] s := hK
  refine W.widen (k := 2) (n := 52) (Nat.le_of_ble_eq_true rfl) (Nat.le_of_ble_eq_true rfl) ?_
  refine va_putF (D := (dC, dI)) (ci := 7) (v := .ref q63) (ty := .object "LeafSigner$ByteRow") (C := RX7) (T := TX7) (N := 8) hx hb hts iX7_init_X7 tyX7 tyX7_ok nmX7 hown hK hP hD hS 0 rfl rfl 2 (by decide) (hts (.fieldLink RX7 30 "LeafSigner" "tape" "LLeafSigner$ByteRow;") (List.mem_of_getElem? (i := 23) rfl)) (fun _ h9 => h9) rfl hin rfl (by decide +kernel) rfl rfl (Nat.le_of_ble_eq_true rfl) dX7_init_53 (fun H locs hP hD hS => ?_)
  have hP : va_P (dC, dI) classes [(h0, .inr (7, [.int (ch_h k1), .int (ch_r k2), .ref q63, .null, .null, .null, .null, .null])), (q63, .inr (0, [.ref qw_65, .int 0])), (qw_65, .inl (cA_66, 50, .inl (fun _ => 0)))] H := hP
  have hD : va_D A [(h0, .inr (7, [.int (ch_h k1), .int (ch_r k2), .ref q63, .null, .null, .null, .null, .null])), (q63, .inr (0, [.ref qw_65, .int 0])), (qw_65, .inl (cA_66, 50, .inl (fun _ => 0)))] := hD
  refine lv_aload_n hx hb dX7_init_56 rfl (lv_at hl 1 rfl) ?_
  refine va_new (ci := 0) (fs := [.null, .int 0]) (C := RX0) (T := TX0) (N := 2) hx hb hts iX7_init_X0 tyX0 tyX0_ok hown (hts (.classLink RX7 25 RX0) (List.mem_of_getElem? (i := 13) rfl)) (hts (.instantiable RX0 2) (List.mem_of_getElem? (i := 14) rfl)) (hts (.initialized RX0) (List.mem_of_getElem? (i := 15) rfl)) hK hP hD hS hA rfl (by decide) (Nat.le_of_ble_eq_true rfl) (Nat.le_of_ble_eq_true rfl) dX7_init_57 (fun q67 H hP hD hS => ?_)
  have hP : va_P (dC, dI) classes [(h0, .inr (7, [.int (ch_h k1), .int (ch_r k2), .ref q63, .null, .null, .null, .null, .null])), (q63, .inr (0, [.ref qw_65, .int 0])), (qw_65, .inl (cA_66, 50, .inl (fun _ => 0))), (q67, .inr (0, [.null, .int 0]))] H := hP
  have hD : va_D A [(h0, .inr (7, [.int (ch_h k1), .int (ch_r k2), .ref q63, .null, .null, .null, .null, .null])), (q63, .inr (0, [.ref qw_65, .int 0])), (qw_65, .inl (cA_66, 50, .inl (fun _ => 0))), (q67, .inr (0, [.null, .int 0]))] := hD
  refine W.widen (k := 3) (n := 54) (Nat.le_of_ble_eq_true rfl) (Nat.le_of_ble_eq_true rfl) ?_
  refine lv_dup hx hb dX7_init_60 rfl ?_
  refine lv_iload_n hx hb dX7_init_61 rfl (lv_at hl 0 rfl) ?_
  have hPc := hP.sub (ws' := [(q67, .inr (0, [.null, .int 0]))]) [3] rfl
  have hDc := hD.sub (ws' := [(q67, .inr (0, [.null, .int 0]))]) [3] (by decide) rfl
  have hKc := hK.sub (tys' := []) [] rfl
  have hFc := va_free (wc := [(q67, .inr (0, [.null, .int 0]))]) hD hS hA [3] rfl
  refine va_callv (va_runI (As := [.int (ch_n (ch_h k1))]) (rest := [.ref q67, .ref h0]) ⟨hx, hb, hml, hown, hts⟩ (ct_ByteRow l dC dI H.size q67 (ch_n (ch_h k1)) (ch_N (ch_h k1)) 577 (vx_n hh).1 rfl (vx_nN hh) (Nat.le_trans (vx_nN hh) (by decide))) (cwI 1 hts gX7_init_X0_init_27 rfl rfl rfl (hts (.initialized RX0) (List.mem_of_getElem? (i := 15) rfl)) (hts (.methodLink RX7 27 yX0_init) (List.mem_of_getElem? (i := 21) rfl)) (hts (.instanceMethod yX0_init) (List.mem_of_getElem? (i := 22) rfl)) rfl (by decide +kernel) ⟨(Nat.le_of_ble_eq_true rfl), (Nat.le_of_ble_eq_true rfl)⟩) ⟨fun a U g mk q => by obtain ⟨q0, q1, qP, qK, qD⟩ := q; exact ⟨q0, q1, qP, va_K.moved (u := U) (U := U.calling g mk a) (Vm.Alike.refl U.vm) qK, qD⟩, fun U hU hW => ⟨rfl, by rw [hU], by rw [hU]; exact hPc, va_K.moved hW.alike hKc, hDc.weaken (fun _ _ _ _ => trivial)⟩⟩ rfl rfl hl.1 rfl (lv_room (Nat.le_of_ble_eq_true rfl)) dX7_init_62 ⟨(Nat.le_of_ble_eq_true rfl), (Nat.le_of_ble_eq_true rfl)⟩) hS (fun q _ h => hFc q h) hFc (fun u t H1 locs ht hvm hw hB hz1 hk1 hS => ?_)
  obtain ⟨qw_69, cA_70, hP1, hK1, hD1⟩ := hB
  rw [ht] at hP1
  have hK1 := va_K.moved hvm.symm hK1
  obtain ⟨hP, hD⟩ := va_join (wr := [(h0, .inr (7, [.int (ch_h k1), .int (ch_r k2), .ref q63, .null, .null, .null, .null, .null])), (q63, .inr (0, [.ref qw_65, .int 0])), (qw_65, .inl (cA_66, 50, .inl (fun _ => 0)))]) (w1 := [(q67, .inr (0, [.ref qw_69, .int 0])), (qw_69, .inl (cA_70, (ch_N (ch_h k1)), .inl (fun _ => 0)))]) hP hD [3] [0, 1, 2] rfl rfl (by decide) (by decide) hk1 hFc hP1 hD1
  have hK := hK.sub (tys' := [(cA_66, .int)]) [0] rfl
  have hK := hK.app hK1
  generalize H1 = H at hP hS ⊢
  have hP : va_P (dC, dI) classes [(h0, .inr (7, [.int (ch_h k1), .int (ch_r k2), .ref q63, .null, .null, .null, .null, .null])), (q63, .inr (0, [.ref qw_65, .int 0])), (qw_65, .inl (cA_66, 50, .inl (fun _ => 0))), (q67, .inr (0, [.ref qw_69, .int 0])), (qw_69, .inl (cA_70, (ch_N (ch_h k1)), .inl (fun _ => 0)))] H := hP
  have hD : va_D A [(h0, .inr (7, [.int (ch_h k1), .int (ch_r k2), .ref q63, .null, .null, .null, .null, .null])), (q63, .inr (0, [.ref qw_65, .int 0])), (qw_65, .inl (cA_66, 50, .inl (fun _ => 0))), (q67, .inr (0, [.ref qw_69, .int 0])), (qw_69, .inl (cA_70, (ch_N (ch_h k1)), .inl (fun _ => 0)))] := hD
  have hK : va_K (dC, dI) classes [(cA_66, .int), (cA_70, .int)] s := hK
  refine W.widen (k := 4) (n := 631) (Nat.le_of_ble_eq_true rfl) (Nat.le_of_ble_eq_true rfl) ?_
  refine va_putF (D := (dC, dI)) (ci := 7) (v := .ref q67) (ty := .object "LeafSigner$ByteRow") (C := RX7) (T := TX7) (N := 8) hx hb hts iX7_init_X7 tyX7 tyX7_ok nmX7 hown hK hP hD hS 0 rfl rfl 3 (by decide) (hts (.fieldLink RX7 34 "LeafSigner" "output" "LLeafSigner$ByteRow;") (List.mem_of_getElem? (i := 24) rfl)) (fun _ h9 => h9) rfl hin rfl (by decide +kernel) rfl rfl (Nat.le_of_ble_eq_true rfl) dX7_init_65 (fun H locs hP hD hS => ?_)
  have hP : va_P (dC, dI) classes [(h0, .inr (7, [.int (ch_h k1), .int (ch_r k2), .ref q63, .ref q67, .null, .null, .null, .null])), (q63, .inr (0, [.ref qw_65, .int 0])), (qw_65, .inl (cA_66, 50, .inl (fun _ => 0))), (q67, .inr (0, [.ref qw_69, .int 0])), (qw_69, .inl (cA_70, (ch_N (ch_h k1)), .inl (fun _ => 0)))] H := hP
  have hD : va_D A [(h0, .inr (7, [.int (ch_h k1), .int (ch_r k2), .ref q63, .ref q67, .null, .null, .null, .null])), (q63, .inr (0, [.ref qw_65, .int 0])), (qw_65, .inl (cA_66, 50, .inl (fun _ => 0))), (q67, .inr (0, [.ref qw_69, .int 0])), (qw_69, .inl (cA_70, (ch_N (ch_h k1)), .inl (fun _ => 0)))] := hD
  refine lv_aload_n hx hb dX7_init_68 rfl (lv_at hl 1 rfl) ?_
  refine va_new (ci := 0) (fs := [.null, .int 0]) (C := RX0) (T := TX0) (N := 2) hx hb hts iX7_init_X0 tyX0 tyX0_ok hown (hts (.classLink RX7 25 RX0) (List.mem_of_getElem? (i := 13) rfl)) (hts (.instantiable RX0 2) (List.mem_of_getElem? (i := 14) rfl)) (hts (.initialized RX0) (List.mem_of_getElem? (i := 15) rfl)) hK hP hD hS hA rfl (by decide) (Nat.le_of_ble_eq_true rfl) (Nat.le_of_ble_eq_true rfl) dX7_init_69 (fun q71 H hP hD hS => ?_)
  have hP : va_P (dC, dI) classes [(h0, .inr (7, [.int (ch_h k1), .int (ch_r k2), .ref q63, .ref q67, .null, .null, .null, .null])), (q63, .inr (0, [.ref qw_65, .int 0])), (qw_65, .inl (cA_66, 50, .inl (fun _ => 0))), (q67, .inr (0, [.ref qw_69, .int 0])), (qw_69, .inl (cA_70, (ch_N (ch_h k1)), .inl (fun _ => 0))), (q71, .inr (0, [.null, .int 0]))] H := hP
  have hD : va_D A [(h0, .inr (7, [.int (ch_h k1), .int (ch_r k2), .ref q63, .ref q67, .null, .null, .null, .null])), (q63, .inr (0, [.ref qw_65, .int 0])), (qw_65, .inl (cA_66, 50, .inl (fun _ => 0))), (q67, .inr (0, [.ref qw_69, .int 0])), (qw_69, .inl (cA_70, (ch_N (ch_h k1)), .inl (fun _ => 0))), (q71, .inr (0, [.null, .int 0]))] := hD
  refine W.widen (k := 5) (n := 633) (Nat.le_of_ble_eq_true rfl) (Nat.le_of_ble_eq_true rfl) ?_
  refine lv_dup hx hb dX7_init_72 rfl ?_
  refine lv_iload_n hx hb dX7_init_73 rfl (lv_at hl 0 rfl) ?_
  have hPc := hP.sub (ws' := [(q71, .inr (0, [.null, .int 0]))]) [5] rfl
  have hDc := hD.sub (ws' := [(q71, .inr (0, [.null, .int 0]))]) [5] (by decide) rfl
  have hKc := hK.sub (tys' := []) [] rfl
  have hFc := va_free (wc := [(q71, .inr (0, [.null, .int 0]))]) hD hS hA [5] rfl
  refine va_callv (va_runI (As := [.int (ch_n (ch_h k1))]) (rest := [.ref q71, .ref h0]) ⟨hx, hb, hml, hown, hts⟩ (ct_ByteRow l dC dI H.size q71 (ch_n (ch_h k1)) (ch_N (ch_h k1)) 577 (vx_n hh).1 rfl (vx_nN hh) (Nat.le_trans (vx_nN hh) (by decide))) (cwI 1 hts gX7_init_X0_init_27 rfl rfl rfl (hts (.initialized RX0) (List.mem_of_getElem? (i := 15) rfl)) (hts (.methodLink RX7 27 yX0_init) (List.mem_of_getElem? (i := 21) rfl)) (hts (.instanceMethod yX0_init) (List.mem_of_getElem? (i := 22) rfl)) rfl (by decide +kernel) ⟨(Nat.le_of_ble_eq_true rfl), (Nat.le_of_ble_eq_true rfl)⟩) ⟨fun a U g mk q => by obtain ⟨q0, q1, qP, qK, qD⟩ := q; exact ⟨q0, q1, qP, va_K.moved (u := U) (U := U.calling g mk a) (Vm.Alike.refl U.vm) qK, qD⟩, fun U hU hW => ⟨rfl, by rw [hU], by rw [hU]; exact hPc, va_K.moved hW.alike hKc, hDc.weaken (fun _ _ _ _ => trivial)⟩⟩ rfl rfl hl.1 rfl (lv_room (Nat.le_of_ble_eq_true rfl)) dX7_init_74 ⟨(Nat.le_of_ble_eq_true rfl), (Nat.le_of_ble_eq_true rfl)⟩) hS (fun q _ h => hFc q h) hFc (fun u t H1 locs ht hvm hw hB hz1 hk1 hS => ?_)
  obtain ⟨qw_73, cA_74, hP1, hK1, hD1⟩ := hB
  rw [ht] at hP1
  have hK1 := va_K.moved hvm.symm hK1
  obtain ⟨hP, hD⟩ := va_join (wr := [(h0, .inr (7, [.int (ch_h k1), .int (ch_r k2), .ref q63, .ref q67, .null, .null, .null, .null])), (q63, .inr (0, [.ref qw_65, .int 0])), (qw_65, .inl (cA_66, 50, .inl (fun _ => 0))), (q67, .inr (0, [.ref qw_69, .int 0])), (qw_69, .inl (cA_70, (ch_N (ch_h k1)), .inl (fun _ => 0)))]) (w1 := [(q71, .inr (0, [.ref qw_73, .int 0])), (qw_73, .inl (cA_74, (ch_N (ch_h k1)), .inl (fun _ => 0)))]) hP hD [5] [0, 1, 2, 3, 4] rfl rfl (by decide) (by decide) hk1 hFc hP1 hD1
  have hK := hK.sub (tys' := [(cA_66, .int), (cA_70, .int)]) [0, 1] rfl
  have hK := hK.app hK1
  generalize H1 = H at hP hS ⊢
  have hP : va_P (dC, dI) classes [(h0, .inr (7, [.int (ch_h k1), .int (ch_r k2), .ref q63, .ref q67, .null, .null, .null, .null])), (q63, .inr (0, [.ref qw_65, .int 0])), (qw_65, .inl (cA_66, 50, .inl (fun _ => 0))), (q67, .inr (0, [.ref qw_69, .int 0])), (qw_69, .inl (cA_70, (ch_N (ch_h k1)), .inl (fun _ => 0))), (q71, .inr (0, [.ref qw_73, .int 0])), (qw_73, .inl (cA_74, (ch_N (ch_h k1)), .inl (fun _ => 0)))] H := hP
  have hD : va_D A [(h0, .inr (7, [.int (ch_h k1), .int (ch_r k2), .ref q63, .ref q67, .null, .null, .null, .null])), (q63, .inr (0, [.ref qw_65, .int 0])), (qw_65, .inl (cA_66, 50, .inl (fun _ => 0))), (q67, .inr (0, [.ref qw_69, .int 0])), (qw_69, .inl (cA_70, (ch_N (ch_h k1)), .inl (fun _ => 0))), (q71, .inr (0, [.ref qw_73, .int 0])), (qw_73, .inl (cA_74, (ch_N (ch_h k1)), .inl (fun _ => 0)))] := hD
  have hK : va_K (dC, dI) classes [(cA_66, .int), (cA_70, .int), (cA_74, .int)] s := hK
  refine W.widen (k := 6) (n := 1210) (Nat.le_of_ble_eq_true rfl) (Nat.le_of_ble_eq_true rfl) ?_
  refine va_putF (D := (dC, dI)) (ci := 7) (v := .ref q71) (ty := .object "LeafSigner$ByteRow") (C := RX7) (T := TX7) (N := 8) hx hb hts iX7_init_X7 tyX7 tyX7_ok nmX7 hown hK hP hD hS 0 rfl rfl 4 (by decide) (hts (.fieldLink RX7 37 "LeafSigner" "held" "LLeafSigner$ByteRow;") (List.mem_of_getElem? (i := 25) rfl)) (fun _ h9 => h9) rfl hin rfl (by decide +kernel) rfl rfl (Nat.le_of_ble_eq_true rfl) dX7_init_77 (fun H locs hP hD hS => ?_)
  have hP : va_P (dC, dI) classes [(h0, .inr (7, [.int (ch_h k1), .int (ch_r k2), .ref q63, .ref q67, .ref q71, .null, .null, .null])), (q63, .inr (0, [.ref qw_65, .int 0])), (qw_65, .inl (cA_66, 50, .inl (fun _ => 0))), (q67, .inr (0, [.ref qw_69, .int 0])), (qw_69, .inl (cA_70, (ch_N (ch_h k1)), .inl (fun _ => 0))), (q71, .inr (0, [.ref qw_73, .int 0])), (qw_73, .inl (cA_74, (ch_N (ch_h k1)), .inl (fun _ => 0)))] H := hP
  have hD : va_D A [(h0, .inr (7, [.int (ch_h k1), .int (ch_r k2), .ref q63, .ref q67, .ref q71, .null, .null, .null])), (q63, .inr (0, [.ref qw_65, .int 0])), (qw_65, .inl (cA_66, 50, .inl (fun _ => 0))), (q67, .inr (0, [.ref qw_69, .int 0])), (qw_69, .inl (cA_70, (ch_N (ch_h k1)), .inl (fun _ => 0))), (q71, .inr (0, [.ref qw_73, .int 0])), (qw_73, .inl (cA_74, (ch_N (ch_h k1)), .inl (fun _ => 0)))] := hD
  refine lv_aload_n hx hb dX7_init_80 rfl (lv_at hl 1 rfl) ?_
  refine va_new (ci := 1) (fs := [.null, .int 0, .int 0]) (C := RX1) (T := TX1) (N := 3) hx hb hts iX7_init_X1 tyX1 tyX1_ok hown (hts (.classLink RX7 40 RX1) (List.mem_of_getElem? (i := 26) rfl)) (hts (.instantiable RX1 3) (List.mem_of_getElem? (i := 27) rfl)) (hts (.initialized RX1) (List.mem_of_getElem? (i := 28) rfl)) hK hP hD hS hA rfl (by decide) (Nat.le_of_ble_eq_true rfl) (Nat.le_of_ble_eq_true rfl) dX7_init_81 (fun q75 H hP hD hS => ?_)
  have hP : va_P (dC, dI) classes [(h0, .inr (7, [.int (ch_h k1), .int (ch_r k2), .ref q63, .ref q67, .ref q71, .null, .null, .null])), (q63, .inr (0, [.ref qw_65, .int 0])), (qw_65, .inl (cA_66, 50, .inl (fun _ => 0))), (q67, .inr (0, [.ref qw_69, .int 0])), (qw_69, .inl (cA_70, (ch_N (ch_h k1)), .inl (fun _ => 0))), (q71, .inr (0, [.ref qw_73, .int 0])), (qw_73, .inl (cA_74, (ch_N (ch_h k1)), .inl (fun _ => 0))), (q75, .inr (1, [.null, .int 0, .int 0]))] H := hP
  have hD : va_D A [(h0, .inr (7, [.int (ch_h k1), .int (ch_r k2), .ref q63, .ref q67, .ref q71, .null, .null, .null])), (q63, .inr (0, [.ref qw_65, .int 0])), (qw_65, .inl (cA_66, 50, .inl (fun _ => 0))), (q67, .inr (0, [.ref qw_69, .int 0])), (qw_69, .inl (cA_70, (ch_N (ch_h k1)), .inl (fun _ => 0))), (q71, .inr (0, [.ref qw_73, .int 0])), (qw_73, .inl (cA_74, (ch_N (ch_h k1)), .inl (fun _ => 0))), (q75, .inr (1, [.null, .int 0, .int 0]))] := hD
  refine W.widen (k := 7) (n := 1213) (Nat.le_of_ble_eq_true rfl) (Nat.le_of_ble_eq_true rfl) ?_
  refine lv_dup hx hb dX7_init_84 rfl ?_
  have hPc := hP.sub (ws' := [(q75, .inr (1, [.null, .int 0, .int 0]))]) [7] rfl
  have hDc := hD.sub (ws' := [(q75, .inr (1, [.null, .int 0, .int 0]))]) [7] (by decide) rfl
  have hKc := hK.sub (tys' := []) [] rfl
  have hFc := va_free (wc := [(q75, .inr (1, [.null, .int 0, .int 0]))]) hD hS hA [7] rfl
  refine va_callv (va_runI (As := []) (rest := [.ref q75, .ref h0]) ⟨hx, hb, hml, hown, hts⟩ (ct_Disk l dC dI H.size q75) (cwI 0 hts gX7_init_X1_init_42 rfl rfl rfl (hts (.initialized RX1) (List.mem_of_getElem? (i := 28) rfl)) (hts (.methodLink RX7 42 yX1_init) (List.mem_of_getElem? (i := 40) rfl)) (hts (.instanceMethod yX1_init) (List.mem_of_getElem? (i := 41) rfl)) rfl (by decide +kernel) ⟨(Nat.le_of_ble_eq_true rfl), (Nat.le_of_ble_eq_true rfl)⟩) ⟨fun a U g mk q => by obtain ⟨q0, q1, qP, qK, qD⟩ := q; exact ⟨q0, q1, qP, va_K.moved (u := U) (U := U.calling g mk a) (Vm.Alike.refl U.vm) qK, qD⟩, fun U hU hW => ⟨rfl, by rw [hU], by rw [hU]; exact hPc, va_K.moved hW.alike hKc, hDc.weaken (fun _ _ _ _ => trivial)⟩⟩ rfl rfl hl.1 rfl (lv_room (Nat.le_of_ble_eq_true rfl)) dX7_init_85 ⟨(Nat.le_of_ble_eq_true rfl), (Nat.le_of_ble_eq_true rfl)⟩) hS (fun q _ h => hFc q h) hFc (fun u t H1 locs ht hvm hw hB hz1 hk1 hS => ?_)
  obtain ⟨qb_77, qw_78, cA_79, hP1, hK1, hD1⟩ := hB
  rw [ht] at hP1
  have hK1 := va_K.moved hvm.symm hK1
  obtain ⟨hP, hD⟩ := va_join (wr := [(h0, .inr (7, [.int (ch_h k1), .int (ch_r k2), .ref q63, .ref q67, .ref q71, .null, .null, .null])), (q63, .inr (0, [.ref qw_65, .int 0])), (qw_65, .inl (cA_66, 50, .inl (fun _ => 0))), (q67, .inr (0, [.ref qw_69, .int 0])), (qw_69, .inl (cA_70, (ch_N (ch_h k1)), .inl (fun _ => 0))), (q71, .inr (0, [.ref qw_73, .int 0])), (qw_73, .inl (cA_74, (ch_N (ch_h k1)), .inl (fun _ => 0)))]) (w1 := [(q75, .inr (1, [.ref qb_77, .int 0, .int (-1)])), (qb_77, .inr (0, [.ref qw_78, .int 24])), (qw_78, .inl (cA_79, 6, .inl (fun _ => 0)))]) hP hD [7] [0, 1, 2, 3, 4, 5, 6] rfl rfl (by decide) (by decide) hk1 hFc hP1 hD1
  have hK := hK.sub (tys' := [(cA_66, .int), (cA_70, .int), (cA_74, .int)]) [0, 1, 2] rfl
  have hK := hK.app hK1
  generalize H1 = H at hP hS ⊢
  have hP : va_P (dC, dI) classes [(h0, .inr (7, [.int (ch_h k1), .int (ch_r k2), .ref q63, .ref q67, .ref q71, .null, .null, .null])), (q63, .inr (0, [.ref qw_65, .int 0])), (qw_65, .inl (cA_66, 50, .inl (fun _ => 0))), (q67, .inr (0, [.ref qw_69, .int 0])), (qw_69, .inl (cA_70, (ch_N (ch_h k1)), .inl (fun _ => 0))), (q71, .inr (0, [.ref qw_73, .int 0])), (qw_73, .inl (cA_74, (ch_N (ch_h k1)), .inl (fun _ => 0))), (q75, .inr (1, [.ref qb_77, .int 0, .int (-1)])), (qb_77, .inr (0, [.ref qw_78, .int 24])), (qw_78, .inl (cA_79, 6, .inl (fun _ => 0)))] H := hP
  have hD : va_D A [(h0, .inr (7, [.int (ch_h k1), .int (ch_r k2), .ref q63, .ref q67, .ref q71, .null, .null, .null])), (q63, .inr (0, [.ref qw_65, .int 0])), (qw_65, .inl (cA_66, 50, .inl (fun _ => 0))), (q67, .inr (0, [.ref qw_69, .int 0])), (qw_69, .inl (cA_70, (ch_N (ch_h k1)), .inl (fun _ => 0))), (q71, .inr (0, [.ref qw_73, .int 0])), (qw_73, .inl (cA_74, (ch_N (ch_h k1)), .inl (fun _ => 0))), (q75, .inr (1, [.ref qb_77, .int 0, .int (-1)])), (qb_77, .inr (0, [.ref qw_78, .int 24])), (qw_78, .inl (cA_79, 6, .inl (fun _ => 0)))] := hD
  have hK : va_K (dC, dI) classes [(cA_66, .int), (cA_70, .int), (cA_74, .int), (cA_79, .int)] s := hK
  refine W.widen (k := 9) (n := 1221) (Nat.le_of_ble_eq_true rfl) (Nat.le_of_ble_eq_true rfl) ?_
  refine va_putF (D := (dC, dI)) (ci := 7) (v := .ref q75) (ty := .object "LeafSigner$Disk") (C := RX7) (T := TX7) (N := 8) hx hb hts iX7_init_X7 tyX7 tyX7_ok nmX7 hown hK hP hD hS 0 rfl rfl 5 (by decide) (hts (.fieldLink RX7 43 "LeafSigner" "store" "LLeafSigner$Disk;") (List.mem_of_getElem? (i := 42) rfl)) (fun _ h9 => h9) rfl hin rfl (by decide +kernel) rfl rfl (Nat.le_of_ble_eq_true rfl) dX7_init_88 (fun H locs hP hD hS => ?_)
  have hP : va_P (dC, dI) classes [(h0, .inr (7, [.int (ch_h k1), .int (ch_r k2), .ref q63, .ref q67, .ref q71, .ref q75, .null, .null])), (q63, .inr (0, [.ref qw_65, .int 0])), (qw_65, .inl (cA_66, 50, .inl (fun _ => 0))), (q67, .inr (0, [.ref qw_69, .int 0])), (qw_69, .inl (cA_70, (ch_N (ch_h k1)), .inl (fun _ => 0))), (q71, .inr (0, [.ref qw_73, .int 0])), (qw_73, .inl (cA_74, (ch_N (ch_h k1)), .inl (fun _ => 0))), (q75, .inr (1, [.ref qb_77, .int 0, .int (-1)])), (qb_77, .inr (0, [.ref qw_78, .int 24])), (qw_78, .inl (cA_79, 6, .inl (fun _ => 0)))] H := hP
  have hD : va_D A [(h0, .inr (7, [.int (ch_h k1), .int (ch_r k2), .ref q63, .ref q67, .ref q71, .ref q75, .null, .null])), (q63, .inr (0, [.ref qw_65, .int 0])), (qw_65, .inl (cA_66, 50, .inl (fun _ => 0))), (q67, .inr (0, [.ref qw_69, .int 0])), (qw_69, .inl (cA_70, (ch_N (ch_h k1)), .inl (fun _ => 0))), (q71, .inr (0, [.ref qw_73, .int 0])), (qw_73, .inl (cA_74, (ch_N (ch_h k1)), .inl (fun _ => 0))), (q75, .inr (1, [.ref qb_77, .int 0, .int (-1)])), (qb_77, .inr (0, [.ref qw_78, .int 24])), (qw_78, .inl (cA_79, 6, .inl (fun _ => 0)))] := hD
  refine lv_aload_n hx hb dX7_init_91 rfl (lv_at hl 1 rfl) ?_
  refine va_new (ci := 3) (fs := [.null, .int 0, .null, .int 0, .int 0, .int 0, .int 0]) (C := RX3) (T := TX3) (N := 7) hx hb hts iX7_init_X3 tyX3 tyX3_ok hown (hts (.classLink RX7 47 RX3) (List.mem_of_getElem? (i := 43) rfl)) (hts (.instantiable RX3 7) (List.mem_of_getElem? (i := 44) rfl)) (hts (.initialized RX3) (List.mem_of_getElem? (i := 45) rfl)) hK hP hD hS hA rfl (by decide) (Nat.le_of_ble_eq_true rfl) (Nat.le_of_ble_eq_true rfl) dX7_init_92 (fun q80 H hP hD hS => ?_)
  have hP : va_P (dC, dI) classes [(h0, .inr (7, [.int (ch_h k1), .int (ch_r k2), .ref q63, .ref q67, .ref q71, .ref q75, .null, .null])), (q63, .inr (0, [.ref qw_65, .int 0])), (qw_65, .inl (cA_66, 50, .inl (fun _ => 0))), (q67, .inr (0, [.ref qw_69, .int 0])), (qw_69, .inl (cA_70, (ch_N (ch_h k1)), .inl (fun _ => 0))), (q71, .inr (0, [.ref qw_73, .int 0])), (qw_73, .inl (cA_74, (ch_N (ch_h k1)), .inl (fun _ => 0))), (q75, .inr (1, [.ref qb_77, .int 0, .int (-1)])), (qb_77, .inr (0, [.ref qw_78, .int 24])), (qw_78, .inl (cA_79, 6, .inl (fun _ => 0))), (q80, .inr (3, [.null, .int 0, .null, .int 0, .int 0, .int 0, .int 0]))] H := hP
  have hD : va_D A [(h0, .inr (7, [.int (ch_h k1), .int (ch_r k2), .ref q63, .ref q67, .ref q71, .ref q75, .null, .null])), (q63, .inr (0, [.ref qw_65, .int 0])), (qw_65, .inl (cA_66, 50, .inl (fun _ => 0))), (q67, .inr (0, [.ref qw_69, .int 0])), (qw_69, .inl (cA_70, (ch_N (ch_h k1)), .inl (fun _ => 0))), (q71, .inr (0, [.ref qw_73, .int 0])), (qw_73, .inl (cA_74, (ch_N (ch_h k1)), .inl (fun _ => 0))), (q75, .inr (1, [.ref qb_77, .int 0, .int (-1)])), (qb_77, .inr (0, [.ref qw_78, .int 24])), (qw_78, .inl (cA_79, 6, .inl (fun _ => 0))), (q80, .inr (3, [.null, .int 0, .null, .int 0, .int 0, .int 0, .int 0]))] := hD
  refine W.widen (k := 10) (n := 1228) (Nat.le_of_ble_eq_true rfl) (Nat.le_of_ble_eq_true rfl) ?_
  refine lv_dup hx hb dX7_init_95 rfl ?_
  refine lv_iconst (v := 1) hx hb dX7_init_96 (by decide) ?_
  refine lv_aload_n hx hb dX7_init_97 rfl (lv_at hl 1 rfl) ?_
  refine va_get (D := (dC, dI)) (ci := 7) (v := .int (ch_h k1)) (C := RX7) (T := TX7) (N := 8) hx hb hts iX7_init_X7 hown hK hP 0 rfl rfl 0 (by decide) (hts (.fieldLink RX7 18 "LeafSigner" "height" "I") (List.mem_of_getElem? (i := 11) rfl)) (fun _ h9 => h9) rfl dX7_init_98 ?_
  refine lv_ishl hx hb dX7_init_101 ?_
  refine lv_aload_n hx hb dX7_init_102 rfl (lv_at hl 1 rfl) ?_
  refine va_get (D := (dC, dI)) (ci := 7) (v := .int (ch_r k2)) (C := RX7) (T := TX7) (N := 8) hx hb hts iX7_init_X7 hown hK hP 0 rfl rfl 1 (by decide) (hts (.fieldLink RX7 22 "LeafSigner" "reserve" "I") (List.mem_of_getElem? (i := 12) rfl)) (fun _ h9 => h9) rfl dX7_init_103 ?_
  refine lv_aload_n hx hb dX7_init_106 rfl (lv_at hl 1 rfl) ?_
  refine va_get (D := (dC, dI)) (ci := 7) (v := .ref q75) (C := RX7) (T := TX7) (N := 8) hx hb hts iX7_init_X7 hown hK hP 0 rfl rfl 5 (by decide) (hts (.fieldLink RX7 43 "LeafSigner" "store" "LLeafSigner$Disk;") (List.mem_of_getElem? (i := 42) rfl)) (fun _ h9 => h9) rfl dX7_init_107 ?_
  have hPc := hP.sub (ws' := [(q80, .inr (3, [.null, .int 0, .null, .int 0, .int 0, .int 0, .int 0]))]) [10] rfl
  have hDc := hD.sub (ws' := [(q80, .inr (3, [.null, .int 0, .null, .int 0, .int 0, .int 0, .int 0]))]) [10] (by decide) rfl
  have hKc := hK.sub (tys' := []) [] rfl
  have hFc := va_free (wc := [(q80, .inr (3, [.null, .int 0, .null, .int 0, .int 0, .int 0, .int 0]))]) hD hS hA [10] rfl
  refine va_callv (va_runI (As := [.int (1 <<< ((ch_h k1) &&& 31)), .int (ch_r k2), .ref q75]) (rest := [.ref q80, .ref h0]) ⟨hx, hb, hml, hown, hts⟩ (ct_Machine l dC dI H.size q80 (1 <<< ((ch_h k1) &&& 31)) (ch_r k2) q75 (ch_L (ch_h k1)) (vx_L hh).1 rfl (vx_L hh).2) (cwI 3 hts gX7_init_X3_init_49 rfl rfl rfl (hts (.initialized RX3) (List.mem_of_getElem? (i := 45) rfl)) (hts (.methodLink RX7 49 yX3_init) (List.mem_of_getElem? (i := 55) rfl)) (hts (.instanceMethod yX3_init) (List.mem_of_getElem? (i := 56) rfl)) rfl (by decide +kernel) ⟨(Nat.le_of_ble_eq_true rfl), (Nat.le_of_ble_eq_true rfl)⟩) ⟨fun a U g mk q => by obtain ⟨q0, q1, qP, qK, qD⟩ := q; exact ⟨q0, q1, qP, va_K.moved (u := U) (U := U.calling g mk a) (Vm.Alike.refl U.vm) qK, qD⟩, fun U hU hW => ⟨rfl, by rw [hU], by rw [hU]; exact hPc, va_K.moved hW.alike hKc, hDc.weaken (fun _ _ _ _ => trivial)⟩⟩ rfl rfl hl.1 rfl (lv_room (Nat.le_of_ble_eq_true rfl)) dX7_init_110 ⟨(Nat.le_of_ble_eq_true rfl), (Nat.le_of_ble_eq_true rfl)⟩) hS (fun q _ h => hFc q h) hFc (fun u t H1 locs ht hvm hw hB hz1 hk1 hS => ?_)
  obtain ⟨qf_82, cA_83, hP1, hK1, hD1⟩ := hB
  rw [ht] at hP1
  have hK1 := va_K.moved hvm.symm hK1
  obtain ⟨hP, hD⟩ := va_join (wr := [(h0, .inr (7, [.int (ch_h k1), .int (ch_r k2), .ref q63, .ref q67, .ref q71, .ref q75, .null, .null])), (q63, .inr (0, [.ref qw_65, .int 0])), (qw_65, .inl (cA_66, 50, .inl (fun _ => 0))), (q67, .inr (0, [.ref qw_69, .int 0])), (qw_69, .inl (cA_70, (ch_N (ch_h k1)), .inl (fun _ => 0))), (q71, .inr (0, [.ref qw_73, .int 0])), (qw_73, .inl (cA_74, (ch_N (ch_h k1)), .inl (fun _ => 0))), (q75, .inr (1, [.ref qb_77, .int 0, .int (-1)])), (qb_77, .inr (0, [.ref qw_78, .int 24])), (qw_78, .inl (cA_79, 6, .inl (fun _ => 0)))]) (w1 := [(q80, .inr (3, [.ref qf_82, .int (ch_r k2), .ref q75, .int 0, .int 0, .int 0, .int 0])), (qf_82, .inl (cA_83, (ch_L (ch_h k1)), .inl (fun _ => 0)))]) hP hD [10] [0, 1, 2, 3, 4, 5, 6, 7, 8, 9] rfl rfl (by decide) (by decide) hk1 hFc hP1 hD1
  have hK := hK.sub (tys' := [(cA_66, .int), (cA_70, .int), (cA_74, .int), (cA_79, .int)]) [0, 1, 2, 3] rfl
  have hK := hK.app hK1
  generalize H1 = H at hP hS ⊢
  have hP : va_P (dC, dI) classes [(h0, .inr (7, [.int (ch_h k1), .int (ch_r k2), .ref q63, .ref q67, .ref q71, .ref q75, .null, .null])), (q63, .inr (0, [.ref qw_65, .int 0])), (qw_65, .inl (cA_66, 50, .inl (fun _ => 0))), (q67, .inr (0, [.ref qw_69, .int 0])), (qw_69, .inl (cA_70, (ch_N (ch_h k1)), .inl (fun _ => 0))), (q71, .inr (0, [.ref qw_73, .int 0])), (qw_73, .inl (cA_74, (ch_N (ch_h k1)), .inl (fun _ => 0))), (q75, .inr (1, [.ref qb_77, .int 0, .int (-1)])), (qb_77, .inr (0, [.ref qw_78, .int 24])), (qw_78, .inl (cA_79, 6, .inl (fun _ => 0))), (q80, .inr (3, [.ref qf_82, .int (ch_r k2), .ref q75, .int 0, .int 0, .int 0, .int 0])), (qf_82, .inl (cA_83, (ch_L (ch_h k1)), .inl (fun _ => 0)))] H := hP
  have hD : va_D A [(h0, .inr (7, [.int (ch_h k1), .int (ch_r k2), .ref q63, .ref q67, .ref q71, .ref q75, .null, .null])), (q63, .inr (0, [.ref qw_65, .int 0])), (qw_65, .inl (cA_66, 50, .inl (fun _ => 0))), (q67, .inr (0, [.ref qw_69, .int 0])), (qw_69, .inl (cA_70, (ch_N (ch_h k1)), .inl (fun _ => 0))), (q71, .inr (0, [.ref qw_73, .int 0])), (qw_73, .inl (cA_74, (ch_N (ch_h k1)), .inl (fun _ => 0))), (q75, .inr (1, [.ref qb_77, .int 0, .int (-1)])), (qb_77, .inr (0, [.ref qw_78, .int 24])), (qw_78, .inl (cA_79, 6, .inl (fun _ => 0))), (q80, .inr (3, [.ref qf_82, .int (ch_r k2), .ref q75, .int 0, .int 0, .int 0, .int 0])), (qf_82, .inl (cA_83, (ch_L (ch_h k1)), .inl (fun _ => 0)))] := hD
  have hK : va_K (dC, dI) classes [(cA_66, .int), (cA_70, .int), (cA_74, .int), (cA_79, .int), (cA_83, .int)] s := hK
  refine W.widen (k := 11) (n := 1244) (Nat.le_of_ble_eq_true rfl) (Nat.le_of_ble_eq_true rfl) ?_
  refine va_putF (D := (dC, dI)) (ci := 7) (v := .ref q80) (ty := .object "LeafSigner$Machine") (C := RX7) (T := TX7) (N := 8) hx hb hts iX7_init_X7 tyX7 tyX7_ok nmX7 hown hK hP hD hS 0 rfl rfl 6 (by decide) (hts (.fieldLink RX7 52 "LeafSigner" "machine" "LLeafSigner$Machine;") (List.mem_of_getElem? (i := 57) rfl)) (fun _ h9 => h9) rfl hin rfl (by decide +kernel) rfl rfl (Nat.le_of_ble_eq_true rfl) dX7_init_113 (fun H locs hP hD hS => ?_)
  have hP : va_P (dC, dI) classes [(h0, .inr (7, [.int (ch_h k1), .int (ch_r k2), .ref q63, .ref q67, .ref q71, .ref q75, .ref q80, .null])), (q63, .inr (0, [.ref qw_65, .int 0])), (qw_65, .inl (cA_66, 50, .inl (fun _ => 0))), (q67, .inr (0, [.ref qw_69, .int 0])), (qw_69, .inl (cA_70, (ch_N (ch_h k1)), .inl (fun _ => 0))), (q71, .inr (0, [.ref qw_73, .int 0])), (qw_73, .inl (cA_74, (ch_N (ch_h k1)), .inl (fun _ => 0))), (q75, .inr (1, [.ref qb_77, .int 0, .int (-1)])), (qb_77, .inr (0, [.ref qw_78, .int 24])), (qw_78, .inl (cA_79, 6, .inl (fun _ => 0))), (q80, .inr (3, [.ref qf_82, .int (ch_r k2), .ref q75, .int 0, .int 0, .int 0, .int 0])), (qf_82, .inl (cA_83, (ch_L (ch_h k1)), .inl (fun _ => 0)))] H := hP
  have hD : va_D A [(h0, .inr (7, [.int (ch_h k1), .int (ch_r k2), .ref q63, .ref q67, .ref q71, .ref q75, .ref q80, .null])), (q63, .inr (0, [.ref qw_65, .int 0])), (qw_65, .inl (cA_66, 50, .inl (fun _ => 0))), (q67, .inr (0, [.ref qw_69, .int 0])), (qw_69, .inl (cA_70, (ch_N (ch_h k1)), .inl (fun _ => 0))), (q71, .inr (0, [.ref qw_73, .int 0])), (qw_73, .inl (cA_74, (ch_N (ch_h k1)), .inl (fun _ => 0))), (q75, .inr (1, [.ref qb_77, .int 0, .int (-1)])), (qb_77, .inr (0, [.ref qw_78, .int 24])), (qw_78, .inl (cA_79, 6, .inl (fun _ => 0))), (q80, .inr (3, [.ref qf_82, .int (ch_r k2), .ref q75, .int 0, .int 0, .int 0, .int 0])), (qf_82, .inl (cA_83, (ch_L (ch_h k1)), .inl (fun _ => 0)))] := hD
  refine lv_aload_n hx hb dX7_init_116 rfl (lv_at hl 1 rfl) ?_
  refine va_new (ci := 6) (fs := [.int 0, .int 0, .null, .null, .null, .null, .null, .null, .null, .null, .int 0]) (C := RX6) (T := TX6) (N := 11) hx hb hts iX7_init_X6 tyX6 tyX6_ok hown (hts (.classLink RX7 56 RX6) (List.mem_of_getElem? (i := 58) rfl)) (hts (.instantiable RX6 11) (List.mem_of_getElem? (i := 59) rfl)) (hts (.initialized RX6) (List.mem_of_getElem? (i := 60) rfl)) hK hP hD hS hA rfl (by decide) (Nat.le_of_ble_eq_true rfl) (Nat.le_of_ble_eq_true rfl) dX7_init_117 (fun q84 H hP hD hS => ?_)
  have hP : va_P (dC, dI) classes [(h0, .inr (7, [.int (ch_h k1), .int (ch_r k2), .ref q63, .ref q67, .ref q71, .ref q75, .ref q80, .null])), (q63, .inr (0, [.ref qw_65, .int 0])), (qw_65, .inl (cA_66, 50, .inl (fun _ => 0))), (q67, .inr (0, [.ref qw_69, .int 0])), (qw_69, .inl (cA_70, (ch_N (ch_h k1)), .inl (fun _ => 0))), (q71, .inr (0, [.ref qw_73, .int 0])), (qw_73, .inl (cA_74, (ch_N (ch_h k1)), .inl (fun _ => 0))), (q75, .inr (1, [.ref qb_77, .int 0, .int (-1)])), (qb_77, .inr (0, [.ref qw_78, .int 24])), (qw_78, .inl (cA_79, 6, .inl (fun _ => 0))), (q80, .inr (3, [.ref qf_82, .int (ch_r k2), .ref q75, .int 0, .int 0, .int 0, .int 0])), (qf_82, .inl (cA_83, (ch_L (ch_h k1)), .inl (fun _ => 0))), (q84, .inr (6, [.int 0, .int 0, .null, .null, .null, .null, .null, .null, .null, .null, .int 0]))] H := hP
  have hD : va_D A [(h0, .inr (7, [.int (ch_h k1), .int (ch_r k2), .ref q63, .ref q67, .ref q71, .ref q75, .ref q80, .null])), (q63, .inr (0, [.ref qw_65, .int 0])), (qw_65, .inl (cA_66, 50, .inl (fun _ => 0))), (q67, .inr (0, [.ref qw_69, .int 0])), (qw_69, .inl (cA_70, (ch_N (ch_h k1)), .inl (fun _ => 0))), (q71, .inr (0, [.ref qw_73, .int 0])), (qw_73, .inl (cA_74, (ch_N (ch_h k1)), .inl (fun _ => 0))), (q75, .inr (1, [.ref qb_77, .int 0, .int (-1)])), (qb_77, .inr (0, [.ref qw_78, .int 24])), (qw_78, .inl (cA_79, 6, .inl (fun _ => 0))), (q80, .inr (3, [.ref qf_82, .int (ch_r k2), .ref q75, .int 0, .int 0, .int 0, .int 0])), (qf_82, .inl (cA_83, (ch_L (ch_h k1)), .inl (fun _ => 0))), (q84, .inr (6, [.int 0, .int 0, .null, .null, .null, .null, .null, .null, .null, .null, .int 0]))] := hD
  refine W.widen (k := 12) (n := 1255) (Nat.le_of_ble_eq_true rfl) (Nat.le_of_ble_eq_true rfl) ?_
  refine lv_dup hx hb dX7_init_120 rfl ?_
  refine lv_aload_n hx hb dX7_init_121 rfl (lv_at hl 1 rfl) ?_
  refine va_get (D := (dC, dI)) (ci := 7) (v := .int (ch_h k1)) (C := RX7) (T := TX7) (N := 8) hx hb hts iX7_init_X7 hown hK hP 0 rfl rfl 0 (by decide) (hts (.fieldLink RX7 18 "LeafSigner" "height" "I") (List.mem_of_getElem? (i := 11) rfl)) (fun _ h9 => h9) rfl dX7_init_122 ?_
  have hPc := hP.sub (ws' := [(q84, .inr (6, [.int 0, .int 0, .null, .null, .null, .null, .null, .null, .null, .null, .int 0]))]) [12] rfl
  have hDc := hD.sub (ws' := [(q84, .inr (6, [.int 0, .int 0, .null, .null, .null, .null, .null, .null, .null, .null, .int 0]))]) [12] (by decide) rfl
  have hKc := hK.sub (tys' := []) [] rfl
  have hFc := va_free (wc := [(q84, .inr (6, [.int 0, .int 0, .null, .null, .null, .null, .null, .null, .null, .null, .int 0]))]) hD hS hA [12] rfl
  refine va_callv (va_runI (As := [.int (ch_h k1)]) (rest := [.ref q84, .ref h0]) ⟨hx, hb, hml, hown, hts⟩ (ct_Tree l dC dI H.size q84 (ch_h k1) hh) (cwI 1 hts gX7_init_X6_init_58 rfl rfl rfl (hts (.initialized RX6) (List.mem_of_getElem? (i := 60) rfl)) (hts (.methodLink RX7 58 yX6_init) (List.mem_of_getElem? (i := 115) rfl)) (hts (.instanceMethod yX6_init) (List.mem_of_getElem? (i := 116) rfl)) rfl (by decide +kernel) ⟨(Nat.le_of_ble_eq_true rfl), (Nat.le_of_ble_eq_true rfl)⟩) ⟨fun a U g mk q => by obtain ⟨q0, q1, qP, qK, qD⟩ := q; exact ⟨q0, q1, qP, va_K.moved (u := U) (U := U.calling g mk a) (Vm.Alike.refl U.vm) qK, qD⟩, fun U hU hW => ⟨rfl, by rw [hU], by rw [hU]; exact hPc, va_K.moved hW.alike hKc, hDc.weaken (fun _ _ _ _ => trivial)⟩⟩ rfl rfl hl.1 rfl (lv_room (Nat.le_of_ble_eq_true rfl)) dX7_init_125 ⟨(Nat.le_of_ble_eq_true rfl), (Nat.le_of_ble_eq_true rfl)⟩) hS (fun q _ h => hFc q h) hFc (fun u t H1 locs ht hvm hw hB hz1 hk1 hS => ?_)
  have hP1 : va_P (dC, dI) classes [] H1 := vx_P0
  have hD1 : va_D (va_A [(q84, .inr (6, [.int 0, .int 0, .null, .null, .null, .null, .null, .null, .null, .null, .int 0]))] H.size) [] := vx_D0
  obtain ⟨hP, hD⟩ := va_join (wr := [(h0, .inr (7, [.int (ch_h k1), .int (ch_r k2), .ref q63, .ref q67, .ref q71, .ref q75, .ref q80, .null])), (q63, .inr (0, [.ref qw_65, .int 0])), (qw_65, .inl (cA_66, 50, .inl (fun _ => 0))), (q67, .inr (0, [.ref qw_69, .int 0])), (qw_69, .inl (cA_70, (ch_N (ch_h k1)), .inl (fun _ => 0))), (q71, .inr (0, [.ref qw_73, .int 0])), (qw_73, .inl (cA_74, (ch_N (ch_h k1)), .inl (fun _ => 0))), (q75, .inr (1, [.ref qb_77, .int 0, .int (-1)])), (qb_77, .inr (0, [.ref qw_78, .int 24])), (qw_78, .inl (cA_79, 6, .inl (fun _ => 0))), (q80, .inr (3, [.ref qf_82, .int (ch_r k2), .ref q75, .int 0, .int 0, .int 0, .int 0])), (qf_82, .inl (cA_83, (ch_L (ch_h k1)), .inl (fun _ => 0)))]) (w1 := []) hP hD [12] [0, 1, 2, 3, 4, 5, 6, 7, 8, 9, 10, 11] rfl rfl (by decide) (by decide) hk1 hFc hP1 hD1
  have hK := hK.sub (tys' := [(cA_66, .int), (cA_70, .int), (cA_74, .int), (cA_79, .int), (cA_83, .int)]) [0, 1, 2, 3, 4] rfl
  generalize H1 = H at hP hS ⊢
  have hP : va_P (dC, dI) classes [(h0, .inr (7, [.int (ch_h k1), .int (ch_r k2), .ref q63, .ref q67, .ref q71, .ref q75, .ref q80, .null])), (q63, .inr (0, [.ref qw_65, .int 0])), (qw_65, .inl (cA_66, 50, .inl (fun _ => 0))), (q67, .inr (0, [.ref qw_69, .int 0])), (qw_69, .inl (cA_70, (ch_N (ch_h k1)), .inl (fun _ => 0))), (q71, .inr (0, [.ref qw_73, .int 0])), (qw_73, .inl (cA_74, (ch_N (ch_h k1)), .inl (fun _ => 0))), (q75, .inr (1, [.ref qb_77, .int 0, .int (-1)])), (qb_77, .inr (0, [.ref qw_78, .int 24])), (qw_78, .inl (cA_79, 6, .inl (fun _ => 0))), (q80, .inr (3, [.ref qf_82, .int (ch_r k2), .ref q75, .int 0, .int 0, .int 0, .int 0])), (qf_82, .inl (cA_83, (ch_L (ch_h k1)), .inl (fun _ => 0)))] H := hP
  have hD : va_D A [(h0, .inr (7, [.int (ch_h k1), .int (ch_r k2), .ref q63, .ref q67, .ref q71, .ref q75, .ref q80, .null])), (q63, .inr (0, [.ref qw_65, .int 0])), (qw_65, .inl (cA_66, 50, .inl (fun _ => 0))), (q67, .inr (0, [.ref qw_69, .int 0])), (qw_69, .inl (cA_70, (ch_N (ch_h k1)), .inl (fun _ => 0))), (q71, .inr (0, [.ref qw_73, .int 0])), (qw_73, .inl (cA_74, (ch_N (ch_h k1)), .inl (fun _ => 0))), (q75, .inr (1, [.ref qb_77, .int 0, .int (-1)])), (qb_77, .inr (0, [.ref qw_78, .int 24])), (qw_78, .inl (cA_79, 6, .inl (fun _ => 0))), (q80, .inr (3, [.ref qf_82, .int (ch_r k2), .ref q75, .int 0, .int 0, .int 0, .int 0])), (qf_82, .inl (cA_83, (ch_L (ch_h k1)), .inl (fun _ => 0)))] := hD
  have hK : va_K (dC, dI) classes [(cA_66, .int), (cA_70, .int), (cA_74, .int), (cA_79, .int), (cA_83, .int)] s := hK
  refine W.widen (k := 33) (n := 2423) (Nat.le_of_ble_eq_true rfl) (Nat.le_of_ble_eq_true rfl) ?_
  refine va_putF (D := (dC, dI)) (ci := 7) (v := .ref q84) (ty := .object "LeafSigner$Tree") (C := RX7) (T := TX7) (N := 8) hx hb hts iX7_init_X7 tyX7 tyX7_ok nmX7 hown hK hP hD hS 0 rfl rfl 7 (by decide) (hts (.fieldLink RX7 59 "LeafSigner" "tree" "LLeafSigner$Tree;") (List.mem_of_getElem? (i := 117) rfl)) (fun _ h9 => h9) rfl hin rfl (by decide +kernel) rfl rfl (Nat.le_of_ble_eq_true rfl) dX7_init_128 (fun H locs hP hD hS => ?_)
  have hP : va_P (dC, dI) classes [(h0, .inr (7, [.int (ch_h k1), .int (ch_r k2), .ref q63, .ref q67, .ref q71, .ref q75, .ref q80, .ref q84])), (q63, .inr (0, [.ref qw_65, .int 0])), (qw_65, .inl (cA_66, 50, .inl (fun _ => 0))), (q67, .inr (0, [.ref qw_69, .int 0])), (qw_69, .inl (cA_70, (ch_N (ch_h k1)), .inl (fun _ => 0))), (q71, .inr (0, [.ref qw_73, .int 0])), (qw_73, .inl (cA_74, (ch_N (ch_h k1)), .inl (fun _ => 0))), (q75, .inr (1, [.ref qb_77, .int 0, .int (-1)])), (qb_77, .inr (0, [.ref qw_78, .int 24])), (qw_78, .inl (cA_79, 6, .inl (fun _ => 0))), (q80, .inr (3, [.ref qf_82, .int (ch_r k2), .ref q75, .int 0, .int 0, .int 0, .int 0])), (qf_82, .inl (cA_83, (ch_L (ch_h k1)), .inl (fun _ => 0)))] H := hP
  have hD : va_D A [(h0, .inr (7, [.int (ch_h k1), .int (ch_r k2), .ref q63, .ref q67, .ref q71, .ref q75, .ref q80, .ref q84])), (q63, .inr (0, [.ref qw_65, .int 0])), (qw_65, .inl (cA_66, 50, .inl (fun _ => 0))), (q67, .inr (0, [.ref qw_69, .int 0])), (qw_69, .inl (cA_70, (ch_N (ch_h k1)), .inl (fun _ => 0))), (q71, .inr (0, [.ref qw_73, .int 0])), (qw_73, .inl (cA_74, (ch_N (ch_h k1)), .inl (fun _ => 0))), (q75, .inr (1, [.ref qb_77, .int 0, .int (-1)])), (qb_77, .inr (0, [.ref qw_78, .int 24])), (qw_78, .inl (cA_79, 6, .inl (fun _ => 0))), (q80, .inr (3, [.ref qf_82, .int (ch_r k2), .ref q75, .int 0, .int 0, .int 0, .int 0])), (qf_82, .inl (cA_83, (ch_L (ch_h k1)), .inl (fun _ => 0)))] := hD
  refine W.widen (k := 33) (n := 2423) (Nat.le_of_ble_eq_true rfl) (Nat.le_of_ble_eq_true rfl) ?_
  have hP9 := hP.sub (ws' := [(h0, .inr (7, [.int (ch_h k1), .int (ch_r k2), .ref q63, .ref q67, .ref q71, .ref q75, .ref q80, .ref q84])), (q63, .inr (0, [.ref qw_65, .int 0])), (qw_65, .inl (cA_66, 50, .inl (fun _ => 0))), (q67, .inr (0, [.ref qw_69, .int 0])), (qw_69, .inl (cA_70, (ch_N (ch_h k1)), .inl (fun _ => 0))), (q71, .inr (0, [.ref qw_73, .int 0])), (qw_73, .inl (cA_74, (ch_N (ch_h k1)), .inl (fun _ => 0))), (q75, .inr (1, [.ref qb_77, .int 0, .int (-1)])), (qb_77, .inr (0, [.ref qw_78, .int 24])), (qw_78, .inl (cA_79, 6, .inl (fun _ => 0))), (q80, .inr (3, [.ref qf_82, .int (ch_r k2), .ref q75, .int 0, .int 0, .int 0, .int 0])), (qf_82, .inl (cA_83, (ch_L (ch_h k1)), .inl (fun _ => 0)))]) [0, 1, 2, 3, 4, 5, 6, 7, 8, 9, 10, 11] rfl
  have hD9 := hD.sub (ws' := [(h0, .inr (7, [.int (ch_h k1), .int (ch_r k2), .ref q63, .ref q67, .ref q71, .ref q75, .ref q80, .ref q84])), (q63, .inr (0, [.ref qw_65, .int 0])), (qw_65, .inl (cA_66, 50, .inl (fun _ => 0))), (q67, .inr (0, [.ref qw_69, .int 0])), (qw_69, .inl (cA_70, (ch_N (ch_h k1)), .inl (fun _ => 0))), (q71, .inr (0, [.ref qw_73, .int 0])), (qw_73, .inl (cA_74, (ch_N (ch_h k1)), .inl (fun _ => 0))), (q75, .inr (1, [.ref qb_77, .int 0, .int (-1)])), (qb_77, .inr (0, [.ref qw_78, .int 24])), (qw_78, .inl (cA_79, 6, .inl (fun _ => 0))), (q80, .inr (3, [.ref qf_82, .int (ch_r k2), .ref q75, .int 0, .int 0, .int 0, .int 0])), (qf_82, .inl (cA_83, (ch_L (ch_h k1)), .inl (fun _ => 0)))]) [0, 1, 2, 3, 4, 5, 6, 7, 8, 9, 10, 11] (by decide) rfl
  have hK9 := hK.sub (tys' := [(cA_66, .int), (cA_70, .int), (cA_74, .int), (cA_79, .int), (cA_83, .int)]) [0, 1, 2, 3, 4] rfl
  exact W.vret hx hb hr (fun t ht hW => ⟨⟨(), rfl, trivial, ⟨q63, q67, q71, q75, q80, q84, qw_65, qw_69, qw_73, qb_77, qw_78, qf_82, cA_66, cA_70, cA_74, cA_79, cA_83, by rw [ht]; exact hP9, va_K.moved hW.alike hK9, hD9⟩⟩, hS.F ht⟩) hS.2.2 dX7_init_131
def ww_X7_isWrongCount : List Cond := .code yX7_isWrongCount cX7_isWrongCount 2 (some .boolean) :: ([.fieldLink RX7 30 "LeafSigner" "tape" "LLeafSigner$ByteRow;", .fieldLink RX7 63 "LeafSigner$ByteRow" "count" "I"] ++ (wsX70 ++ wsX00))
theorem iX7_isWrongCount_X7 : ∀ w ∈ wsX70, w ∈ ww_X7_isWrongCount := fun w h => List.mem_cons_of_mem _ (List.mem_append_right _ (List.mem_append_left _ h))
theorem iX7_isWrongCount_X0 : ∀ w ∈ wsX00, w ∈ ww_X7_isWrongCount := fun w h => List.mem_cons_of_mem _ (List.mem_append_right _ (List.mem_append_right _ h))
set_option maxHeartbeats 4000000 in
set_option maxRecDepth 100000 in
theorem ct_wrong (l : Launch) (dC : Nat → ClassId) (dI : Nat → Nat → Nat) (sz : Nat) (x : Nat) (k : Int32) (h : Int32) (r : Int32) (xt : Nat) (xo : Nat) (xh : Nat) (xs : Nat) (xm : Nat) (xq : Nat) (xtw : Nat) : Met l yX7_isWrongCount ww_X7_isWrongCount ({ frames := 0, cells := 0, slots := 0, locals := 0 }) (va_Pc [.ref x, .int k] (fun U => U.heap.size = sz ∧ va_P (dC, dI) classes [(x, .inr (7, [.int h, .int r, .ref xt, .ref xo, .ref xh, .ref xs, .ref xm, .ref xq])), (xt, .inr (0, [.ref xtw, .int 0]))] U.heap ∧ va_K (dC, dI) classes [] U ∧ va_D (fun _ => True) [(x, .inr (7, [.int h, .int r, .ref xt, .ref xo, .ref xh, .ref xs, .ref xm, .ref xq])), (xt, .inr (0, [.ref xtw, .int 0]))])) (va_Qi (fun (r : Int32) (_ : Unit) => r = fk_wrong k) (fun (_ : Unit) (t : State) => va_P (dC, dI) classes [(x, .inr (7, [.int h, .int r, .ref xt, .ref xo, .ref xh, .ref xs, .ref xm, .ref xq])), (xt, .inr (0, [.ref xtw, .int 0]))] t.heap ∧ va_K (dC, dI) classes [] t ∧ va_D (va_A [(x, .inr (7, [.int h, .int r, .ref xt, .ref xo, .ref xh, .ref xs, .ref xm, .ref xq])), (xt, .inr (0, [.ref xtw, .int 0]))] sz) [(x, .inr (7, [.int h, .int r, .ref xt, .ref xo, .ref xh, .ref xs, .ref xm, .ref xq])), (xt, .inr (0, [.ref xtw, .int 0]))]) (va_A [(x, .inr (7, [.int h, .int r, .ref xt, .ref xo, .ref xh, .ref xs, .ref xm, .ref xq])), (xt, .inr (0, [.ref xtw, .int 0]))] sz)) 0 0 (va_A [(x, .inr (7, [.int h, .int r, .ref xt, .ref xo, .ref xh, .ref xs, .ref xm, .ref xq])), (xt, .inr (0, [.ref xtw, .int 0]))] sz) := by
  refine Met.ofW (cc := cX7_isWrongCount) (maxL := 2) (ret := (some .boolean)) (by decide) rfl ?_
  intro p e s m args below meth c s₁ B hml hv
  obtain ⟨rfl, hsz, hP, hK, hD0⟩ := hv
  have hx := B.exec
  have hb := B.bytes
  have hr := B.returns
  have hts := atoms_spec (ws := ww_X7_isWrongCount) B.pre
  have hown : s.vm.findClass RX7 = some m.cls := findClass_of_methodNamed B.named
  have hlocks := B.notSynchronized
  subst hsz
  have hD := hD0.self (sz := s.heap.size)
  generalize hAe : va_A [(x, .inr (7, [.int h, .int r, .ref xt, .ref xo, .ref xh, .ref xs, .ref xm, .ref xq])), (xt, .inr (0, [.ref xtw, .int 0]))] s.heap.size = A at hD ⊢
  have hA : ∀ q : Nat, s.heap.size ≤ q → A q := fun q h => by rw [← hAe]; exact Or.inr h
  have hS : va_S A s.heap s.heap [] := va_S.rf
  have hP : va_P (dC, dI) classes [(x, .inr (7, [.int h, .int r, .ref xt, .ref xo, .ref xh, .ref xs, .ref xm, .ref xq])), (xt, .inr (0, [.ref xtw, .int 0]))] s.heap := hP
  have hl := lv_entry ([.ref x, .int k]) (n := 2) (Nat.le_of_ble_eq_true rfl)
  rw [lg_entry_eq]
  generalize (lg_sl ([.ref x, .int k]) ++ List.replicate (2 - (lg_sl ([.ref x, .int k])).length) Slot.unset).toArray = ls at hl ⊢
  have hl : lv_has ls 2 [(0, .ref x), (1, .int k)] := hl
  generalize hHe : s.heap = H at hP ⊢
  have hS : va_S A s.heap H [] := by rw [← hHe]; exact va_S.rf
  refine lv_iload_n hx hb dX7_isWrongCount_0 rfl (lv_at hl 1 rfl) ?_
  refine lv_if_lt (tgt := 15) hx hb dX7_isWrongCount_1 (by decide) (fun c86 => ?_) (fun c86 => ?_)
  · refine lv_iconst (v := 1) hx hb dX7_isWrongCount_15 (by decide) ?_
    refine lv_goto (tgt := 20) hx hb dX7_isWrongCount_16 (by decide) ?_
    refine W.widen (k := 0) (n := 0) (Nat.le_of_ble_eq_true rfl) (Nat.le_of_ble_eq_true rfl) ?_
    have hP9 := hP.sub (ws' := [(x, .inr (7, [.int h, .int r, .ref xt, .ref xo, .ref xh, .ref xs, .ref xm, .ref xq])), (xt, .inr (0, [.ref xtw, .int 0]))]) [0, 1] rfl
    have hD9 := hD.sub (ws' := [(x, .inr (7, [.int h, .int r, .ref xt, .ref xo, .ref xh, .ref xs, .ref xm, .ref xq])), (xt, .inr (0, [.ref xtw, .int 0]))]) [0, 1] (by decide) rfl
    have hK9 := hK.sub (tys' := []) [] rfl
    exact W.zret (v := 1) (ty := .boolean) hx hb hr (by decide) (fun t ht hW => ⟨⟨1, (), rfl, (by unfold fk_wrong; rw [if_pos c86]), ⟨by rw [ht]; exact hP9, va_K.moved hW.alike hK9, hD9⟩⟩, hS.F ht⟩) hS.2.2 dX7_isWrongCount_20
  · refine lv_iload_n hx hb dX7_isWrongCount_4 rfl (lv_at hl 1 rfl) ?_
    refine lv_aload_n hx hb dX7_isWrongCount_5 rfl (lv_at hl 0 rfl) ?_
    refine va_get (D := (dC, dI)) (ci := 7) (v := .ref xt) (C := RX7) (T := TX7) (N := 8) hx hb hts iX7_isWrongCount_X7 hown hK hP 0 rfl rfl 2 (by decide) (hts (.fieldLink RX7 30 "LeafSigner" "tape" "LLeafSigner$ByteRow;") (List.mem_of_getElem? (i := 1) rfl)) (fun _ h9 => h9) rfl dX7_isWrongCount_6 ?_
    refine va_get (D := (dC, dI)) (ci := 0) (v := .int 0) (C := RX0) (T := TX0) (N := 2) hx hb hts iX7_isWrongCount_X0 hown hK hP 1 rfl rfl 1 (by decide) (hts (.fieldLink RX7 63 "LeafSigner$ByteRow" "count" "I") (List.mem_of_getElem? (i := 2) rfl)) (fun _ h9 => h9) rfl dX7_isWrongCount_9 ?_
    refine lv_icmp_le (tgt := 19) hx hb dX7_isWrongCount_12 (by decide) (fun c87 => ?_) (fun c87 => ?_)
    · refine lv_iconst (v := 0) hx hb dX7_isWrongCount_19 (by decide) ?_
      refine W.widen (k := 0) (n := 0) (Nat.le_of_ble_eq_true rfl) (Nat.le_of_ble_eq_true rfl) ?_
      have hP9 := hP.sub (ws' := [(x, .inr (7, [.int h, .int r, .ref xt, .ref xo, .ref xh, .ref xs, .ref xm, .ref xq])), (xt, .inr (0, [.ref xtw, .int 0]))]) [0, 1] rfl
      have hD9 := hD.sub (ws' := [(x, .inr (7, [.int h, .int r, .ref xt, .ref xo, .ref xh, .ref xs, .ref xm, .ref xq])), (xt, .inr (0, [.ref xtw, .int 0]))]) [0, 1] (by decide) rfl
      have hK9 := hK.sub (tys' := []) [] rfl
      exact W.zret (v := 0) (ty := .boolean) hx hb hr (by decide) (fun t ht hW => ⟨⟨0, (), rfl, (by unfold fk_wrong; rw [if_neg c86, if_pos c87]), ⟨by rw [ht]; exact hP9, va_K.moved hW.alike hK9, hD9⟩⟩, hS.F ht⟩) hS.2.2 dX7_isWrongCount_20
    · refine lv_iconst (v := 1) hx hb dX7_isWrongCount_15 (by decide) ?_
      refine lv_goto (tgt := 20) hx hb dX7_isWrongCount_16 (by decide) ?_
      refine W.widen (k := 0) (n := 0) (Nat.le_of_ble_eq_true rfl) (Nat.le_of_ble_eq_true rfl) ?_
      have hP9 := hP.sub (ws' := [(x, .inr (7, [.int h, .int r, .ref xt, .ref xo, .ref xh, .ref xs, .ref xm, .ref xq])), (xt, .inr (0, [.ref xtw, .int 0]))]) [0, 1] rfl
      have hD9 := hD.sub (ws' := [(x, .inr (7, [.int h, .int r, .ref xt, .ref xo, .ref xh, .ref xs, .ref xm, .ref xq])), (xt, .inr (0, [.ref xtw, .int 0]))]) [0, 1] (by decide) rfl
      have hK9 := hK.sub (tys' := []) [] rfl
      exact W.zret (v := 1) (ty := .boolean) hx hb hr (by decide) (fun t ht hW => ⟨⟨1, (), rfl, (by unfold fk_wrong; rw [if_neg c86, if_neg c87]), ⟨by rw [ht]; exact hP9, va_K.moved hW.alike hK9, hD9⟩⟩, hS.F ht⟩) hS.2.2 dX7_isWrongCount_20
def ww_X7_wasNeverKeyed : List Cond := .code yX7_wasNeverKeyed cX7_wasNeverKeyed 1 (some .boolean) :: ([.fieldLink RX7 52 "LeafSigner" "machine" "LLeafSigner$Machine;", .fieldLink RX7 84 "LeafSigner$Machine" "state" "I"] ++ (wsX70 ++ wsX30))
theorem iX7_wasNeverKeyed_X7 : ∀ w ∈ wsX70, w ∈ ww_X7_wasNeverKeyed := fun w h => List.mem_cons_of_mem _ (List.mem_append_right _ (List.mem_append_left _ h))
theorem iX7_wasNeverKeyed_X3 : ∀ w ∈ wsX30, w ∈ ww_X7_wasNeverKeyed := fun w h => List.mem_cons_of_mem _ (List.mem_append_right _ (List.mem_append_right _ h))
set_option maxHeartbeats 4000000 in
set_option maxRecDepth 100000 in
theorem ct_never (l : Launch) (dC : Nat → ClassId) (dI : Nat → Nat → Nat) (sz : Nat) (x : Nat) (h : Int32) (r : Int32) (xt : Nat) (xo : Nat) (xh : Nat) (xs : Nat) (xm : Nat) (xq : Nat) (xf : Nat) : Met l yX7_wasNeverKeyed ww_X7_wasNeverKeyed ({ frames := 0, cells := 0, slots := 0, locals := 0 }) (va_Pc [.ref x] (fun U => U.heap.size = sz ∧ va_P (dC, dI) classes [(x, .inr (7, [.int h, .int r, .ref xt, .ref xo, .ref xh, .ref xs, .ref xm, .ref xq])), (xm, .inr (3, [.ref xf, .int r, .ref xs, .int 0, .int 0, .int 0, .int 0]))] U.heap ∧ va_K (dC, dI) classes [] U ∧ va_D (fun _ => True) [(x, .inr (7, [.int h, .int r, .ref xt, .ref xo, .ref xh, .ref xs, .ref xm, .ref xq])), (xm, .inr (3, [.ref xf, .int r, .ref xs, .int 0, .int 0, .int 0, .int 0]))])) (va_Qi (fun (r : Int32) (_ : Unit) => r = 1) (fun (_ : Unit) (t : State) => va_P (dC, dI) classes [(x, .inr (7, [.int h, .int r, .ref xt, .ref xo, .ref xh, .ref xs, .ref xm, .ref xq])), (xm, .inr (3, [.ref xf, .int r, .ref xs, .int 0, .int 0, .int 0, .int 0]))] t.heap ∧ va_K (dC, dI) classes [] t ∧ va_D (va_A [(x, .inr (7, [.int h, .int r, .ref xt, .ref xo, .ref xh, .ref xs, .ref xm, .ref xq])), (xm, .inr (3, [.ref xf, .int r, .ref xs, .int 0, .int 0, .int 0, .int 0]))] sz) [(x, .inr (7, [.int h, .int r, .ref xt, .ref xo, .ref xh, .ref xs, .ref xm, .ref xq])), (xm, .inr (3, [.ref xf, .int r, .ref xs, .int 0, .int 0, .int 0, .int 0]))]) (va_A [(x, .inr (7, [.int h, .int r, .ref xt, .ref xo, .ref xh, .ref xs, .ref xm, .ref xq])), (xm, .inr (3, [.ref xf, .int r, .ref xs, .int 0, .int 0, .int 0, .int 0]))] sz)) 0 0 (va_A [(x, .inr (7, [.int h, .int r, .ref xt, .ref xo, .ref xh, .ref xs, .ref xm, .ref xq])), (xm, .inr (3, [.ref xf, .int r, .ref xs, .int 0, .int 0, .int 0, .int 0]))] sz) := by
  refine Met.ofW (cc := cX7_wasNeverKeyed) (maxL := 1) (ret := (some .boolean)) (by decide) rfl ?_
  intro p e s m args below meth c s₁ B hml hv
  obtain ⟨rfl, hsz, hP, hK, hD0⟩ := hv
  have hx := B.exec
  have hb := B.bytes
  have hr := B.returns
  have hts := atoms_spec (ws := ww_X7_wasNeverKeyed) B.pre
  have hown : s.vm.findClass RX7 = some m.cls := findClass_of_methodNamed B.named
  have hlocks := B.notSynchronized
  subst hsz
  have hD := hD0.self (sz := s.heap.size)
  generalize hAe : va_A [(x, .inr (7, [.int h, .int r, .ref xt, .ref xo, .ref xh, .ref xs, .ref xm, .ref xq])), (xm, .inr (3, [.ref xf, .int r, .ref xs, .int 0, .int 0, .int 0, .int 0]))] s.heap.size = A at hD ⊢
  have hA : ∀ q : Nat, s.heap.size ≤ q → A q := fun q h => by rw [← hAe]; exact Or.inr h
  have hS : va_S A s.heap s.heap [] := va_S.rf
  have hP : va_P (dC, dI) classes [(x, .inr (7, [.int h, .int r, .ref xt, .ref xo, .ref xh, .ref xs, .ref xm, .ref xq])), (xm, .inr (3, [.ref xf, .int r, .ref xs, .int 0, .int 0, .int 0, .int 0]))] s.heap := hP
  have hl := lv_entry ([.ref x]) (n := 1) (Nat.le_of_ble_eq_true rfl)
  rw [lg_entry_eq]
  generalize (lg_sl ([.ref x]) ++ List.replicate (1 - (lg_sl ([.ref x])).length) Slot.unset).toArray = ls at hl ⊢
  have hl : lv_has ls 1 [(0, .ref x)] := hl
  generalize hHe : s.heap = H at hP ⊢
  have hS : va_S A s.heap H [] := by rw [← hHe]; exact va_S.rf
  refine lv_aload_n hx hb dX7_wasNeverKeyed_0 rfl (lv_at hl 0 rfl) ?_
  refine va_get (D := (dC, dI)) (ci := 7) (v := .ref xm) (C := RX7) (T := TX7) (N := 8) hx hb hts iX7_wasNeverKeyed_X7 hown hK hP 0 rfl rfl 6 (by decide) (hts (.fieldLink RX7 52 "LeafSigner" "machine" "LLeafSigner$Machine;") (List.mem_of_getElem? (i := 1) rfl)) (fun _ h9 => h9) rfl dX7_wasNeverKeyed_1 ?_
  refine va_get (D := (dC, dI)) (ci := 3) (v := .int 0) (C := RX3) (T := TX3) (N := 7) hx hb hts iX7_wasNeverKeyed_X3 hown hK hP 1 rfl rfl 3 (by decide) (hts (.fieldLink RX7 84 "LeafSigner$Machine" "state" "I") (List.mem_of_getElem? (i := 2) rfl)) (fun _ h9 => h9) rfl dX7_wasNeverKeyed_4 ?_
  refine lv_if_ne (tgt := 14) hx hb dX7_wasNeverKeyed_7 (by decide) (fun c88 => absurd c88 (by decide)) (fun c88 => ?_)
  refine lv_iconst (v := 1) hx hb dX7_wasNeverKeyed_10 (by decide) ?_
  refine lv_goto (tgt := 15) hx hb dX7_wasNeverKeyed_11 (by decide) ?_
  refine W.widen (k := 0) (n := 0) (Nat.le_of_ble_eq_true rfl) (Nat.le_of_ble_eq_true rfl) ?_
  have hP9 := hP.sub (ws' := [(x, .inr (7, [.int h, .int r, .ref xt, .ref xo, .ref xh, .ref xs, .ref xm, .ref xq])), (xm, .inr (3, [.ref xf, .int r, .ref xs, .int 0, .int 0, .int 0, .int 0]))]) [0, 1] rfl
  have hD9 := hD.sub (ws' := [(x, .inr (7, [.int h, .int r, .ref xt, .ref xo, .ref xh, .ref xs, .ref xm, .ref xq])), (xm, .inr (3, [.ref xf, .int r, .ref xs, .int 0, .int 0, .int 0, .int 0]))]) [0, 1] (by decide) rfl
  have hK9 := hK.sub (tys' := []) [] rfl
  exact W.zret (v := 1) (ty := .boolean) hx hb hr (by decide) (fun t ht hW => ⟨⟨1, (), rfl, rfl, ⟨by rw [ht]; exact hP9, va_K.moved hW.alike hK9, hD9⟩⟩, hS.F ht⟩) hS.2.2 dX7_wasNeverKeyed_15
def ww_X3_countOf : List Cond := .code yX3_countOf cX3_countOf 4 (some .int) :: ([.fieldLink RX3 7 "LeafSigner$Machine" "fates" "[I"] ++ (wsX30))
theorem iX3_countOf_X3 : ∀ w ∈ wsX30, w ∈ ww_X3_countOf := fun w h => List.mem_cons_of_mem _ (List.mem_append_right _ h)
set_option maxHeartbeats 4000000 in
set_option maxRecDepth 100000 in
/-- Machine.countOf's loop over a row of zeros, for what isn't 0 -/
theorem lp_count {p : Program} {l : Launch} {e : Env} {R : Room} {s : State} {m : MethodId} {args : Array Value} {below : List Frame} {meth : Method} {c : Code} {Q : State → Prop} {A : Nat → Prop} {dC : Nat → ClassId} {dI : Nat → Nat → Nat} {h0 a : Nat} {cA : ClassId} {N : Nat} {v : Int32} {cells slots : Nat} {fs : List Value} {H : Heap} {locs : List Loc} (hx : p.tables.exec = Jvm.exec) (hb : c.code = cX3_countOf) (hts : ∀ w ∈ ww_X3_countOf, w.before args s = true) (hown : s.vm.findClass RX3 = some m.cls) (hK : va_K (dC, dI) classes [(cA, .int)] s) (hN : N < 2 ^ 31) (hv : ¬ (0 : Int32) = v)
    (hP : va_P (dC, dI) classes [(h0, .inr (3, .ref a :: fs)), (a, .inl (cA, N, .inl (fun _ => 0)))] H)
    (kend : ∀ (ls : Array Slot) (x : Int32), lv_has ls 4 [(3, .int x), (2, .int 0), (0, .ref h0), (1, .int v)] → W p l e R s m args below meth c H locs cells slots Q (F0 m 32 ls [])) :
    ∀ (n j : Nat) (x : Int32), j + n = N → x = nI j → ∀ (ls : Array Slot), lv_has ls 4 [(3, .int x), (2, .int 0), (0, .ref h0), (1, .int v)] → W p l e R s m args below meth c H locs cells slots Q (F0 m 4 ls []) := by
  intro n
  induction n with
  | zero =>
    intro j x hj ex ls hl
    refine lv_iload_n hx hb dX3_countOf_4 rfl (lv_at hl 0 rfl) ?_
    refine lv_aload_n hx hb dX3_countOf_5 rfl (lv_at hl 2 rfl) ?_
    refine va_get (D := (dC, dI)) (ci := 3) (v := .ref a) (C := RX3) (T := TX3) (N := 7) hx hb hts iX3_countOf_X3 hown hK hP 0 rfl rfl 0 (by decide) (hts (.fieldLink RX3 7 "LeafSigner$Machine" "fates" "[I") (List.mem_of_getElem? (i := 1) rfl)) (fun _ h9 => h9) rfl dX3_countOf_6 ?_
    refine va_alen (v := (Int32.ofNat N)) hx hb hK hP 1 0 rfl rfl rfl dX3_countOf_9 ?_
    refine lv_icmp_ge (tgt := 32) hx hb dX3_countOf_10 (by decide) (fun c1 => ?_) (fun c1 => absurd (by rw [ex]; exact nI_le (show N ≤ j by omega) (by omega)) c1)
    exact kend ls x hl
  | succ n ih =>
    intro j x hj ex ls hl
    refine lv_iload_n hx hb dX3_countOf_4 rfl (lv_at hl 0 rfl) ?_
    refine lv_aload_n hx hb dX3_countOf_5 rfl (lv_at hl 2 rfl) ?_
    refine va_get (D := (dC, dI)) (ci := 3) (v := .ref a) (C := RX3) (T := TX3) (N := 7) hx hb hts iX3_countOf_X3 hown hK hP 0 rfl rfl 0 (by decide) (hts (.fieldLink RX3 7 "LeafSigner$Machine" "fates" "[I") (List.mem_of_getElem? (i := 1) rfl)) (fun _ h9 => h9) rfl dX3_countOf_6 ?_
    refine va_alen (v := (Int32.ofNat N)) hx hb hK hP 1 0 rfl rfl rfl dX3_countOf_9 ?_
    refine lv_icmp_ge (tgt := 32) hx hb dX3_countOf_10 (by decide) (fun c1 => absurd c1 (by rw [ex]; exact nI_ge (show j < N by omega) hN)) (fun c1 => ?_)
    refine lv_aload_n hx hb dX3_countOf_13 rfl (lv_at hl 2 rfl) ?_
    refine va_get (D := (dC, dI)) (ci := 3) (v := .ref a) (C := RX3) (T := TX3) (N := 7) hx hb hts iX3_countOf_X3 hown hK hP 0 rfl rfl 0 (by decide) (hts (.fieldLink RX3 7 "LeafSigner$Machine" "fates" "[I") (List.mem_of_getElem? (i := 1) rfl)) (fun _ h9 => h9) rfl dX3_countOf_14 ?_
    refine lv_iload_n hx hb dX3_countOf_17 rfl (lv_at hl 0 rfl) ?_
    refine va_iald hx hb hK hP 1 0 rfl rfl (by rw [ex]; exact vp_in_nI (show j < N by omega) hN) dX3_countOf_18 ?_
    refine vx_topk 0 rfl ?_
    refine lv_iload_n hx hb dX3_countOf_19 rfl (lv_at hl 3 rfl) ?_
    refine lv_icmp_ne (tgt := 26) hx hb dX3_countOf_20 (by decide) (fun c2 => ?_) (fun c2 => absurd hv c2)
    obtain ⟨x1, ex1⟩ : ∃ y : Int32, y = x + 1 := ⟨_, rfl⟩
    refine lv_iinc (v := x1) (lv' := [(3, .int x1), (2, .int 0), (0, .ref h0), (1, .int v)]) hx hb dX3_countOf_26 hl (k := 0) rfl (by rw [ex1]; rfl) (by decide) rfl (fun ls hl => ?_)
    refine lv_goto (tgt := 4) hx hb dX3_countOf_29 (by decide) ?_
    exact ih (j + 1) x1 (by omega) (by rw [ex1, ex]; exact nI_1 j) ls hl
set_option maxHeartbeats 4000000 in
set_option maxRecDepth 100000 in
theorem ct_countOf (l : Launch) (dC : Nat → ClassId) (dI : Nat → Nat → Nat) (sz : Nat) (xm : Nat) (k : Int32) (xf : Nat) (r : Int32) (xs : Nat) (cF : ClassId) (NF : Nat) (hN : NF < 2 ^ 31) (hv : ¬ (0 : Int32) = k) : Met l yX3_countOf ww_X3_countOf ({ frames := 0, cells := 0, slots := 0, locals := 0 }) (va_Pc [.ref xm, .int k] (fun U => U.heap.size = sz ∧ va_P (dC, dI) classes [(xm, .inr (3, [.ref xf, .int r, .ref xs, .int 0, .int 0, .int 0, .int 0])), (xf, .inl (cF, NF, .inl (fun _ => 0)))] U.heap ∧ va_K (dC, dI) classes [(cF, .int)] U ∧ va_D (fun _ => True) [(xm, .inr (3, [.ref xf, .int r, .ref xs, .int 0, .int 0, .int 0, .int 0])), (xf, .inl (cF, NF, .inl (fun _ => 0)))])) (va_Qi (fun (r : Int32) (_ : Unit) => r = 0) (fun (_ : Unit) (_ : State) => True) (va_A [(xm, .inr (3, [.ref xf, .int r, .ref xs, .int 0, .int 0, .int 0, .int 0])), (xf, .inl (cF, NF, .inl (fun _ => 0)))] sz)) 0 0 (va_A [(xm, .inr (3, [.ref xf, .int r, .ref xs, .int 0, .int 0, .int 0, .int 0])), (xf, .inl (cF, NF, .inl (fun _ => 0)))] sz) := by
  refine Met.ofW (cc := cX3_countOf) (maxL := 4) (ret := (some .int)) (by decide) rfl ?_
  intro p e s m args below meth c s₁ B hml hv
  obtain ⟨rfl, hsz, hP, hK, hD0⟩ := hv
  have hx := B.exec
  have hb := B.bytes
  have hr := B.returns
  have hts := atoms_spec (ws := ww_X3_countOf) B.pre
  have hown : s.vm.findClass RX3 = some m.cls := findClass_of_methodNamed B.named
  have hlocks := B.notSynchronized
  subst hsz
  have hD := hD0.self (sz := s.heap.size)
  generalize hAe : va_A [(xm, .inr (3, [.ref xf, .int r, .ref xs, .int 0, .int 0, .int 0, .int 0])), (xf, .inl (cF, NF, .inl (fun _ => 0)))] s.heap.size = A at hD ⊢
  have hA : ∀ q : Nat, s.heap.size ≤ q → A q := fun q h => by rw [← hAe]; exact Or.inr h
  have hS : va_S A s.heap s.heap [] := va_S.rf
  have hP : va_P (dC, dI) classes [(xm, .inr (3, [.ref xf, .int r, .ref xs, .int 0, .int 0, .int 0, .int 0])), (xf, .inl (cF, NF, .inl (fun _ => 0)))] s.heap := hP
  have hl := lv_entry ([.ref xm, .int k]) (n := 4) (Nat.le_of_ble_eq_true rfl)
  rw [lg_entry_eq]
  generalize (lg_sl ([.ref xm, .int k]) ++ List.replicate (4 - (lg_sl ([.ref xm, .int k])).length) Slot.unset).toArray = ls at hl ⊢
  have hl : lv_has ls 4 [(0, .ref xm), (1, .int k)] := hl
  generalize hHe : s.heap = H at hP ⊢
  have hS : va_S A s.heap H [] := by rw [← hHe]; exact va_S.rf
  refine lv_iconst (v := 0) hx hb dX3_countOf_0 (by decide) ?_
  refine lv_istore_n (lv' := [(2, .int 0), (0, .ref xm), (1, .int k)]) hx hb dX3_countOf_1 rfl hl (by decide) rfl (fun ls hl => ?_)
  refine lv_iconst (v := 0) hx hb dX3_countOf_2 (by decide) ?_
  refine lv_istore_n (lv' := [(3, .int 0), (2, .int 0), (0, .ref xm), (1, .int k)]) hx hb dX3_countOf_3 rfl hl (by decide) rfl (fun ls hl => ?_)
  refine lp_count (h0 := xm) (a := xf) (N := NF) hx hb hts hown hK hN hv hP (fun ls x hl => ?_) NF 0 0 (by omega) nI_0.symm ls hl
  refine lv_iload_n hx hb dX3_countOf_32 rfl (lv_at hl 1 rfl) ?_
  refine W.widen (k := 0) (n := 0) (Nat.le_of_ble_eq_true rfl) (Nat.le_of_ble_eq_true rfl) ?_
  exact W.iret (v := 0) hx hb hr (fun t ht hW => ⟨⟨0, (), rfl, rfl, trivial⟩, hS.F ht⟩) hS.2.2 dX3_countOf_33
def ww_X7_feed : List Cond := .code yX7_feed cX7_feed 6 (some .int) :: ([.fieldLink RX7 30 "LeafSigner" "tape" "LLeafSigner$ByteRow;", .fieldLink RX7 63 "LeafSigner$ByteRow" "count" "I", .methodLink RX7 66 yX0_append, .instanceMethod yX0_append, .selects RX0 yX0_append yX0_append, .initialized RX0, .code yX0_append cX0_append 2 none, .fieldLink RX0 15 "LeafSigner$ByteRow" "count" "I", .fieldLink RX0 9 "LeafSigner$ByteRow" "words" "[I"] ++ (wsX70 ++ wsX00))
theorem iX7_feed_X7 : ∀ w ∈ wsX70, w ∈ ww_X7_feed := fun w h => List.mem_cons_of_mem _ (List.mem_append_right _ (List.mem_append_left _ h))
theorem iX7_feed_X0 : ∀ w ∈ wsX00, w ∈ ww_X7_feed := fun w h => List.mem_cons_of_mem _ (List.mem_append_right _ (List.mem_append_right _ h))
set_option maxRecDepth 20000 in
theorem gX7_feed_X0_append_66 : GoodIn ww_X7_feed (wsV RX7 66 RX0 yX0_append ww_X0_append) := vx_good _ [3, 4, 5, 6, 7, 8, 9, 18, 19] rfl (by decide +kernel)
set_option maxHeartbeats 4000000 in
set_option maxRecDepth 100000 in
theorem ct_feed (l : Launch) (dC : Nat → ClassId) (dI : Nat → Nat → Nat) (sz : Nat) (x : Nat) (k1 : Int32) (k2 : Int32) (k3 : Int32) (k4 : Int32) (k5 : Int32) (h : Int32) (r : Int32) (xt : Nat) (xo : Nat) (xh : Nat) (xs : Nat) (xm : Nat) (xq : Nat) (xtw : Nat) (cT : ClassId) : Met l yX7_feed ww_X7_feed ({ frames := 1, cells := 0, slots := 0, locals := 21 }) (va_Pc [.ref x, .int k1, .int k2, .int k3, .int k4, .int k5] (fun U => U.heap.size = sz ∧ va_P (dC, dI) classes [(x, .inr (7, [.int h, .int r, .ref xt, .ref xo, .ref xh, .ref xs, .ref xm, .ref xq])), (xt, .inr (0, [.ref xtw, .int 0])), (xtw, .inl (cT, 50, .inl (fun _ => 0)))] U.heap ∧ va_K (dC, dI) classes [(cT, .int)] U ∧ va_D (fun _ => True) [(x, .inr (7, [.int h, .int r, .ref xt, .ref xo, .ref xh, .ref xs, .ref xm, .ref xq])), (xt, .inr (0, [.ref xtw, .int 0])), (xtw, .inl (cT, 50, .inl (fun _ => 0)))])) (va_Qi (fun (r : Int32) (_ : Unit) => r = 20) (fun (_ : Unit) (_ : State) => True) (va_A [(x, .inr (7, [.int h, .int r, .ref xt, .ref xo, .ref xh, .ref xs, .ref xm, .ref xq])), (xt, .inr (0, [.ref xtw, .int 0])), (xtw, .inl (cT, 50, .inl (fun _ => 0)))] sz)) 0 0 (va_A [(x, .inr (7, [.int h, .int r, .ref xt, .ref xo, .ref xh, .ref xs, .ref xm, .ref xq])), (xt, .inr (0, [.ref xtw, .int 0])), (xtw, .inl (cT, 50, .inl (fun _ => 0)))] sz) := by
  refine Met.ofW (cc := cX7_feed) (maxL := 6) (ret := (some .int)) (by decide) rfl ?_
  intro p e s m args below meth c s₁ B hml hv
  obtain ⟨rfl, hsz, hP, hK, hD0⟩ := hv
  have hx := B.exec
  have hb := B.bytes
  have hr := B.returns
  have hts := atoms_spec (ws := ww_X7_feed) B.pre
  have hown : s.vm.findClass RX7 = some m.cls := findClass_of_methodNamed B.named
  have hlocks := B.notSynchronized
  subst hsz
  have hD := hD0.self (sz := s.heap.size)
  generalize hAe : va_A [(x, .inr (7, [.int h, .int r, .ref xt, .ref xo, .ref xh, .ref xs, .ref xm, .ref xq])), (xt, .inr (0, [.ref xtw, .int 0])), (xtw, .inl (cT, 50, .inl (fun _ => 0)))] s.heap.size = A at hD ⊢
  have hA : ∀ q : Nat, s.heap.size ≤ q → A q := fun q h => by rw [← hAe]; exact Or.inr h
  have hS : va_S A s.heap s.heap [] := va_S.rf
  have hP : va_P (dC, dI) classes [(x, .inr (7, [.int h, .int r, .ref xt, .ref xo, .ref xh, .ref xs, .ref xm, .ref xq])), (xt, .inr (0, [.ref xtw, .int 0])), (xtw, .inl (cT, 50, .inl (fun _ => 0)))] s.heap := hP
  have hl := lv_entry ([.ref x, .int k1, .int k2, .int k3, .int k4, .int k5]) (n := 6) (Nat.le_of_ble_eq_true rfl)
  rw [lg_entry_eq]
  generalize (lg_sl ([.ref x, .int k1, .int k2, .int k3, .int k4, .int k5]) ++ List.replicate (6 - (lg_sl ([.ref x, .int k1, .int k2, .int k3, .int k4, .int k5])).length) Slot.unset).toArray = ls at hl ⊢
  have hl : lv_has ls 6 [(0, .ref x), (1, .int k1), (2, .int k2), (3, .int k3), (4, .int k4), (5, .int k5)] := hl
  generalize hHe : s.heap = H at hP ⊢
  have hS : va_S A s.heap H [] := by rw [← hHe]; exact va_S.rf
  refine lv_aload_n hx hb dX7_feed_0 rfl (lv_at hl 0 rfl) ?_
  refine va_get (D := (dC, dI)) (ci := 7) (v := .ref xt) (C := RX7) (T := TX7) (N := 8) hx hb hts iX7_feed_X7 hown hK hP 0 rfl rfl 2 (by decide) (hts (.fieldLink RX7 30 "LeafSigner" "tape" "LLeafSigner$ByteRow;") (List.mem_of_getElem? (i := 1) rfl)) (fun _ h9 => h9) rfl dX7_feed_1 ?_
  refine va_get (D := (dC, dI)) (ci := 0) (v := .int 0) (C := RX0) (T := TX0) (N := 2) hx hb hts iX7_feed_X0 hown hK hP 1 rfl rfl 1 (by decide) (hts (.fieldLink RX7 63 "LeafSigner$ByteRow" "count" "I") (List.mem_of_getElem? (i := 2) rfl)) (fun _ h9 => h9) rfl dX7_feed_4 ?_
  refine lv_sipush (v := 180) hx hb dX7_feed_7 (by decide) ?_
  refine lv_icmp_le (tgt := 15) hx hb dX7_feed_10 (by decide) (fun c89 => ?_) (fun c89 => absurd (by decide) c89)
  refine lv_aload_n hx hb dX7_feed_15 rfl (lv_at hl 0 rfl) ?_
  refine va_get (D := (dC, dI)) (ci := 7) (v := .ref xt) (C := RX7) (T := TX7) (N := 8) hx hb hts iX7_feed_X7 hown hK hP 0 rfl rfl 2 (by decide) (hts (.fieldLink RX7 30 "LeafSigner" "tape" "LLeafSigner$ByteRow;") (List.mem_of_getElem? (i := 1) rfl)) (fun _ h9 => h9) rfl dX7_feed_16 ?_
  refine lv_iload_n hx hb dX7_feed_19 rfl (lv_at hl 1 rfl) ?_
  have hPc := hP.sub (ws' := [(xt, .inr (0, [.ref xtw, .int 0])), (xtw, .inl (cT, 50, .inl (fun _ => 0)))]) [1, 2] rfl
  have hDc := hD.sub (ws' := [(xt, .inr (0, [.ref xtw, .int 0])), (xtw, .inl (cT, 50, .inl (fun _ => 0)))]) [1, 2] (by decide) rfl
  have hKc := hK.sub (tys' := [(cT, .int)]) [0] rfl
  have hFc := va_free (wc := [(xt, .inr (0, [.ref xtw, .int 0])), (xtw, .inl (cT, 50, .inl (fun _ => 0)))]) hD hS hA [1, 2] rfl
  refine va_callv (va_runV (As := [.int k1]) (rest := []) ⟨hx, hb, hml, hown, hts⟩ (ct_append l dC dI H.size xt k1 xtw 0 cT (fun _ => 0) 4 (by decide) (vx_in (by decide)) (by decide)) (cwV 1 hts gX7_feed_X0_append_66 rfl rfl rfl (by decide +kernel) ⟨(Nat.le_of_ble_eq_true rfl), (Nat.le_of_ble_eq_true rfl)⟩) ⟨fun a U g mk q => by obtain ⟨q0, q1, qP, qK, qD⟩ := q; exact ⟨q0, q1, qP, va_K.moved (u := U) (U := U.calling g mk a) (Vm.Alike.refl U.vm) qK, qD⟩, va_recv hKc hPc (ci := 0) (q0 := 0) rfl rfl, fun U hU hW => ⟨rfl, by rw [hU], by rw [hU]; exact hPc, va_K.moved hW.alike hKc, hDc.weaken (fun _ _ _ _ => trivial)⟩⟩ rfl rfl hl.1 rfl (lv_room (Nat.le_of_ble_eq_true rfl)) dX7_feed_20 ⟨(Nat.le_of_ble_eq_true rfl), (Nat.le_of_ble_eq_true rfl)⟩) hS (fun q _ h => hFc q h) hFc (fun u t H1 locs ht hvm hw hB hz1 hk1 hS => ?_)
  obtain ⟨f_91, hP1, hK1, hD1⟩ := hB
  rw [ht] at hP1
  have hK1 := va_K.moved hvm.symm hK1
  obtain ⟨hP, hD⟩ := va_join (wr := [(x, .inr (7, [.int h, .int r, .ref xt, .ref xo, .ref xh, .ref xs, .ref xm, .ref xq]))]) (w1 := [(xt, .inr (0, [.ref xtw, .int 4])), (xtw, .inl (cT, 50, .inl f_91))]) hP hD [1, 2] [0] rfl rfl (by decide) (by decide) hk1 hFc hP1 hD1
  have hK := hK.sub (tys' := []) [] rfl
  have hK := hK.app hK1
  generalize H1 = H at hP hS ⊢
  have hP : va_P (dC, dI) classes [(x, .inr (7, [.int h, .int r, .ref xt, .ref xo, .ref xh, .ref xs, .ref xm, .ref xq])), (xt, .inr (0, [.ref xtw, .int 4])), (xtw, .inl (cT, 50, .inl f_91))] H := hP
  have hD : va_D A [(x, .inr (7, [.int h, .int r, .ref xt, .ref xo, .ref xh, .ref xs, .ref xm, .ref xq])), (xt, .inr (0, [.ref xtw, .int 4])), (xtw, .inl (cT, 50, .inl f_91))] := hD
  have hK : va_K (dC, dI) classes [(cT, .int)] s := hK
  refine W.widen (k := 0) (n := 0) (Nat.le_of_ble_eq_true rfl) (Nat.le_of_ble_eq_true rfl) ?_
  refine lv_aload_n hx hb dX7_feed_23 rfl (lv_at hl 0 rfl) ?_
  refine va_get (D := (dC, dI)) (ci := 7) (v := .ref xt) (C := RX7) (T := TX7) (N := 8) hx hb hts iX7_feed_X7 hown hK hP 0 rfl rfl 2 (by decide) (hts (.fieldLink RX7 30 "LeafSigner" "tape" "LLeafSigner$ByteRow;") (List.mem_of_getElem? (i := 1) rfl)) (fun _ h9 => h9) rfl dX7_feed_24 ?_
  refine lv_iload_n hx hb dX7_feed_27 rfl (lv_at hl 2 rfl) ?_
  have hPc := hP.sub (ws' := [(xt, .inr (0, [.ref xtw, .int 4])), (xtw, .inl (cT, 50, .inl f_91))]) [1, 2] rfl
  have hDc := hD.sub (ws' := [(xt, .inr (0, [.ref xtw, .int 4])), (xtw, .inl (cT, 50, .inl f_91))]) [1, 2] (by decide) rfl
  have hKc := hK.sub (tys' := [(cT, .int)]) [0] rfl
  have hFc := va_free (wc := [(xt, .inr (0, [.ref xtw, .int 4])), (xtw, .inl (cT, 50, .inl f_91))]) hD hS hA [1, 2] rfl
  refine va_callv (va_runV (As := [.int k2]) (rest := []) ⟨hx, hb, hml, hown, hts⟩ (ct_append l dC dI H.size xt k2 xtw 4 cT f_91 8 (by decide) (vx_in (by decide)) (by decide)) (cwV 1 hts gX7_feed_X0_append_66 rfl rfl rfl (by decide +kernel) ⟨(Nat.le_of_ble_eq_true rfl), (Nat.le_of_ble_eq_true rfl)⟩) ⟨fun a U g mk q => by obtain ⟨q0, q1, qP, qK, qD⟩ := q; exact ⟨q0, q1, qP, va_K.moved (u := U) (U := U.calling g mk a) (Vm.Alike.refl U.vm) qK, qD⟩, va_recv hKc hPc (ci := 0) (q0 := 0) rfl rfl, fun U hU hW => ⟨rfl, by rw [hU], by rw [hU]; exact hPc, va_K.moved hW.alike hKc, hDc.weaken (fun _ _ _ _ => trivial)⟩⟩ rfl rfl hl.1 rfl (lv_room (Nat.le_of_ble_eq_true rfl)) dX7_feed_28 ⟨(Nat.le_of_ble_eq_true rfl), (Nat.le_of_ble_eq_true rfl)⟩) hS (fun q _ h => hFc q h) hFc (fun u t H1 locs ht hvm hw hB hz1 hk1 hS => ?_)
  obtain ⟨f_93, hP1, hK1, hD1⟩ := hB
  rw [ht] at hP1
  have hK1 := va_K.moved hvm.symm hK1
  obtain ⟨hP, hD⟩ := va_join (wr := [(x, .inr (7, [.int h, .int r, .ref xt, .ref xo, .ref xh, .ref xs, .ref xm, .ref xq]))]) (w1 := [(xt, .inr (0, [.ref xtw, .int 8])), (xtw, .inl (cT, 50, .inl f_93))]) hP hD [1, 2] [0] rfl rfl (by decide) (by decide) hk1 hFc hP1 hD1
  have hK := hK.sub (tys' := []) [] rfl
  have hK := hK.app hK1
  generalize H1 = H at hP hS ⊢
  have hP : va_P (dC, dI) classes [(x, .inr (7, [.int h, .int r, .ref xt, .ref xo, .ref xh, .ref xs, .ref xm, .ref xq])), (xt, .inr (0, [.ref xtw, .int 8])), (xtw, .inl (cT, 50, .inl f_93))] H := hP
  have hD : va_D A [(x, .inr (7, [.int h, .int r, .ref xt, .ref xo, .ref xh, .ref xs, .ref xm, .ref xq])), (xt, .inr (0, [.ref xtw, .int 8])), (xtw, .inl (cT, 50, .inl f_93))] := hD
  have hK : va_K (dC, dI) classes [(cT, .int)] s := hK
  refine W.widen (k := 0) (n := 0) (Nat.le_of_ble_eq_true rfl) (Nat.le_of_ble_eq_true rfl) ?_
  refine lv_aload_n hx hb dX7_feed_31 rfl (lv_at hl 0 rfl) ?_
  refine va_get (D := (dC, dI)) (ci := 7) (v := .ref xt) (C := RX7) (T := TX7) (N := 8) hx hb hts iX7_feed_X7 hown hK hP 0 rfl rfl 2 (by decide) (hts (.fieldLink RX7 30 "LeafSigner" "tape" "LLeafSigner$ByteRow;") (List.mem_of_getElem? (i := 1) rfl)) (fun _ h9 => h9) rfl dX7_feed_32 ?_
  refine lv_iload_n hx hb dX7_feed_35 rfl (lv_at hl 3 rfl) ?_
  have hPc := hP.sub (ws' := [(xt, .inr (0, [.ref xtw, .int 8])), (xtw, .inl (cT, 50, .inl f_93))]) [1, 2] rfl
  have hDc := hD.sub (ws' := [(xt, .inr (0, [.ref xtw, .int 8])), (xtw, .inl (cT, 50, .inl f_93))]) [1, 2] (by decide) rfl
  have hKc := hK.sub (tys' := [(cT, .int)]) [0] rfl
  have hFc := va_free (wc := [(xt, .inr (0, [.ref xtw, .int 8])), (xtw, .inl (cT, 50, .inl f_93))]) hD hS hA [1, 2] rfl
  refine va_callv (va_runV (As := [.int k3]) (rest := []) ⟨hx, hb, hml, hown, hts⟩ (ct_append l dC dI H.size xt k3 xtw 8 cT f_93 12 (by decide) (vx_in (by decide)) (by decide)) (cwV 1 hts gX7_feed_X0_append_66 rfl rfl rfl (by decide +kernel) ⟨(Nat.le_of_ble_eq_true rfl), (Nat.le_of_ble_eq_true rfl)⟩) ⟨fun a U g mk q => by obtain ⟨q0, q1, qP, qK, qD⟩ := q; exact ⟨q0, q1, qP, va_K.moved (u := U) (U := U.calling g mk a) (Vm.Alike.refl U.vm) qK, qD⟩, va_recv hKc hPc (ci := 0) (q0 := 0) rfl rfl, fun U hU hW => ⟨rfl, by rw [hU], by rw [hU]; exact hPc, va_K.moved hW.alike hKc, hDc.weaken (fun _ _ _ _ => trivial)⟩⟩ rfl rfl hl.1 rfl (lv_room (Nat.le_of_ble_eq_true rfl)) dX7_feed_36 ⟨(Nat.le_of_ble_eq_true rfl), (Nat.le_of_ble_eq_true rfl)⟩) hS (fun q _ h => hFc q h) hFc (fun u t H1 locs ht hvm hw hB hz1 hk1 hS => ?_)
  obtain ⟨f_95, hP1, hK1, hD1⟩ := hB
  rw [ht] at hP1
  have hK1 := va_K.moved hvm.symm hK1
  obtain ⟨hP, hD⟩ := va_join (wr := [(x, .inr (7, [.int h, .int r, .ref xt, .ref xo, .ref xh, .ref xs, .ref xm, .ref xq]))]) (w1 := [(xt, .inr (0, [.ref xtw, .int 12])), (xtw, .inl (cT, 50, .inl f_95))]) hP hD [1, 2] [0] rfl rfl (by decide) (by decide) hk1 hFc hP1 hD1
  have hK := hK.sub (tys' := []) [] rfl
  have hK := hK.app hK1
  generalize H1 = H at hP hS ⊢
  have hP : va_P (dC, dI) classes [(x, .inr (7, [.int h, .int r, .ref xt, .ref xo, .ref xh, .ref xs, .ref xm, .ref xq])), (xt, .inr (0, [.ref xtw, .int 12])), (xtw, .inl (cT, 50, .inl f_95))] H := hP
  have hD : va_D A [(x, .inr (7, [.int h, .int r, .ref xt, .ref xo, .ref xh, .ref xs, .ref xm, .ref xq])), (xt, .inr (0, [.ref xtw, .int 12])), (xtw, .inl (cT, 50, .inl f_95))] := hD
  have hK : va_K (dC, dI) classes [(cT, .int)] s := hK
  refine W.widen (k := 0) (n := 0) (Nat.le_of_ble_eq_true rfl) (Nat.le_of_ble_eq_true rfl) ?_
  refine lv_aload_n hx hb dX7_feed_39 rfl (lv_at hl 0 rfl) ?_
  refine va_get (D := (dC, dI)) (ci := 7) (v := .ref xt) (C := RX7) (T := TX7) (N := 8) hx hb hts iX7_feed_X7 hown hK hP 0 rfl rfl 2 (by decide) (hts (.fieldLink RX7 30 "LeafSigner" "tape" "LLeafSigner$ByteRow;") (List.mem_of_getElem? (i := 1) rfl)) (fun _ h9 => h9) rfl dX7_feed_40 ?_
  refine lv_iload hx hb dX7_feed_43 (lv_at hl 4 rfl) ?_
  have hPc := hP.sub (ws' := [(xt, .inr (0, [.ref xtw, .int 12])), (xtw, .inl (cT, 50, .inl f_95))]) [1, 2] rfl
  have hDc := hD.sub (ws' := [(xt, .inr (0, [.ref xtw, .int 12])), (xtw, .inl (cT, 50, .inl f_95))]) [1, 2] (by decide) rfl
  have hKc := hK.sub (tys' := [(cT, .int)]) [0] rfl
  have hFc := va_free (wc := [(xt, .inr (0, [.ref xtw, .int 12])), (xtw, .inl (cT, 50, .inl f_95))]) hD hS hA [1, 2] rfl
  refine va_callv (va_runV (As := [.int k4]) (rest := []) ⟨hx, hb, hml, hown, hts⟩ (ct_append l dC dI H.size xt k4 xtw 12 cT f_95 16 (by decide) (vx_in (by decide)) (by decide)) (cwV 1 hts gX7_feed_X0_append_66 rfl rfl rfl (by decide +kernel) ⟨(Nat.le_of_ble_eq_true rfl), (Nat.le_of_ble_eq_true rfl)⟩) ⟨fun a U g mk q => by obtain ⟨q0, q1, qP, qK, qD⟩ := q; exact ⟨q0, q1, qP, va_K.moved (u := U) (U := U.calling g mk a) (Vm.Alike.refl U.vm) qK, qD⟩, va_recv hKc hPc (ci := 0) (q0 := 0) rfl rfl, fun U hU hW => ⟨rfl, by rw [hU], by rw [hU]; exact hPc, va_K.moved hW.alike hKc, hDc.weaken (fun _ _ _ _ => trivial)⟩⟩ rfl rfl hl.1 rfl (lv_room (Nat.le_of_ble_eq_true rfl)) dX7_feed_45 ⟨(Nat.le_of_ble_eq_true rfl), (Nat.le_of_ble_eq_true rfl)⟩) hS (fun q _ h => hFc q h) hFc (fun u t H1 locs ht hvm hw hB hz1 hk1 hS => ?_)
  obtain ⟨f_97, hP1, hK1, hD1⟩ := hB
  rw [ht] at hP1
  have hK1 := va_K.moved hvm.symm hK1
  obtain ⟨hP, hD⟩ := va_join (wr := [(x, .inr (7, [.int h, .int r, .ref xt, .ref xo, .ref xh, .ref xs, .ref xm, .ref xq]))]) (w1 := [(xt, .inr (0, [.ref xtw, .int 16])), (xtw, .inl (cT, 50, .inl f_97))]) hP hD [1, 2] [0] rfl rfl (by decide) (by decide) hk1 hFc hP1 hD1
  have hK := hK.sub (tys' := []) [] rfl
  have hK := hK.app hK1
  generalize H1 = H at hP hS ⊢
  have hP : va_P (dC, dI) classes [(x, .inr (7, [.int h, .int r, .ref xt, .ref xo, .ref xh, .ref xs, .ref xm, .ref xq])), (xt, .inr (0, [.ref xtw, .int 16])), (xtw, .inl (cT, 50, .inl f_97))] H := hP
  have hD : va_D A [(x, .inr (7, [.int h, .int r, .ref xt, .ref xo, .ref xh, .ref xs, .ref xm, .ref xq])), (xt, .inr (0, [.ref xtw, .int 16])), (xtw, .inl (cT, 50, .inl f_97))] := hD
  have hK : va_K (dC, dI) classes [(cT, .int)] s := hK
  refine W.widen (k := 0) (n := 0) (Nat.le_of_ble_eq_true rfl) (Nat.le_of_ble_eq_true rfl) ?_
  refine lv_aload_n hx hb dX7_feed_48 rfl (lv_at hl 0 rfl) ?_
  refine va_get (D := (dC, dI)) (ci := 7) (v := .ref xt) (C := RX7) (T := TX7) (N := 8) hx hb hts iX7_feed_X7 hown hK hP 0 rfl rfl 2 (by decide) (hts (.fieldLink RX7 30 "LeafSigner" "tape" "LLeafSigner$ByteRow;") (List.mem_of_getElem? (i := 1) rfl)) (fun _ h9 => h9) rfl dX7_feed_49 ?_
  refine lv_iload hx hb dX7_feed_52 (lv_at hl 5 rfl) ?_
  have hPc := hP.sub (ws' := [(xt, .inr (0, [.ref xtw, .int 16])), (xtw, .inl (cT, 50, .inl f_97))]) [1, 2] rfl
  have hDc := hD.sub (ws' := [(xt, .inr (0, [.ref xtw, .int 16])), (xtw, .inl (cT, 50, .inl f_97))]) [1, 2] (by decide) rfl
  have hKc := hK.sub (tys' := [(cT, .int)]) [0] rfl
  have hFc := va_free (wc := [(xt, .inr (0, [.ref xtw, .int 16])), (xtw, .inl (cT, 50, .inl f_97))]) hD hS hA [1, 2] rfl
  refine va_callv (va_runV (As := [.int k5]) (rest := []) ⟨hx, hb, hml, hown, hts⟩ (ct_append l dC dI H.size xt k5 xtw 16 cT f_97 20 (by decide) (vx_in (by decide)) (by decide)) (cwV 1 hts gX7_feed_X0_append_66 rfl rfl rfl (by decide +kernel) ⟨(Nat.le_of_ble_eq_true rfl), (Nat.le_of_ble_eq_true rfl)⟩) ⟨fun a U g mk q => by obtain ⟨q0, q1, qP, qK, qD⟩ := q; exact ⟨q0, q1, qP, va_K.moved (u := U) (U := U.calling g mk a) (Vm.Alike.refl U.vm) qK, qD⟩, va_recv hKc hPc (ci := 0) (q0 := 0) rfl rfl, fun U hU hW => ⟨rfl, by rw [hU], by rw [hU]; exact hPc, va_K.moved hW.alike hKc, hDc.weaken (fun _ _ _ _ => trivial)⟩⟩ rfl rfl hl.1 rfl (lv_room (Nat.le_of_ble_eq_true rfl)) dX7_feed_54 ⟨(Nat.le_of_ble_eq_true rfl), (Nat.le_of_ble_eq_true rfl)⟩) hS (fun q _ h => hFc q h) hFc (fun u t H1 locs ht hvm hw hB hz1 hk1 hS => ?_)
  obtain ⟨f_99, hP1, hK1, hD1⟩ := hB
  rw [ht] at hP1
  have hK1 := va_K.moved hvm.symm hK1
  obtain ⟨hP, hD⟩ := va_join (wr := [(x, .inr (7, [.int h, .int r, .ref xt, .ref xo, .ref xh, .ref xs, .ref xm, .ref xq]))]) (w1 := [(xt, .inr (0, [.ref xtw, .int 20])), (xtw, .inl (cT, 50, .inl f_99))]) hP hD [1, 2] [0] rfl rfl (by decide) (by decide) hk1 hFc hP1 hD1
  have hK := hK.sub (tys' := []) [] rfl
  have hK := hK.app hK1
  generalize H1 = H at hP hS ⊢
  have hP : va_P (dC, dI) classes [(x, .inr (7, [.int h, .int r, .ref xt, .ref xo, .ref xh, .ref xs, .ref xm, .ref xq])), (xt, .inr (0, [.ref xtw, .int 20])), (xtw, .inl (cT, 50, .inl f_99))] H := hP
  have hD : va_D A [(x, .inr (7, [.int h, .int r, .ref xt, .ref xo, .ref xh, .ref xs, .ref xm, .ref xq])), (xt, .inr (0, [.ref xtw, .int 20])), (xtw, .inl (cT, 50, .inl f_99))] := hD
  have hK : va_K (dC, dI) classes [(cT, .int)] s := hK
  refine W.widen (k := 0) (n := 0) (Nat.le_of_ble_eq_true rfl) (Nat.le_of_ble_eq_true rfl) ?_
  refine lv_aload_n hx hb dX7_feed_57 rfl (lv_at hl 0 rfl) ?_
  refine va_get (D := (dC, dI)) (ci := 7) (v := .ref xt) (C := RX7) (T := TX7) (N := 8) hx hb hts iX7_feed_X7 hown hK hP 0 rfl rfl 2 (by decide) (hts (.fieldLink RX7 30 "LeafSigner" "tape" "LLeafSigner$ByteRow;") (List.mem_of_getElem? (i := 1) rfl)) (fun _ h9 => h9) rfl dX7_feed_58 ?_
  refine va_get (D := (dC, dI)) (ci := 0) (v := .int 20) (C := RX0) (T := TX0) (N := 2) hx hb hts iX7_feed_X0 hown hK hP 1 rfl rfl 1 (by decide) (hts (.fieldLink RX7 63 "LeafSigner$ByteRow" "count" "I") (List.mem_of_getElem? (i := 2) rfl)) (fun _ h9 => h9) rfl dX7_feed_61 ?_
  refine W.widen (k := 0) (n := 0) (Nat.le_of_ble_eq_true rfl) (Nat.le_of_ble_eq_true rfl) ?_
  exact W.iret (v := 20) hx hb hr (fun t ht hW => ⟨⟨20, (), rfl, rfl, trivial⟩, hS.F ht⟩) hS.2.2 dX7_feed_64
def ww_X7_keys : List Cond := .code yX7_keys cX7_keys 1 (some .boolean) :: ([.fieldLink RX7 30 "LeafSigner" "tape" "LLeafSigner$ByteRow;", .fieldLink RX7 63 "LeafSigner$ByteRow" "count" "I"] ++ (wsX70 ++ wsX00))
theorem iX7_keys_X7 : ∀ w ∈ wsX70, w ∈ ww_X7_keys := fun w h => List.mem_cons_of_mem _ (List.mem_append_right _ (List.mem_append_left _ h))
theorem iX7_keys_X0 : ∀ w ∈ wsX00, w ∈ ww_X7_keys := fun w h => List.mem_cons_of_mem _ (List.mem_append_right _ (List.mem_append_right _ h))
set_option maxHeartbeats 4000000 in
set_option maxRecDepth 100000 in
theorem ct_keys (l : Launch) (dC : Nat → ClassId) (dI : Nat → Nat → Nat) (sz : Nat) (x : Nat) (h : Int32) (r : Int32) (xt : Nat) (xo : Nat) (xh : Nat) (xs : Nat) (xm : Nat) (xq : Nat) (xtw : Nat) : Met l yX7_keys ww_X7_keys ({ frames := 0, cells := 0, slots := 0, locals := 0 }) (va_Pc [.ref x] (fun U => U.heap.size = sz ∧ va_P (dC, dI) classes [(x, .inr (7, [.int h, .int r, .ref xt, .ref xo, .ref xh, .ref xs, .ref xm, .ref xq])), (xt, .inr (0, [.ref xtw, .int 0]))] U.heap ∧ va_K (dC, dI) classes [] U ∧ va_D (fun _ => True) [(x, .inr (7, [.int h, .int r, .ref xt, .ref xo, .ref xh, .ref xs, .ref xm, .ref xq])), (xt, .inr (0, [.ref xtw, .int 0]))])) (va_Qi (fun (r : Int32) (_ : Unit) => r = 0) (fun (_ : Unit) (_ : State) => True) (va_A [(x, .inr (7, [.int h, .int r, .ref xt, .ref xo, .ref xh, .ref xs, .ref xm, .ref xq])), (xt, .inr (0, [.ref xtw, .int 0]))] sz)) 0 0 (va_A [(x, .inr (7, [.int h, .int r, .ref xt, .ref xo, .ref xh, .ref xs, .ref xm, .ref xq])), (xt, .inr (0, [.ref xtw, .int 0]))] sz) := by
  refine Met.ofW (cc := cX7_keys) (maxL := 1) (ret := (some .boolean)) (by decide) rfl ?_
  intro p e s m args below meth c s₁ B hml hv
  obtain ⟨rfl, hsz, hP, hK, hD0⟩ := hv
  have hx := B.exec
  have hb := B.bytes
  have hr := B.returns
  have hts := atoms_spec (ws := ww_X7_keys) B.pre
  have hown : s.vm.findClass RX7 = some m.cls := findClass_of_methodNamed B.named
  have hlocks := B.notSynchronized
  subst hsz
  have hD := hD0.self (sz := s.heap.size)
  generalize hAe : va_A [(x, .inr (7, [.int h, .int r, .ref xt, .ref xo, .ref xh, .ref xs, .ref xm, .ref xq])), (xt, .inr (0, [.ref xtw, .int 0]))] s.heap.size = A at hD ⊢
  have hA : ∀ q : Nat, s.heap.size ≤ q → A q := fun q h => by rw [← hAe]; exact Or.inr h
  have hS : va_S A s.heap s.heap [] := va_S.rf
  have hP : va_P (dC, dI) classes [(x, .inr (7, [.int h, .int r, .ref xt, .ref xo, .ref xh, .ref xs, .ref xm, .ref xq])), (xt, .inr (0, [.ref xtw, .int 0]))] s.heap := hP
  have hl := lv_entry ([.ref x]) (n := 1) (Nat.le_of_ble_eq_true rfl)
  rw [lg_entry_eq]
  generalize (lg_sl ([.ref x]) ++ List.replicate (1 - (lg_sl ([.ref x])).length) Slot.unset).toArray = ls at hl ⊢
  have hl : lv_has ls 1 [(0, .ref x)] := hl
  generalize hHe : s.heap = H at hP ⊢
  have hS : va_S A s.heap H [] := by rw [← hHe]; exact va_S.rf
  refine lv_aload_n hx hb dX7_keys_0 rfl (lv_at hl 0 rfl) ?_
  refine va_get (D := (dC, dI)) (ci := 7) (v := .ref xt) (C := RX7) (T := TX7) (N := 8) hx hb hts iX7_keys_X7 hown hK hP 0 rfl rfl 2 (by decide) (hts (.fieldLink RX7 30 "LeafSigner" "tape" "LLeafSigner$ByteRow;") (List.mem_of_getElem? (i := 1) rfl)) (fun _ h9 => h9) rfl dX7_keys_1 ?_
  refine va_get (D := (dC, dI)) (ci := 0) (v := .int 0) (C := RX0) (T := TX0) (N := 2) hx hb hts iX7_keys_X0 hown hK hP 1 rfl rfl 1 (by decide) (hts (.fieldLink RX7 63 "LeafSigner$ByteRow" "count" "I") (List.mem_of_getElem? (i := 2) rfl)) (fun _ h9 => h9) rfl dX7_keys_4 ?_
  refine lv_bipush (v := 96) hx hb dX7_keys_7 (by decide) ?_
  refine lv_icmp_ge (tgt := 14) hx hb dX7_keys_9 (by decide) (fun c100 => absurd c100 (by decide)) (fun c100 => ?_)
  refine lv_iconst (v := 0) hx hb dX7_keys_12 (by decide) ?_
  refine W.widen (k := 0) (n := 0) (Nat.le_of_ble_eq_true rfl) (Nat.le_of_ble_eq_true rfl) ?_
  exact W.zret (v := 0) (ty := .boolean) hx hb hr (by decide) (fun t ht hW => ⟨⟨0, (), rfl, rfl, trivial⟩, hS.F ht⟩) hS.2.2 dX7_keys_13
def ww_X7_fall : List Cond := .code yX7_fall cX7_fall 1 (some .boolean) :: ([.fieldLink RX7 52 "LeafSigner" "machine" "LLeafSigner$Machine;", .fieldLink RX7 84 "LeafSigner$Machine" "state" "I"] ++ (wsX70 ++ wsX30))
theorem iX7_fall_X7 : ∀ w ∈ wsX70, w ∈ ww_X7_fall := fun w h => List.mem_cons_of_mem _ (List.mem_append_right _ (List.mem_append_left _ h))
theorem iX7_fall_X3 : ∀ w ∈ wsX30, w ∈ ww_X7_fall := fun w h => List.mem_cons_of_mem _ (List.mem_append_right _ (List.mem_append_right _ h))
set_option maxHeartbeats 4000000 in
set_option maxRecDepth 100000 in
theorem ct_fall (l : Launch) (dC : Nat → ClassId) (dI : Nat → Nat → Nat) (sz : Nat) (x : Nat) (h : Int32) (r : Int32) (xt : Nat) (xo : Nat) (xh : Nat) (xs : Nat) (xm : Nat) (xq : Nat) (xf : Nat) : Met l yX7_fall ww_X7_fall ({ frames := 0, cells := 0, slots := 0, locals := 0 }) (va_Pc [.ref x] (fun U => U.heap.size = sz ∧ va_P (dC, dI) classes [(x, .inr (7, [.int h, .int r, .ref xt, .ref xo, .ref xh, .ref xs, .ref xm, .ref xq])), (xm, .inr (3, [.ref xf, .int r, .ref xs, .int 0, .int 0, .int 0, .int 0]))] U.heap ∧ va_K (dC, dI) classes [] U ∧ va_D (fun _ => True) [(x, .inr (7, [.int h, .int r, .ref xt, .ref xo, .ref xh, .ref xs, .ref xm, .ref xq])), (xm, .inr (3, [.ref xf, .int r, .ref xs, .int 0, .int 0, .int 0, .int 0]))])) (va_Qi (fun (r : Int32) (_ : Unit) => r = 0) (fun (_ : Unit) (_ : State) => True) (va_A [(x, .inr (7, [.int h, .int r, .ref xt, .ref xo, .ref xh, .ref xs, .ref xm, .ref xq])), (xm, .inr (3, [.ref xf, .int r, .ref xs, .int 0, .int 0, .int 0, .int 0]))] sz)) 0 0 (va_A [(x, .inr (7, [.int h, .int r, .ref xt, .ref xo, .ref xh, .ref xs, .ref xm, .ref xq])), (xm, .inr (3, [.ref xf, .int r, .ref xs, .int 0, .int 0, .int 0, .int 0]))] sz) := by
  refine Met.ofW (cc := cX7_fall) (maxL := 1) (ret := (some .boolean)) (by decide) rfl ?_
  intro p e s m args below meth c s₁ B hml hv
  obtain ⟨rfl, hsz, hP, hK, hD0⟩ := hv
  have hx := B.exec
  have hb := B.bytes
  have hr := B.returns
  have hts := atoms_spec (ws := ww_X7_fall) B.pre
  have hown : s.vm.findClass RX7 = some m.cls := findClass_of_methodNamed B.named
  have hlocks := B.notSynchronized
  subst hsz
  have hD := hD0.self (sz := s.heap.size)
  generalize hAe : va_A [(x, .inr (7, [.int h, .int r, .ref xt, .ref xo, .ref xh, .ref xs, .ref xm, .ref xq])), (xm, .inr (3, [.ref xf, .int r, .ref xs, .int 0, .int 0, .int 0, .int 0]))] s.heap.size = A at hD ⊢
  have hA : ∀ q : Nat, s.heap.size ≤ q → A q := fun q h => by rw [← hAe]; exact Or.inr h
  have hS : va_S A s.heap s.heap [] := va_S.rf
  have hP : va_P (dC, dI) classes [(x, .inr (7, [.int h, .int r, .ref xt, .ref xo, .ref xh, .ref xs, .ref xm, .ref xq])), (xm, .inr (3, [.ref xf, .int r, .ref xs, .int 0, .int 0, .int 0, .int 0]))] s.heap := hP
  have hl := lv_entry ([.ref x]) (n := 1) (Nat.le_of_ble_eq_true rfl)
  rw [lg_entry_eq]
  generalize (lg_sl ([.ref x]) ++ List.replicate (1 - (lg_sl ([.ref x])).length) Slot.unset).toArray = ls at hl ⊢
  have hl : lv_has ls 1 [(0, .ref x)] := hl
  generalize hHe : s.heap = H at hP ⊢
  have hS : va_S A s.heap H [] := by rw [← hHe]; exact va_S.rf
  refine lv_aload_n hx hb dX7_fall_0 rfl (lv_at hl 0 rfl) ?_
  refine va_get (D := (dC, dI)) (ci := 7) (v := .ref xm) (C := RX7) (T := TX7) (N := 8) hx hb hts iX7_fall_X7 hown hK hP 0 rfl rfl 6 (by decide) (hts (.fieldLink RX7 52 "LeafSigner" "machine" "LLeafSigner$Machine;") (List.mem_of_getElem? (i := 1) rfl)) (fun _ h9 => h9) rfl dX7_fall_1 ?_
  refine va_get (D := (dC, dI)) (ci := 3) (v := .int 0) (C := RX3) (T := TX3) (N := 7) hx hb hts iX7_fall_X3 hown hK hP 1 rfl rfl 3 (by decide) (hts (.fieldLink RX7 84 "LeafSigner$Machine" "state" "I") (List.mem_of_getElem? (i := 2) rfl)) (fun _ h9 => h9) rfl dX7_fall_4 ?_
  refine lv_iconst (v := 1) hx hb dX7_fall_7 (by decide) ?_
  refine lv_icmp_eq (tgt := 13) hx hb dX7_fall_8 (by decide) (fun c101 => absurd c101 (by decide)) (fun c101 => ?_)
  refine lv_iconst (v := 0) hx hb dX7_fall_11 (by decide) ?_
  refine W.widen (k := 0) (n := 0) (Nat.le_of_ble_eq_true rfl) (Nat.le_of_ble_eq_true rfl) ?_
  exact W.zret (v := 0) (ty := .boolean) hx hb hr (by decide) (fun t ht hW => ⟨⟨0, (), rfl, rfl, trivial⟩, hS.F ht⟩) hS.2.2 dX7_fall_12
def ww_X7_rise : List Cond := .code yX7_rise cX7_rise 1 (some .boolean) :: ([.fieldLink RX7 52 "LeafSigner" "machine" "LLeafSigner$Machine;", .fieldLink RX7 84 "LeafSigner$Machine" "state" "I"] ++ (wsX70 ++ wsX30))
theorem iX7_rise_X7 : ∀ w ∈ wsX70, w ∈ ww_X7_rise := fun w h => List.mem_cons_of_mem _ (List.mem_append_right _ (List.mem_append_left _ h))
theorem iX7_rise_X3 : ∀ w ∈ wsX30, w ∈ ww_X7_rise := fun w h => List.mem_cons_of_mem _ (List.mem_append_right _ (List.mem_append_right _ h))
set_option maxHeartbeats 4000000 in
set_option maxRecDepth 100000 in
theorem ct_rise (l : Launch) (dC : Nat → ClassId) (dI : Nat → Nat → Nat) (sz : Nat) (x : Nat) (h : Int32) (r : Int32) (xt : Nat) (xo : Nat) (xh : Nat) (xs : Nat) (xm : Nat) (xq : Nat) (xf : Nat) : Met l yX7_rise ww_X7_rise ({ frames := 0, cells := 0, slots := 0, locals := 0 }) (va_Pc [.ref x] (fun U => U.heap.size = sz ∧ va_P (dC, dI) classes [(x, .inr (7, [.int h, .int r, .ref xt, .ref xo, .ref xh, .ref xs, .ref xm, .ref xq])), (xm, .inr (3, [.ref xf, .int r, .ref xs, .int 0, .int 0, .int 0, .int 0]))] U.heap ∧ va_K (dC, dI) classes [] U ∧ va_D (fun _ => True) [(x, .inr (7, [.int h, .int r, .ref xt, .ref xo, .ref xh, .ref xs, .ref xm, .ref xq])), (xm, .inr (3, [.ref xf, .int r, .ref xs, .int 0, .int 0, .int 0, .int 0]))])) (va_Qi (fun (r : Int32) (_ : Unit) => r = 0) (fun (_ : Unit) (_ : State) => True) (va_A [(x, .inr (7, [.int h, .int r, .ref xt, .ref xo, .ref xh, .ref xs, .ref xm, .ref xq])), (xm, .inr (3, [.ref xf, .int r, .ref xs, .int 0, .int 0, .int 0, .int 0]))] sz)) 0 0 (va_A [(x, .inr (7, [.int h, .int r, .ref xt, .ref xo, .ref xh, .ref xs, .ref xm, .ref xq])), (xm, .inr (3, [.ref xf, .int r, .ref xs, .int 0, .int 0, .int 0, .int 0]))] sz) := by
  refine Met.ofW (cc := cX7_rise) (maxL := 1) (ret := (some .boolean)) (by decide) rfl ?_
  intro p e s m args below meth c s₁ B hml hv
  obtain ⟨rfl, hsz, hP, hK, hD0⟩ := hv
  have hx := B.exec
  have hb := B.bytes
  have hr := B.returns
  have hts := atoms_spec (ws := ww_X7_rise) B.pre
  have hown : s.vm.findClass RX7 = some m.cls := findClass_of_methodNamed B.named
  have hlocks := B.notSynchronized
  subst hsz
  have hD := hD0.self (sz := s.heap.size)
  generalize hAe : va_A [(x, .inr (7, [.int h, .int r, .ref xt, .ref xo, .ref xh, .ref xs, .ref xm, .ref xq])), (xm, .inr (3, [.ref xf, .int r, .ref xs, .int 0, .int 0, .int 0, .int 0]))] s.heap.size = A at hD ⊢
  have hA : ∀ q : Nat, s.heap.size ≤ q → A q := fun q h => by rw [← hAe]; exact Or.inr h
  have hS : va_S A s.heap s.heap [] := va_S.rf
  have hP : va_P (dC, dI) classes [(x, .inr (7, [.int h, .int r, .ref xt, .ref xo, .ref xh, .ref xs, .ref xm, .ref xq])), (xm, .inr (3, [.ref xf, .int r, .ref xs, .int 0, .int 0, .int 0, .int 0]))] s.heap := hP
  have hl := lv_entry ([.ref x]) (n := 1) (Nat.le_of_ble_eq_true rfl)
  rw [lg_entry_eq]
  generalize (lg_sl ([.ref x]) ++ List.replicate (1 - (lg_sl ([.ref x])).length) Slot.unset).toArray = ls at hl ⊢
  have hl : lv_has ls 1 [(0, .ref x)] := hl
  generalize hHe : s.heap = H at hP ⊢
  have hS : va_S A s.heap H [] := by rw [← hHe]; exact va_S.rf
  refine lv_aload_n hx hb dX7_rise_0 rfl (lv_at hl 0 rfl) ?_
  refine va_get (D := (dC, dI)) (ci := 7) (v := .ref xm) (C := RX7) (T := TX7) (N := 8) hx hb hts iX7_rise_X7 hown hK hP 0 rfl rfl 6 (by decide) (hts (.fieldLink RX7 52 "LeafSigner" "machine" "LLeafSigner$Machine;") (List.mem_of_getElem? (i := 1) rfl)) (fun _ h9 => h9) rfl dX7_rise_1 ?_
  refine va_get (D := (dC, dI)) (ci := 3) (v := .int 0) (C := RX3) (T := TX3) (N := 7) hx hb hts iX7_rise_X3 hown hK hP 1 rfl rfl 3 (by decide) (hts (.fieldLink RX7 84 "LeafSigner$Machine" "state" "I") (List.mem_of_getElem? (i := 2) rfl)) (fun _ h9 => h9) rfl dX7_rise_4 ?_
  refine lv_iconst (v := 2) hx hb dX7_rise_7 (by decide) ?_
  refine lv_icmp_eq (tgt := 13) hx hb dX7_rise_8 (by decide) (fun c102 => absurd c102 (by decide)) (fun c102 => ?_)
  refine lv_iconst (v := 0) hx hb dX7_rise_11 (by decide) ?_
  refine W.widen (k := 0) (n := 0) (Nat.le_of_ble_eq_true rfl) (Nat.le_of_ble_eq_true rfl) ?_
  exact W.zret (v := 0) (ty := .boolean) hx hb hr (by decide) (fun t ht hW => ⟨⟨0, (), rfl, rfl, trivial⟩, hS.F ht⟩) hS.2.2 dX7_rise_12
def ww_X7_sign : List Cond := .code yX7_sign cX7_sign 3 (some .int) :: ([.methodLink RX7 80 yX7_isWrongCount, .instanceMethod yX7_isWrongCount, .selects RX7 yX7_isWrongCount yX7_isWrongCount, .initialized RX7, .code yX7_isWrongCount cX7_isWrongCount 2 (some .boolean), .fieldLink RX7 30 "LeafSigner" "tape" "LLeafSigner$ByteRow;", .fieldLink RX7 63 "LeafSigner$ByteRow" "count" "I", .fieldLink RX7 52 "LeafSigner" "machine" "LLeafSigner$Machine;", .fieldLink RX7 84 "LeafSigner$Machine" "state" "I"] ++ (wsX70 ++ wsX00 ++ wsX30))
theorem iX7_sign_X7 : ∀ w ∈ wsX70, w ∈ ww_X7_sign := fun w h => List.mem_cons_of_mem _ (List.mem_append_right _ (List.mem_append_left _ (List.mem_append_left _ h)))
theorem iX7_sign_X0 : ∀ w ∈ wsX00, w ∈ ww_X7_sign := fun w h => List.mem_cons_of_mem _ (List.mem_append_right _ (List.mem_append_left _ (List.mem_append_right _ h)))
theorem iX7_sign_X3 : ∀ w ∈ wsX30, w ∈ ww_X7_sign := fun w h => List.mem_cons_of_mem _ (List.mem_append_right _ (List.mem_append_right _ h))
set_option maxRecDepth 20000 in
theorem gX7_sign_X7_isWrongCount_80 : GoodIn ww_X7_sign (wsV RX7 80 RX7 yX7_isWrongCount ww_X7_isWrongCount) := vx_good _ [1, 2, 3, 4, 5, 6, 7, 10, 11, 12, 13, 14, 15, 16, 17, 18, 19] rfl (by decide +kernel)
set_option maxHeartbeats 4000000 in
set_option maxRecDepth 100000 in
theorem ct_sign (l : Launch) (dC : Nat → ClassId) (dI : Nat → Nat → Nat) (sz : Nat) (x : Nat) (k : Int32) (h : Int32) (r : Int32) (xt : Nat) (xo : Nat) (xh : Nat) (xs : Nat) (xm : Nat) (xq : Nat) (xtw : Nat) (xf : Nat) : Met l yX7_sign ww_X7_sign ({ frames := 1, cells := 0, slots := 0, locals := 21 }) (va_Pc [.ref x, .int k] (fun U => U.heap.size = sz ∧ va_P (dC, dI) classes [(x, .inr (7, [.int h, .int r, .ref xt, .ref xo, .ref xh, .ref xs, .ref xm, .ref xq])), (xt, .inr (0, [.ref xtw, .int 0])), (xm, .inr (3, [.ref xf, .int r, .ref xs, .int 0, .int 0, .int 0, .int 0]))] U.heap ∧ va_K (dC, dI) classes [] U ∧ va_D (fun _ => True) [(x, .inr (7, [.int h, .int r, .ref xt, .ref xo, .ref xh, .ref xs, .ref xm, .ref xq])), (xt, .inr (0, [.ref xtw, .int 0])), (xm, .inr (3, [.ref xf, .int r, .ref xs, .int 0, .int 0, .int 0, .int 0]))])) (va_Qi (fun (r : Int32) (_ : Unit) => r = fk_sign k) (fun (_ : Unit) (_ : State) => True) (va_A [(x, .inr (7, [.int h, .int r, .ref xt, .ref xo, .ref xh, .ref xs, .ref xm, .ref xq])), (xt, .inr (0, [.ref xtw, .int 0])), (xm, .inr (3, [.ref xf, .int r, .ref xs, .int 0, .int 0, .int 0, .int 0]))] sz)) 0 0 (va_A [(x, .inr (7, [.int h, .int r, .ref xt, .ref xo, .ref xh, .ref xs, .ref xm, .ref xq])), (xt, .inr (0, [.ref xtw, .int 0])), (xm, .inr (3, [.ref xf, .int r, .ref xs, .int 0, .int 0, .int 0, .int 0]))] sz) := by
  refine Met.ofW (cc := cX7_sign) (maxL := 3) (ret := (some .int)) (by decide) rfl ?_
  intro p e s m args below meth c s₁ B hml hv
  obtain ⟨rfl, hsz, hP, hK, hD0⟩ := hv
  have hx := B.exec
  have hb := B.bytes
  have hr := B.returns
  have hts := atoms_spec (ws := ww_X7_sign) B.pre
  have hown : s.vm.findClass RX7 = some m.cls := findClass_of_methodNamed B.named
  have hlocks := B.notSynchronized
  subst hsz
  have hD := hD0.self (sz := s.heap.size)
  generalize hAe : va_A [(x, .inr (7, [.int h, .int r, .ref xt, .ref xo, .ref xh, .ref xs, .ref xm, .ref xq])), (xt, .inr (0, [.ref xtw, .int 0])), (xm, .inr (3, [.ref xf, .int r, .ref xs, .int 0, .int 0, .int 0, .int 0]))] s.heap.size = A at hD ⊢
  have hA : ∀ q : Nat, s.heap.size ≤ q → A q := fun q h => by rw [← hAe]; exact Or.inr h
  have hS : va_S A s.heap s.heap [] := va_S.rf
  have hP : va_P (dC, dI) classes [(x, .inr (7, [.int h, .int r, .ref xt, .ref xo, .ref xh, .ref xs, .ref xm, .ref xq])), (xt, .inr (0, [.ref xtw, .int 0])), (xm, .inr (3, [.ref xf, .int r, .ref xs, .int 0, .int 0, .int 0, .int 0]))] s.heap := hP
  have hl := lv_entry ([.ref x, .int k]) (n := 3) (Nat.le_of_ble_eq_true rfl)
  rw [lg_entry_eq]
  generalize (lg_sl ([.ref x, .int k]) ++ List.replicate (3 - (lg_sl ([.ref x, .int k])).length) Slot.unset).toArray = ls at hl ⊢
  have hl : lv_has ls 3 [(0, .ref x), (1, .int k)] := hl
  generalize hHe : s.heap = H at hP ⊢
  have hS : va_S A s.heap H [] := by rw [← hHe]; exact va_S.rf
  refine lv_aload_n hx hb dX7_sign_0 rfl (lv_at hl 0 rfl) ?_
  refine lv_iload_n hx hb dX7_sign_1 rfl (lv_at hl 1 rfl) ?_
  have hPc := hP.sub (ws' := [(x, .inr (7, [.int h, .int r, .ref xt, .ref xo, .ref xh, .ref xs, .ref xm, .ref xq])), (xt, .inr (0, [.ref xtw, .int 0]))]) [0, 1] rfl
  have hDc := hD.sub (ws' := [(x, .inr (7, [.int h, .int r, .ref xt, .ref xo, .ref xh, .ref xs, .ref xm, .ref xq])), (xt, .inr (0, [.ref xtw, .int 0]))]) [0, 1] (by decide) rfl
  have hKc := hK.sub (tys' := []) [] rfl
  have hFc := va_free (wc := [(x, .inr (7, [.int h, .int r, .ref xt, .ref xo, .ref xh, .ref xs, .ref xm, .ref xq])), (xt, .inr (0, [.ref xtw, .int 0]))]) hD hS hA [0, 1] rfl
  refine va_calli (va_runV (As := [.int k]) (rest := []) ⟨hx, hb, hml, hown, hts⟩ (ct_wrong l dC dI H.size x k h r xt xo xh xs xm xq xtw) (cwV 1 hts gX7_sign_X7_isWrongCount_80 rfl rfl rfl (by decide +kernel) ⟨(Nat.le_of_ble_eq_true rfl), (Nat.le_of_ble_eq_true rfl)⟩) ⟨fun a U g mk q => by obtain ⟨q0, q1, qP, qK, qD⟩ := q; exact ⟨q0, q1, qP, va_K.moved (u := U) (U := U.calling g mk a) (Vm.Alike.refl U.vm) qK, qD⟩, va_recv hKc hPc (ci := 7) (q0 := 0) rfl rfl, fun U hU hW => ⟨rfl, by rw [hU], by rw [hU]; exact hPc, va_K.moved hW.alike hKc, hDc.weaken (fun _ _ _ _ => trivial)⟩⟩ rfl rfl hl.1 rfl (lv_room (Nat.le_of_ble_eq_true rfl)) dX7_sign_2 ⟨(Nat.le_of_ble_eq_true rfl), (Nat.le_of_ble_eq_true rfl)⟩) hS (fun q _ h => hFc q h) hFc (fun r103 u t H1 locs ht hvm hw hB hz1 hk1 hS => ?_)
  obtain ⟨hP1, hK1, hD1⟩ := hB
  rw [ht] at hP1
  have hK1 := va_K.moved hvm.symm hK1
  obtain ⟨hP, hD⟩ := va_join (wr := [(xm, .inr (3, [.ref xf, .int r, .ref xs, .int 0, .int 0, .int 0, .int 0]))]) (w1 := [(x, .inr (7, [.int h, .int r, .ref xt, .ref xo, .ref xh, .ref xs, .ref xm, .ref xq])), (xt, .inr (0, [.ref xtw, .int 0]))]) hP hD [0, 1] [2] rfl rfl (by decide) (by decide) hk1 hFc hP1 hD1
  have hK := hK.sub (tys' := []) [] rfl
  have hK := hK.app hK1
  generalize H1 = H at hP hS ⊢
  have hP : va_P (dC, dI) classes [(xm, .inr (3, [.ref xf, .int r, .ref xs, .int 0, .int 0, .int 0, .int 0])), (x, .inr (7, [.int h, .int r, .ref xt, .ref xo, .ref xh, .ref xs, .ref xm, .ref xq])), (xt, .inr (0, [.ref xtw, .int 0]))] H := hP
  have hD : va_D A [(xm, .inr (3, [.ref xf, .int r, .ref xs, .int 0, .int 0, .int 0, .int 0])), (x, .inr (7, [.int h, .int r, .ref xt, .ref xo, .ref xh, .ref xs, .ref xm, .ref xq])), (xt, .inr (0, [.ref xtw, .int 0]))] := hD
  have hK : va_K (dC, dI) classes [] s := hK
  refine W.widen (k := 0) (n := 0) (Nat.le_of_ble_eq_true rfl) (Nat.le_of_ble_eq_true rfl) ?_
  try dsimp only at hw
  subst hw
  refine lv_if_eq (tgt := 11) hx hb dX7_sign_5 (by decide) (fun c104 => ?_) (fun c104 => ?_)
  · refine lv_aload_n hx hb dX7_sign_11 rfl (lv_at hl 0 rfl) ?_
    refine va_get (D := (dC, dI)) (ci := 7) (v := .ref xm) (C := RX7) (T := TX7) (N := 8) hx hb hts iX7_sign_X7 hown hK hP 1 rfl rfl 6 (by decide) (hts (.fieldLink RX7 52 "LeafSigner" "machine" "LLeafSigner$Machine;") (List.mem_of_getElem? (i := 8) rfl)) (fun _ h9 => h9) rfl dX7_sign_12 ?_
    refine va_get (D := (dC, dI)) (ci := 3) (v := .int 0) (C := RX3) (T := TX3) (N := 7) hx hb hts iX7_sign_X3 hown hK hP 0 rfl rfl 3 (by decide) (hts (.fieldLink RX7 84 "LeafSigner$Machine" "state" "I") (List.mem_of_getElem? (i := 9) rfl)) (fun _ h9 => h9) rfl dX7_sign_15 ?_
    refine lv_iconst (v := 1) hx hb dX7_sign_18 (by decide) ?_
    refine lv_icmp_eq (tgt := 25) hx hb dX7_sign_19 (by decide) (fun c105 => absurd c105 (by decide)) (fun c105 => ?_)
    refine lv_bipush (v := (-3)) hx hb dX7_sign_22 (by decide) ?_
    refine W.widen (k := 0) (n := 0) (Nat.le_of_ble_eq_true rfl) (Nat.le_of_ble_eq_true rfl) ?_
    exact W.iret (v := (-3)) hx hb hr (fun t ht hW => ⟨⟨(-3), (), rfl, (by unfold fk_sign; rw [if_pos c104]), trivial⟩, hS.F ht⟩) hS.2.2 dX7_sign_24
  · refine lv_bipush (v := (-2)) hx hb dX7_sign_8 (by decide) ?_
    refine W.widen (k := 0) (n := 0) (Nat.le_of_ble_eq_true rfl) (Nat.le_of_ble_eq_true rfl) ?_
    exact W.iret (v := (-2)) hx hb hr (fun t ht hW => ⟨⟨(-2), (), rfl, (by unfold fk_sign; rw [if_neg c104]), trivial⟩, hS.F ht⟩) hS.2.2 dX7_sign_10
def ww_X7_verify : List Cond := .code yX7_verify cX7_verify 2 (some .int) :: ([.methodLink RX7 80 yX7_isWrongCount, .instanceMethod yX7_isWrongCount, .selects RX7 yX7_isWrongCount yX7_isWrongCount, .initialized RX7, .code yX7_isWrongCount cX7_isWrongCount 2 (some .boolean), .fieldLink RX7 30 "LeafSigner" "tape" "LLeafSigner$ByteRow;", .fieldLink RX7 63 "LeafSigner$ByteRow" "count" "I", .methodLink RX7 122 yX7_wasNeverKeyed, .instanceMethod yX7_wasNeverKeyed, .selects RX7 yX7_wasNeverKeyed yX7_wasNeverKeyed, .code yX7_wasNeverKeyed cX7_wasNeverKeyed 1 (some .boolean), .fieldLink RX7 52 "LeafSigner" "machine" "LLeafSigner$Machine;", .fieldLink RX7 84 "LeafSigner$Machine" "state" "I"] ++ (wsX70 ++ wsX00 ++ wsX30))
theorem iX7_verify_X7 : ∀ w ∈ wsX70, w ∈ ww_X7_verify := fun w h => List.mem_cons_of_mem _ (List.mem_append_right _ (List.mem_append_left _ (List.mem_append_left _ h)))
theorem iX7_verify_X0 : ∀ w ∈ wsX00, w ∈ ww_X7_verify := fun w h => List.mem_cons_of_mem _ (List.mem_append_right _ (List.mem_append_left _ (List.mem_append_right _ h)))
theorem iX7_verify_X3 : ∀ w ∈ wsX30, w ∈ ww_X7_verify := fun w h => List.mem_cons_of_mem _ (List.mem_append_right _ (List.mem_append_right _ h))
set_option maxRecDepth 20000 in
theorem gX7_verify_X7_isWrongCount_80 : GoodIn ww_X7_verify (wsV RX7 80 RX7 yX7_isWrongCount ww_X7_isWrongCount) := vx_good _ [1, 2, 3, 4, 5, 6, 7, 14, 15, 16, 17, 18, 19, 20, 21, 22, 23] rfl (by decide +kernel)
set_option maxRecDepth 20000 in
theorem gX7_verify_X7_wasNeverKeyed_122 : GoodIn ww_X7_verify (wsV RX7 122 RX7 yX7_wasNeverKeyed ww_X7_wasNeverKeyed) := vx_good _ [8, 9, 10, 4, 11, 12, 13, 14, 15, 16, 17, 18, 19, 20, 21, 24, 25, 26, 27, 28, 29, 30] rfl (by decide +kernel)
set_option maxHeartbeats 4000000 in
set_option maxRecDepth 100000 in
theorem ct_verify (l : Launch) (dC : Nat → ClassId) (dI : Nat → Nat → Nat) (sz : Nat) (x : Nat) (k : Int32) (h : Int32) (r : Int32) (xt : Nat) (xo : Nat) (xh : Nat) (xs : Nat) (xm : Nat) (xq : Nat) (xtw : Nat) (xf : Nat) : Met l yX7_verify ww_X7_verify ({ frames := 1, cells := 0, slots := 0, locals := 21 }) (va_Pc [.ref x, .int k] (fun U => U.heap.size = sz ∧ va_P (dC, dI) classes [(x, .inr (7, [.int h, .int r, .ref xt, .ref xo, .ref xh, .ref xs, .ref xm, .ref xq])), (xt, .inr (0, [.ref xtw, .int 0])), (xm, .inr (3, [.ref xf, .int r, .ref xs, .int 0, .int 0, .int 0, .int 0]))] U.heap ∧ va_K (dC, dI) classes [] U ∧ va_D (fun _ => True) [(x, .inr (7, [.int h, .int r, .ref xt, .ref xo, .ref xh, .ref xs, .ref xm, .ref xq])), (xt, .inr (0, [.ref xtw, .int 0])), (xm, .inr (3, [.ref xf, .int r, .ref xs, .int 0, .int 0, .int 0, .int 0]))])) (va_Qi (fun (r : Int32) (_ : Unit) => r = fk_sign k) (fun (_ : Unit) (_ : State) => True) (va_A [(x, .inr (7, [.int h, .int r, .ref xt, .ref xo, .ref xh, .ref xs, .ref xm, .ref xq])), (xt, .inr (0, [.ref xtw, .int 0])), (xm, .inr (3, [.ref xf, .int r, .ref xs, .int 0, .int 0, .int 0, .int 0]))] sz)) 0 0 (va_A [(x, .inr (7, [.int h, .int r, .ref xt, .ref xo, .ref xh, .ref xs, .ref xm, .ref xq])), (xt, .inr (0, [.ref xtw, .int 0])), (xm, .inr (3, [.ref xf, .int r, .ref xs, .int 0, .int 0, .int 0, .int 0]))] sz) := by
  refine Met.ofW (cc := cX7_verify) (maxL := 2) (ret := (some .int)) (by decide) rfl ?_
  intro p e s m args below meth c s₁ B hml hv
  obtain ⟨rfl, hsz, hP, hK, hD0⟩ := hv
  have hx := B.exec
  have hb := B.bytes
  have hr := B.returns
  have hts := atoms_spec (ws := ww_X7_verify) B.pre
  have hown : s.vm.findClass RX7 = some m.cls := findClass_of_methodNamed B.named
  have hlocks := B.notSynchronized
  subst hsz
  have hD := hD0.self (sz := s.heap.size)
  generalize hAe : va_A [(x, .inr (7, [.int h, .int r, .ref xt, .ref xo, .ref xh, .ref xs, .ref xm, .ref xq])), (xt, .inr (0, [.ref xtw, .int 0])), (xm, .inr (3, [.ref xf, .int r, .ref xs, .int 0, .int 0, .int 0, .int 0]))] s.heap.size = A at hD ⊢
  have hA : ∀ q : Nat, s.heap.size ≤ q → A q := fun q h => by rw [← hAe]; exact Or.inr h
  have hS : va_S A s.heap s.heap [] := va_S.rf
  have hP : va_P (dC, dI) classes [(x, .inr (7, [.int h, .int r, .ref xt, .ref xo, .ref xh, .ref xs, .ref xm, .ref xq])), (xt, .inr (0, [.ref xtw, .int 0])), (xm, .inr (3, [.ref xf, .int r, .ref xs, .int 0, .int 0, .int 0, .int 0]))] s.heap := hP
  have hl := lv_entry ([.ref x, .int k]) (n := 2) (Nat.le_of_ble_eq_true rfl)
  rw [lg_entry_eq]
  generalize (lg_sl ([.ref x, .int k]) ++ List.replicate (2 - (lg_sl ([.ref x, .int k])).length) Slot.unset).toArray = ls at hl ⊢
  have hl : lv_has ls 2 [(0, .ref x), (1, .int k)] := hl
  generalize hHe : s.heap = H at hP ⊢
  have hS : va_S A s.heap H [] := by rw [← hHe]; exact va_S.rf
  refine lv_aload_n hx hb dX7_verify_0 rfl (lv_at hl 0 rfl) ?_
  refine lv_iload_n hx hb dX7_verify_1 rfl (lv_at hl 1 rfl) ?_
  have hPc := hP.sub (ws' := [(x, .inr (7, [.int h, .int r, .ref xt, .ref xo, .ref xh, .ref xs, .ref xm, .ref xq])), (xt, .inr (0, [.ref xtw, .int 0]))]) [0, 1] rfl
  have hDc := hD.sub (ws' := [(x, .inr (7, [.int h, .int r, .ref xt, .ref xo, .ref xh, .ref xs, .ref xm, .ref xq])), (xt, .inr (0, [.ref xtw, .int 0]))]) [0, 1] (by decide) rfl
  have hKc := hK.sub (tys' := []) [] rfl
  have hFc := va_free (wc := [(x, .inr (7, [.int h, .int r, .ref xt, .ref xo, .ref xh, .ref xs, .ref xm, .ref xq])), (xt, .inr (0, [.ref xtw, .int 0]))]) hD hS hA [0, 1] rfl
  refine va_calli (va_runV (As := [.int k]) (rest := []) ⟨hx, hb, hml, hown, hts⟩ (ct_wrong l dC dI H.size x k h r xt xo xh xs xm xq xtw) (cwV 1 hts gX7_verify_X7_isWrongCount_80 rfl rfl rfl (by decide +kernel) ⟨(Nat.le_of_ble_eq_true rfl), (Nat.le_of_ble_eq_true rfl)⟩) ⟨fun a U g mk q => by obtain ⟨q0, q1, qP, qK, qD⟩ := q; exact ⟨q0, q1, qP, va_K.moved (u := U) (U := U.calling g mk a) (Vm.Alike.refl U.vm) qK, qD⟩, va_recv hKc hPc (ci := 7) (q0 := 0) rfl rfl, fun U hU hW => ⟨rfl, by rw [hU], by rw [hU]; exact hPc, va_K.moved hW.alike hKc, hDc.weaken (fun _ _ _ _ => trivial)⟩⟩ rfl rfl hl.1 rfl (lv_room (Nat.le_of_ble_eq_true rfl)) dX7_verify_2 ⟨(Nat.le_of_ble_eq_true rfl), (Nat.le_of_ble_eq_true rfl)⟩) hS (fun q _ h => hFc q h) hFc (fun r106 u t H1 locs ht hvm hw hB hz1 hk1 hS => ?_)
  obtain ⟨hP1, hK1, hD1⟩ := hB
  rw [ht] at hP1
  have hK1 := va_K.moved hvm.symm hK1
  obtain ⟨hP, hD⟩ := va_join (wr := [(xm, .inr (3, [.ref xf, .int r, .ref xs, .int 0, .int 0, .int 0, .int 0]))]) (w1 := [(x, .inr (7, [.int h, .int r, .ref xt, .ref xo, .ref xh, .ref xs, .ref xm, .ref xq])), (xt, .inr (0, [.ref xtw, .int 0]))]) hP hD [0, 1] [2] rfl rfl (by decide) (by decide) hk1 hFc hP1 hD1
  have hK := hK.sub (tys' := []) [] rfl
  have hK := hK.app hK1
  generalize H1 = H at hP hS ⊢
  have hP : va_P (dC, dI) classes [(xm, .inr (3, [.ref xf, .int r, .ref xs, .int 0, .int 0, .int 0, .int 0])), (x, .inr (7, [.int h, .int r, .ref xt, .ref xo, .ref xh, .ref xs, .ref xm, .ref xq])), (xt, .inr (0, [.ref xtw, .int 0]))] H := hP
  have hD : va_D A [(xm, .inr (3, [.ref xf, .int r, .ref xs, .int 0, .int 0, .int 0, .int 0])), (x, .inr (7, [.int h, .int r, .ref xt, .ref xo, .ref xh, .ref xs, .ref xm, .ref xq])), (xt, .inr (0, [.ref xtw, .int 0]))] := hD
  have hK : va_K (dC, dI) classes [] s := hK
  refine W.widen (k := 0) (n := 0) (Nat.le_of_ble_eq_true rfl) (Nat.le_of_ble_eq_true rfl) ?_
  try dsimp only at hw
  subst hw
  refine lv_if_eq (tgt := 11) hx hb dX7_verify_5 (by decide) (fun c107 => ?_) (fun c107 => ?_)
  · refine lv_aload_n hx hb dX7_verify_11 rfl (lv_at hl 0 rfl) ?_
    have hPc := hP.sub (ws' := [(x, .inr (7, [.int h, .int r, .ref xt, .ref xo, .ref xh, .ref xs, .ref xm, .ref xq])), (xm, .inr (3, [.ref xf, .int r, .ref xs, .int 0, .int 0, .int 0, .int 0]))]) [1, 0] rfl
    have hDc := hD.sub (ws' := [(x, .inr (7, [.int h, .int r, .ref xt, .ref xo, .ref xh, .ref xs, .ref xm, .ref xq])), (xm, .inr (3, [.ref xf, .int r, .ref xs, .int 0, .int 0, .int 0, .int 0]))]) [1, 0] (by decide) rfl
    have hKc := hK.sub (tys' := []) [] rfl
    have hFc := va_free (wc := [(x, .inr (7, [.int h, .int r, .ref xt, .ref xo, .ref xh, .ref xs, .ref xm, .ref xq])), (xm, .inr (3, [.ref xf, .int r, .ref xs, .int 0, .int 0, .int 0, .int 0]))]) hD hS hA [1, 0] rfl
    refine va_calli (va_runV (As := []) (rest := []) ⟨hx, hb, hml, hown, hts⟩ (ct_never l dC dI H.size x h r xt xo xh xs xm xq xf) (cwV 0 hts gX7_verify_X7_wasNeverKeyed_122 rfl rfl rfl (by decide +kernel) ⟨(Nat.le_of_ble_eq_true rfl), (Nat.le_of_ble_eq_true rfl)⟩) ⟨fun a U g mk q => by obtain ⟨q0, q1, qP, qK, qD⟩ := q; exact ⟨q0, q1, qP, va_K.moved (u := U) (U := U.calling g mk a) (Vm.Alike.refl U.vm) qK, qD⟩, va_recv hKc hPc (ci := 7) (q0 := 0) rfl rfl, fun U hU hW => ⟨rfl, by rw [hU], by rw [hU]; exact hPc, va_K.moved hW.alike hKc, hDc.weaken (fun _ _ _ _ => trivial)⟩⟩ rfl rfl hl.1 rfl (lv_room (Nat.le_of_ble_eq_true rfl)) dX7_verify_12 ⟨(Nat.le_of_ble_eq_true rfl), (Nat.le_of_ble_eq_true rfl)⟩) hS (fun q _ h => hFc q h) hFc (fun r108 u t H1 locs ht hvm hw hB hz1 hk1 hS => ?_)
    obtain ⟨hP1, hK1, hD1⟩ := hB
    rw [ht] at hP1
    have hK1 := va_K.moved hvm.symm hK1
    obtain ⟨hP, hD⟩ := va_join (wr := [(xt, .inr (0, [.ref xtw, .int 0]))]) (w1 := [(x, .inr (7, [.int h, .int r, .ref xt, .ref xo, .ref xh, .ref xs, .ref xm, .ref xq])), (xm, .inr (3, [.ref xf, .int r, .ref xs, .int 0, .int 0, .int 0, .int 0]))]) hP hD [1, 0] [2] rfl rfl (by decide) (by decide) hk1 hFc hP1 hD1
    have hK := hK.sub (tys' := []) [] rfl
    have hK := hK.app hK1
    generalize H1 = H at hP hS ⊢
    have hP : va_P (dC, dI) classes [(xt, .inr (0, [.ref xtw, .int 0])), (x, .inr (7, [.int h, .int r, .ref xt, .ref xo, .ref xh, .ref xs, .ref xm, .ref xq])), (xm, .inr (3, [.ref xf, .int r, .ref xs, .int 0, .int 0, .int 0, .int 0]))] H := hP
    have hD : va_D A [(xt, .inr (0, [.ref xtw, .int 0])), (x, .inr (7, [.int h, .int r, .ref xt, .ref xo, .ref xh, .ref xs, .ref xm, .ref xq])), (xm, .inr (3, [.ref xf, .int r, .ref xs, .int 0, .int 0, .int 0, .int 0]))] := hD
    have hK : va_K (dC, dI) classes [] s := hK
    refine W.widen (k := 0) (n := 0) (Nat.le_of_ble_eq_true rfl) (Nat.le_of_ble_eq_true rfl) ?_
    try dsimp only at hw
    obtain rfl : r108 = 1 := hw
    refine lv_if_eq (tgt := 21) hx hb dX7_verify_15 (by decide) (fun c109 => absurd c109 (by decide)) (fun c109 => ?_)
    refine lv_bipush (v := (-3)) hx hb dX7_verify_18 (by decide) ?_
    refine W.widen (k := 0) (n := 0) (Nat.le_of_ble_eq_true rfl) (Nat.le_of_ble_eq_true rfl) ?_
    exact W.iret (v := (-3)) hx hb hr (fun t ht hW => ⟨⟨(-3), (), rfl, (by unfold fk_sign; rw [if_pos c107]), trivial⟩, hS.F ht⟩) hS.2.2 dX7_verify_20
  · refine lv_bipush (v := (-2)) hx hb dX7_verify_8 (by decide) ?_
    refine W.widen (k := 0) (n := 0) (Nat.le_of_ble_eq_true rfl) (Nat.le_of_ble_eq_true rfl) ?_
    exact W.iret (v := (-2)) hx hb hr (fun t ht hW => ⟨⟨(-2), (), rfl, (by unfold fk_sign; rw [if_neg c107]), trivial⟩, hS.F ht⟩) hS.2.2 dX7_verify_10
def ww_X7_fuse : List Cond := .code yX7_fuse cX7_fuse 2 (some .boolean) :: ([.fieldLink RX7 43 "LeafSigner" "store" "LLeafSigner$Disk;", .fieldLink RX7 101 "LeafSigner$Disk" "fuseLeft" "I"] ++ (wsX70 ++ wsX10))
theorem iX7_fuse_X7 : ∀ w ∈ wsX70, w ∈ ww_X7_fuse := fun w h => List.mem_cons_of_mem _ (List.mem_append_right _ (List.mem_append_left _ h))
theorem iX7_fuse_X1 : ∀ w ∈ wsX10, w ∈ ww_X7_fuse := fun w h => List.mem_cons_of_mem _ (List.mem_append_right _ (List.mem_append_right _ h))
set_option maxHeartbeats 4000000 in
set_option maxRecDepth 100000 in
theorem ct_fuse (l : Launch) (dC : Nat → ClassId) (dI : Nat → Nat → Nat) (sz : Nat) (x : Nat) (k : Int32) (h : Int32) (r : Int32) (xt : Nat) (xo : Nat) (xh : Nat) (xs : Nat) (xm : Nat) (xq : Nat) (xb : Nat) : Met l yX7_fuse ww_X7_fuse ({ frames := 0, cells := 0, slots := 0, locals := 0 }) (va_Pc [.ref x, .int k] (fun U => U.heap.size = sz ∧ va_P (dC, dI) classes [(x, .inr (7, [.int h, .int r, .ref xt, .ref xo, .ref xh, .ref xs, .ref xm, .ref xq])), (xs, .inr (1, [.ref xb, .int 0, .int (-1)]))] U.heap ∧ va_K (dC, dI) classes [] U ∧ va_D (fun _ => True) [(x, .inr (7, [.int h, .int r, .ref xt, .ref xo, .ref xh, .ref xs, .ref xm, .ref xq])), (xs, .inr (1, [.ref xb, .int 0, .int (-1)]))])) (va_Qi (fun (r : Int32) (_ : Unit) => r = fk_fuse k) (fun (_ : Unit) (_ : State) => True) (va_A [(x, .inr (7, [.int h, .int r, .ref xt, .ref xo, .ref xh, .ref xs, .ref xm, .ref xq])), (xs, .inr (1, [.ref xb, .int 0, .int (-1)]))] sz)) 0 0 (va_A [(x, .inr (7, [.int h, .int r, .ref xt, .ref xo, .ref xh, .ref xs, .ref xm, .ref xq])), (xs, .inr (1, [.ref xb, .int 0, .int (-1)]))] sz) := by
  refine Met.ofW (cc := cX7_fuse) (maxL := 2) (ret := (some .boolean)) (by decide) rfl ?_
  intro p e s m args below meth c s₁ B hml hv
  obtain ⟨rfl, hsz, hP, hK, hD0⟩ := hv
  have hx := B.exec
  have hb := B.bytes
  have hr := B.returns
  have hts := atoms_spec (ws := ww_X7_fuse) B.pre
  have hown : s.vm.findClass RX7 = some m.cls := findClass_of_methodNamed B.named
  have hlocks := B.notSynchronized
  subst hsz
  have hD := hD0.self (sz := s.heap.size)
  generalize hAe : va_A [(x, .inr (7, [.int h, .int r, .ref xt, .ref xo, .ref xh, .ref xs, .ref xm, .ref xq])), (xs, .inr (1, [.ref xb, .int 0, .int (-1)]))] s.heap.size = A at hD ⊢
  have hA : ∀ q : Nat, s.heap.size ≤ q → A q := fun q h => by rw [← hAe]; exact Or.inr h
  have hS : va_S A s.heap s.heap [] := va_S.rf
  have hP : va_P (dC, dI) classes [(x, .inr (7, [.int h, .int r, .ref xt, .ref xo, .ref xh, .ref xs, .ref xm, .ref xq])), (xs, .inr (1, [.ref xb, .int 0, .int (-1)]))] s.heap := hP
  have hl := lv_entry ([.ref x, .int k]) (n := 2) (Nat.le_of_ble_eq_true rfl)
  rw [lg_entry_eq]
  generalize (lg_sl ([.ref x, .int k]) ++ List.replicate (2 - (lg_sl ([.ref x, .int k])).length) Slot.unset).toArray = ls at hl ⊢
  have hl : lv_has ls 2 [(0, .ref x), (1, .int k)] := hl
  generalize hHe : s.heap = H at hP ⊢
  have hS : va_S A s.heap H [] := by rw [← hHe]; exact va_S.rf
  refine lv_iload_n hx hb dX7_fuse_0 rfl (lv_at hl 1 rfl) ?_
  refine lv_iconst (v := (-1)) hx hb dX7_fuse_1 (by decide) ?_
  refine lv_icmp_lt (tgt := 12) hx hb dX7_fuse_2 (by decide) (fun c110 => ?_) (fun c110 => ?_)
  · refine lv_iconst (v := 0) hx hb dX7_fuse_12 (by decide) ?_
    refine W.widen (k := 0) (n := 0) (Nat.le_of_ble_eq_true rfl) (Nat.le_of_ble_eq_true rfl) ?_
    exact W.zret (v := 0) (ty := .boolean) hx hb hr (by decide) (fun t ht hW => ⟨⟨0, (), rfl, (by unfold fk_fuse; rw [if_pos c110]), trivial⟩, hS.F ht⟩) hS.2.2 dX7_fuse_13
  · refine lv_iload_n hx hb dX7_fuse_5 rfl (lv_at hl 1 rfl) ?_
    refine lv_sipush (v := 1000) hx hb dX7_fuse_6 (by decide) ?_
    refine lv_icmp_le (tgt := 14) hx hb dX7_fuse_9 (by decide) (fun c111 => ?_) (fun c111 => ?_)
    · refine lv_aload_n hx hb dX7_fuse_14 rfl (lv_at hl 0 rfl) ?_
      refine va_get (D := (dC, dI)) (ci := 7) (v := .ref xs) (C := RX7) (T := TX7) (N := 8) hx hb hts iX7_fuse_X7 hown hK hP 0 rfl rfl 5 (by decide) (hts (.fieldLink RX7 43 "LeafSigner" "store" "LLeafSigner$Disk;") (List.mem_of_getElem? (i := 1) rfl)) (fun _ h9 => h9) rfl dX7_fuse_15 ?_
      refine lv_iload_n hx hb dX7_fuse_18 rfl (lv_at hl 1 rfl) ?_
      refine va_put (D := (dC, dI)) (ci := 1) (v := .int k) (ty := .int) (C := RX1) (T := TX1) (N := 3) hx hb hts iX7_fuse_X1 tyX1 tyX1_ok nmX1 hown hK hP hD hS 1 rfl rfl 2 (by decide) (hts (.fieldLink RX7 101 "LeafSigner$Disk" "fuseLeft" "I") (List.mem_of_getElem? (i := 2) rfl)) (fun _ h9 => h9) rfl (by decide +kernel) rfl rfl (Nat.le_of_ble_eq_true rfl) dX7_fuse_19 (fun H locs hP hD hS => ?_)
      have hP : va_P (dC, dI) classes [(x, .inr (7, [.int h, .int r, .ref xt, .ref xo, .ref xh, .ref xs, .ref xm, .ref xq])), (xs, .inr (1, [.ref xb, .int 0, .int k]))] H := hP
      have hD : va_D A [(x, .inr (7, [.int h, .int r, .ref xt, .ref xo, .ref xh, .ref xs, .ref xm, .ref xq])), (xs, .inr (1, [.ref xb, .int 0, .int k]))] := hD
      refine lv_iconst (v := 1) hx hb dX7_fuse_22 (by decide) ?_
      refine W.widen (k := 0) (n := 0) (Nat.le_of_ble_eq_true rfl) (Nat.le_of_ble_eq_true rfl) ?_
      exact W.zret (v := 1) (ty := .boolean) hx hb hr (by decide) (fun t ht hW => ⟨⟨1, (), rfl, (by unfold fk_fuse; rw [if_neg c110, if_pos c111]), trivial⟩, hS.F ht⟩) hS.2.2 dX7_fuse_23
    · refine lv_iconst (v := 0) hx hb dX7_fuse_12 (by decide) ?_
      refine W.widen (k := 0) (n := 0) (Nat.le_of_ble_eq_true rfl) (Nat.le_of_ble_eq_true rfl) ?_
      exact W.zret (v := 0) (ty := .boolean) hx hb hr (by decide) (fun t ht hW => ⟨⟨0, (), rfl, (by unfold fk_fuse; rw [if_neg c110, if_neg c111]), trivial⟩, hS.F ht⟩) hS.2.2 dX7_fuse_13
def ww_X7_hold : List Cond := .code yX7_hold cX7_hold 1 (some .int) :: ([.fieldLink RX7 37 "LeafSigner" "held" "LLeafSigner$ByteRow;", .fieldLink RX7 34 "LeafSigner" "output" "LLeafSigner$ByteRow;", .methodLink RX7 110 yX0_copyOf, .instanceMethod yX0_copyOf, .selects RX0 yX0_copyOf yX0_copyOf, .initialized RX0, .code yX0_copyOf cX0_copyOf 3 none, .fieldLink RX0 9 "LeafSigner$ByteRow" "words" "[I", .methodLink RX0 23 Lib.Math.min.name, .static Lib.Math.min.name, .initialized "java/lang/Math", .code Lib.Math.min.name Lib.Math.min.code 2 (some .int), .methodLink RX0 29 arraycopyName, .native arraycopyName, .static arraycopyName, .initialized "java/lang/System", .fieldLink RX0 15 "LeafSigner$ByteRow" "count" "I", .fieldLink RX7 63 "LeafSigner$ByteRow" "count" "I"] ++ (wsX70 ++ wsX00))
theorem iX7_hold_X7 : ∀ w ∈ wsX70, w ∈ ww_X7_hold := fun w h => List.mem_cons_of_mem _ (List.mem_append_right _ (List.mem_append_left _ h))
theorem iX7_hold_X0 : ∀ w ∈ wsX00, w ∈ ww_X7_hold := fun w h => List.mem_cons_of_mem _ (List.mem_append_right _ (List.mem_append_right _ h))
set_option maxRecDepth 20000 in
theorem gX7_hold_X0_copyOf_110 : GoodIn ww_X7_hold (wsV RX7 110 RX0 yX0_copyOf ww_X0_copyOf) := vx_good _ [3, 4, 5, 6, 7, 8, 9, 10, 11, 12, 13, 14, 15, 16, 17, 27, 28] rfl (by decide +kernel)
set_option maxHeartbeats 4000000 in
set_option maxRecDepth 100000 in
theorem ct_hold (l : Launch) (dC : Nat → ClassId) (dI : Nat → Nat → Nat) (sz : Nat) (x : Nat) (h : Int32) (r : Int32) (xt : Nat) (xo : Nat) (xh : Nat) (xs : Nat) (xm : Nat) (xq : Nat) (xow : Nat) (cO : ClassId) (N : Nat) (xhw : Nat) (cH : ClassId) (hN : N = 553 ∨ N = 561 ∨ N = 569 ∨ N = 577) : Met l yX7_hold ww_X7_hold ({ frames := 2, cells := 0, slots := 0, locals := 82 }) (va_Pc [.ref x] (fun U => U.heap.size = sz ∧ va_P (dC, dI) classes [(x, .inr (7, [.int h, .int r, .ref xt, .ref xo, .ref xh, .ref xs, .ref xm, .ref xq])), (xo, .inr (0, [.ref xow, .int 0])), (xow, .inl (cO, N, .inl (fun _ => 0))), (xh, .inr (0, [.ref xhw, .int 0])), (xhw, .inl (cH, N, .inl (fun _ => 0)))] U.heap ∧ va_K (dC, dI) classes [(cO, .int), (cH, .int)] U ∧ va_D (fun _ => True) [(x, .inr (7, [.int h, .int r, .ref xt, .ref xo, .ref xh, .ref xs, .ref xm, .ref xq])), (xo, .inr (0, [.ref xow, .int 0])), (xow, .inl (cO, N, .inl (fun _ => 0))), (xh, .inr (0, [.ref xhw, .int 0])), (xhw, .inl (cH, N, .inl (fun _ => 0)))])) (va_Qi (fun (r : Int32) (_ : Unit) => r = 0) (fun (_ : Unit) (_ : State) => True) (va_A [(x, .inr (7, [.int h, .int r, .ref xt, .ref xo, .ref xh, .ref xs, .ref xm, .ref xq])), (xo, .inr (0, [.ref xow, .int 0])), (xow, .inl (cO, N, .inl (fun _ => 0))), (xh, .inr (0, [.ref xhw, .int 0])), (xhw, .inl (cH, N, .inl (fun _ => 0)))] sz)) 0 0 (va_A [(x, .inr (7, [.int h, .int r, .ref xt, .ref xo, .ref xh, .ref xs, .ref xm, .ref xq])), (xo, .inr (0, [.ref xow, .int 0])), (xow, .inl (cO, N, .inl (fun _ => 0))), (xh, .inr (0, [.ref xhw, .int 0])), (xhw, .inl (cH, N, .inl (fun _ => 0)))] sz) := by
  refine Met.ofW (cc := cX7_hold) (maxL := 1) (ret := (some .int)) (by decide) rfl ?_
  intro p e s m args below meth c s₁ B hml hv
  obtain ⟨rfl, hsz, hP, hK, hD0⟩ := hv
  have hx := B.exec
  have hb := B.bytes
  have hr := B.returns
  have hts := atoms_spec (ws := ww_X7_hold) B.pre
  have hown : s.vm.findClass RX7 = some m.cls := findClass_of_methodNamed B.named
  have hlocks := B.notSynchronized
  subst hsz
  have hD := hD0.self (sz := s.heap.size)
  generalize hAe : va_A [(x, .inr (7, [.int h, .int r, .ref xt, .ref xo, .ref xh, .ref xs, .ref xm, .ref xq])), (xo, .inr (0, [.ref xow, .int 0])), (xow, .inl (cO, N, .inl (fun _ => 0))), (xh, .inr (0, [.ref xhw, .int 0])), (xhw, .inl (cH, N, .inl (fun _ => 0)))] s.heap.size = A at hD ⊢
  have hA : ∀ q : Nat, s.heap.size ≤ q → A q := fun q h => by rw [← hAe]; exact Or.inr h
  have hS : va_S A s.heap s.heap [] := va_S.rf
  have hP : va_P (dC, dI) classes [(x, .inr (7, [.int h, .int r, .ref xt, .ref xo, .ref xh, .ref xs, .ref xm, .ref xq])), (xo, .inr (0, [.ref xow, .int 0])), (xow, .inl (cO, N, .inl (fun _ => 0))), (xh, .inr (0, [.ref xhw, .int 0])), (xhw, .inl (cH, N, .inl (fun _ => 0)))] s.heap := hP
  have hl := lv_entry ([.ref x]) (n := 1) (Nat.le_of_ble_eq_true rfl)
  rw [lg_entry_eq]
  generalize (lg_sl ([.ref x]) ++ List.replicate (1 - (lg_sl ([.ref x])).length) Slot.unset).toArray = ls at hl ⊢
  have hl : lv_has ls 1 [(0, .ref x)] := hl
  generalize hHe : s.heap = H at hP ⊢
  have hS : va_S A s.heap H [] := by rw [← hHe]; exact va_S.rf
  refine lv_aload_n hx hb dX7_hold_0 rfl (lv_at hl 0 rfl) ?_
  refine va_get (D := (dC, dI)) (ci := 7) (v := .ref xh) (C := RX7) (T := TX7) (N := 8) hx hb hts iX7_hold_X7 hown hK hP 0 rfl rfl 4 (by decide) (hts (.fieldLink RX7 37 "LeafSigner" "held" "LLeafSigner$ByteRow;") (List.mem_of_getElem? (i := 1) rfl)) (fun _ h9 => h9) rfl dX7_hold_1 ?_
  refine lv_aload_n hx hb dX7_hold_4 rfl (lv_at hl 0 rfl) ?_
  refine va_get (D := (dC, dI)) (ci := 7) (v := .ref xo) (C := RX7) (T := TX7) (N := 8) hx hb hts iX7_hold_X7 hown hK hP 0 rfl rfl 3 (by decide) (hts (.fieldLink RX7 34 "LeafSigner" "output" "LLeafSigner$ByteRow;") (List.mem_of_getElem? (i := 2) rfl)) (fun _ h9 => h9) rfl dX7_hold_5 ?_
  have hPc := hP.sub (ws' := [(xh, .inr (0, [.ref xhw, .int 0])), (xhw, .inl (cH, N, .inl (fun _ => 0))), (xo, .inr (0, [.ref xow, .int 0])), (xow, .inl (cO, N, .inl (fun _ => 0)))]) [3, 4, 1, 2] rfl
  have hDc := hD.sub (ws' := [(xh, .inr (0, [.ref xhw, .int 0])), (xhw, .inl (cH, N, .inl (fun _ => 0))), (xo, .inr (0, [.ref xow, .int 0])), (xow, .inl (cO, N, .inl (fun _ => 0)))]) [3, 4, 1, 2] (by decide) rfl
  have hKc := hK.sub (tys' := [(cH, .int), (cO, .int)]) [1, 0] rfl
  have hFc := va_free (wc := [(xh, .inr (0, [.ref xhw, .int 0])), (xhw, .inl (cH, N, .inl (fun _ => 0))), (xo, .inr (0, [.ref xow, .int 0])), (xow, .inl (cO, N, .inl (fun _ => 0)))]) hD hS hA [3, 4, 1, 2] rfl
  refine va_callv (va_runV (As := [.ref xo]) (rest := []) ⟨hx, hb, hml, hown, hts⟩ (ct_copyOf l dC dI H.size xh xo xhw cH N (fun _ => 0) xow cO (fun _ => 0) hN) (cwV 1 hts gX7_hold_X0_copyOf_110 rfl rfl rfl (by decide +kernel) ⟨(Nat.le_of_ble_eq_true rfl), (Nat.le_of_ble_eq_true rfl)⟩) ⟨fun a U g mk q => by obtain ⟨q0, q1, qP, qK, qD⟩ := q; exact ⟨q0, q1, qP, va_K.moved (u := U) (U := U.calling g mk a) (Vm.Alike.refl U.vm) qK, qD⟩, va_recv hKc hPc (ci := 0) (q0 := 0) rfl rfl, fun U hU hW => ⟨rfl, by rw [hU], by rw [hU]; exact hPc, va_K.moved hW.alike hKc, hDc.weaken (fun _ _ _ _ => trivial)⟩⟩ rfl rfl hl.1 rfl (lv_room (Nat.le_of_ble_eq_true rfl)) dX7_hold_8 ⟨(Nat.le_of_ble_eq_true rfl), (Nat.le_of_ble_eq_true rfl)⟩) hS (fun q _ h => hFc q h) hFc (fun u t H1 locs ht hvm hw hB hz1 hk1 hS => ?_)
  obtain ⟨hP1, hK1, hD1⟩ := hB
  rw [ht] at hP1
  have hK1 := va_K.moved hvm.symm hK1
  obtain ⟨hP, hD⟩ := va_join (wr := [(x, .inr (7, [.int h, .int r, .ref xt, .ref xo, .ref xh, .ref xs, .ref xm, .ref xq]))]) (w1 := [(xh, .inr (0, [.ref xhw, .int 0]))]) hP hD [3, 4, 1, 2] [0] rfl rfl (by decide) (by decide) hk1 hFc hP1 hD1
  have hK := hK.sub (tys' := []) [] rfl
  have hK := hK.app hK1
  generalize H1 = H at hP hS ⊢
  have hP : va_P (dC, dI) classes [(x, .inr (7, [.int h, .int r, .ref xt, .ref xo, .ref xh, .ref xs, .ref xm, .ref xq])), (xh, .inr (0, [.ref xhw, .int 0]))] H := hP
  have hD : va_D A [(x, .inr (7, [.int h, .int r, .ref xt, .ref xo, .ref xh, .ref xs, .ref xm, .ref xq])), (xh, .inr (0, [.ref xhw, .int 0]))] := hD
  have hK : va_K (dC, dI) classes [] s := hK
  refine W.widen (k := 0) (n := 0) (Nat.le_of_ble_eq_true rfl) (Nat.le_of_ble_eq_true rfl) ?_
  refine lv_aload_n hx hb dX7_hold_11 rfl (lv_at hl 0 rfl) ?_
  refine va_get (D := (dC, dI)) (ci := 7) (v := .ref xh) (C := RX7) (T := TX7) (N := 8) hx hb hts iX7_hold_X7 hown hK hP 0 rfl rfl 4 (by decide) (hts (.fieldLink RX7 37 "LeafSigner" "held" "LLeafSigner$ByteRow;") (List.mem_of_getElem? (i := 1) rfl)) (fun _ h9 => h9) rfl dX7_hold_12 ?_
  refine va_get (D := (dC, dI)) (ci := 0) (v := .int 0) (C := RX0) (T := TX0) (N := 2) hx hb hts iX7_hold_X0 hown hK hP 1 rfl rfl 1 (by decide) (hts (.fieldLink RX7 63 "LeafSigner$ByteRow" "count" "I") (List.mem_of_getElem? (i := 18) rfl)) (fun _ h9 => h9) rfl dX7_hold_15 ?_
  refine W.widen (k := 0) (n := 0) (Nat.le_of_ble_eq_true rfl) (Nat.le_of_ble_eq_true rfl) ?_
  exact W.iret (v := 0) hx hb hr (fun t ht hW => ⟨⟨0, (), rfl, rfl, trivial⟩, hS.F ht⟩) hS.2.2 dX7_hold_18
def ww_X7_alter : List Cond := .code yX7_alter cX7_alter 3 (some .int) :: ([.fieldLink RX7 37 "LeafSigner" "held" "LLeafSigner$ByteRow;", .methodLink RX7 114 yX0_flip, .instanceMethod yX0_flip, .selects RX0 yX0_flip yX0_flip, .initialized RX0, .code yX0_flip cX0_flip 3 none, .fieldLink RX0 15 "LeafSigner$ByteRow" "count" "I", .methodLink RX7 118 yX0_byteAt, .instanceMethod yX0_byteAt, .selects RX0 yX0_byteAt yX0_byteAt, .code yX0_byteAt cX0_byteAt 2 (some .int)] ++ (wsX70 ++ wsX00))
theorem iX7_alter_X7 : ∀ w ∈ wsX70, w ∈ ww_X7_alter := fun w h => List.mem_cons_of_mem _ (List.mem_append_right _ (List.mem_append_left _ h))
theorem iX7_alter_X0 : ∀ w ∈ wsX00, w ∈ ww_X7_alter := fun w h => List.mem_cons_of_mem _ (List.mem_append_right _ (List.mem_append_right _ h))
set_option maxRecDepth 20000 in
theorem gX7_alter_X0_flip_114 : GoodIn ww_X7_alter (wsV RX7 114 RX0 yX0_flip ww_X0_flip) := vx_good _ [2, 3, 4, 5, 6, 7, 20, 21] rfl (by decide +kernel)
set_option maxRecDepth 20000 in
theorem gX7_alter_X0_byteAt_118 : GoodIn ww_X7_alter (wsV RX7 118 RX0 yX0_byteAt ww_X0_byteAt) := vx_good _ [8, 9, 10, 5, 11, 7, 20, 21] rfl (by decide +kernel)
set_option maxHeartbeats 4000000 in
set_option maxRecDepth 100000 in
theorem ct_alter (l : Launch) (dC : Nat → ClassId) (dI : Nat → Nat → Nat) (sz : Nat) (x : Nat) (k : Int32) (z : Int32) (h : Int32) (r : Int32) (xt : Nat) (xo : Nat) (xh : Nat) (xs : Nat) (xm : Nat) (xq : Nat) (xhw : Nat) : Met l yX7_alter ww_X7_alter ({ frames := 1, cells := 0, slots := 0, locals := 22 }) (va_Pc [.ref x, .int k, .int z] (fun U => U.heap.size = sz ∧ va_P (dC, dI) classes [(x, .inr (7, [.int h, .int r, .ref xt, .ref xo, .ref xh, .ref xs, .ref xm, .ref xq])), (xh, .inr (0, [.ref xhw, .int 0]))] U.heap ∧ va_K (dC, dI) classes [] U ∧ va_D (fun _ => True) [(x, .inr (7, [.int h, .int r, .ref xt, .ref xo, .ref xh, .ref xs, .ref xm, .ref xq])), (xh, .inr (0, [.ref xhw, .int 0]))])) (va_Qi (fun (r : Int32) (_ : Unit) => r = -1) (fun (_ : Unit) (_ : State) => True) (va_A [(x, .inr (7, [.int h, .int r, .ref xt, .ref xo, .ref xh, .ref xs, .ref xm, .ref xq])), (xh, .inr (0, [.ref xhw, .int 0]))] sz)) 0 0 (va_A [(x, .inr (7, [.int h, .int r, .ref xt, .ref xo, .ref xh, .ref xs, .ref xm, .ref xq])), (xh, .inr (0, [.ref xhw, .int 0]))] sz) := by
  refine Met.ofW (cc := cX7_alter) (maxL := 3) (ret := (some .int)) (by decide) rfl ?_
  intro p e s m args below meth c s₁ B hml hv
  obtain ⟨rfl, hsz, hP, hK, hD0⟩ := hv
  have hx := B.exec
  have hb := B.bytes
  have hr := B.returns
  have hts := atoms_spec (ws := ww_X7_alter) B.pre
  have hown : s.vm.findClass RX7 = some m.cls := findClass_of_methodNamed B.named
  have hlocks := B.notSynchronized
  subst hsz
  have hD := hD0.self (sz := s.heap.size)
  generalize hAe : va_A [(x, .inr (7, [.int h, .int r, .ref xt, .ref xo, .ref xh, .ref xs, .ref xm, .ref xq])), (xh, .inr (0, [.ref xhw, .int 0]))] s.heap.size = A at hD ⊢
  have hA : ∀ q : Nat, s.heap.size ≤ q → A q := fun q h => by rw [← hAe]; exact Or.inr h
  have hS : va_S A s.heap s.heap [] := va_S.rf
  have hP : va_P (dC, dI) classes [(x, .inr (7, [.int h, .int r, .ref xt, .ref xo, .ref xh, .ref xs, .ref xm, .ref xq])), (xh, .inr (0, [.ref xhw, .int 0]))] s.heap := hP
  have hl := lv_entry ([.ref x, .int k, .int z]) (n := 3) (Nat.le_of_ble_eq_true rfl)
  rw [lg_entry_eq]
  generalize (lg_sl ([.ref x, .int k, .int z]) ++ List.replicate (3 - (lg_sl ([.ref x, .int k, .int z])).length) Slot.unset).toArray = ls at hl ⊢
  have hl : lv_has ls 3 [(0, .ref x), (1, .int k), (2, .int z)] := hl
  generalize hHe : s.heap = H at hP ⊢
  have hS : va_S A s.heap H [] := by rw [← hHe]; exact va_S.rf
  refine lv_aload_n hx hb dX7_alter_0 rfl (lv_at hl 0 rfl) ?_
  refine va_get (D := (dC, dI)) (ci := 7) (v := .ref xh) (C := RX7) (T := TX7) (N := 8) hx hb hts iX7_alter_X7 hown hK hP 0 rfl rfl 4 (by decide) (hts (.fieldLink RX7 37 "LeafSigner" "held" "LLeafSigner$ByteRow;") (List.mem_of_getElem? (i := 1) rfl)) (fun _ h9 => h9) rfl dX7_alter_1 ?_
  refine lv_iload_n hx hb dX7_alter_4 rfl (lv_at hl 1 rfl) ?_
  refine lv_iload_n hx hb dX7_alter_5 rfl (lv_at hl 2 rfl) ?_
  have hPc := hP.sub (ws' := [(xh, .inr (0, [.ref xhw, .int 0]))]) [1] rfl
  have hDc := hD.sub (ws' := [(xh, .inr (0, [.ref xhw, .int 0]))]) [1] (by decide) rfl
  have hKc := hK.sub (tys' := []) [] rfl
  have hFc := va_free (wc := [(xh, .inr (0, [.ref xhw, .int 0]))]) hD hS hA [1] rfl
  refine va_callv (va_runV (As := [.int k, .int z]) (rest := []) ⟨hx, hb, hml, hown, hts⟩ (ct_flip0 l dC dI H.size xh k z xhw) (cwV 2 hts gX7_alter_X0_flip_114 rfl rfl rfl (by decide +kernel) ⟨(Nat.le_of_ble_eq_true rfl), (Nat.le_of_ble_eq_true rfl)⟩) ⟨fun a U g mk q => by obtain ⟨q0, q1, qP, qK, qD⟩ := q; exact ⟨q0, q1, qP, va_K.moved (u := U) (U := U.calling g mk a) (Vm.Alike.refl U.vm) qK, qD⟩, va_recv hKc hPc (ci := 0) (q0 := 0) rfl rfl, fun U hU hW => ⟨rfl, by rw [hU], by rw [hU]; exact hPc, va_K.moved hW.alike hKc, hDc.weaken (fun _ _ _ _ => trivial)⟩⟩ rfl rfl hl.1 rfl (lv_room (Nat.le_of_ble_eq_true rfl)) dX7_alter_6 ⟨(Nat.le_of_ble_eq_true rfl), (Nat.le_of_ble_eq_true rfl)⟩) hS (fun q _ h => hFc q h) hFc (fun u t H1 locs ht hvm hw hB hz1 hk1 hS => ?_)
  obtain ⟨hP1, hK1, hD1⟩ := hB
  rw [ht] at hP1
  have hK1 := va_K.moved hvm.symm hK1
  obtain ⟨hP, hD⟩ := va_join (wr := [(x, .inr (7, [.int h, .int r, .ref xt, .ref xo, .ref xh, .ref xs, .ref xm, .ref xq]))]) (w1 := [(xh, .inr (0, [.ref xhw, .int 0]))]) hP hD [1] [0] rfl rfl (by decide) (by decide) hk1 hFc hP1 hD1
  have hK := hK.sub (tys' := []) [] rfl
  have hK := hK.app hK1
  generalize H1 = H at hP hS ⊢
  have hP : va_P (dC, dI) classes [(x, .inr (7, [.int h, .int r, .ref xt, .ref xo, .ref xh, .ref xs, .ref xm, .ref xq])), (xh, .inr (0, [.ref xhw, .int 0]))] H := hP
  have hD : va_D A [(x, .inr (7, [.int h, .int r, .ref xt, .ref xo, .ref xh, .ref xs, .ref xm, .ref xq])), (xh, .inr (0, [.ref xhw, .int 0]))] := hD
  have hK : va_K (dC, dI) classes [] s := hK
  refine W.widen (k := 0) (n := 0) (Nat.le_of_ble_eq_true rfl) (Nat.le_of_ble_eq_true rfl) ?_
  refine lv_aload_n hx hb dX7_alter_9 rfl (lv_at hl 0 rfl) ?_
  refine va_get (D := (dC, dI)) (ci := 7) (v := .ref xh) (C := RX7) (T := TX7) (N := 8) hx hb hts iX7_alter_X7 hown hK hP 0 rfl rfl 4 (by decide) (hts (.fieldLink RX7 37 "LeafSigner" "held" "LLeafSigner$ByteRow;") (List.mem_of_getElem? (i := 1) rfl)) (fun _ h9 => h9) rfl dX7_alter_10 ?_
  refine lv_iload_n hx hb dX7_alter_13 rfl (lv_at hl 1 rfl) ?_
  have hPc := hP.sub (ws' := [(xh, .inr (0, [.ref xhw, .int 0]))]) [1] rfl
  have hDc := hD.sub (ws' := [(xh, .inr (0, [.ref xhw, .int 0]))]) [1] (by decide) rfl
  have hKc := hK.sub (tys' := []) [] rfl
  have hFc := va_free (wc := [(xh, .inr (0, [.ref xhw, .int 0]))]) hD hS hA [1] rfl
  refine va_calli (va_runV (As := [.int k]) (rest := []) ⟨hx, hb, hml, hown, hts⟩ (ct_byteAt0 l dC dI H.size xh k xhw) (cwV 1 hts gX7_alter_X0_byteAt_118 rfl rfl rfl (by decide +kernel) ⟨(Nat.le_of_ble_eq_true rfl), (Nat.le_of_ble_eq_true rfl)⟩) ⟨fun a U g mk q => by obtain ⟨q0, q1, qP, qK, qD⟩ := q; exact ⟨q0, q1, qP, va_K.moved (u := U) (U := U.calling g mk a) (Vm.Alike.refl U.vm) qK, qD⟩, va_recv hKc hPc (ci := 0) (q0 := 0) rfl rfl, fun U hU hW => ⟨rfl, by rw [hU], by rw [hU]; exact hPc, va_K.moved hW.alike hKc, hDc.weaken (fun _ _ _ _ => trivial)⟩⟩ rfl rfl hl.1 rfl (lv_room (Nat.le_of_ble_eq_true rfl)) dX7_alter_14 ⟨(Nat.le_of_ble_eq_true rfl), (Nat.le_of_ble_eq_true rfl)⟩) hS (fun q _ h => hFc q h) hFc (fun r114 u t H1 locs ht hvm hw hB hz1 hk1 hS => ?_)
  have hP1 : va_P (dC, dI) classes [] H1 := vx_P0
  have hD1 : va_D (va_A [(xh, .inr (0, [.ref xhw, .int 0]))] H.size) [] := vx_D0
  obtain ⟨hP, hD⟩ := va_join (wr := [(x, .inr (7, [.int h, .int r, .ref xt, .ref xo, .ref xh, .ref xs, .ref xm, .ref xq]))]) (w1 := []) hP hD [1] [0] rfl rfl (by decide) (by decide) hk1 hFc hP1 hD1
  have hK := hK.sub (tys' := []) [] rfl
  generalize H1 = H at hP hS ⊢
  have hP : va_P (dC, dI) classes [(x, .inr (7, [.int h, .int r, .ref xt, .ref xo, .ref xh, .ref xs, .ref xm, .ref xq]))] H := hP
  have hD : va_D A [(x, .inr (7, [.int h, .int r, .ref xt, .ref xo, .ref xh, .ref xs, .ref xm, .ref xq]))] := hD
  have hK : va_K (dC, dI) classes [] s := hK
  refine W.widen (k := 0) (n := 0) (Nat.le_of_ble_eq_true rfl) (Nat.le_of_ble_eq_true rfl) ?_
  try dsimp only at hw
  obtain rfl : r114 = (-1) := hw
  refine W.widen (k := 0) (n := 0) (Nat.le_of_ble_eq_true rfl) (Nat.le_of_ble_eq_true rfl) ?_
  exact W.iret (v := (-1)) hx hb hr (fun t ht hW => ⟨⟨(-1), (), rfl, rfl, trivial⟩, hS.F ht⟩) hS.2.2 dX7_alter_17
def ww_X7_out : List Cond := .code yX7_out cX7_out 2 (some .int) :: ([.fieldLink RX7 34 "LeafSigner" "output" "LLeafSigner$ByteRow;", .methodLink RX7 118 yX0_byteAt, .instanceMethod yX0_byteAt, .selects RX0 yX0_byteAt yX0_byteAt, .initialized RX0, .code yX0_byteAt cX0_byteAt 2 (some .int), .fieldLink RX0 15 "LeafSigner$ByteRow" "count" "I"] ++ (wsX70 ++ wsX00))
theorem iX7_out_X7 : ∀ w ∈ wsX70, w ∈ ww_X7_out := fun w h => List.mem_cons_of_mem _ (List.mem_append_right _ (List.mem_append_left _ h))
theorem iX7_out_X0 : ∀ w ∈ wsX00, w ∈ ww_X7_out := fun w h => List.mem_cons_of_mem _ (List.mem_append_right _ (List.mem_append_right _ h))
set_option maxRecDepth 20000 in
theorem gX7_out_X0_byteAt_118 : GoodIn ww_X7_out (wsV RX7 118 RX0 yX0_byteAt ww_X0_byteAt) := vx_good _ [2, 3, 4, 5, 6, 7, 16, 17] rfl (by decide +kernel)
set_option maxHeartbeats 4000000 in
set_option maxRecDepth 100000 in
theorem ct_out (l : Launch) (dC : Nat → ClassId) (dI : Nat → Nat → Nat) (sz : Nat) (x : Nat) (k : Int32) (h : Int32) (r : Int32) (xt : Nat) (xo : Nat) (xh : Nat) (xs : Nat) (xm : Nat) (xq : Nat) (xow : Nat) : Met l yX7_out ww_X7_out ({ frames := 1, cells := 0, slots := 0, locals := 21 }) (va_Pc [.ref x, .int k] (fun U => U.heap.size = sz ∧ va_P (dC, dI) classes [(x, .inr (7, [.int h, .int r, .ref xt, .ref xo, .ref xh, .ref xs, .ref xm, .ref xq])), (xo, .inr (0, [.ref xow, .int 0]))] U.heap ∧ va_K (dC, dI) classes [] U ∧ va_D (fun _ => True) [(x, .inr (7, [.int h, .int r, .ref xt, .ref xo, .ref xh, .ref xs, .ref xm, .ref xq])), (xo, .inr (0, [.ref xow, .int 0]))])) (va_Qi (fun (r : Int32) (_ : Unit) => r = -1) (fun (_ : Unit) (_ : State) => True) (va_A [(x, .inr (7, [.int h, .int r, .ref xt, .ref xo, .ref xh, .ref xs, .ref xm, .ref xq])), (xo, .inr (0, [.ref xow, .int 0]))] sz)) 0 0 (va_A [(x, .inr (7, [.int h, .int r, .ref xt, .ref xo, .ref xh, .ref xs, .ref xm, .ref xq])), (xo, .inr (0, [.ref xow, .int 0]))] sz) := by
  refine Met.ofW (cc := cX7_out) (maxL := 2) (ret := (some .int)) (by decide) rfl ?_
  intro p e s m args below meth c s₁ B hml hv
  obtain ⟨rfl, hsz, hP, hK, hD0⟩ := hv
  have hx := B.exec
  have hb := B.bytes
  have hr := B.returns
  have hts := atoms_spec (ws := ww_X7_out) B.pre
  have hown : s.vm.findClass RX7 = some m.cls := findClass_of_methodNamed B.named
  have hlocks := B.notSynchronized
  subst hsz
  have hD := hD0.self (sz := s.heap.size)
  generalize hAe : va_A [(x, .inr (7, [.int h, .int r, .ref xt, .ref xo, .ref xh, .ref xs, .ref xm, .ref xq])), (xo, .inr (0, [.ref xow, .int 0]))] s.heap.size = A at hD ⊢
  have hA : ∀ q : Nat, s.heap.size ≤ q → A q := fun q h => by rw [← hAe]; exact Or.inr h
  have hS : va_S A s.heap s.heap [] := va_S.rf
  have hP : va_P (dC, dI) classes [(x, .inr (7, [.int h, .int r, .ref xt, .ref xo, .ref xh, .ref xs, .ref xm, .ref xq])), (xo, .inr (0, [.ref xow, .int 0]))] s.heap := hP
  have hl := lv_entry ([.ref x, .int k]) (n := 2) (Nat.le_of_ble_eq_true rfl)
  rw [lg_entry_eq]
  generalize (lg_sl ([.ref x, .int k]) ++ List.replicate (2 - (lg_sl ([.ref x, .int k])).length) Slot.unset).toArray = ls at hl ⊢
  have hl : lv_has ls 2 [(0, .ref x), (1, .int k)] := hl
  generalize hHe : s.heap = H at hP ⊢
  have hS : va_S A s.heap H [] := by rw [← hHe]; exact va_S.rf
  refine lv_aload_n hx hb dX7_out_0 rfl (lv_at hl 0 rfl) ?_
  refine va_get (D := (dC, dI)) (ci := 7) (v := .ref xo) (C := RX7) (T := TX7) (N := 8) hx hb hts iX7_out_X7 hown hK hP 0 rfl rfl 3 (by decide) (hts (.fieldLink RX7 34 "LeafSigner" "output" "LLeafSigner$ByteRow;") (List.mem_of_getElem? (i := 1) rfl)) (fun _ h9 => h9) rfl dX7_out_1 ?_
  refine lv_iload_n hx hb dX7_out_4 rfl (lv_at hl 1 rfl) ?_
  have hPc := hP.sub (ws' := [(xo, .inr (0, [.ref xow, .int 0]))]) [1] rfl
  have hDc := hD.sub (ws' := [(xo, .inr (0, [.ref xow, .int 0]))]) [1] (by decide) rfl
  have hKc := hK.sub (tys' := []) [] rfl
  have hFc := va_free (wc := [(xo, .inr (0, [.ref xow, .int 0]))]) hD hS hA [1] rfl
  refine va_calli (va_runV (As := [.int k]) (rest := []) ⟨hx, hb, hml, hown, hts⟩ (ct_byteAt0 l dC dI H.size xo k xow) (cwV 1 hts gX7_out_X0_byteAt_118 rfl rfl rfl (by decide +kernel) ⟨(Nat.le_of_ble_eq_true rfl), (Nat.le_of_ble_eq_true rfl)⟩) ⟨fun a U g mk q => by obtain ⟨q0, q1, qP, qK, qD⟩ := q; exact ⟨q0, q1, qP, va_K.moved (u := U) (U := U.calling g mk a) (Vm.Alike.refl U.vm) qK, qD⟩, va_recv hKc hPc (ci := 0) (q0 := 0) rfl rfl, fun U hU hW => ⟨rfl, by rw [hU], by rw [hU]; exact hPc, va_K.moved hW.alike hKc, hDc.weaken (fun _ _ _ _ => trivial)⟩⟩ rfl rfl hl.1 rfl (lv_room (Nat.le_of_ble_eq_true rfl)) dX7_out_5 ⟨(Nat.le_of_ble_eq_true rfl), (Nat.le_of_ble_eq_true rfl)⟩) hS (fun q _ h => hFc q h) hFc (fun r115 u t H1 locs ht hvm hw hB hz1 hk1 hS => ?_)
  have hP1 : va_P (dC, dI) classes [] H1 := vx_P0
  have hD1 : va_D (va_A [(xo, .inr (0, [.ref xow, .int 0]))] H.size) [] := vx_D0
  obtain ⟨hP, hD⟩ := va_join (wr := [(x, .inr (7, [.int h, .int r, .ref xt, .ref xo, .ref xh, .ref xs, .ref xm, .ref xq]))]) (w1 := []) hP hD [1] [0] rfl rfl (by decide) (by decide) hk1 hFc hP1 hD1
  have hK := hK.sub (tys' := []) [] rfl
  generalize H1 = H at hP hS ⊢
  have hP : va_P (dC, dI) classes [(x, .inr (7, [.int h, .int r, .ref xt, .ref xo, .ref xh, .ref xs, .ref xm, .ref xq]))] H := hP
  have hD : va_D A [(x, .inr (7, [.int h, .int r, .ref xt, .ref xo, .ref xh, .ref xs, .ref xm, .ref xq]))] := hD
  have hK : va_K (dC, dI) classes [] s := hK
  refine W.widen (k := 0) (n := 0) (Nat.le_of_ble_eq_true rfl) (Nat.le_of_ble_eq_true rfl) ?_
  try dsimp only at hw
  obtain rfl : r115 = (-1) := hw
  refine W.widen (k := 0) (n := 0) (Nat.le_of_ble_eq_true rfl) (Nat.le_of_ble_eq_true rfl) ?_
  exact W.iret (v := (-1)) hx hb hr (fun t ht hW => ⟨⟨(-1), (), rfl, rfl, trivial⟩, hS.F ht⟩) hS.2.2 dX7_out_8
def ww_X7_disk : List Cond := .code yX7_disk cX7_disk 2 (some .int) :: ([.fieldLink RX7 43 "LeafSigner" "store" "LLeafSigner$Disk;", .fieldLink RX7 151 "LeafSigner$Disk" "bytes" "LLeafSigner$ByteRow;", .methodLink RX7 118 yX0_byteAt, .instanceMethod yX0_byteAt, .selects RX0 yX0_byteAt yX0_byteAt, .initialized RX0, .code yX0_byteAt cX0_byteAt 2 (some .int), .fieldLink RX0 15 "LeafSigner$ByteRow" "count" "I", .fieldLink RX0 9 "LeafSigner$ByteRow" "words" "[I", .methodLink RX0 19 yX0_shiftOf, .static yX0_shiftOf, .code yX0_shiftOf cX0_shiftOf 1 (some .int)] ++ (wsX70 ++ wsX10 ++ wsX00))
theorem iX7_disk_X7 : ∀ w ∈ wsX70, w ∈ ww_X7_disk := fun w h => List.mem_cons_of_mem _ (List.mem_append_right _ (List.mem_append_left _ (List.mem_append_left _ h)))
theorem iX7_disk_X1 : ∀ w ∈ wsX10, w ∈ ww_X7_disk := fun w h => List.mem_cons_of_mem _ (List.mem_append_right _ (List.mem_append_left _ (List.mem_append_right _ h)))
theorem iX7_disk_X0 : ∀ w ∈ wsX00, w ∈ ww_X7_disk := fun w h => List.mem_cons_of_mem _ (List.mem_append_right _ (List.mem_append_right _ h))
set_option maxRecDepth 20000 in
theorem gX7_disk_X0_byteAt_118 : GoodIn ww_X7_disk (wsV RX7 118 RX0 yX0_byteAt ww_X0_byteAtD) := vx_good _ [3, 4, 5, 6, 7, 8, 9, 10, 11, 6, 12, 24, 25] rfl (by decide +kernel)
set_option maxHeartbeats 4000000 in
set_option maxRecDepth 100000 in
theorem ct_disk (l : Launch) (dC : Nat → ClassId) (dI : Nat → Nat → Nat) (sz : Nat) (x : Nat) (k : Int32) (h : Int32) (r : Int32) (xt : Nat) (xo : Nat) (xh : Nat) (xs : Nat) (xm : Nat) (xq : Nat) (xb : Nat) (xbw : Nat) (cB : ClassId) : Met l yX7_disk ww_X7_disk ({ frames := 2, cells := 0, slots := 0, locals := 41 }) (va_Pc [.ref x, .int k] (fun U => U.heap.size = sz ∧ va_P (dC, dI) classes [(x, .inr (7, [.int h, .int r, .ref xt, .ref xo, .ref xh, .ref xs, .ref xm, .ref xq])), (xs, .inr (1, [.ref xb, .int 0, .int (-1)])), (xb, .inr (0, [.ref xbw, .int 24])), (xbw, .inl (cB, 6, .inl (fun _ => 0)))] U.heap ∧ va_K (dC, dI) classes [(cB, .int)] U ∧ va_D (fun _ => True) [(x, .inr (7, [.int h, .int r, .ref xt, .ref xo, .ref xh, .ref xs, .ref xm, .ref xq])), (xs, .inr (1, [.ref xb, .int 0, .int (-1)])), (xb, .inr (0, [.ref xbw, .int 24])), (xbw, .inl (cB, 6, .inl (fun _ => 0)))])) (va_Qi (fun (r : Int32) (_ : Unit) => r = fk_disk k) (fun (_ : Unit) (_ : State) => True) (va_A [(x, .inr (7, [.int h, .int r, .ref xt, .ref xo, .ref xh, .ref xs, .ref xm, .ref xq])), (xs, .inr (1, [.ref xb, .int 0, .int (-1)])), (xb, .inr (0, [.ref xbw, .int 24])), (xbw, .inl (cB, 6, .inl (fun _ => 0)))] sz)) 0 0 (va_A [(x, .inr (7, [.int h, .int r, .ref xt, .ref xo, .ref xh, .ref xs, .ref xm, .ref xq])), (xs, .inr (1, [.ref xb, .int 0, .int (-1)])), (xb, .inr (0, [.ref xbw, .int 24])), (xbw, .inl (cB, 6, .inl (fun _ => 0)))] sz) := by
  refine Met.ofW (cc := cX7_disk) (maxL := 2) (ret := (some .int)) (by decide) rfl ?_
  intro p e s m args below meth c s₁ B hml hv
  obtain ⟨rfl, hsz, hP, hK, hD0⟩ := hv
  have hx := B.exec
  have hb := B.bytes
  have hr := B.returns
  have hts := atoms_spec (ws := ww_X7_disk) B.pre
  have hown : s.vm.findClass RX7 = some m.cls := findClass_of_methodNamed B.named
  have hlocks := B.notSynchronized
  subst hsz
  have hD := hD0.self (sz := s.heap.size)
  generalize hAe : va_A [(x, .inr (7, [.int h, .int r, .ref xt, .ref xo, .ref xh, .ref xs, .ref xm, .ref xq])), (xs, .inr (1, [.ref xb, .int 0, .int (-1)])), (xb, .inr (0, [.ref xbw, .int 24])), (xbw, .inl (cB, 6, .inl (fun _ => 0)))] s.heap.size = A at hD ⊢
  have hA : ∀ q : Nat, s.heap.size ≤ q → A q := fun q h => by rw [← hAe]; exact Or.inr h
  have hS : va_S A s.heap s.heap [] := va_S.rf
  have hP : va_P (dC, dI) classes [(x, .inr (7, [.int h, .int r, .ref xt, .ref xo, .ref xh, .ref xs, .ref xm, .ref xq])), (xs, .inr (1, [.ref xb, .int 0, .int (-1)])), (xb, .inr (0, [.ref xbw, .int 24])), (xbw, .inl (cB, 6, .inl (fun _ => 0)))] s.heap := hP
  have hl := lv_entry ([.ref x, .int k]) (n := 2) (Nat.le_of_ble_eq_true rfl)
  rw [lg_entry_eq]
  generalize (lg_sl ([.ref x, .int k]) ++ List.replicate (2 - (lg_sl ([.ref x, .int k])).length) Slot.unset).toArray = ls at hl ⊢
  have hl : lv_has ls 2 [(0, .ref x), (1, .int k)] := hl
  generalize hHe : s.heap = H at hP ⊢
  have hS : va_S A s.heap H [] := by rw [← hHe]; exact va_S.rf
  refine lv_aload_n hx hb dX7_disk_0 rfl (lv_at hl 0 rfl) ?_
  refine va_get (D := (dC, dI)) (ci := 7) (v := .ref xs) (C := RX7) (T := TX7) (N := 8) hx hb hts iX7_disk_X7 hown hK hP 0 rfl rfl 5 (by decide) (hts (.fieldLink RX7 43 "LeafSigner" "store" "LLeafSigner$Disk;") (List.mem_of_getElem? (i := 1) rfl)) (fun _ h9 => h9) rfl dX7_disk_1 ?_
  refine va_get (D := (dC, dI)) (ci := 1) (v := .ref xb) (C := RX1) (T := TX1) (N := 3) hx hb hts iX7_disk_X1 hown hK hP 1 rfl rfl 0 (by decide) (hts (.fieldLink RX7 151 "LeafSigner$Disk" "bytes" "LLeafSigner$ByteRow;") (List.mem_of_getElem? (i := 2) rfl)) (fun _ h9 => h9) rfl dX7_disk_4 ?_
  refine lv_iload_n hx hb dX7_disk_7 rfl (lv_at hl 1 rfl) ?_
  have hPc := hP.sub (ws' := [(xb, .inr (0, [.ref xbw, .int 24])), (xbw, .inl (cB, 6, .inl (fun _ => 0)))]) [2, 3] rfl
  have hDc := hD.sub (ws' := [(xb, .inr (0, [.ref xbw, .int 24])), (xbw, .inl (cB, 6, .inl (fun _ => 0)))]) [2, 3] (by decide) rfl
  have hKc := hK.sub (tys' := [(cB, .int)]) [0] rfl
  have hFc := va_free (wc := [(xb, .inr (0, [.ref xbw, .int 24])), (xbw, .inl (cB, 6, .inl (fun _ => 0)))]) hD hS hA [2, 3] rfl
  refine va_calli (va_runV (As := [.int k]) (rest := []) ⟨hx, hb, hml, hown, hts⟩ (ct_byteAtD l dC dI H.size xb k xbw cB) (cwV 1 hts gX7_disk_X0_byteAt_118 rfl rfl rfl (by decide +kernel) ⟨(Nat.le_of_ble_eq_true rfl), (Nat.le_of_ble_eq_true rfl)⟩) ⟨fun a U g mk q => by obtain ⟨q0, q1, qP, qK, qD⟩ := q; exact ⟨q0, q1, qP, va_K.moved (u := U) (U := U.calling g mk a) (Vm.Alike.refl U.vm) qK, qD⟩, va_recv hKc hPc (ci := 0) (q0 := 0) rfl rfl, fun U hU hW => ⟨rfl, by rw [hU], by rw [hU]; exact hPc, va_K.moved hW.alike hKc, hDc.weaken (fun _ _ _ _ => trivial)⟩⟩ rfl rfl hl.1 rfl (lv_room (Nat.le_of_ble_eq_true rfl)) dX7_disk_8 ⟨(Nat.le_of_ble_eq_true rfl), (Nat.le_of_ble_eq_true rfl)⟩) hS (fun q _ h => hFc q h) hFc (fun r116 u t H1 locs ht hvm hw hB hz1 hk1 hS => ?_)
  have hP1 : va_P (dC, dI) classes [] H1 := vx_P0
  have hD1 : va_D (va_A [(xb, .inr (0, [.ref xbw, .int 24])), (xbw, .inl (cB, 6, .inl (fun _ => 0)))] H.size) [] := vx_D0
  obtain ⟨hP, hD⟩ := va_join (wr := [(x, .inr (7, [.int h, .int r, .ref xt, .ref xo, .ref xh, .ref xs, .ref xm, .ref xq])), (xs, .inr (1, [.ref xb, .int 0, .int (-1)]))]) (w1 := []) hP hD [2, 3] [0, 1] rfl rfl (by decide) (by decide) hk1 hFc hP1 hD1
  have hK := hK.sub (tys' := []) [] rfl
  generalize H1 = H at hP hS ⊢
  have hP : va_P (dC, dI) classes [(x, .inr (7, [.int h, .int r, .ref xt, .ref xo, .ref xh, .ref xs, .ref xm, .ref xq])), (xs, .inr (1, [.ref xb, .int 0, .int (-1)]))] H := hP
  have hD : va_D A [(x, .inr (7, [.int h, .int r, .ref xt, .ref xo, .ref xh, .ref xs, .ref xm, .ref xq])), (xs, .inr (1, [.ref xb, .int 0, .int (-1)]))] := hD
  have hK : va_K (dC, dI) classes [] s := hK
  refine W.widen (k := 0) (n := 0) (Nat.le_of_ble_eq_true rfl) (Nat.le_of_ble_eq_true rfl) ?_
  try dsimp only at hw
  subst hw
  refine W.widen (k := 0) (n := 0) (Nat.le_of_ble_eq_true rfl) (Nat.le_of_ble_eq_true rfl) ?_
  exact W.iret (v := (fk_disk k)) hx hb hr (fun t ht hW => ⟨⟨(fk_disk k), (), rfl, rfl, trivial⟩, hS.F ht⟩) hS.2.2 dX7_disk_11
def ww_X7_leaf : List Cond := .code yX7_leaf cX7_leaf 2 (some .int) :: ([.methodLink RX7 122 yX7_wasNeverKeyed, .instanceMethod yX7_wasNeverKeyed, .selects RX7 yX7_wasNeverKeyed yX7_wasNeverKeyed, .initialized RX7, .code yX7_wasNeverKeyed cX7_wasNeverKeyed 1 (some .boolean), .fieldLink RX7 52 "LeafSigner" "machine" "LLeafSigner$Machine;", .fieldLink RX7 84 "LeafSigner$Machine" "state" "I"] ++ (wsX70 ++ wsX30))
theorem iX7_leaf_X7 : ∀ w ∈ wsX70, w ∈ ww_X7_leaf := fun w h => List.mem_cons_of_mem _ (List.mem_append_right _ (List.mem_append_left _ h))
theorem iX7_leaf_X3 : ∀ w ∈ wsX30, w ∈ ww_X7_leaf := fun w h => List.mem_cons_of_mem _ (List.mem_append_right _ (List.mem_append_right _ h))
set_option maxRecDepth 20000 in
theorem gX7_leaf_X7_wasNeverKeyed_122 : GoodIn ww_X7_leaf (wsV RX7 122 RX7 yX7_wasNeverKeyed ww_X7_wasNeverKeyed) := vx_good _ [1, 2, 3, 4, 5, 6, 7, 8, 9, 10, 11, 12, 13, 14, 15, 16, 17, 18, 19, 20, 21, 22] rfl (by decide +kernel)
set_option maxHeartbeats 4000000 in
set_option maxRecDepth 100000 in
theorem ct_leaf (l : Launch) (dC : Nat → ClassId) (dI : Nat → Nat → Nat) (sz : Nat) (x : Nat) (k : Int32) (h : Int32) (r : Int32) (xt : Nat) (xo : Nat) (xh : Nat) (xs : Nat) (xm : Nat) (xq : Nat) (xf : Nat) : Met l yX7_leaf ww_X7_leaf ({ frames := 1, cells := 0, slots := 0, locals := 20 }) (va_Pc [.ref x, .int k] (fun U => U.heap.size = sz ∧ va_P (dC, dI) classes [(x, .inr (7, [.int h, .int r, .ref xt, .ref xo, .ref xh, .ref xs, .ref xm, .ref xq])), (xm, .inr (3, [.ref xf, .int r, .ref xs, .int 0, .int 0, .int 0, .int 0]))] U.heap ∧ va_K (dC, dI) classes [] U ∧ va_D (fun _ => True) [(x, .inr (7, [.int h, .int r, .ref xt, .ref xo, .ref xh, .ref xs, .ref xm, .ref xq])), (xm, .inr (3, [.ref xf, .int r, .ref xs, .int 0, .int 0, .int 0, .int 0]))])) (va_Qi (fun (r : Int32) (_ : Unit) => r = -1) (fun (_ : Unit) (_ : State) => True) (va_A [(x, .inr (7, [.int h, .int r, .ref xt, .ref xo, .ref xh, .ref xs, .ref xm, .ref xq])), (xm, .inr (3, [.ref xf, .int r, .ref xs, .int 0, .int 0, .int 0, .int 0]))] sz)) 0 0 (va_A [(x, .inr (7, [.int h, .int r, .ref xt, .ref xo, .ref xh, .ref xs, .ref xm, .ref xq])), (xm, .inr (3, [.ref xf, .int r, .ref xs, .int 0, .int 0, .int 0, .int 0]))] sz) := by
  refine Met.ofW (cc := cX7_leaf) (maxL := 2) (ret := (some .int)) (by decide) rfl ?_
  intro p e s m args below meth c s₁ B hml hv
  obtain ⟨rfl, hsz, hP, hK, hD0⟩ := hv
  have hx := B.exec
  have hb := B.bytes
  have hr := B.returns
  have hts := atoms_spec (ws := ww_X7_leaf) B.pre
  have hown : s.vm.findClass RX7 = some m.cls := findClass_of_methodNamed B.named
  have hlocks := B.notSynchronized
  subst hsz
  have hD := hD0.self (sz := s.heap.size)
  generalize hAe : va_A [(x, .inr (7, [.int h, .int r, .ref xt, .ref xo, .ref xh, .ref xs, .ref xm, .ref xq])), (xm, .inr (3, [.ref xf, .int r, .ref xs, .int 0, .int 0, .int 0, .int 0]))] s.heap.size = A at hD ⊢
  have hA : ∀ q : Nat, s.heap.size ≤ q → A q := fun q h => by rw [← hAe]; exact Or.inr h
  have hS : va_S A s.heap s.heap [] := va_S.rf
  have hP : va_P (dC, dI) classes [(x, .inr (7, [.int h, .int r, .ref xt, .ref xo, .ref xh, .ref xs, .ref xm, .ref xq])), (xm, .inr (3, [.ref xf, .int r, .ref xs, .int 0, .int 0, .int 0, .int 0]))] s.heap := hP
  have hl := lv_entry ([.ref x, .int k]) (n := 2) (Nat.le_of_ble_eq_true rfl)
  rw [lg_entry_eq]
  generalize (lg_sl ([.ref x, .int k]) ++ List.replicate (2 - (lg_sl ([.ref x, .int k])).length) Slot.unset).toArray = ls at hl ⊢
  have hl : lv_has ls 2 [(0, .ref x), (1, .int k)] := hl
  generalize hHe : s.heap = H at hP ⊢
  have hS : va_S A s.heap H [] := by rw [← hHe]; exact va_S.rf
  refine lv_aload_n hx hb dX7_leaf_0 rfl (lv_at hl 0 rfl) ?_
  have hPc := hP.sub (ws' := [(x, .inr (7, [.int h, .int r, .ref xt, .ref xo, .ref xh, .ref xs, .ref xm, .ref xq])), (xm, .inr (3, [.ref xf, .int r, .ref xs, .int 0, .int 0, .int 0, .int 0]))]) [0, 1] rfl
  have hDc := hD.sub (ws' := [(x, .inr (7, [.int h, .int r, .ref xt, .ref xo, .ref xh, .ref xs, .ref xm, .ref xq])), (xm, .inr (3, [.ref xf, .int r, .ref xs, .int 0, .int 0, .int 0, .int 0]))]) [0, 1] (by decide) rfl
  have hKc := hK.sub (tys' := []) [] rfl
  have hFc := va_free (wc := [(x, .inr (7, [.int h, .int r, .ref xt, .ref xo, .ref xh, .ref xs, .ref xm, .ref xq])), (xm, .inr (3, [.ref xf, .int r, .ref xs, .int 0, .int 0, .int 0, .int 0]))]) hD hS hA [0, 1] rfl
  refine va_calli (va_runV (As := []) (rest := []) ⟨hx, hb, hml, hown, hts⟩ (ct_never l dC dI H.size x h r xt xo xh xs xm xq xf) (cwV 0 hts gX7_leaf_X7_wasNeverKeyed_122 rfl rfl rfl (by decide +kernel) ⟨(Nat.le_of_ble_eq_true rfl), (Nat.le_of_ble_eq_true rfl)⟩) ⟨fun a U g mk q => by obtain ⟨q0, q1, qP, qK, qD⟩ := q; exact ⟨q0, q1, qP, va_K.moved (u := U) (U := U.calling g mk a) (Vm.Alike.refl U.vm) qK, qD⟩, va_recv hKc hPc (ci := 7) (q0 := 0) rfl rfl, fun U hU hW => ⟨rfl, by rw [hU], by rw [hU]; exact hPc, va_K.moved hW.alike hKc, hDc.weaken (fun _ _ _ _ => trivial)⟩⟩ rfl rfl hl.1 rfl (lv_room (Nat.le_of_ble_eq_true rfl)) dX7_leaf_1 ⟨(Nat.le_of_ble_eq_true rfl), (Nat.le_of_ble_eq_true rfl)⟩) hS (fun q _ h => hFc q h) hFc (fun r117 u t H1 locs ht hvm hw hB hz1 hk1 hS => ?_)
  obtain ⟨hP1, hK1, hD1⟩ := hB
  rw [ht] at hP1
  have hK1 := va_K.moved hvm.symm hK1
  obtain ⟨hP, hD⟩ := va_join (wr := []) (w1 := [(x, .inr (7, [.int h, .int r, .ref xt, .ref xo, .ref xh, .ref xs, .ref xm, .ref xq])), (xm, .inr (3, [.ref xf, .int r, .ref xs, .int 0, .int 0, .int 0, .int 0]))]) hP hD [0, 1] [] rfl rfl (by decide) (by decide) hk1 hFc hP1 hD1
  have hK := hK.sub (tys' := []) [] rfl
  have hK := hK.app hK1
  generalize H1 = H at hP hS ⊢
  have hP : va_P (dC, dI) classes [(x, .inr (7, [.int h, .int r, .ref xt, .ref xo, .ref xh, .ref xs, .ref xm, .ref xq])), (xm, .inr (3, [.ref xf, .int r, .ref xs, .int 0, .int 0, .int 0, .int 0]))] H := hP
  have hD : va_D A [(x, .inr (7, [.int h, .int r, .ref xt, .ref xo, .ref xh, .ref xs, .ref xm, .ref xq])), (xm, .inr (3, [.ref xf, .int r, .ref xs, .int 0, .int 0, .int 0, .int 0]))] := hD
  have hK : va_K (dC, dI) classes [] s := hK
  refine W.widen (k := 0) (n := 0) (Nat.le_of_ble_eq_true rfl) (Nat.le_of_ble_eq_true rfl) ?_
  try dsimp only at hw
  obtain rfl : r117 = 1 := hw
  refine lv_if_ne (tgt := 18) hx hb dX7_leaf_4 (by decide) (fun c118 => ?_) (fun c118 => absurd (by decide) c118)
  refine lv_iconst (v := (-1)) hx hb dX7_leaf_18 (by decide) ?_
  refine W.widen (k := 0) (n := 0) (Nat.le_of_ble_eq_true rfl) (Nat.le_of_ble_eq_true rfl) ?_
  exact W.iret (v := (-1)) hx hb hr (fun t ht hW => ⟨⟨(-1), (), rfl, rfl, trivial⟩, hS.F ht⟩) hS.2.2 dX7_leaf_19
def ww_X7_node : List Cond := .code yX7_node cX7_node 4 (some .int) :: ([.methodLink RX7 122 yX7_wasNeverKeyed, .instanceMethod yX7_wasNeverKeyed, .selects RX7 yX7_wasNeverKeyed yX7_wasNeverKeyed, .initialized RX7, .code yX7_wasNeverKeyed cX7_wasNeverKeyed 1 (some .boolean), .fieldLink RX7 52 "LeafSigner" "machine" "LLeafSigner$Machine;", .fieldLink RX7 84 "LeafSigner$Machine" "state" "I"] ++ (wsX70 ++ wsX30))
theorem iX7_node_X7 : ∀ w ∈ wsX70, w ∈ ww_X7_node := fun w h => List.mem_cons_of_mem _ (List.mem_append_right _ (List.mem_append_left _ h))
theorem iX7_node_X3 : ∀ w ∈ wsX30, w ∈ ww_X7_node := fun w h => List.mem_cons_of_mem _ (List.mem_append_right _ (List.mem_append_right _ h))
set_option maxRecDepth 20000 in
theorem gX7_node_X7_wasNeverKeyed_122 : GoodIn ww_X7_node (wsV RX7 122 RX7 yX7_wasNeverKeyed ww_X7_wasNeverKeyed) := vx_good _ [1, 2, 3, 4, 5, 6, 7, 8, 9, 10, 11, 12, 13, 14, 15, 16, 17, 18, 19, 20, 21, 22] rfl (by decide +kernel)
set_option maxHeartbeats 4000000 in
set_option maxRecDepth 100000 in
theorem ct_node (l : Launch) (dC : Nat → ClassId) (dI : Nat → Nat → Nat) (sz : Nat) (x : Nat) (k : Int32) (k2 : Int32) (k3 : Int32) (h : Int32) (r : Int32) (xt : Nat) (xo : Nat) (xh : Nat) (xs : Nat) (xm : Nat) (xq : Nat) (xf : Nat) : Met l yX7_node ww_X7_node ({ frames := 1, cells := 0, slots := 0, locals := 20 }) (va_Pc [.ref x, .int k, .int k2, .int k3] (fun U => U.heap.size = sz ∧ va_P (dC, dI) classes [(x, .inr (7, [.int h, .int r, .ref xt, .ref xo, .ref xh, .ref xs, .ref xm, .ref xq])), (xm, .inr (3, [.ref xf, .int r, .ref xs, .int 0, .int 0, .int 0, .int 0]))] U.heap ∧ va_K (dC, dI) classes [] U ∧ va_D (fun _ => True) [(x, .inr (7, [.int h, .int r, .ref xt, .ref xo, .ref xh, .ref xs, .ref xm, .ref xq])), (xm, .inr (3, [.ref xf, .int r, .ref xs, .int 0, .int 0, .int 0, .int 0]))])) (va_Qi (fun (r : Int32) (_ : Unit) => r = -1) (fun (_ : Unit) (_ : State) => True) (va_A [(x, .inr (7, [.int h, .int r, .ref xt, .ref xo, .ref xh, .ref xs, .ref xm, .ref xq])), (xm, .inr (3, [.ref xf, .int r, .ref xs, .int 0, .int 0, .int 0, .int 0]))] sz)) 0 0 (va_A [(x, .inr (7, [.int h, .int r, .ref xt, .ref xo, .ref xh, .ref xs, .ref xm, .ref xq])), (xm, .inr (3, [.ref xf, .int r, .ref xs, .int 0, .int 0, .int 0, .int 0]))] sz) := by
  refine Met.ofW (cc := cX7_node) (maxL := 4) (ret := (some .int)) (by decide) rfl ?_
  intro p e s m args below meth c s₁ B hml hv
  obtain ⟨rfl, hsz, hP, hK, hD0⟩ := hv
  have hx := B.exec
  have hb := B.bytes
  have hr := B.returns
  have hts := atoms_spec (ws := ww_X7_node) B.pre
  have hown : s.vm.findClass RX7 = some m.cls := findClass_of_methodNamed B.named
  have hlocks := B.notSynchronized
  subst hsz
  have hD := hD0.self (sz := s.heap.size)
  generalize hAe : va_A [(x, .inr (7, [.int h, .int r, .ref xt, .ref xo, .ref xh, .ref xs, .ref xm, .ref xq])), (xm, .inr (3, [.ref xf, .int r, .ref xs, .int 0, .int 0, .int 0, .int 0]))] s.heap.size = A at hD ⊢
  have hA : ∀ q : Nat, s.heap.size ≤ q → A q := fun q h => by rw [← hAe]; exact Or.inr h
  have hS : va_S A s.heap s.heap [] := va_S.rf
  have hP : va_P (dC, dI) classes [(x, .inr (7, [.int h, .int r, .ref xt, .ref xo, .ref xh, .ref xs, .ref xm, .ref xq])), (xm, .inr (3, [.ref xf, .int r, .ref xs, .int 0, .int 0, .int 0, .int 0]))] s.heap := hP
  have hl := lv_entry ([.ref x, .int k, .int k2, .int k3]) (n := 4) (Nat.le_of_ble_eq_true rfl)
  rw [lg_entry_eq]
  generalize (lg_sl ([.ref x, .int k, .int k2, .int k3]) ++ List.replicate (4 - (lg_sl ([.ref x, .int k, .int k2, .int k3])).length) Slot.unset).toArray = ls at hl ⊢
  have hl : lv_has ls 4 [(0, .ref x), (1, .int k), (2, .int k2), (3, .int k3)] := hl
  generalize hHe : s.heap = H at hP ⊢
  have hS : va_S A s.heap H [] := by rw [← hHe]; exact va_S.rf
  refine lv_aload_n hx hb dX7_node_0 rfl (lv_at hl 0 rfl) ?_
  have hPc := hP.sub (ws' := [(x, .inr (7, [.int h, .int r, .ref xt, .ref xo, .ref xh, .ref xs, .ref xm, .ref xq])), (xm, .inr (3, [.ref xf, .int r, .ref xs, .int 0, .int 0, .int 0, .int 0]))]) [0, 1] rfl
  have hDc := hD.sub (ws' := [(x, .inr (7, [.int h, .int r, .ref xt, .ref xo, .ref xh, .ref xs, .ref xm, .ref xq])), (xm, .inr (3, [.ref xf, .int r, .ref xs, .int 0, .int 0, .int 0, .int 0]))]) [0, 1] (by decide) rfl
  have hKc := hK.sub (tys' := []) [] rfl
  have hFc := va_free (wc := [(x, .inr (7, [.int h, .int r, .ref xt, .ref xo, .ref xh, .ref xs, .ref xm, .ref xq])), (xm, .inr (3, [.ref xf, .int r, .ref xs, .int 0, .int 0, .int 0, .int 0]))]) hD hS hA [0, 1] rfl
  refine va_calli (va_runV (As := []) (rest := []) ⟨hx, hb, hml, hown, hts⟩ (ct_never l dC dI H.size x h r xt xo xh xs xm xq xf) (cwV 0 hts gX7_node_X7_wasNeverKeyed_122 rfl rfl rfl (by decide +kernel) ⟨(Nat.le_of_ble_eq_true rfl), (Nat.le_of_ble_eq_true rfl)⟩) ⟨fun a U g mk q => by obtain ⟨q0, q1, qP, qK, qD⟩ := q; exact ⟨q0, q1, qP, va_K.moved (u := U) (U := U.calling g mk a) (Vm.Alike.refl U.vm) qK, qD⟩, va_recv hKc hPc (ci := 7) (q0 := 0) rfl rfl, fun U hU hW => ⟨rfl, by rw [hU], by rw [hU]; exact hPc, va_K.moved hW.alike hKc, hDc.weaken (fun _ _ _ _ => trivial)⟩⟩ rfl rfl hl.1 rfl (lv_room (Nat.le_of_ble_eq_true rfl)) dX7_node_1 ⟨(Nat.le_of_ble_eq_true rfl), (Nat.le_of_ble_eq_true rfl)⟩) hS (fun q _ h => hFc q h) hFc (fun r119 u t H1 locs ht hvm hw hB hz1 hk1 hS => ?_)
  obtain ⟨hP1, hK1, hD1⟩ := hB
  rw [ht] at hP1
  have hK1 := va_K.moved hvm.symm hK1
  obtain ⟨hP, hD⟩ := va_join (wr := []) (w1 := [(x, .inr (7, [.int h, .int r, .ref xt, .ref xo, .ref xh, .ref xs, .ref xm, .ref xq])), (xm, .inr (3, [.ref xf, .int r, .ref xs, .int 0, .int 0, .int 0, .int 0]))]) hP hD [0, 1] [] rfl rfl (by decide) (by decide) hk1 hFc hP1 hD1
  have hK := hK.sub (tys' := []) [] rfl
  have hK := hK.app hK1
  generalize H1 = H at hP hS ⊢
  have hP : va_P (dC, dI) classes [(x, .inr (7, [.int h, .int r, .ref xt, .ref xo, .ref xh, .ref xs, .ref xm, .ref xq])), (xm, .inr (3, [.ref xf, .int r, .ref xs, .int 0, .int 0, .int 0, .int 0]))] H := hP
  have hD : va_D A [(x, .inr (7, [.int h, .int r, .ref xt, .ref xo, .ref xh, .ref xs, .ref xm, .ref xq])), (xm, .inr (3, [.ref xf, .int r, .ref xs, .int 0, .int 0, .int 0, .int 0]))] := hD
  have hK : va_K (dC, dI) classes [] s := hK
  refine W.widen (k := 0) (n := 0) (Nat.le_of_ble_eq_true rfl) (Nat.le_of_ble_eq_true rfl) ?_
  try dsimp only at hw
  obtain rfl : r119 = 1 := hw
  refine lv_if_ne (tgt := 29) hx hb dX7_node_4 (by decide) (fun c120 => ?_) (fun c120 => absurd (by decide) c120)
  refine lv_iconst (v := (-1)) hx hb dX7_node_29 (by decide) ?_
  refine W.widen (k := 0) (n := 0) (Nat.le_of_ble_eq_true rfl) (Nat.le_of_ble_eq_true rfl) ?_
  exact W.iret (v := (-1)) hx hb hr (fun t ht hW => ⟨⟨(-1), (), rfl, rfl, trivial⟩, hS.F ht⟩) hS.2.2 dX7_node_30
def ww_X7_about : List Cond := .code yX7_about cX7_about 3 (some .int) :: ([.fieldLink RX7 52 "LeafSigner" "machine" "LLeafSigner$Machine;", .fieldLink RX7 84 "LeafSigner$Machine" "state" "I", .methodLink RX7 145 yX3_countOf, .instanceMethod yX3_countOf, .selects RX3 yX3_countOf yX3_countOf, .initialized RX3, .code yX3_countOf cX3_countOf 4 (some .int), .fieldLink RX3 7 "LeafSigner$Machine" "fates" "[I", .fieldLink RX7 43 "LeafSigner" "store" "LLeafSigner$Disk;", .fieldLink RX7 148 "LeafSigner$Disk" "written" "I", .fieldLink RX7 101 "LeafSigner$Disk" "fuseLeft" "I", .fieldLink RX7 30 "LeafSigner" "tape" "LLeafSigner$ByteRow;", .fieldLink RX7 63 "LeafSigner$ByteRow" "count" "I", .fieldLink RX7 34 "LeafSigner" "output" "LLeafSigner$ByteRow;", .fieldLink RX7 37 "LeafSigner" "held" "LLeafSigner$ByteRow;", .fieldLink RX7 18 "LeafSigner" "height" "I", .fieldLink RX7 22 "LeafSigner" "reserve" "I"] ++ (wsX70 ++ wsX30 ++ wsX10 ++ wsX00))
theorem iX7_about_X7 : ∀ w ∈ wsX70, w ∈ ww_X7_about := fun w h => List.mem_cons_of_mem _ (List.mem_append_right _ (List.mem_append_left _ (List.mem_append_left _ (List.mem_append_left _ h))))
theorem iX7_about_X3 : ∀ w ∈ wsX30, w ∈ ww_X7_about := fun w h => List.mem_cons_of_mem _ (List.mem_append_right _ (List.mem_append_left _ (List.mem_append_left _ (List.mem_append_right _ h))))
theorem iX7_about_X1 : ∀ w ∈ wsX10, w ∈ ww_X7_about := fun w h => List.mem_cons_of_mem _ (List.mem_append_right _ (List.mem_append_left _ (List.mem_append_right _ h)))
theorem iX7_about_X0 : ∀ w ∈ wsX00, w ∈ ww_X7_about := fun w h => List.mem_cons_of_mem _ (List.mem_append_right _ (List.mem_append_right _ h))
set_option maxRecDepth 20000 in
theorem gX7_about_X3_countOf_145 : GoodIn ww_X7_about (wsV RX7 145 RX3 yX3_countOf ww_X3_countOf) := vx_good _ [3, 4, 5, 6, 7, 8, 26, 27, 28, 29, 30, 31, 32] rfl (by decide +kernel)
set_option maxHeartbeats 4000000 in
set_option maxRecDepth 100000 in
theorem ct_about (l : Launch) (dC : Nat → ClassId) (dI : Nat → Nat → Nat) (sz : Nat) (x : Nat) (k : Int32) (h : Int32) (r : Int32) (xt : Nat) (xo : Nat) (xh : Nat) (xs : Nat) (xm : Nat) (xq : Nat) (xtw : Nat) (xow : Nat) (xhw : Nat) (xb : Nat) (xf : Nat) (cF : ClassId) (NF : Nat) (hN : NF < 2 ^ 31) : Met l yX7_about ww_X7_about ({ frames := 1, cells := 0, slots := 0, locals := 23 }) (va_Pc [.ref x, .int k] (fun U => U.heap.size = sz ∧ va_P (dC, dI) classes [(x, .inr (7, [.int h, .int r, .ref xt, .ref xo, .ref xh, .ref xs, .ref xm, .ref xq])), (xt, .inr (0, [.ref xtw, .int 0])), (xo, .inr (0, [.ref xow, .int 0])), (xh, .inr (0, [.ref xhw, .int 0])), (xs, .inr (1, [.ref xb, .int 0, .int (-1)])), (xm, .inr (3, [.ref xf, .int r, .ref xs, .int 0, .int 0, .int 0, .int 0])), (xf, .inl (cF, NF, .inl (fun _ => 0)))] U.heap ∧ va_K (dC, dI) classes [(cF, .int)] U ∧ va_D (fun _ => True) [(x, .inr (7, [.int h, .int r, .ref xt, .ref xo, .ref xh, .ref xs, .ref xm, .ref xq])), (xt, .inr (0, [.ref xtw, .int 0])), (xo, .inr (0, [.ref xow, .int 0])), (xh, .inr (0, [.ref xhw, .int 0])), (xs, .inr (1, [.ref xb, .int 0, .int (-1)])), (xm, .inr (3, [.ref xf, .int r, .ref xs, .int 0, .int 0, .int 0, .int 0])), (xf, .inl (cF, NF, .inl (fun _ => 0)))])) (va_Qi (fun (r : Int32) (_ : Unit) => r = fk_about k h r) (fun (_ : Unit) (_ : State) => True) (va_A [(x, .inr (7, [.int h, .int r, .ref xt, .ref xo, .ref xh, .ref xs, .ref xm, .ref xq])), (xt, .inr (0, [.ref xtw, .int 0])), (xo, .inr (0, [.ref xow, .int 0])), (xh, .inr (0, [.ref xhw, .int 0])), (xs, .inr (1, [.ref xb, .int 0, .int (-1)])), (xm, .inr (3, [.ref xf, .int r, .ref xs, .int 0, .int 0, .int 0, .int 0])), (xf, .inl (cF, NF, .inl (fun _ => 0)))] sz)) 0 0 (va_A [(x, .inr (7, [.int h, .int r, .ref xt, .ref xo, .ref xh, .ref xs, .ref xm, .ref xq])), (xt, .inr (0, [.ref xtw, .int 0])), (xo, .inr (0, [.ref xow, .int 0])), (xh, .inr (0, [.ref xhw, .int 0])), (xs, .inr (1, [.ref xb, .int 0, .int (-1)])), (xm, .inr (3, [.ref xf, .int r, .ref xs, .int 0, .int 0, .int 0, .int 0])), (xf, .inl (cF, NF, .inl (fun _ => 0)))] sz) := by
  refine Met.ofW (cc := cX7_about) (maxL := 3) (ret := (some .int)) (by decide) rfl ?_
  intro p e s m args below meth c s₁ B hml hv
  obtain ⟨rfl, hsz, hP, hK, hD0⟩ := hv
  have hx := B.exec
  have hb := B.bytes
  have hr := B.returns
  have hts := atoms_spec (ws := ww_X7_about) B.pre
  have hown : s.vm.findClass RX7 = some m.cls := findClass_of_methodNamed B.named
  have hlocks := B.notSynchronized
  subst hsz
  have hD := hD0.self (sz := s.heap.size)
  generalize hAe : va_A [(x, .inr (7, [.int h, .int r, .ref xt, .ref xo, .ref xh, .ref xs, .ref xm, .ref xq])), (xt, .inr (0, [.ref xtw, .int 0])), (xo, .inr (0, [.ref xow, .int 0])), (xh, .inr (0, [.ref xhw, .int 0])), (xs, .inr (1, [.ref xb, .int 0, .int (-1)])), (xm, .inr (3, [.ref xf, .int r, .ref xs, .int 0, .int 0, .int 0, .int 0])), (xf, .inl (cF, NF, .inl (fun _ => 0)))] s.heap.size = A at hD ⊢
  have hA : ∀ q : Nat, s.heap.size ≤ q → A q := fun q h => by rw [← hAe]; exact Or.inr h
  have hS : va_S A s.heap s.heap [] := va_S.rf
  have hP : va_P (dC, dI) classes [(x, .inr (7, [.int h, .int r, .ref xt, .ref xo, .ref xh, .ref xs, .ref xm, .ref xq])), (xt, .inr (0, [.ref xtw, .int 0])), (xo, .inr (0, [.ref xow, .int 0])), (xh, .inr (0, [.ref xhw, .int 0])), (xs, .inr (1, [.ref xb, .int 0, .int (-1)])), (xm, .inr (3, [.ref xf, .int r, .ref xs, .int 0, .int 0, .int 0, .int 0])), (xf, .inl (cF, NF, .inl (fun _ => 0)))] s.heap := hP
  have hl := lv_entry ([.ref x, .int k]) (n := 3) (Nat.le_of_ble_eq_true rfl)
  rw [lg_entry_eq]
  generalize (lg_sl ([.ref x, .int k]) ++ List.replicate (3 - (lg_sl ([.ref x, .int k])).length) Slot.unset).toArray = ls at hl ⊢
  have hl : lv_has ls 3 [(0, .ref x), (1, .int k)] := hl
  generalize hHe : s.heap = H at hP ⊢
  have hS : va_S A s.heap H [] := by rw [← hHe]; exact va_S.rf
  refine lv_aload_n hx hb dX7_about_0 rfl (lv_at hl 0 rfl) ?_
  refine va_get (D := (dC, dI)) (ci := 7) (v := .ref xm) (C := RX7) (T := TX7) (N := 8) hx hb hts iX7_about_X7 hown hK hP 0 rfl rfl 6 (by decide) (hts (.fieldLink RX7 52 "LeafSigner" "machine" "LLeafSigner$Machine;") (List.mem_of_getElem? (i := 1) rfl)) (fun _ h9 => h9) rfl dX7_about_1 ?_
  refine va_get (D := (dC, dI)) (ci := 3) (v := .int 0) (C := RX3) (T := TX3) (N := 7) hx hb hts iX7_about_X3 hown hK hP 5 rfl rfl 3 (by decide) (hts (.fieldLink RX7 84 "LeafSigner$Machine" "state" "I") (List.mem_of_getElem? (i := 2) rfl)) (fun _ h9 => h9) rfl dX7_about_4 ?_
  refine lv_iconst (v := 1) hx hb dX7_about_7 (by decide) ?_
  refine lv_icmp_ne (tgt := 15) hx hb dX7_about_8 (by decide) (fun c121 => ?_) (fun c121 => absurd (by decide) c121)
  refine lv_iconst (v := 0) hx hb dX7_about_15 (by decide) ?_
  refine lv_istore_n (lv' := [(2, .int 0), (0, .ref x), (1, .int k)]) hx hb dX7_about_16 rfl hl (by decide) rfl (fun ls hl => ?_)
  refine lv_iload_n hx hb dX7_about_17 rfl (lv_at hl 2 rfl) ?_
  by_cases c122 : k = 0
  · subst c122
    have hl : lv_has ls 3 [(2, .int 0), (0, .ref x), (1, .int 0)] := hl
    refine lv_tableIn (off := 62) (tgt := 80) hx hb dX7_about_18 (by decide) (by decide) (by decide) (by decide) ?_
    refine lv_aload_n hx hb dX7_about_80 rfl (lv_at hl 1 rfl) ?_
    refine va_get (D := (dC, dI)) (ci := 7) (v := .ref xm) (C := RX7) (T := TX7) (N := 8) hx hb hts iX7_about_X7 hown hK hP 0 rfl rfl 6 (by decide) (hts (.fieldLink RX7 52 "LeafSigner" "machine" "LLeafSigner$Machine;") (List.mem_of_getElem? (i := 1) rfl)) (fun _ h9 => h9) rfl dX7_about_81 ?_
    refine va_get (D := (dC, dI)) (ci := 3) (v := .int 0) (C := RX3) (T := TX3) (N := 7) hx hb hts iX7_about_X3 hown hK hP 5 rfl rfl 3 (by decide) (hts (.fieldLink RX7 84 "LeafSigner$Machine" "state" "I") (List.mem_of_getElem? (i := 2) rfl)) (fun _ h9 => h9) rfl dX7_about_84 ?_
    refine W.widen (k := 0) (n := 0) (Nat.le_of_ble_eq_true rfl) (Nat.le_of_ble_eq_true rfl) ?_
    exact W.iret (v := 0) hx hb hr (fun t ht hW => ⟨⟨0, (), rfl, rfl, trivial⟩, hS.F ht⟩) hS.2.2 dX7_about_87
  · by_cases c123 : k = 1
    · subst c123
      have hl : lv_has ls 3 [(2, .int 0), (0, .ref x), (1, .int 1)] := hl
      refine lv_tableIn (off := 70) (tgt := 88) hx hb dX7_about_18 (by decide) (by decide) (by decide) (by decide) ?_
      refine lv_iload_n hx hb dX7_about_88 rfl (lv_at hl 0 rfl) ?_
      refine lv_if_eq (tgt := 102) hx hb dX7_about_89 (by decide) (fun c124 => ?_) (fun c124 => absurd (by decide) c124)
      refine lv_iconst (v := (-1)) hx hb dX7_about_102 (by decide) ?_
      refine W.widen (k := 0) (n := 0) (Nat.le_of_ble_eq_true rfl) (Nat.le_of_ble_eq_true rfl) ?_
      exact W.iret (v := (-1)) hx hb hr (fun t ht hW => ⟨⟨(-1), (), rfl, rfl, trivial⟩, hS.F ht⟩) hS.2.2 dX7_about_103
    · by_cases c125 : k = 2
      · subst c125
        have hl : lv_has ls 3 [(2, .int 0), (0, .ref x), (1, .int 2)] := hl
        refine lv_tableIn (off := 86) (tgt := 104) hx hb dX7_about_18 (by decide) (by decide) (by decide) (by decide) ?_
        refine lv_iload_n hx hb dX7_about_104 rfl (lv_at hl 0 rfl) ?_
        refine lv_if_eq (tgt := 118) hx hb dX7_about_105 (by decide) (fun c126 => ?_) (fun c126 => absurd (by decide) c126)
        refine lv_iconst (v := (-1)) hx hb dX7_about_118 (by decide) ?_
        refine W.widen (k := 0) (n := 0) (Nat.le_of_ble_eq_true rfl) (Nat.le_of_ble_eq_true rfl) ?_
        exact W.iret (v := (-1)) hx hb hr (fun t ht hW => ⟨⟨(-1), (), rfl, rfl, trivial⟩, hS.F ht⟩) hS.2.2 dX7_about_119
      · by_cases c127 : k = 3
        · subst c127
          have hl : lv_has ls 3 [(2, .int 0), (0, .ref x), (1, .int 3)] := hl
          refine lv_tableIn (off := 102) (tgt := 120) hx hb dX7_about_18 (by decide) (by decide) (by decide) (by decide) ?_
          refine lv_aload_n hx hb dX7_about_120 rfl (lv_at hl 1 rfl) ?_
          refine va_get (D := (dC, dI)) (ci := 7) (v := .ref xm) (C := RX7) (T := TX7) (N := 8) hx hb hts iX7_about_X7 hown hK hP 0 rfl rfl 6 (by decide) (hts (.fieldLink RX7 52 "LeafSigner" "machine" "LLeafSigner$Machine;") (List.mem_of_getElem? (i := 1) rfl)) (fun _ h9 => h9) rfl dX7_about_121 ?_
          refine lv_iconst (v := 2) hx hb dX7_about_124 (by decide) ?_
          have hPc := hP.sub (ws' := [(xm, .inr (3, [.ref xf, .int r, .ref xs, .int 0, .int 0, .int 0, .int 0])), (xf, .inl (cF, NF, .inl (fun _ => 0)))]) [5, 6] rfl
          have hDc := hD.sub (ws' := [(xm, .inr (3, [.ref xf, .int r, .ref xs, .int 0, .int 0, .int 0, .int 0])), (xf, .inl (cF, NF, .inl (fun _ => 0)))]) [5, 6] (by decide) rfl
          have hKc := hK.sub (tys' := [(cF, .int)]) [0] rfl
          have hFc := va_free (wc := [(xm, .inr (3, [.ref xf, .int r, .ref xs, .int 0, .int 0, .int 0, .int 0])), (xf, .inl (cF, NF, .inl (fun _ => 0)))]) hD hS hA [5, 6] rfl
          refine va_calli (va_runV (As := [.int 2]) (rest := []) ⟨hx, hb, hml, hown, hts⟩ (ct_countOf l dC dI H.size xm 2 xf r xs cF NF hN (by decide)) (cwV 1 hts gX7_about_X3_countOf_145 rfl rfl rfl (by decide +kernel) ⟨(Nat.le_of_ble_eq_true rfl), (Nat.le_of_ble_eq_true rfl)⟩) ⟨fun a U g mk q => by obtain ⟨q0, q1, qP, qK, qD⟩ := q; exact ⟨q0, q1, qP, va_K.moved (u := U) (U := U.calling g mk a) (Vm.Alike.refl U.vm) qK, qD⟩, va_recv hKc hPc (ci := 3) (q0 := 0) rfl rfl, fun U hU hW => ⟨rfl, by rw [hU], by rw [hU]; exact hPc, va_K.moved hW.alike hKc, hDc.weaken (fun _ _ _ _ => trivial)⟩⟩ rfl rfl hl.1 rfl (lv_room (Nat.le_of_ble_eq_true rfl)) dX7_about_125 ⟨(Nat.le_of_ble_eq_true rfl), (Nat.le_of_ble_eq_true rfl)⟩) hS (fun q _ h => hFc q h) hFc (fun r128 u t H1 locs ht hvm hw hB hz1 hk1 hS => ?_)
          have hP1 : va_P (dC, dI) classes [] H1 := vx_P0
          have hD1 : va_D (va_A [(xm, .inr (3, [.ref xf, .int r, .ref xs, .int 0, .int 0, .int 0, .int 0])), (xf, .inl (cF, NF, .inl (fun _ => 0)))] H.size) [] := vx_D0
          obtain ⟨hP, hD⟩ := va_join (wr := [(x, .inr (7, [.int h, .int r, .ref xt, .ref xo, .ref xh, .ref xs, .ref xm, .ref xq])), (xt, .inr (0, [.ref xtw, .int 0])), (xo, .inr (0, [.ref xow, .int 0])), (xh, .inr (0, [.ref xhw, .int 0])), (xs, .inr (1, [.ref xb, .int 0, .int (-1)]))]) (w1 := []) hP hD [5, 6] [0, 1, 2, 3, 4] rfl rfl (by decide) (by decide) hk1 hFc hP1 hD1
          have hK := hK.sub (tys' := []) [] rfl
          generalize H1 = H at hP hS ⊢
          have hP : va_P (dC, dI) classes [(x, .inr (7, [.int h, .int r, .ref xt, .ref xo, .ref xh, .ref xs, .ref xm, .ref xq])), (xt, .inr (0, [.ref xtw, .int 0])), (xo, .inr (0, [.ref xow, .int 0])), (xh, .inr (0, [.ref xhw, .int 0])), (xs, .inr (1, [.ref xb, .int 0, .int (-1)]))] H := hP
          have hD : va_D A [(x, .inr (7, [.int h, .int r, .ref xt, .ref xo, .ref xh, .ref xs, .ref xm, .ref xq])), (xt, .inr (0, [.ref xtw, .int 0])), (xo, .inr (0, [.ref xow, .int 0])), (xh, .inr (0, [.ref xhw, .int 0])), (xs, .inr (1, [.ref xb, .int 0, .int (-1)]))] := hD
          have hK : va_K (dC, dI) classes [] s := hK
          refine W.widen (k := 0) (n := 0) (Nat.le_of_ble_eq_true rfl) (Nat.le_of_ble_eq_true rfl) ?_
          try dsimp only at hw
          obtain rfl : r128 = 0 := hw
          refine W.widen (k := 0) (n := 0) (Nat.le_of_ble_eq_true rfl) (Nat.le_of_ble_eq_true rfl) ?_
          exact W.iret (v := 0) hx hb hr (fun t ht hW => ⟨⟨0, (), rfl, rfl, trivial⟩, hS.F ht⟩) hS.2.2 dX7_about_128
        · by_cases c129 : k = 4
          · subst c129
            have hl : lv_has ls 3 [(2, .int 0), (0, .ref x), (1, .int 4)] := hl
            refine lv_tableIn (off := 111) (tgt := 129) hx hb dX7_about_18 (by decide) (by decide) (by decide) (by decide) ?_
            refine lv_aload_n hx hb dX7_about_129 rfl (lv_at hl 1 rfl) ?_
            refine va_get (D := (dC, dI)) (ci := 7) (v := .ref xm) (C := RX7) (T := TX7) (N := 8) hx hb hts iX7_about_X7 hown hK hP 0 rfl rfl 6 (by decide) (hts (.fieldLink RX7 52 "LeafSigner" "machine" "LLeafSigner$Machine;") (List.mem_of_getElem? (i := 1) rfl)) (fun _ h9 => h9) rfl dX7_about_130 ?_
            refine lv_iconst (v := 3) hx hb dX7_about_133 (by decide) ?_
            have hPc := hP.sub (ws' := [(xm, .inr (3, [.ref xf, .int r, .ref xs, .int 0, .int 0, .int 0, .int 0])), (xf, .inl (cF, NF, .inl (fun _ => 0)))]) [5, 6] rfl
            have hDc := hD.sub (ws' := [(xm, .inr (3, [.ref xf, .int r, .ref xs, .int 0, .int 0, .int 0, .int 0])), (xf, .inl (cF, NF, .inl (fun _ => 0)))]) [5, 6] (by decide) rfl
            have hKc := hK.sub (tys' := [(cF, .int)]) [0] rfl
            have hFc := va_free (wc := [(xm, .inr (3, [.ref xf, .int r, .ref xs, .int 0, .int 0, .int 0, .int 0])), (xf, .inl (cF, NF, .inl (fun _ => 0)))]) hD hS hA [5, 6] rfl
            refine va_calli (va_runV (As := [.int 3]) (rest := []) ⟨hx, hb, hml, hown, hts⟩ (ct_countOf l dC dI H.size xm 3 xf r xs cF NF hN (by decide)) (cwV 1 hts gX7_about_X3_countOf_145 rfl rfl rfl (by decide +kernel) ⟨(Nat.le_of_ble_eq_true rfl), (Nat.le_of_ble_eq_true rfl)⟩) ⟨fun a U g mk q => by obtain ⟨q0, q1, qP, qK, qD⟩ := q; exact ⟨q0, q1, qP, va_K.moved (u := U) (U := U.calling g mk a) (Vm.Alike.refl U.vm) qK, qD⟩, va_recv hKc hPc (ci := 3) (q0 := 0) rfl rfl, fun U hU hW => ⟨rfl, by rw [hU], by rw [hU]; exact hPc, va_K.moved hW.alike hKc, hDc.weaken (fun _ _ _ _ => trivial)⟩⟩ rfl rfl hl.1 rfl (lv_room (Nat.le_of_ble_eq_true rfl)) dX7_about_134 ⟨(Nat.le_of_ble_eq_true rfl), (Nat.le_of_ble_eq_true rfl)⟩) hS (fun q _ h => hFc q h) hFc (fun r130 u t H1 locs ht hvm hw hB hz1 hk1 hS => ?_)
            have hP1 : va_P (dC, dI) classes [] H1 := vx_P0
            have hD1 : va_D (va_A [(xm, .inr (3, [.ref xf, .int r, .ref xs, .int 0, .int 0, .int 0, .int 0])), (xf, .inl (cF, NF, .inl (fun _ => 0)))] H.size) [] := vx_D0
            obtain ⟨hP, hD⟩ := va_join (wr := [(x, .inr (7, [.int h, .int r, .ref xt, .ref xo, .ref xh, .ref xs, .ref xm, .ref xq])), (xt, .inr (0, [.ref xtw, .int 0])), (xo, .inr (0, [.ref xow, .int 0])), (xh, .inr (0, [.ref xhw, .int 0])), (xs, .inr (1, [.ref xb, .int 0, .int (-1)]))]) (w1 := []) hP hD [5, 6] [0, 1, 2, 3, 4] rfl rfl (by decide) (by decide) hk1 hFc hP1 hD1
            have hK := hK.sub (tys' := []) [] rfl
            generalize H1 = H at hP hS ⊢
            have hP : va_P (dC, dI) classes [(x, .inr (7, [.int h, .int r, .ref xt, .ref xo, .ref xh, .ref xs, .ref xm, .ref xq])), (xt, .inr (0, [.ref xtw, .int 0])), (xo, .inr (0, [.ref xow, .int 0])), (xh, .inr (0, [.ref xhw, .int 0])), (xs, .inr (1, [.ref xb, .int 0, .int (-1)]))] H := hP
            have hD : va_D A [(x, .inr (7, [.int h, .int r, .ref xt, .ref xo, .ref xh, .ref xs, .ref xm, .ref xq])), (xt, .inr (0, [.ref xtw, .int 0])), (xo, .inr (0, [.ref xow, .int 0])), (xh, .inr (0, [.ref xhw, .int 0])), (xs, .inr (1, [.ref xb, .int 0, .int (-1)]))] := hD
            have hK : va_K (dC, dI) classes [] s := hK
            refine W.widen (k := 0) (n := 0) (Nat.le_of_ble_eq_true rfl) (Nat.le_of_ble_eq_true rfl) ?_
            try dsimp only at hw
            obtain rfl : r130 = 0 := hw
            refine W.widen (k := 0) (n := 0) (Nat.le_of_ble_eq_true rfl) (Nat.le_of_ble_eq_true rfl) ?_
            exact W.iret (v := 0) hx hb hr (fun t ht hW => ⟨⟨0, (), rfl, rfl, trivial⟩, hS.F ht⟩) hS.2.2 dX7_about_137
          · by_cases c131 : k = 5
            · subst c131
              have hl : lv_has ls 3 [(2, .int 0), (0, .ref x), (1, .int 5)] := hl
              refine lv_tableIn (off := 120) (tgt := 138) hx hb dX7_about_18 (by decide) (by decide) (by decide) (by decide) ?_
              refine lv_aload_n hx hb dX7_about_138 rfl (lv_at hl 1 rfl) ?_
              refine va_get (D := (dC, dI)) (ci := 7) (v := .ref xs) (C := RX7) (T := TX7) (N := 8) hx hb hts iX7_about_X7 hown hK hP 0 rfl rfl 5 (by decide) (hts (.fieldLink RX7 43 "LeafSigner" "store" "LLeafSigner$Disk;") (List.mem_of_getElem? (i := 9) rfl)) (fun _ h9 => h9) rfl dX7_about_139 ?_
              refine va_get (D := (dC, dI)) (ci := 1) (v := .int 0) (C := RX1) (T := TX1) (N := 3) hx hb hts iX7_about_X1 hown hK hP 4 rfl rfl 1 (by decide) (hts (.fieldLink RX7 148 "LeafSigner$Disk" "written" "I") (List.mem_of_getElem? (i := 10) rfl)) (fun _ h9 => h9) rfl dX7_about_142 ?_
              refine W.widen (k := 0) (n := 0) (Nat.le_of_ble_eq_true rfl) (Nat.le_of_ble_eq_true rfl) ?_
              exact W.iret (v := 0) hx hb hr (fun t ht hW => ⟨⟨0, (), rfl, rfl, trivial⟩, hS.F ht⟩) hS.2.2 dX7_about_145
            · by_cases c132 : k = 6
              · subst c132
                have hl : lv_has ls 3 [(2, .int 0), (0, .ref x), (1, .int 6)] := hl
                refine lv_tableIn (off := 128) (tgt := 146) hx hb dX7_about_18 (by decide) (by decide) (by decide) (by decide) ?_
                refine lv_aload_n hx hb dX7_about_146 rfl (lv_at hl 1 rfl) ?_
                refine va_get (D := (dC, dI)) (ci := 7) (v := .ref xs) (C := RX7) (T := TX7) (N := 8) hx hb hts iX7_about_X7 hown hK hP 0 rfl rfl 5 (by decide) (hts (.fieldLink RX7 43 "LeafSigner" "store" "LLeafSigner$Disk;") (List.mem_of_getElem? (i := 9) rfl)) (fun _ h9 => h9) rfl dX7_about_147 ?_
                refine va_get (D := (dC, dI)) (ci := 1) (v := .int (-1)) (C := RX1) (T := TX1) (N := 3) hx hb hts iX7_about_X1 hown hK hP 4 rfl rfl 2 (by decide) (hts (.fieldLink RX7 101 "LeafSigner$Disk" "fuseLeft" "I") (List.mem_of_getElem? (i := 11) rfl)) (fun _ h9 => h9) rfl dX7_about_150 ?_
                refine W.widen (k := 0) (n := 0) (Nat.le_of_ble_eq_true rfl) (Nat.le_of_ble_eq_true rfl) ?_
                exact W.iret (v := (-1)) hx hb hr (fun t ht hW => ⟨⟨(-1), (), rfl, rfl, trivial⟩, hS.F ht⟩) hS.2.2 dX7_about_153
              · by_cases c133 : k = 7
                · subst c133
                  have hl : lv_has ls 3 [(2, .int 0), (0, .ref x), (1, .int 7)] := hl
                  refine lv_tableIn (off := 136) (tgt := 154) hx hb dX7_about_18 (by decide) (by decide) (by decide) (by decide) ?_
                  refine lv_aload_n hx hb dX7_about_154 rfl (lv_at hl 1 rfl) ?_
                  refine va_get (D := (dC, dI)) (ci := 7) (v := .ref xt) (C := RX7) (T := TX7) (N := 8) hx hb hts iX7_about_X7 hown hK hP 0 rfl rfl 2 (by decide) (hts (.fieldLink RX7 30 "LeafSigner" "tape" "LLeafSigner$ByteRow;") (List.mem_of_getElem? (i := 12) rfl)) (fun _ h9 => h9) rfl dX7_about_155 ?_
                  refine va_get (D := (dC, dI)) (ci := 0) (v := .int 0) (C := RX0) (T := TX0) (N := 2) hx hb hts iX7_about_X0 hown hK hP 1 rfl rfl 1 (by decide) (hts (.fieldLink RX7 63 "LeafSigner$ByteRow" "count" "I") (List.mem_of_getElem? (i := 13) rfl)) (fun _ h9 => h9) rfl dX7_about_158 ?_
                  refine W.widen (k := 0) (n := 0) (Nat.le_of_ble_eq_true rfl) (Nat.le_of_ble_eq_true rfl) ?_
                  exact W.iret (v := 0) hx hb hr (fun t ht hW => ⟨⟨0, (), rfl, rfl, trivial⟩, hS.F ht⟩) hS.2.2 dX7_about_161
                · by_cases c134 : k = 8
                  · subst c134
                    have hl : lv_has ls 3 [(2, .int 0), (0, .ref x), (1, .int 8)] := hl
                    refine lv_tableIn (off := 144) (tgt := 162) hx hb dX7_about_18 (by decide) (by decide) (by decide) (by decide) ?_
                    refine lv_aload_n hx hb dX7_about_162 rfl (lv_at hl 1 rfl) ?_
                    refine va_get (D := (dC, dI)) (ci := 7) (v := .ref xo) (C := RX7) (T := TX7) (N := 8) hx hb hts iX7_about_X7 hown hK hP 0 rfl rfl 3 (by decide) (hts (.fieldLink RX7 34 "LeafSigner" "output" "LLeafSigner$ByteRow;") (List.mem_of_getElem? (i := 14) rfl)) (fun _ h9 => h9) rfl dX7_about_163 ?_
                    refine va_get (D := (dC, dI)) (ci := 0) (v := .int 0) (C := RX0) (T := TX0) (N := 2) hx hb hts iX7_about_X0 hown hK hP 2 rfl rfl 1 (by decide) (hts (.fieldLink RX7 63 "LeafSigner$ByteRow" "count" "I") (List.mem_of_getElem? (i := 13) rfl)) (fun _ h9 => h9) rfl dX7_about_166 ?_
                    refine W.widen (k := 0) (n := 0) (Nat.le_of_ble_eq_true rfl) (Nat.le_of_ble_eq_true rfl) ?_
                    exact W.iret (v := 0) hx hb hr (fun t ht hW => ⟨⟨0, (), rfl, rfl, trivial⟩, hS.F ht⟩) hS.2.2 dX7_about_169
                  · by_cases c135 : k = 9
                    · subst c135
                      have hl : lv_has ls 3 [(2, .int 0), (0, .ref x), (1, .int 9)] := hl
                      refine lv_tableIn (off := 152) (tgt := 170) hx hb dX7_about_18 (by decide) (by decide) (by decide) (by decide) ?_
                      refine lv_aload_n hx hb dX7_about_170 rfl (lv_at hl 1 rfl) ?_
                      refine va_get (D := (dC, dI)) (ci := 7) (v := .ref xh) (C := RX7) (T := TX7) (N := 8) hx hb hts iX7_about_X7 hown hK hP 0 rfl rfl 4 (by decide) (hts (.fieldLink RX7 37 "LeafSigner" "held" "LLeafSigner$ByteRow;") (List.mem_of_getElem? (i := 15) rfl)) (fun _ h9 => h9) rfl dX7_about_171 ?_
                      refine va_get (D := (dC, dI)) (ci := 0) (v := .int 0) (C := RX0) (T := TX0) (N := 2) hx hb hts iX7_about_X0 hown hK hP 3 rfl rfl 1 (by decide) (hts (.fieldLink RX7 63 "LeafSigner$ByteRow" "count" "I") (List.mem_of_getElem? (i := 13) rfl)) (fun _ h9 => h9) rfl dX7_about_174 ?_
                      refine W.widen (k := 0) (n := 0) (Nat.le_of_ble_eq_true rfl) (Nat.le_of_ble_eq_true rfl) ?_
                      exact W.iret (v := 0) hx hb hr (fun t ht hW => ⟨⟨0, (), rfl, rfl, trivial⟩, hS.F ht⟩) hS.2.2 dX7_about_177
                    · by_cases c136 : k = 10
                      · subst c136
                        have hl : lv_has ls 3 [(2, .int 0), (0, .ref x), (1, .int 10)] := hl
                        refine lv_tableIn (off := 160) (tgt := 178) hx hb dX7_about_18 (by decide) (by decide) (by decide) (by decide) ?_
                        refine lv_aload_n hx hb dX7_about_178 rfl (lv_at hl 1 rfl) ?_
                        refine va_get (D := (dC, dI)) (ci := 7) (v := .int h) (C := RX7) (T := TX7) (N := 8) hx hb hts iX7_about_X7 hown hK hP 0 rfl rfl 0 (by decide) (hts (.fieldLink RX7 18 "LeafSigner" "height" "I") (List.mem_of_getElem? (i := 16) rfl)) (fun _ h9 => h9) rfl dX7_about_179 ?_
                        refine W.widen (k := 0) (n := 0) (Nat.le_of_ble_eq_true rfl) (Nat.le_of_ble_eq_true rfl) ?_
                        exact W.iret (v := h) hx hb hr (fun t ht hW => ⟨⟨h, (), rfl, rfl, trivial⟩, hS.F ht⟩) hS.2.2 dX7_about_182
                      · by_cases c137 : k = 11
                        · subst c137
                          have hl : lv_has ls 3 [(2, .int 0), (0, .ref x), (1, .int 11)] := hl
                          refine lv_tableIn (off := 165) (tgt := 183) hx hb dX7_about_18 (by decide) (by decide) (by decide) (by decide) ?_
                          refine lv_aload_n hx hb dX7_about_183 rfl (lv_at hl 1 rfl) ?_
                          refine va_get (D := (dC, dI)) (ci := 7) (v := .int r) (C := RX7) (T := TX7) (N := 8) hx hb hts iX7_about_X7 hown hK hP 0 rfl rfl 1 (by decide) (hts (.fieldLink RX7 22 "LeafSigner" "reserve" "I") (List.mem_of_getElem? (i := 17) rfl)) (fun _ h9 => h9) rfl dX7_about_184 ?_
                          refine W.widen (k := 0) (n := 0) (Nat.le_of_ble_eq_true rfl) (Nat.le_of_ble_eq_true rfl) ?_
                          exact W.iret (v := r) hx hb hr (fun t ht hW => ⟨⟨r, (), rfl, rfl, trivial⟩, hS.F ht⟩) hS.2.2 dX7_about_187
                        · refine lv_tableOut (tgt := 188) hx hb dX7_about_18 (vx_out c122 c123 c125 c127 c129 c131 c132 c133 c134 c135 c136 c137) (by decide) ?_
                          refine lv_iconst (v := (-1)) hx hb dX7_about_188 (by decide) ?_
                          refine W.widen (k := 0) (n := 0) (Nat.le_of_ble_eq_true rfl) (Nat.le_of_ble_eq_true rfl) ?_
                          exact W.iret (v := (-1)) hx hb hr (fun t ht hW => ⟨⟨(-1), (), rfl, (by unfold fk_about; simp only [if_neg c122, if_neg c123, if_neg c125, if_neg c127, if_neg c129, if_neg c131, if_neg c132, if_neg c133, if_neg c134, if_neg c135, if_neg c136, if_neg c137]), trivial⟩, hS.F ht⟩) hS.2.2 dX7_about_189
