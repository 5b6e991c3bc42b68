def ww_X0_byteAtD : List Cond := .code yX0_byteAt cX0_byteAt 2 (some .int) :: ([.fieldLink RX0 15 "LeafSigner$ByteRow" "count" "I", .fieldLink RX0 9 "LeafSigner$ByteRow" "words" "[I", .methodLink RX0 19 yX0_shiftOf, .static yX0_shiftOf, .initialized RX0, .code yX0_shiftOf cX0_shiftOf 1 (some .int)] ++ (wsX00))
theorem iX0_byteAtD_X0 : ∀ w ∈ wsX00, w ∈ ww_X0_byteAtD := fun w h => List.mem_cons_of_mem _ (List.mem_append_right _ h)
set_option maxRecDepth 20000 in
theorem gX0_byteAtD_X0_shiftOf_19 : GoodIn ww_X0_byteAtD (va_wsS RX0 19 yX0_shiftOf ww_X0_shiftOf) := vx_good _ [3, 4, 5, 6] rfl (by decide +kernel)
set_option maxHeartbeats 4000000 in
set_option maxRecDepth 100000 in
theorem ct_byteAtD (l : Launch) (dC : Nat → ClassId) (dI : Nat → Nat → Nat) (sz : Nat) (h0 : Nat) (k : Int32) (w : Nat) (cA : ClassId) : Met l yX0_byteAt ww_X0_byteAtD ({ frames := 1, cells := 0, slots := 0, locals := 20 }) (va_Pc [.ref h0, .int k] (fun U => U.heap.size = sz ∧ va_P (dC, dI) classes [(h0, .inr (0, [.ref w, .int 24])), (w, .inl (cA, 6, .inl (fun _ => 0)))] U.heap ∧ va_K (dC, dI) classes [(cA, .int)] U ∧ va_D (fun _ => True) [(h0, .inr (0, [.ref w, .int 24])), (w, .inl (cA, 6, .inl (fun _ => 0)))])) (va_Qi (fun (r : Int32) (_ : Unit) => r = fk_disk k) (fun (_ : Unit) (_ : State) => True) (va_A [(h0, .inr (0, [.ref w, .int 24])), (w, .inl (cA, 6, .inl (fun _ => 0)))] sz)) 0 0 (va_A [(h0, .inr (0, [.ref w, .int 24])), (w, .inl (cA, 6, .inl (fun _ => 0)))] sz) := by
  refine Met.ofW (cc := cX0_byteAt) (maxL := 2) (ret := (some .int)) (by decide) rfl ?_
  intro p e s m args below meth c s₁ B hml hv
  obtain ⟨rfl, hsz, hP, hK, hD0⟩ := hv
  have hx := B.exec
  have hb := B.bytes
  have hr := B.returns
  have hts := atoms_spec (ws := ww_X0_byteAtD) B.pre
  have hown : s.vm.findClass RX0 = some m.cls := findClass_of_methodNamed B.named
  have hlocks := B.notSynchronized
  subst hsz
  have hD := hD0.self (sz := s.heap.size)
  generalize hAe : va_A [(h0, .inr (0, [.ref w, .int 24])), (w, .inl (cA, 6, .inl (fun _ => 0)))] s.heap.size = A at hD ⊢
  have hA : ∀ q : Nat, s.heap.size ≤ q → A q := fun q h => by rw [← hAe]; exact Or.inr h
  have hS : va_S A s.heap s.heap [] := va_S.rf
  have hP : va_P (dC, dI) classes [(h0, .inr (0, [.ref w, .int 24])), (w, .inl (cA, 6, .inl (fun _ => 0)))] s.heap := hP
  have hl := lv_entry ([.ref h0, .int k]) (n := 2) (Nat.le_of_ble_eq_true rfl)
  rw [lg_entry_eq]
  generalize (lg_sl ([.ref h0, .int k]) ++ List.replicate (2 - (lg_sl ([.ref h0, .int k])).length) Slot.unset).toArray = ls at hl ⊢
  have hl : lv_has ls 2 [(0, .ref h0), (1, .int k)] := hl
  generalize hHe : s.heap = H at hP ⊢
  have hS : va_S A s.heap H [] := by rw [← hHe]; exact va_S.rf
  refine lv_iload_n hx hb dX0_byteAt_0 rfl (lv_at hl 1 rfl) ?_
  refine lv_if_lt (tgt := 12) hx hb dX0_byteAt_1 (by decide) (fun c3 => ?_) (fun c3 => ?_)
  · refine lv_iconst (v := (-1)) hx hb dX0_byteAt_12 (by decide) ?_
    refine lv_goto (tgt := 33) hx hb dX0_byteAt_13 (by decide) ?_
    refine W.widen (k := 0) (n := 0) (Nat.le_of_ble_eq_true rfl) (Nat.le_of_ble_eq_true rfl) ?_
    exact W.iret (v := (-1)) hx hb hr (fun t ht hW => ⟨⟨(-1), (), rfl, (by unfold fk_disk; rw [if_pos c3]), trivial⟩, hS.F ht⟩) hS.2.2 dX0_byteAt_33
  · refine lv_iload_n hx hb dX0_byteAt_4 rfl (lv_at hl 1 rfl) ?_
    refine lv_aload_n hx hb dX0_byteAt_5 rfl (lv_at hl 0 rfl) ?_
    refine va_get (D := (dC, dI)) (ci := 0) (v := .int 24) (C := RX0) (T := TX0) (N := 2) hx hb hts iX0_byteAtD_X0 hown hK hP 0 rfl rfl 1 (by decide) (hts (.fieldLink RX0 15 "LeafSigner$ByteRow" "count" "I") (List.mem_of_getElem? (i := 1) rfl)) (fun _ h9 => h9) rfl dX0_byteAt_6 ?_
    refine lv_icmp_lt (tgt := 16) hx hb dX0_byteAt_9 (by decide) (fun c4 => ?_) (fun c4 => ?_)
    · refine lv_aload_n hx hb dX0_byteAt_16 rfl (lv_at hl 0 rfl) ?_
      refine va_get (D := (dC, dI)) (ci := 0) (v := .ref w) (C := RX0) (T := TX0) (N := 2) hx hb hts iX0_byteAtD_X0 hown hK hP 0 rfl rfl 0 (by decide) (hts (.fieldLink RX0 9 "LeafSigner$ByteRow" "words" "[I") (List.mem_of_getElem? (i := 2) rfl)) (fun _ h9 => h9) rfl dX0_byteAt_17 ?_
      refine lv_iload_n hx hb dX0_byteAt_20 rfl (lv_at hl 1 rfl) ?_
      refine lv_iconst (v := 2) hx hb dX0_byteAt_21 (by decide) ?_
      refine lv_ishr hx hb dX0_byteAt_22 ?_
      refine va_iald hx hb hK hP 1 0 rfl rfl (vx_disk c3 c4) dX0_byteAt_23 ?_
      refine vx_topk 0 rfl ?_
      refine lv_iload_n hx hb dX0_byteAt_24 rfl (lv_at hl 1 rfl) ?_
      have hPc := hP.sub (ws' := []) [] rfl
      have hDc := hD.sub (ws' := []) [] (by decide) rfl
      have hKc := hK.sub (tys' := []) [] rfl
      have hFc := va_free (wc := []) hD hS hA [] rfl
      refine va_calli (va_runS (As := [.int k]) (rest := [.int 0]) ⟨hx, hb, hml, hown, hts⟩ (ct_shiftOf l dC dI H.size k) (va_cwS 1 hts gX0_byteAtD_X0_shiftOf_19 rfl rfl rfl (by decide +kernel) ⟨(Nat.le_of_ble_eq_true rfl), (Nat.le_of_ble_eq_true rfl)⟩) ⟨fun a U g mk q => by obtain ⟨q0, q1, qP, qK, qD⟩ := q; exact ⟨q0, q1, qP, va_K.moved (u := U) (U := U.calling g mk a) (Vm.Alike.refl U.vm) qK, qD⟩, fun U hU hW => ⟨rfl, by rw [hU], by rw [hU]; exact hPc, va_K.moved hW.alike hKc, hDc.weaken (fun _ _ _ _ => trivial)⟩⟩ rfl rfl hl.1 rfl (lv_room (Nat.le_of_ble_eq_true rfl)) dX0_byteAt_25 ⟨(Nat.le_of_ble_eq_true rfl), (Nat.le_of_ble_eq_true rfl)⟩) hS (fun q _ h => hFc q h) hFc (fun r5 u t H1 locs ht hvm hw hB hz1 hk1 hS => ?_)
      have hP1 : va_P (dC, dI) classes [] H1 := vx_P0
      have hD1 : va_D (va_A [] H.size) [] := vx_D0
      obtain ⟨hP, hD⟩ := va_join (wr := [(h0, .inr (0, [.ref w, .int 24])), (w, .inl (cA, 6, .inl (fun _ => 0)))]) (w1 := []) hP hD [] [0, 1] rfl rfl (by decide) (by decide) hk1 hFc hP1 hD1
      have hK := hK.sub (tys' := [(cA, .int)]) [0] rfl
      generalize H1 = H at hP hS ⊢
      have hP : va_P (dC, dI) classes [(h0, .inr (0, [.ref w, .int 24])), (w, .inl (cA, 6, .inl (fun _ => 0)))] H := hP
      have hD : va_D A [(h0, .inr (0, [.ref w, .int 24])), (w, .inl (cA, 6, .inl (fun _ => 0)))] := hD
      have hK : va_K (dC, dI) classes [(cA, .int)] s := hK
      refine W.widen (k := 0) (n := 0) (Nat.le_of_ble_eq_true rfl) (Nat.le_of_ble_eq_true rfl) ?_
      refine lv_iushr (v := 0) hx hb dX0_byteAt_28 (vx_shr0 _) ?_
      refine lv_sipush (v := 255) hx hb dX0_byteAt_29 (by decide) ?_
      refine lv_iand hx hb dX0_byteAt_32 ?_
      refine vx_topk 0 (by decide) ?_
      refine W.widen (k := 0) (n := 0) (Nat.le_of_ble_eq_true rfl) (Nat.le_of_ble_eq_true rfl) ?_
      exact W.iret (v := 0) hx hb hr (fun t ht hW => ⟨⟨0, (), rfl, (by unfold fk_disk; rw [if_neg c3, if_pos c4]), trivial⟩, hS.F ht⟩) hS.2.2 dX0_byteAt_33
    · refine lv_iconst (v := (-1)) hx hb dX0_byteAt_12 (by decide) ?_
      refine lv_goto (tgt := 33) hx hb dX0_byteAt_13 (by decide) ?_
      refine W.widen (k := 0) (n := 0) (Nat.le_of_ble_eq_true rfl) (Nat.le_of_ble_eq_true rfl) ?_
      exact W.iret (v := (-1)) hx hb hr (fun t ht hW => ⟨⟨(-1), (), rfl, (by unfold fk_disk; rw [if_neg c3, if_neg c4]), trivial⟩, hS.F ht⟩) hS.2.2 dX0_byteAt_33
