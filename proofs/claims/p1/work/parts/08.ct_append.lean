def ww_X0_append : List Cond := .code yX0_append cX0_append 2 none :: ([.fieldLink RX0 15 "LeafSigner$ByteRow" "count" "I", .fieldLink RX0 9 "LeafSigner$ByteRow" "words" "[I"] ++ (wsX00))
theorem iX0_append_X0 : ∀ w ∈ wsX00, w ∈ ww_X0_append := fun w h => List.mem_cons_of_mem _ (List.mem_append_right _ h)
set_option maxHeartbeats 4000000 in
set_option maxRecDepth 100000 in
theorem ct_append (l : Launch) (dC : Nat → ClassId) (dI : Nat → Nat → Nat) (sz : Nat) (h0 : Nat) (k : Int32) (w : Nat) (cnt : Int32) (cA : ClassId) (f : (Nat → Int32)) (cnt2 : Int32) (hc : ¬ (50 : Int32) ≤ (cnt >>> (2 &&& 31))) (hix : vp_in (cnt >>> (2 &&& 31)) 50) (h2 : cnt + 4 = cnt2) : Met l yX0_append ww_X0_append ({ frames := 0, cells := 0, slots := 0, locals := 0 }) (va_Pc [.ref h0, .int k] (fun U => U.heap.size = sz ∧ va_P (dC, dI) classes [(h0, .inr (0, [.ref w, .int cnt])), (w, .inl (cA, 50, .inl f))] U.heap ∧ va_K (dC, dI) classes [(cA, .int)] U ∧ va_D (fun _ => True) [(h0, .inr (0, [.ref w, .int cnt])), (w, .inl (cA, 50, .inl f))])) (va_Qv (fun (_ : Unit) => True) (fun (_ : Unit) (t : State) => ∃ f2 : (Nat → Int32), va_P (dC, dI) classes [(h0, .inr (0, [.ref w, .int cnt2])), (w, .inl (cA, 50, .inl f2))] t.heap ∧ va_K (dC, dI) classes [(cA, .int)] t ∧ va_D (va_A [(h0, .inr (0, [.ref w, .int cnt])), (w, .inl (cA, 50, .inl f))] sz) [(h0, .inr (0, [.ref w, .int cnt2])), (w, .inl (cA, 50, .inl f2))]) (va_A [(h0, .inr (0, [.ref w, .int cnt])), (w, .inl (cA, 50, .inl f))] sz)) 0 0 (va_A [(h0, .inr (0, [.ref w, .int cnt])), (w, .inl (cA, 50, .inl f))] sz) := by
  refine Met.ofW (cc := cX0_append) (maxL := 2) (ret := none) (by decide) rfl ?_
  intro p e s m args below meth c s₁ B hml hv
  obtain ⟨rfl, hsz, hP, hK, hD0⟩ := hv
  have hx := B.exec
  have hb := B.bytes
  have hr := B.returns
  have hts := atoms_spec (ws := ww_X0_append) B.pre
  have hown : s.vm.findClass RX0 = some m.cls := findClass_of_methodNamed B.named
  have hlocks := B.notSynchronized
  subst hsz
  have hD := hD0.self (sz := s.heap.size)
  generalize hAe : va_A [(h0, .inr (0, [.ref w, .int cnt])), (w, .inl (cA, 50, .inl f))] s.heap.size = A at hD ⊢
  have hA : ∀ q : Nat, s.heap.size ≤ q → A q := fun q h => by rw [← hAe]; exact Or.inr h
  have hS : va_S A s.heap s.heap [] := va_S.rf
  have hP : va_P (dC, dI) classes [(h0, .inr (0, [.ref w, .int cnt])), (w, .inl (cA, 50, .inl f))] s.heap := hP
  have hl := lv_entry ([.ref h0, .int k]) (n := 2) (Nat.le_of_ble_eq_true rfl)
  rw [lg_entry_eq]
  generalize (lg_sl ([.ref h0, .int k]) ++ List.replicate (2 - (lg_sl ([.ref h0, .int k])).length) Slot.unset).toArray = ls at hl ⊢
  have hl : lv_has ls 2 [(0, .ref h0), (1, .int k)] := hl
  generalize hHe : s.heap = H at hP ⊢
  have hS : va_S A s.heap H [] := by rw [← hHe]; exact va_S.rf
  refine lv_aload_n hx hb dX0_append_0 rfl (lv_at hl 0 rfl) ?_
  refine va_get (D := (dC, dI)) (ci := 0) (v := .int cnt) (C := RX0) (T := TX0) (N := 2) hx hb hts iX0_append_X0 hown hK hP 0 rfl rfl 1 (by decide) (hts (.fieldLink RX0 15 "LeafSigner$ByteRow" "count" "I") (List.mem_of_getElem? (i := 1) rfl)) (fun _ h9 => h9) rfl dX0_append_1 ?_
  refine lv_iconst (v := 2) hx hb dX0_append_4 (by decide) ?_
  refine lv_ishr hx hb dX0_append_5 ?_
  refine lv_aload_n hx hb dX0_append_6 rfl (lv_at hl 0 rfl) ?_
  refine va_get (D := (dC, dI)) (ci := 0) (v := .ref w) (C := RX0) (T := TX0) (N := 2) hx hb hts iX0_append_X0 hown hK hP 0 rfl rfl 0 (by decide) (hts (.fieldLink RX0 9 "LeafSigner$ByteRow" "words" "[I") (List.mem_of_getElem? (i := 2) rfl)) (fun _ h9 => h9) rfl dX0_append_7 ?_
  refine va_alen (v := 50) hx hb hK hP 1 0 rfl rfl rfl dX0_append_10 ?_
  refine lv_icmp_ge (tgt := 36) hx hb dX0_append_11 (by decide) (fun c8 => absurd c8 hc) (fun c8 => ?_)
  refine lv_aload_n hx hb dX0_append_14 rfl (lv_at hl 0 rfl) ?_
  refine va_get (D := (dC, dI)) (ci := 0) (v := .ref w) (C := RX0) (T := TX0) (N := 2) hx hb hts iX0_append_X0 hown hK hP 0 rfl rfl 0 (by decide) (hts (.fieldLink RX0 9 "LeafSigner$ByteRow" "words" "[I") (List.mem_of_getElem? (i := 2) rfl)) (fun _ h9 => h9) rfl dX0_append_15 ?_
  refine lv_aload_n hx hb dX0_append_18 rfl (lv_at hl 0 rfl) ?_
  refine va_get (D := (dC, dI)) (ci := 0) (v := .int cnt) (C := RX0) (T := TX0) (N := 2) hx hb hts iX0_append_X0 hown hK hP 0 rfl rfl 1 (by decide) (hts (.fieldLink RX0 15 "LeafSigner$ByteRow" "count" "I") (List.mem_of_getElem? (i := 1) rfl)) (fun _ h9 => h9) rfl dX0_append_19 ?_
  refine lv_iconst (v := 2) hx hb dX0_append_22 (by decide) ?_
  refine lv_ishr hx hb dX0_append_23 ?_
  refine lv_iload_n hx hb dX0_append_24 rfl (lv_at hl 1 rfl) ?_
  refine vx_iast hx hb hK hP hD hS 1 0 rfl rfl hix dX0_append_25 (fun H locs f9 hP hD hS => ?_)
  have hP : va_P (dC, dI) classes [(h0, .inr (0, [.ref w, .int cnt])), (w, .inl (cA, 50, .inl f9))] H := hP
  have hD : va_D A [(h0, .inr (0, [.ref w, .int cnt])), (w, .inl (cA, 50, .inl f9))] := hD
  refine lv_aload_n hx hb dX0_append_26 rfl (lv_at hl 0 rfl) ?_
  refine lv_dup hx hb dX0_append_27 rfl ?_
  refine va_get (D := (dC, dI)) (ci := 0) (v := .int cnt) (C := RX0) (T := TX0) (N := 2) hx hb hts iX0_append_X0 hown hK hP 0 rfl rfl 1 (by decide) (hts (.fieldLink RX0 15 "LeafSigner$ByteRow" "count" "I") (List.mem_of_getElem? (i := 1) rfl)) (fun _ h9 => h9) rfl dX0_append_28 ?_
  refine lv_iconst (v := 4) hx hb dX0_append_31 (by decide) ?_
  refine lv_iadd hx hb dX0_append_32 ?_
  refine vx_topk cnt2 h2 ?_
  refine va_put (D := (dC, dI)) (ci := 0) (v := .int cnt2) (ty := .int) (C := RX0) (T := TX0) (N := 2) hx hb hts iX0_append_X0 tyX0 tyX0_ok nmX0 hown hK hP hD hS 0 rfl rfl 1 (by decide) (hts (.fieldLink RX0 15 "LeafSigner$ByteRow" "count" "I") (List.mem_of_getElem? (i := 1) rfl)) (fun _ h9 => h9) rfl (by decide +kernel) rfl rfl (Nat.le_of_ble_eq_true rfl) dX0_append_33 (fun H locs hP hD hS => ?_)
  have hP : va_P (dC, dI) classes [(h0, .inr (0, [.ref w, .int cnt2])), (w, .inl (cA, 50, .inl f9))] H := hP
  have hD : va_D A [(h0, .inr (0, [.ref w, .int cnt2])), (w, .inl (cA, 50, .inl f9))] := hD
  refine W.widen (k := 0) (n := 0) (Nat.le_of_ble_eq_true rfl) (Nat.le_of_ble_eq_true rfl) ?_
  have hP9 := hP.sub (ws' := [(h0, .inr (0, [.ref w, .int cnt2])), (w, .inl (cA, 50, .inl f9))]) [0, 1] rfl
  have hD9 := hD.sub (ws' := [(h0, .inr (0, [.ref w, .int cnt2])), (w, .inl (cA, 50, .inl f9))]) [0, 1] (by decide) rfl
  have hK9 := hK.sub (tys' := [(cA, .int)]) [0] rfl
  exact W.vret hx hb hr (fun t ht hW => ⟨⟨(), rfl, trivial, ⟨f9, by rw [ht]; exact hP9, va_K.moved hW.alike hK9, hD9⟩⟩, hS.F ht⟩) hS.2.2 dX0_append_36
