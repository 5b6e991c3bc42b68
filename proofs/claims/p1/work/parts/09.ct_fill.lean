def ww_X0_fill : List Cond := .code yX0_fill cX0_fill 1 none :: ([.fieldLink RX0 9 "LeafSigner$ByteRow" "words" "[I", .fieldLink RX0 15 "LeafSigner$ByteRow" "count" "I"] ++ (wsX00))
theorem iX0_fill_X0 : ∀ w ∈ wsX00, w ∈ ww_X0_fill := fun w h => List.mem_cons_of_mem _ (List.mem_append_right _ h)
set_option maxHeartbeats 4000000 in
set_option maxRecDepth 100000 in
theorem ct_fill (l : Launch) (dC : Nat → ClassId) (dI : Nat → Nat → Nat) (sz : Nat) (h0 : Nat) (w : Nat) (c0 : Int32) (cA : ClassId) (N : Nat) (f : (Nat → Int32)) (v : Int32) (hv : Int32.ofNat N * 4 = v) : Met l yX0_fill ww_X0_fill ({ frames := 0, cells := 0, slots := 0, locals := 0 }) (va_Pc [.ref h0] (fun U => U.heap.size = sz ∧ va_P (dC, dI) classes [(h0, .inr (0, [.ref w, .int c0])), (w, .inl (cA, N, .inl f))] U.heap ∧ va_K (dC, dI) classes [(cA, .int)] U ∧ va_D (fun _ => True) [(h0, .inr (0, [.ref w, .int c0])), (w, .inl (cA, N, .inl f))])) (va_Qv (fun (_ : Unit) => True) (fun (_ : Unit) (t : State) => va_P (dC, dI) classes [(h0, .inr (0, [.ref w, .int v])), (w, .inl (cA, N, .inl f))] t.heap ∧ va_K (dC, dI) classes [(cA, .int)] t ∧ va_D (va_A [(h0, .inr (0, [.ref w, .int c0])), (w, .inl (cA, N, .inl f))] sz) [(h0, .inr (0, [.ref w, .int v])), (w, .inl (cA, N, .inl f))]) (va_A [(h0, .inr (0, [.ref w, .int c0])), (w, .inl (cA, N, .inl f))] sz)) 0 0 (va_A [(h0, .inr (0, [.ref w, .int c0])), (w, .inl (cA, N, .inl f))] sz) := by
  refine Met.ofW (cc := cX0_fill) (maxL := 1) (ret := none) (by decide) rfl ?_
  intro p e s m args below meth c s₁ B hml hv
  obtain ⟨rfl, hsz, hP, hK, hD0⟩ := hv
  have hx := B.exec
  have hb := B.bytes
  have hr := B.returns
  have hts := atoms_spec (ws := ww_X0_fill) B.pre
  have hown : s.vm.findClass RX0 = some m.cls := findClass_of_methodNamed B.named
  have hlocks := B.notSynchronized
  subst hsz
  have hD := hD0.self (sz := s.heap.size)
  generalize hAe : va_A [(h0, .inr (0, [.ref w, .int c0])), (w, .inl (cA, N, .inl f))] s.heap.size = A at hD ⊢
  have hA : ∀ q : Nat, s.heap.size ≤ q → A q := fun q h => by rw [← hAe]; exact Or.inr h
  have hS : va_S A s.heap s.heap [] := va_S.rf
  have hP : va_P (dC, dI) classes [(h0, .inr (0, [.ref w, .int c0])), (w, .inl (cA, N, .inl f))] s.heap := hP
  have hl := lv_entry ([.ref h0]) (n := 1) (Nat.le_of_ble_eq_true rfl)
  rw [lg_entry_eq]
  generalize (lg_sl ([.ref h0]) ++ List.replicate (1 - (lg_sl ([.ref h0])).length) Slot.unset).toArray = ls at hl ⊢
  have hl : lv_has ls 1 [(0, .ref h0)] := hl
  generalize hHe : s.heap = H at hP ⊢
  have hS : va_S A s.heap H [] := by rw [← hHe]; exact va_S.rf
  refine lv_aload_n hx hb dX0_fill_0 rfl (lv_at hl 0 rfl) ?_
  refine lv_aload_n hx hb dX0_fill_1 rfl (lv_at hl 0 rfl) ?_
  refine va_get (D := (dC, dI)) (ci := 0) (v := .ref w) (C := RX0) (T := TX0) (N := 2) hx hb hts iX0_fill_X0 hown hK hP 0 rfl rfl 0 (by decide) (hts (.fieldLink RX0 9 "LeafSigner$ByteRow" "words" "[I") (List.mem_of_getElem? (i := 1) rfl)) (fun _ h9 => h9) rfl dX0_fill_2 ?_
  refine va_alen (v := (Int32.ofNat N)) hx hb hK hP 1 0 rfl rfl rfl dX0_fill_5 ?_
  refine lv_iconst (v := 4) hx hb dX0_fill_6 (by decide) ?_
  refine lv_imul hx hb dX0_fill_7 ?_
  refine vx_topk v hv ?_
  refine va_put (D := (dC, dI)) (ci := 0) (v := .int v) (ty := .int) (C := RX0) (T := TX0) (N := 2) hx hb hts iX0_fill_X0 tyX0 tyX0_ok nmX0 hown hK hP hD hS 0 rfl rfl 1 (by decide) (hts (.fieldLink RX0 15 "LeafSigner$ByteRow" "count" "I") (List.mem_of_getElem? (i := 2) rfl)) (fun _ h9 => h9) rfl (by decide +kernel) rfl rfl (Nat.le_of_ble_eq_true rfl) dX0_fill_8 (fun H locs hP hD hS => ?_)
  have hP : va_P (dC, dI) classes [(h0, .inr (0, [.ref w, .int v])), (w, .inl (cA, N, .inl f))] H := hP
  have hD : va_D A [(h0, .inr (0, [.ref w, .int v])), (w, .inl (cA, N, .inl f))] := hD
  refine W.widen (k := 0) (n := 0) (Nat.le_of_ble_eq_true rfl) (Nat.le_of_ble_eq_true rfl) ?_
  have hP9 := hP.sub (ws' := [(h0, .inr (0, [.ref w, .int v])), (w, .inl (cA, N, .inl f))]) [0, 1] rfl
  have hD9 := hD.sub (ws' := [(h0, .inr (0, [.ref w, .int v])), (w, .inl (cA, N, .inl f))]) [0, 1] (by decide) rfl
  have hK9 := hK.sub (tys' := [(cA, .int)]) [0] rfl
  exact W.vret hx hb hr (fun t ht hW => ⟨⟨(), rfl, trivial, ⟨by rw [ht]; exact hP9, va_K.moved hW.alike hK9, hD9⟩⟩, hS.F ht⟩) hS.2.2 dX0_fill_11
