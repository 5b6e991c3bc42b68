def ww_X0_copyOf : List Cond := .code yX0_copyOf cX0_copyOf 3 none :: ([.fieldLink RX0 9 "LeafSigner$ByteRow" "words" "[I", .methodLink RX0 23 Lib.Math.min.name, .static Lib.Math.min.name, .initialized "java/lang/Math", .code Lib.Math.min.name Lib.Math.min.code 2 (some .int), .methodLink RX0 29 arraycopyName, .native arraycopyName, .static arraycopyName, .initialized "java/lang/System", .fieldLink RX0 15 "LeafSigner$ByteRow" "count" "I"] ++ (wsX00))
theorem iX0_copyOf_X0 : ∀ w ∈ wsX00, w ∈ ww_X0_copyOf := fun w h => List.mem_cons_of_mem _ (List.mem_append_right _ h)
set_option maxHeartbeats 4000000 in
set_option maxRecDepth 100000 in
theorem ct_copyOf (l : Launch) (dC : Nat → ClassId) (dI : Nat → Nat → Nat) (sz : Nat) (h0 : Nat) (h1 : Nat) (w : Nat) (cA : ClassId) (N : Nat) (f : (Nat → Int32)) (w1 : Nat) (cB : ClassId) (f1 : (Nat → Int32)) (hN : N = 553 ∨ N = 561 ∨ N = 569 ∨ N = 577) : Met l yX0_copyOf ww_X0_copyOf ({ frames := 1, cells := 0, slots := 0, locals := 60 }) (va_Pc [.ref h0, .ref h1] (fun U => U.heap.size = sz ∧ va_P (dC, dI) classes [(h0, .inr (0, [.ref w, .int 0])), (w, .inl (cA, N, .inl f)), (h1, .inr (0, [.ref w1, .int 0])), (w1, .inl (cB, N, .inl f1))] U.heap ∧ va_K (dC, dI) classes [(cA, .int), (cB, .int)] U ∧ va_D (fun _ => True) [(h0, .inr (0, [.ref w, .int 0])), (w, .inl (cA, N, .inl f)), (h1, .inr (0, [.ref w1, .int 0])), (w1, .inl (cB, N, .inl f1))])) (va_Qv (fun (_ : Unit) => True) (fun (_ : Unit) (t : State) => va_P (dC, dI) classes [(h0, .inr (0, [.ref w, .int 0]))] t.heap ∧ va_K (dC, dI) classes [] t ∧ va_D (va_A [(h0, .inr (0, [.ref w, .int 0])), (w, .inl (cA, N, .inl f)), (h1, .inr (0, [.ref w1, .int 0])), (w1, .inl (cB, N, .inl f1))] sz) [(h0, .inr (0, [.ref w, .int 0]))]) (va_A [(h0, .inr (0, [.ref w, .int 0])), (w, .inl (cA, N, .inl f)), (h1, .inr (0, [.ref w1, .int 0])), (w1, .inl (cB, N, .inl f1))] sz)) 0 0 (va_A [(h0, .inr (0, [.ref w, .int 0])), (w, .inl (cA, N, .inl f)), (h1, .inr (0, [.ref w1, .int 0])), (w1, .inl (cB, N, .inl f1))] sz) := by
  refine Met.ofW (cc := cX0_copyOf) (maxL := 3) (ret := none) (by decide) rfl ?_
  intro p e s m args below meth c s₁ B hml hv
  obtain ⟨rfl, hsz, hP, hK, hD0⟩ := hv
  have hx := B.exec
  have hb := B.bytes
  have hr := B.returns
  have hts := atoms_spec (ws := ww_X0_copyOf) B.pre
  have hown : s.vm.findClass RX0 = some m.cls := findClass_of_methodNamed B.named
  have hlocks := B.notSynchronized
  subst hsz
  have hD := hD0.self (sz := s.heap.size)
  generalize hAe : va_A [(h0, .inr (0, [.ref w, .int 0])), (w, .inl (cA, N, .inl f)), (h1, .inr (0, [.ref w1, .int 0])), (w1, .inl (cB, N, .inl f1))] s.heap.size = A at hD ⊢
  have hA : ∀ q : Nat, s.heap.size ≤ q → A q := fun q h => by rw [← hAe]; exact Or.inr h
  have hS : va_S A s.heap s.heap [] := va_S.rf
  have hP : va_P (dC, dI) classes [(h0, .inr (0, [.ref w, .int 0])), (w, .inl (cA, N, .inl f)), (h1, .inr (0, [.ref w1, .int 0])), (w1, .inl (cB, N, .inl f1))] s.heap := hP
  have hl := lv_entry ([.ref h0, .ref h1]) (n := 3) (Nat.le_of_ble_eq_true rfl)
  rw [lg_entry_eq]
  generalize (lg_sl ([.ref h0, .ref h1]) ++ List.replicate (3 - (lg_sl ([.ref h0, .ref h1])).length) Slot.unset).toArray = ls at hl ⊢
  have hl : lv_has ls 3 [(0, .ref h0), (1, .ref h1)] := hl
  generalize hHe : s.heap = H at hP ⊢
  have hS : va_S A s.heap H [] := by rw [← hHe]; exact va_S.rf
  refine lv_aload_n hx hb dX0_copyOf_0 rfl (lv_at hl 0 rfl) ?_
  refine va_get (D := (dC, dI)) (ci := 0) (v := .ref w) (C := RX0) (T := TX0) (N := 2) hx hb hts iX0_copyOf_X0 hown hK hP 0 rfl rfl 0 (by decide) (hts (.fieldLink RX0 9 "LeafSigner$ByteRow" "words" "[I") (List.mem_of_getElem? (i := 1) rfl)) (fun _ h9 => h9) rfl dX0_copyOf_1 ?_
  refine va_alen (v := (Int32.ofNat N)) hx hb hK hP 1 0 rfl rfl rfl dX0_copyOf_4 ?_
  refine lv_aload_n hx hb dX0_copyOf_5 rfl (lv_at hl 1 rfl) ?_
  refine va_get (D := (dC, dI)) (ci := 0) (v := .ref w1) (C := RX0) (T := TX0) (N := 2) hx hb hts iX0_copyOf_X0 hown hK hP 2 rfl rfl 0 (by decide) (hts (.fieldLink RX0 9 "LeafSigner$ByteRow" "words" "[I") (List.mem_of_getElem? (i := 1) rfl)) (fun _ h9 => h9) rfl dX0_copyOf_6 ?_
  refine va_alen (v := (Int32.ofNat N)) hx hb hK hP 3 1 rfl rfl rfl dX0_copyOf_9 ?_
  refine va_mmin hx hb (hml.trans hl.1.symm) hown (hts (.methodLink RX0 23 Lib.Math.min.name) (List.mem_of_getElem? (i := 2) rfl)) (hts (.static Lib.Math.min.name) (List.mem_of_getElem? (i := 3) rfl)) (hts (.initialized "java/lang/Math") (List.mem_of_getElem? (i := 4) rfl)) (hts (.code Lib.Math.min.name Lib.Math.min.code 2 (some .int)) (List.mem_of_getElem? (i := 5) rfl)) (Nat.le_of_ble_eq_true rfl) (Nat.le_of_ble_eq_true rfl) (Nat.le_of_ble_eq_true rfl) (Nat.le_of_ble_eq_true rfl) dX0_copyOf_10 ?_
  refine vx_topk (Int32.ofNat N) (vx_mm _) ?_
  refine lv_istore_n (lv' := [(2, .int (Int32.ofNat N)), (0, .ref h0), (1, .ref h1)]) hx hb dX0_copyOf_13 rfl hl (by decide) rfl (fun ls hl => ?_)
  refine lv_aload_n hx hb dX0_copyOf_14 rfl (lv_at hl 2 rfl) ?_
  refine va_get (D := (dC, dI)) (ci := 0) (v := .ref w1) (C := RX0) (T := TX0) (N := 2) hx hb hts iX0_copyOf_X0 hown hK hP 2 rfl rfl 0 (by decide) (hts (.fieldLink RX0 9 "LeafSigner$ByteRow" "words" "[I") (List.mem_of_getElem? (i := 1) rfl)) (fun _ h9 => h9) rfl dX0_copyOf_15 ?_
  refine lv_iconst (v := 0) hx hb dX0_copyOf_18 (by decide) ?_
  refine lv_aload_n hx hb dX0_copyOf_19 rfl (lv_at hl 1 rfl) ?_
  refine va_get (D := (dC, dI)) (ci := 0) (v := .ref w) (C := RX0) (T := TX0) (N := 2) hx hb hts iX0_copyOf_X0 hown hK hP 0 rfl rfl 0 (by decide) (hts (.fieldLink RX0 9 "LeafSigner$ByteRow" "words" "[I") (List.mem_of_getElem? (i := 1) rfl)) (fun _ h9 => h9) rfl dX0_copyOf_20 ?_
  refine lv_iconst (v := 0) hx hb dX0_copyOf_23 (by decide) ?_
  refine lv_iload_n hx hb dX0_copyOf_24 rfl (lv_at hl 0 rfl) ?_
  refine va_copyi hx hb (hml.trans hl.1.symm) hown (hts (.methodLink RX0 29 arraycopyName) (List.mem_of_getElem? (i := 6) rfl)) (hts (.native arraycopyName) (List.mem_of_getElem? (i := 7) rfl)) (hts (.static arraycopyName) (List.mem_of_getElem? (i := 8) rfl)) (hts (.initialized "java/lang/System") (List.mem_of_getElem? (i := 9) rfl)) hK hP hD hS 3 1 1 0 rfl rfl rfl rfl rfl (by decide) (by decide) (vx_N3 hN).1 (vx_N3 hN).2.1 (vx_N3 hN).2.1 (fun _ _ => rfl) (Nat.le_of_ble_eq_true rfl) (Nat.le_of_ble_eq_true rfl) dX0_copyOf_25 (fun H locs hP hD hS => ?_)
  have hP : va_P (dC, dI) classes [(h0, .inr (0, [.ref w, .int 0])), (w, .inl (cA, N, .inl (va_cpy f1 f (0 : Int32).toNatClampNeg (0 : Int32).toNatClampNeg (Int32.ofNat N).toNatClampNeg))), (h1, .inr (0, [.ref w1, .int 0])), (w1, .inl (cB, N, .inl f1))] H := hP
  have hD : va_D A [(h0, .inr (0, [.ref w, .int 0])), (w, .inl (cA, N, .inl (va_cpy f1 f (0 : Int32).toNatClampNeg (0 : Int32).toNatClampNeg (Int32.ofNat N).toNatClampNeg))), (h1, .inr (0, [.ref w1, .int 0])), (w1, .inl (cB, N, .inl f1))] := hD
  refine lv_aload_n hx hb dX0_copyOf_28 rfl (lv_at hl 1 rfl) ?_
  refine lv_iload_n hx hb dX0_copyOf_29 rfl (lv_at hl 0 rfl) ?_
  refine lv_iconst (v := 4) hx hb dX0_copyOf_30 (by decide) ?_
  refine lv_imul hx hb dX0_copyOf_31 ?_
  refine lv_aload_n hx hb dX0_copyOf_32 rfl (lv_at hl 2 rfl) ?_
  refine va_get (D := (dC, dI)) (ci := 0) (v := .int 0) (C := RX0) (T := TX0) (N := 2) hx hb hts iX0_copyOf_X0 hown hK hP 2 rfl rfl 1 (by decide) (hts (.fieldLink RX0 15 "LeafSigner$ByteRow" "count" "I") (List.mem_of_getElem? (i := 10) rfl)) (fun _ h9 => h9) rfl dX0_copyOf_33 ?_
  refine va_mmin hx hb (hml.trans hl.1.symm) hown (hts (.methodLink RX0 23 Lib.Math.min.name) (List.mem_of_getElem? (i := 2) rfl)) (hts (.static Lib.Math.min.name) (List.mem_of_getElem? (i := 3) rfl)) (hts (.initialized "java/lang/Math") (List.mem_of_getElem? (i := 4) rfl)) (hts (.code Lib.Math.min.name Lib.Math.min.code 2 (some .int)) (List.mem_of_getElem? (i := 5) rfl)) (Nat.le_of_ble_eq_true rfl) (Nat.le_of_ble_eq_true rfl) (Nat.le_of_ble_eq_true rfl) (Nat.le_of_ble_eq_true rfl) dX0_copyOf_36 ?_
  refine vx_topk 0 (vx_N3 hN).2.2 ?_
  refine va_put (D := (dC, dI)) (ci := 0) (v := .int 0) (ty := .int) (C := RX0) (T := TX0) (N := 2) hx hb hts iX0_copyOf_X0 tyX0 tyX0_ok nmX0 hown hK hP hD hS 0 rfl rfl 1 (by decide) (hts (.fieldLink RX0 15 "LeafSigner$ByteRow" "count" "I") (List.mem_of_getElem? (i := 10) rfl)) (fun _ h9 => h9) rfl (by decide +kernel) rfl rfl (Nat.le_of_ble_eq_true rfl) dX0_copyOf_39 (fun H locs hP hD hS => ?_)
  have hP : va_P (dC, dI) classes [(h0, .inr (0, [.ref w, .int 0])), (w, .inl (cA, N, .inl (va_cpy f1 f (0 : Int32).toNatClampNeg (0 : Int32).toNatClampNeg (Int32.ofNat N).toNatClampNeg))), (h1, .inr (0, [.ref w1, .int 0])), (w1, .inl (cB, N, .inl f1))] H := hP
  have hD : va_D A [(h0, .inr (0, [.ref w, .int 0])), (w, .inl (cA, N, .inl (va_cpy f1 f (0 : Int32).toNatClampNeg (0 : Int32).toNatClampNeg (Int32.ofNat N).toNatClampNeg))), (h1, .inr (0, [.ref w1, .int 0])), (w1, .inl (cB, N, .inl f1))] := hD
  refine W.widen (k := 0) (n := 0) (Nat.le_of_ble_eq_true rfl) (Nat.le_of_ble_eq_true rfl) ?_
  have hP9 := hP.sub (ws' := [(h0, .inr (0, [.ref w, .int 0]))]) [0] rfl
  have hD9 := hD.sub (ws' := [(h0, .inr (0, [.ref w, .int 0]))]) [0] (by decide) rfl
  have hK9 := hK.sub (tys' := []) [] rfl
  exact W.vret hx hb hr (fun t ht hW => ⟨⟨(), rfl, trivial, ⟨by rw [ht]; exact hP9, va_K.moved hW.alike hK9, hD9⟩⟩, hS.F ht⟩) hS.2.2 dX0_copyOf_42
