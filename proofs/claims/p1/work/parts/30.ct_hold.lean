def ww_X7_hold : List Cond := .code yX7_hold cX7_hold 1 (some .int) :: ([.fieldLink RX7 37 "LeafSigner" "held" "LLeafSigner$ByteRow;", .fieldLink RX7 34 "LeafSigner" "output" "LLeafSigner$ByteRow;", .methodLink RX7 110 yX0_copyOf, .instanceMethod yX0_copyOf, .selects RX0 yX0_copyOf yX0_copyOf, .initialized RX0, .code yX0_copyOf cX0_copyOf 3 none, .fieldLink RX0 9 "LeafSigner$ByteRow" "words" "[I", .methodLink RX0 23 Lib.Math.min.name, .static Lib.Math.min.name, .initialized "java/lang/Math", .code Lib.Math.min.name Lib.Math.min.code 2 (some .int), .methodLink RX0 29 arraycopyName, .native arraycopyName, .static arraycopyName, .initialized "java/lang/System", .fieldLink RX0 15 "LeafSigner$ByteRow" "count" "I", .fieldLink RX7 63 "LeafSigner$ByteRow" "count" "I"] ++ (wsX70 ++ wsX00))
theorem iX7_hold_X7 : ∀ w ∈ wsX70, w ∈ ww_X7_hold := fun w h => List.mem_cons_of_mem _ (List.mem_append_right _ (List.mem_append_left _ h))
theorem iX7_hold_X0 : ∀ w ∈ wsX00, w ∈ ww_X7_hold := fun w h => List.mem_cons_of_mem _ (List.mem_append_right _ (List.mem_append_right _ h))
set_option maxRecDepth 20000 in
theorem gX7_hold_X0_copyOf_110 : GoodIn ww_X7_hold (wsV RX7 110 RX0 yX0_copyOf ww_X0_copyOf) := vx_good _ [3, 4, 5, 6, 7, 8, 9, 10, 11, 12, 13, 14, 15, 16, 17, 27, 28] rfl (by decide +kernel)
set_option maxHeartbeats 4000000 in
set_option maxRecDepth 100000 in
theorem ct_hold (l : Launch) (dC : Nat → ClassId) (dI : Nat → Nat → Nat) (sz : Nat) (x : Nat) (h : Int32) (r : Int32) (xt : Nat) (xo : Nat) (xh : Nat) (xs : Nat) (xm : Nat) (xq : Nat) (xow : Nat) (cO : ClassId) (N : Nat) (xhw : Nat) (cH : ClassId) (hN : N = 553 ∨ N = 561 ∨ N = 569 ∨ N = 577) : Met l yX7_hold ww_X7_hold ({ frames := 2, cells := 0, slots := 0, locals := 82 }) (va_Pc [.ref x] (fun U => U.heap.size = sz ∧ va_P (dC, dI) classes [(x, .inr (7, [.int h, .int r, .ref xt, .ref xo, .ref xh, .ref xs, .ref xm, .ref xq])), (xo, .inr (0, [.ref xow, .int 0])), (xow, .inl (cO, N, .inl (fun _ => 0))), (xh, .inr (0, [.ref xhw, .int 0])), (xhw, .inl (cH, N, .inl (fun _ => 0)))] U.heap ∧ va_K (dC, dI) classes [(cO, .int), (cH, .int)] U ∧ va_D (fun _ => True) [(x, .inr (7, [.int h, .int r, .ref xt, .ref xo, .ref xh, .ref xs, .ref xm, .ref xq])), (xo, .inr (0, [.ref xow, .int 0])), (xow, .inl (cO, N, .inl (fun _ => 0))), (xh, .inr (0, [.ref xhw, .int 0])), (xhw, .inl (cH, N, .inl (fun _ => 0)))])) (va_Qi (fun (r : Int32) (_ : Unit) => r = 0) (fun (_ : Unit) (_ : State) => True) (va_A [(x, .inr (7, [.int h, .int r, .ref xt, .ref xo, .ref xh, .ref xs, .ref xm, .ref xq])), (xo, .inr (0, [.ref xow, .int 0])), (xow, .inl (cO, N, .inl (fun _ => 0))), (xh, .inr (0, [.ref xhw, .int 0])), (xhw, .inl (cH, N, .inl (fun _ => 0)))] sz)) 0 0 (va_A [(x, .inr (7, [.int h, .int r, .ref xt, .ref xo, .ref xh, .ref xs, .ref xm, .ref xq])), (xo, .inr (0, [.ref xow, .int 0])), (xow, .inl (cO, N, .inl (fun _ => 0))), (xh, .inr (0, [.ref xhw, .int 0])), (xhw, .inl (cH, N, .inl (fun _ => 0)))] sz) := by
  refine Met.ofW (cc := cX7_hold) (maxL := 1) (ret := (some .int)) (by decide) rfl ?_
  intro p e s m args below meth c s₁ B hml hv
  obtain ⟨rfl, hsz, hP, hK, hD0⟩ := hv
  have hx := B.exec
  have hb := B.bytes
  have hr := B.returns
  have hts := atoms_spec (ws := ww_X7_hold) B.pre
  have hown : s.vm.findClass RX7 = some m.cls := findClass_of_methodNamed B.named
  have hlocks := B.notSynchronized
  subst hsz
  have hD := hD0.self (sz := s.heap.size)
  generalize hAe : va_A [(x, .inr (7, [.int h, .int r, .ref xt, .ref xo, .ref xh, .ref xs, .ref xm, .ref xq])), (xo, .inr (0, [.ref xow, .int 0])), (xow, .inl (cO, N, .inl (fun _ => 0))), (xh, .inr (0, [.ref xhw, .int 0])), (xhw, .inl (cH, N, .inl (fun _ => 0)))] s.heap.size = A at hD ⊢
  have hA : ∀ q : Nat, s.heap.size ≤ q → A q := fun q h => by rw [← hAe]; exact Or.inr h
  have hS : va_S A s.heap s.heap [] := va_S.rf
  have hP : va_P (dC, dI) classes [(x, .inr (7, [.int h, .int r, .ref xt, .ref xo, .ref xh, .ref xs, .ref xm, .ref xq])), (xo, .inr (0, [.ref xow, .int 0])), (xow, .inl (cO, N, .inl (fun _ => 0))), (xh, .inr (0, [.ref xhw, .int 0])), (xhw, .inl (cH, N, .inl (fun _ => 0)))] s.heap := hP
  have hl := lv_entry ([.ref x]) (n := 1) (Nat.le_of_ble_eq_true rfl)
  rw [lg_entry_eq]
  generalize (lg_sl ([.ref x]) ++ List.replicate (1 - (lg_sl ([.ref x])).length) Slot.unset).toArray = ls at hl ⊢
  have hl : lv_has ls 1 [(0, .ref x)] := hl
  generalize hHe : s.heap = H at hP ⊢
  have hS : va_S A s.heap H [] := by rw [← hHe]; exact va_S.rf
  refine lv_aload_n hx hb dX7_hold_0 rfl (lv_at hl 0 rfl) ?_
  refine va_get (D := (dC, dI)) (ci := 7) (v := .ref xh) (C := RX7) (T := TX7) (N := 8) hx hb hts iX7_hold_X7 hown hK hP 0 rfl rfl 4 (by decide) (hts (.fieldLink RX7 37 "LeafSigner" "held" "LLeafSigner$ByteRow;") (List.mem_of_getElem? (i := 1) rfl)) (fun _ h9 => h9) rfl dX7_hold_1 ?_
  refine lv_aload_n hx hb dX7_hold_4 rfl (lv_at hl 0 rfl) ?_
  refine va_get (D := (dC, dI)) (ci := 7) (v := .ref xo) (C := RX7) (T := TX7) (N := 8) hx hb hts iX7_hold_X7 hown hK hP 0 rfl rfl 3 (by decide) (hts (.fieldLink RX7 34 "LeafSigner" "output" "LLeafSigner$ByteRow;") (List.mem_of_getElem? (i := 2) rfl)) (fun _ h9 => h9) rfl dX7_hold_5 ?_
  have hPc := hP.sub (ws' := [(xh, .inr (0, [.ref xhw, .int 0])), (xhw, .inl (cH, N, .inl (fun _ => 0))), (xo, .inr (0, [.ref xow, .int 0])), (xow, .inl (cO, N, .inl (fun _ => 0)))]) [3, 4, 1, 2] rfl
  have hDc := hD.sub (ws' := [(xh, .inr (0, [.ref xhw, .int 0])), (xhw, .inl (cH, N, .inl (fun _ => 0))), (xo, .inr (0, [.ref xow, .int 0])), (xow, .inl (cO, N, .inl (fun _ => 0)))]) [3, 4, 1, 2] (by decide) rfl
  have hKc := hK.sub (tys' := [(cH, .int), (cO, .int)]) [1, 0] rfl
  have hFc := va_free (wc := [(xh, .inr (0, [.ref xhw, .int 0])), (xhw, .inl (cH, N, .inl (fun _ => 0))), (xo, .inr (0, [.ref xow, .int 0])), (xow, .inl (cO, N, .inl (fun _ => 0)))]) hD hS hA [3, 4, 1, 2] rfl
  refine va_callv (va_runV (As := [.ref xo]) (rest := []) ⟨hx, hb, hml, hown, hts⟩ (ct_copyOf l dC dI H.size xh xo xhw cH N (fun _ => 0) xow cO (fun _ => 0) hN) (cwV 1 hts gX7_hold_X0_copyOf_110 rfl rfl rfl (by decide +kernel) ⟨(Nat.le_of_ble_eq_true rfl), (Nat.le_of_ble_eq_true rfl)⟩) ⟨fun a U g mk q => by obtain ⟨q0, q1, qP, qK, qD⟩ := q; exact ⟨q0, q1, qP, va_K.moved (u := U) (U := U.calling g mk a) (Vm.Alike.refl U.vm) qK, qD⟩, va_recv hKc hPc (ci := 0) (q0 := 0) rfl rfl, fun U hU hW => ⟨rfl, by rw [hU], by rw [hU]; exact hPc, va_K.moved hW.alike hKc, hDc.weaken (fun _ _ _ _ => trivial)⟩⟩ rfl rfl hl.1 rfl (lv_room (Nat.le_of_ble_eq_true rfl)) dX7_hold_8 ⟨(Nat.le_of_ble_eq_true rfl), (Nat.le_of_ble_eq_true rfl)⟩) hS (fun q _ h => hFc q h) hFc (fun u t H1 locs ht hvm hw hB hz1 hk1 hS => ?_)
  obtain ⟨hP1, hK1, hD1⟩ := hB
  rw [ht] at hP1
  have hK1 := va_K.moved hvm.symm hK1
  obtain ⟨hP, hD⟩ := va_join (wr := [(x, .inr (7, [.int h, .int r, .ref xt, .ref xo, .ref xh, .ref xs, .ref xm, .ref xq]))]) (w1 := [(xh, .inr (0, [.ref xhw, .int 0]))]) hP hD [3, 4, 1, 2] [0] rfl rfl (by decide) (by decide) hk1 hFc hP1 hD1
  have hK := hK.sub (tys' := []) [] rfl
  have hK := hK.app hK1
  generalize H1 = H at hP hS ⊢
  have hP : va_P (dC, dI) classes [(x, .inr (7, [.int h, .int r, .ref xt, .ref xo, .ref xh, .ref xs, .ref xm, .ref xq])), (xh, .inr (0, [.ref xhw, .int 0]))] H := hP
  have hD : va_D A [(x, .inr (7, [.int h, .int r, .ref xt, .ref xo, .ref xh, .ref xs, .ref xm, .ref xq])), (xh, .inr (0, [.ref xhw, .int 0]))] := hD
  have hK : va_K (dC, dI) classes [] s := hK
  refine W.widen (k := 0) (n := 0) (Nat.le_of_ble_eq_true rfl) (Nat.le_of_ble_eq_true rfl) ?_
  refine lv_aload_n hx hb dX7_hold_11 rfl (lv_at hl 0 rfl) ?_
  refine va_get (D := (dC, dI)) (ci := 7) (v := .ref xh) (C := RX7) (T := TX7) (N := 8) hx hb hts iX7_hold_X7 hown hK hP 0 rfl rfl 4 (by decide) (hts (.fieldLink RX7 37 "LeafSigner" "held" "LLeafSigner$ByteRow;") (List.mem_of_getElem? (i := 1) rfl)) (fun _ h9 => h9) rfl dX7_hold_12 ?_
  refine va_get (D := (dC, dI)) (ci := 0) (v := .int 0) (C := RX0) (T := TX0) (N := 2) hx hb hts iX7_hold_X0 hown hK hP 1 rfl rfl 1 (by decide) (hts (.fieldLink RX7 63 "LeafSigner$ByteRow" "count" "I") (List.mem_of_getElem? (i := 18) rfl)) (fun _ h9 => h9) rfl dX7_hold_15 ?_
  refine W.widen (k := 0) (n := 0) (Nat.le_of_ble_eq_true rfl) (Nat.le_of_ble_eq_true rfl) ?_
  exact W.iret (v := 0) hx hb hr (fun t ht hW => ⟨⟨0, (), rfl, rfl, trivial⟩, hS.F ht⟩) hS.2.2 dX7_hold_18
