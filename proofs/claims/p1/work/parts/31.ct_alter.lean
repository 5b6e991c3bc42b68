def ww_X7_alter : List Cond := .code yX7_alter cX7_alter 3 (some .int) :: ([.fieldLink RX7 37 "LeafSigner" "held" "LLeafSigner$ByteRow;", .methodLink RX7 114 yX0_flip, .instanceMethod yX0_flip, .selects RX0 yX0_flip yX0_flip, .initialized RX0, .code yX0_flip cX0_flip 3 none, .fieldLink RX0 15 "LeafSigner$ByteRow" "count" "I", .methodLink RX7 118 yX0_byteAt, .instanceMethod yX0_byteAt, .selects RX0 yX0_byteAt yX0_byteAt, .code yX0_byteAt cX0_byteAt 2 (some .int)] ++ (wsX70 ++ wsX00))
theorem iX7_alter_X7 : ∀ w ∈ wsX70, w ∈ ww_X7_alter := fun w h => List.mem_cons_of_mem _ (List.mem_append_right _ (List.mem_append_left _ h))
theorem iX7_alter_X0 : ∀ w ∈ wsX00, w ∈ ww_X7_alter := fun w h => List.mem_cons_of_mem _ (List.mem_append_right _ (List.mem_append_right _ h))
set_option maxRecDepth 20000 in
theorem gX7_alter_X0_flip_114 : GoodIn ww_X7_alter (wsV RX7 114 RX0 yX0_flip ww_X0_flip) := vx_good _ [2, 3, 4, 5, 6, 7, 20, 21] rfl (by decide +kernel)
set_option maxRecDepth 20000 in
theorem gX7_alter_X0_byteAt_118 : GoodIn ww_X7_alter (wsV RX7 118 RX0 yX0_byteAt ww_X0_byteAt) := vx_good _ [8, 9, 10, 5, 11, 7, 20, 21] rfl (by decide +kernel)
set_option maxHeartbeats 4000000 in
set_option maxRecDepth 100000 in
theorem ct_alter (l : Launch) (dC : Nat → ClassId) (dI : Nat → Nat → Nat) (sz : Nat) (x : Nat) (k : Int32) (z : Int32) (h : Int32) (r : Int32) (xt : Nat) (xo : Nat) (xh : Nat) (xs : Nat) (xm : Nat) (xq : Nat) (xhw : Nat) : Met l yX7_alter ww_X7_alter ({ frames := 1, cells := 0, slots := 0, locals := 22 }) (va_Pc [.ref x, .int k, .int z] (fun U => U.heap.size = sz ∧ va_P (dC, dI) classes [(x, .inr (7, [.int h, .int r, .ref xt, .ref xo, .ref xh, .ref xs, .ref xm, .ref xq])), (xh, .inr (0, [.ref xhw, .int 0]))] U.heap ∧ va_K (dC, dI) classes [] U ∧ va_D (fun _ => True) [(x, .inr (7, [.int h, .int r, .ref xt, .ref xo, .ref xh, .ref xs, .ref xm, .ref xq])), (xh, .inr (0, [.ref xhw, .int 0]))])) (va_Qi (fun (r : Int32) (_ : Unit) => r = -1) (fun (_ : Unit) (_ : State) => True) (va_A [(x, .inr (7, [.int h, .int r, .ref xt, .ref xo, .ref xh, .ref xs, .ref xm, .ref xq])), (xh, .inr (0, [.ref xhw, .int 0]))] sz)) 0 0 (va_A [(x, .inr (7, [.int h, .int r, .ref xt, .ref xo, .ref xh, .ref xs, .ref xm, .ref xq])), (xh, .inr (0, [.ref xhw, .int 0]))] sz) := by
  refine Met.ofW (cc := cX7_alter) (maxL := 3) (ret := (some .int)) (by decide) rfl ?_
  intro p e s m args below meth c s₁ B hml hv
  obtain ⟨rfl, hsz, hP, hK, hD0⟩ := hv
  have hx := B.exec
  have hb := B.bytes
  have hr := B.returns
  have hts := atoms_spec (ws := ww_X7_alter) B.pre
  have hown : s.vm.findClass RX7 = some m.cls := findClass_of_methodNamed B.named
  have hlocks := B.notSynchronized
  subst hsz
  have hD := hD0.self (sz := s.heap.size)
  generalize hAe : va_A [(x, .inr (7, [.int h, .int r, .ref xt, .ref xo, .ref xh, .ref xs, .ref xm, .ref xq])), (xh, .inr (0, [.ref xhw, .int 0]))] s.heap.size = A at hD ⊢
  have hA : ∀ q : Nat, s.heap.size ≤ q → A q := fun q h => by rw [← hAe]; exact Or.inr h
  have hS : va_S A s.heap s.heap [] := va_S.rf
  have hP : va_P (dC, dI) classes [(x, .inr (7, [.int h, .int r, .ref xt, .ref xo, .ref xh, .ref xs, .ref xm, .ref xq])), (xh, .inr (0, [.ref xhw, .int 0]))] s.heap := hP
  have hl := lv_entry ([.ref x, .int k, .int z]) (n := 3) (Nat.le_of_ble_eq_true rfl)
  rw [lg_entry_eq]
  generalize (lg_sl ([.ref x, .int k, .int z]) ++ List.replicate (3 - (lg_sl ([.ref x, .int k, .int z])).length) Slot.unset).toArray = ls at hl ⊢
  have hl : lv_has ls 3 [(0, .ref x), (1, .int k), (2, .int z)] := hl
  generalize hHe : s.heap = H at hP ⊢
  have hS : va_S A s.heap H [] := by rw [← hHe]; exact va_S.rf
  refine lv_aload_n hx hb dX7_alter_0 rfl (lv_at hl 0 rfl) ?_
  refine va_get (D := (dC, dI)) (ci := 7) (v := .ref xh) (C := RX7) (T := TX7) (N := 8) hx hb hts iX7_alter_X7 hown hK hP 0 rfl rfl 4 (by decide) (hts (.fieldLink RX7 37 "LeafSigner" "held" "LLeafSigner$ByteRow;") (List.mem_of_getElem? (i := 1) rfl)) (fun _ h9 => h9) rfl dX7_alter_1 ?_
  refine lv_iload_n hx hb dX7_alter_4 rfl (lv_at hl 1 rfl) ?_
  refine lv_iload_n hx hb dX7_alter_5 rfl (lv_at hl 2 rfl) ?_
  have hPc := hP.sub (ws' := [(xh, .inr (0, [.ref xhw, .int 0]))]) [1] rfl
  have hDc := hD.sub (ws' := [(xh, .inr (0, [.ref xhw, .int 0]))]) [1] (by decide) rfl
  have hKc := hK.sub (tys' := []) [] rfl
  have hFc := va_free (wc := [(xh, .inr (0, [.ref xhw, .int 0]))]) hD hS hA [1] rfl
  refine va_callv (va_runV (As := [.int k, .int z]) (rest := []) ⟨hx, hb, hml, hown, hts⟩ (ct_flip0 l dC dI H.size xh k z xhw) (cwV 2 hts gX7_alter_X0_flip_114 rfl rfl rfl (by decide +kernel) ⟨(Nat.le_of_ble_eq_true rfl), (Nat.le_of_ble_eq_true rfl)⟩) ⟨fun a U g mk q => by obtain ⟨q0, q1, qP, qK, qD⟩ := q; exact ⟨q0, q1, qP, va_K.moved (u := U) (U := U.calling g mk a) (Vm.Alike.refl U.vm) qK, qD⟩, va_recv hKc hPc (ci := 0) (q0 := 0) rfl rfl, fun U hU hW => ⟨rfl, by rw [hU], by rw [hU]; exact hPc, va_K.moved hW.alike hKc, hDc.weaken (fun _ _ _ _ => trivial)⟩⟩ rfl rfl hl.1 rfl (lv_room (Nat.le_of_ble_eq_true rfl)) dX7_alter_6 ⟨(Nat.le_of_ble_eq_true rfl), (Nat.le_of_ble_eq_true rfl)⟩) hS (fun q _ h => hFc q h) hFc (fun u t H1 locs ht hvm hw hB hz1 hk1 hS => ?_)
  obtain ⟨hP1, hK1, hD1⟩ := hB
  rw [ht] at hP1
  have hK1 := va_K.moved hvm.symm hK1
  obtain ⟨hP, hD⟩ := va_join (wr := [(x, .inr (7, [.int h, .int r, .ref xt, .ref xo, .ref xh, .ref xs, .ref xm, .ref xq]))]) (w1 := [(xh, .inr (0, [.ref xhw, .int 0]))]) hP hD [1] [0] rfl rfl (by decide) (by decide) hk1 hFc hP1 hD1
  have hK := hK.sub (tys' := []) [] rfl
  have hK := hK.app hK1
  generalize H1 = H at hP hS ⊢
  have hP : va_P (dC, dI) classes [(x, .inr (7, [.int h, .int r, .ref xt, .ref xo, .ref xh, .ref xs, .ref xm, .ref xq])), (xh, .inr (0, [.ref xhw, .int 0]))] H := hP
  have hD : va_D A [(x, .inr (7, [.int h, .int r, .ref xt, .ref xo, .ref xh, .ref xs, .ref xm, .ref xq])), (xh, .inr (0, [.ref xhw, .int 0]))] := hD
  have hK : va_K (dC, dI) classes [] s := hK
  refine W.widen (k := 0) (n := 0) (Nat.le_of_ble_eq_true rfl) (Nat.le_of_ble_eq_true rfl) ?_
  refine lv_aload_n hx hb dX7_alter_9 rfl (lv_at hl 0 rfl) ?_
  refine va_get (D := (dC, dI)) (ci := 7) (v := .ref xh) (C := RX7) (T := TX7) (N := 8) hx hb hts iX7_alter_X7 hown hK hP 0 rfl rfl 4 (by decide) (hts (.fieldLink RX7 37 "LeafSigner" "held" "LLeafSigner$ByteRow;") (List.mem_of_getElem? (i := 1) rfl)) (fun _ h9 => h9) rfl dX7_alter_10 ?_
  refine lv_iload_n hx hb dX7_alter_13 rfl (lv_at hl 1 rfl) ?_
  have hPc := hP.sub (ws' := [(xh, .inr (0, [.ref xhw, .int 0]))]) [1] rfl
  have hDc := hD.sub (ws' := [(xh, .inr (0, [.ref xhw, .int 0]))]) [1] (by decide) rfl
  have hKc := hK.sub (tys' := []) [] rfl
  have hFc := va_free (wc := [(xh, .inr (0, [.ref xhw, .int 0]))]) hD hS hA [1] rfl
  refine va_calli (va_runV (As := [.int k]) (rest := []) ⟨hx, hb, hml, hown, hts⟩ (ct_byteAt0 l dC dI H.size xh k xhw) (cwV 1 hts gX7_alter_X0_byteAt_118 rfl rfl rfl (by decide +kernel) ⟨(Nat.le_of_ble_eq_true rfl), (Nat.le_of_ble_eq_true rfl)⟩) ⟨fun a U g mk q => by obtain ⟨q0, q1, qP, qK, qD⟩ := q; exact ⟨q0, q1, qP, va_K.moved (u := U) (U := U.calling g mk a) (Vm.Alike.refl U.vm) qK, qD⟩, va_recv hKc hPc (ci := 0) (q0 := 0) rfl rfl, fun U hU hW => ⟨rfl, by rw [hU], by rw [hU]; exact hPc, va_K.moved hW.alike hKc, hDc.weaken (fun _ _ _ _ => trivial)⟩⟩ rfl rfl hl.1 rfl (lv_room (Nat.le_of_ble_eq_true rfl)) dX7_alter_14 ⟨(Nat.le_of_ble_eq_true rfl), (Nat.le_of_ble_eq_true rfl)⟩) hS (fun q _ h => hFc q h) hFc (fun r114 u t H1 locs ht hvm hw hB hz1 hk1 hS => ?_)
  have hP1 : va_P (dC, dI) classes [] H1 := vx_P0
  have hD1 : va_D (va_A [(xh, .inr (0, [.ref xhw, .int 0]))] H.size) [] := vx_D0
  obtain ⟨hP, hD⟩ := va_join (wr := [(x, .inr (7, [.int h, .int r, .ref xt, .ref xo, .ref xh, .ref xs, .ref xm, .ref xq]))]) (w1 := []) hP hD [1] [0] rfl rfl (by decide) (by decide) hk1 hFc hP1 hD1
  have hK := hK.sub (tys' := []) [] rfl
  generalize H1 = H at hP hS ⊢
  have hP : va_P (dC, dI) classes [(x, .inr (7, [.int h, .int r, .ref xt, .ref xo, .ref xh, .ref xs, .ref xm, .ref xq]))] H := hP
  have hD : va_D A [(x, .inr (7, [.int h, .int r, .ref xt, .ref xo, .ref xh, .ref xs, .ref xm, .ref xq]))] := hD
  have hK : va_K (dC, dI) classes [] s := hK
  refine W.widen (k := 0) (n := 0) (Nat.le_of_ble_eq_true rfl) (Nat.le_of_ble_eq_true rfl) ?_
  try dsimp only at hw
  obtain rfl : r114 = (-1) := hw
  refine W.widen (k := 0) (n := 0) (Nat.le_of_ble_eq_true rfl) (Nat.le_of_ble_eq_true rfl) ?_
  exact W.iret (v := (-1)) hx hb hr (fun t ht hW => ⟨⟨(-1), (), rfl, rfl, trivial⟩, hS.F ht⟩) hS.2.2 dX7_alter_17
