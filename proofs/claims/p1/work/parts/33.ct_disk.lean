def ww_X7_disk : List Cond := .code yX7_disk cX7_disk 2 (some .int) :: ([.fieldLink RX7 43 "LeafSigner" "store" "LLeafSigner$Disk;", .fieldLink RX7 151 "LeafSigner$Disk" "bytes" "LLeafSigner$ByteRow;", .methodLink RX7 118 yX0_byteAt, .instanceMethod yX0_byteAt, .selects RX0 yX0_byteAt yX0_byteAt, .initialized RX0, .code yX0_byteAt cX0_byteAt 2 (some .int), .fieldLink RX0 15 "LeafSigner$ByteRow" "count" "I", .fieldLink RX0 9 "LeafSigner$ByteRow" "words" "[I", .methodLink RX0 19 yX0_shiftOf, .static yX0_shiftOf, .code yX0_shiftOf cX0_shiftOf 1 (some .int)] ++ (wsX70 ++ wsX10 ++ wsX00))
theorem iX7_disk_X7 : ∀ w ∈ wsX70, w ∈ ww_X7_disk := fun w h => List.mem_cons_of_mem _ (List.mem_append_right _ (List.mem_append_left _ (List.mem_append_left _ h)))
theorem iX7_disk_X1 : ∀ w ∈ wsX10, w ∈ ww_X7_disk := fun w h => List.mem_cons_of_mem _ (List.mem_append_right _ (List.mem_append_left _ (List.mem_append_right _ h)))
theorem iX7_disk_X0 : ∀ w ∈ wsX00, w ∈ ww_X7_disk := fun w h => List.mem_cons_of_mem _ (List.mem_append_right _ (List.mem_append_right _ h))
set_option maxRecDepth 20000 in
theorem gX7_disk_X0_byteAt_118 : GoodIn ww_X7_disk (wsV RX7 118 RX0 yX0_byteAt ww_X0_byteAtD) := vx_good _ [3, 4, 5, 6, 7, 8, 9, 10, 11, 6, 12, 24, 25] rfl (by decide +kernel)
set_option maxHeartbeats 4000000 in
set_option maxRecDepth 100000 in
theorem ct_disk (l : Launch) (dC : Nat → ClassId) (dI : Nat → Nat → Nat) (sz : Nat) (x : Nat) (k : Int32) (h : Int32) (r : Int32) (xt : Nat) (xo : Nat) (xh : Nat) (xs : Nat) (xm : Nat) (xq : Nat) (xb : Nat) (xbw : Nat) (cB : ClassId) : Met l yX7_disk ww_X7_disk ({ frames := 2, cells := 0, slots := 0, locals := 41 }) (va_Pc [.ref x, .int k] (fun U => U.heap.size = sz ∧ va_P (dC, dI) classes [(x, .inr (7, [.int h, .int r, .ref xt, .ref xo, .ref xh, .ref xs, .ref xm, .ref xq])), (xs, .inr (1, [.ref xb, .int 0, .int (-1)])), (xb, .inr (0, [.ref xbw, .int 24])), (xbw, .inl (cB, 6, .inl (fun _ => 0)))] U.heap ∧ va_K (dC, dI) classes [(cB, .int)] U ∧ va_D (fun _ => True) [(x, .inr (7, [.int h, .int r, .ref xt, .ref xo, .ref xh, .ref xs, .ref xm, .ref xq])), (xs, .inr (1, [.ref xb, .int 0, .int (-1)])), (xb, .inr (0, [.ref xbw, .int 24])), (xbw, .inl (cB, 6, .inl (fun _ => 0)))])) (va_Qi (fun (r : Int32) (_ : Unit) => r = fk_disk k) (fun (_ : Unit) (_ : State) => True) (va_A [(x, .inr (7, [.int h, .int r, .ref xt, .ref xo, .ref xh, .ref xs, .ref xm, .ref xq])), (xs, .inr (1, [.ref xb, .int 0, .int (-1)])), (xb, .inr (0, [.ref xbw, .int 24])), (xbw, .inl (cB, 6, .inl (fun _ => 0)))] sz)) 0 0 (va_A [(x, .inr (7, [.int h, .int r, .ref xt, .ref xo, .ref xh, .ref xs, .ref xm, .ref xq])), (xs, .inr (1, [.ref xb, .int 0, .int (-1)])), (xb, .inr (0, [.ref xbw, .int 24])), (xbw, .inl (cB, 6, .inl (fun _ => 0)))] sz) := by
  refine Met.ofW (cc := cX7_disk) (maxL := 2) (ret := (some .int)) (by decide) rfl ?_
  intro p e s m args below meth c s₁ B hml hv
  obtain ⟨rfl, hsz, hP, hK, hD0⟩ := hv
  have hx := B.exec
  have hb := B.bytes
  have hr := B.returns
  have hts := atoms_spec (ws := ww_X7_disk) B.pre
  have hown : s.vm.findClass RX7 = some m.cls := findClass_of_methodNamed B.named
  have hlocks := B.notSynchronized
  subst hsz
  have hD := hD0.self (sz := s.heap.size)
  generalize hAe : va_A [(x, .inr (7, [.int h, .int r, .ref xt, .ref xo, .ref xh, .ref xs, .ref xm, .ref xq])), (xs, .inr (1, [.ref xb, .int 0, .int (-1)])), (xb, .inr (0, [.ref xbw, .int 24])), (xbw, .inl (cB, 6, .inl (fun _ => 0)))] s.heap.size = A at hD ⊢
  have hA : ∀ q : Nat, s.heap.size ≤ q → A q := fun q h => by rw [← hAe]; exact Or.inr h
  have hS : va_S A s.heap s.heap [] := va_S.rf
  have hP : va_P (dC, dI) classes [(x, .inr (7, [.int h, .int r, .ref xt, .ref xo, .ref xh, .ref xs, .ref xm, .ref xq])), (xs, .inr (1, [.ref xb, .int 0, .int (-1)])), (xb, .inr (0, [.ref xbw, .int 24])), (xbw, .inl (cB, 6, .inl (fun _ => 0)))] s.heap := hP
  have hl := lv_entry ([.ref x, .int k]) (n := 2) (Nat.le_of_ble_eq_true rfl)
  rw [lg_entry_eq]
  generalize (lg_sl ([.ref x, .int k]) ++ List.replicate (2 - (lg_sl ([.ref x, .int k])).length) Slot.unset).toArray = ls at hl ⊢
  have hl : lv_has ls 2 [(0, .ref x), (1, .int k)] := hl
  generalize hHe : s.heap = H at hP ⊢
  have hS : va_S A s.heap H [] := by rw [← hHe]; exact va_S.rf
  refine lv_aload_n hx hb dX7_disk_0 rfl (lv_at hl 0 rfl) ?_
  refine va_get (D := (dC, dI)) (ci := 7) (v := .ref xs) (C := RX7) (T := TX7) (N := 8) hx hb hts iX7_disk_X7 hown hK hP 0 rfl rfl 5 (by decide) (hts (.fieldLink RX7 43 "LeafSigner" "store" "LLeafSigner$Disk;") (List.mem_of_getElem? (i := 1) rfl)) (fun _ h9 => h9) rfl dX7_disk_1 ?_
  refine va_get (D := (dC, dI)) (ci := 1) (v := .ref xb) (C := RX1) (T := TX1) (N := 3) hx hb hts iX7_disk_X1 hown hK hP 1 rfl rfl 0 (by decide) (hts (.fieldLink RX7 151 "LeafSigner$Disk" "bytes" "LLeafSigner$ByteRow;") (List.mem_of_getElem? (i := 2) rfl)) (fun _ h9 => h9) rfl dX7_disk_4 ?_
  refine lv_iload_n hx hb dX7_disk_7 rfl (lv_at hl 1 rfl) ?_
  have hPc := hP.sub (ws' := [(xb, .inr (0, [.ref xbw, .int 24])), (xbw, .inl (cB, 6, .inl (fun _ => 0)))]) [2, 3] rfl
  have hDc := hD.sub (ws' := [(xb, .inr (0, [.ref xbw, .int 24])), (xbw, .inl (cB, 6, .inl (fun _ => 0)))]) [2, 3] (by decide) rfl
  have hKc := hK.sub (tys' := [(cB, .int)]) [0] rfl
  have hFc := va_free (wc := [(xb, .inr (0, [.ref xbw, .int 24])), (xbw, .inl (cB, 6, .inl (fun _ => 0)))]) hD hS hA [2, 3] rfl
  refine va_calli (va_runV (As := [.int k]) (rest := []) ⟨hx, hb, hml, hown, hts⟩ (ct_byteAtD l dC dI H.size xb k xbw cB) (cwV 1 hts gX7_disk_X0_byteAt_118 rfl rfl rfl (by decide +kernel) ⟨(Nat.le_of_ble_eq_true rfl), (Nat.le_of_ble_eq_true rfl)⟩) ⟨fun a U g mk q => by obtain ⟨q0, q1, qP, qK, qD⟩ := q; exact ⟨q0, q1, qP, va_K.moved (u := U) (U := U.calling g mk a) (Vm.Alike.refl U.vm) qK, qD⟩, va_recv hKc hPc (ci := 0) (q0 := 0) rfl rfl, fun U hU hW => ⟨rfl, by rw [hU], by rw [hU]; exact hPc, va_K.moved hW.alike hKc, hDc.weaken (fun _ _ _ _ => trivial)⟩⟩ rfl rfl hl.1 rfl (lv_room (Nat.le_of_ble_eq_true rfl)) dX7_disk_8 ⟨(Nat.le_of_ble_eq_true rfl), (Nat.le_of_ble_eq_true rfl)⟩) hS (fun q _ h => hFc q h) hFc (fun r116 u t H1 locs ht hvm hw hB hz1 hk1 hS => ?_)
  have hP1 : va_P (dC, dI) classes [] H1 := vx_P0
  have hD1 : va_D (va_A [(xb, .inr (0, [.ref xbw, .int 24])), (xbw, .inl (cB, 6, .inl (fun _ => 0)))] H.size) [] := vx_D0
  obtain ⟨hP, hD⟩ := va_join (wr := [(x, .inr (7, [.int h, .int r, .ref xt, .ref xo, .ref xh, .ref xs, .ref xm, .ref xq])), (xs, .inr (1, [.ref xb, .int 0, .int (-1)]))]) (w1 := []) hP hD [2, 3] [0, 1] rfl rfl (by decide) (by decide) hk1 hFc hP1 hD1
  have hK := hK.sub (tys' := []) [] rfl
  generalize H1 = H at hP hS ⊢
  have hP : va_P (dC, dI) classes [(x, .inr (7, [.int h, .int r, .ref xt, .ref xo, .ref xh, .ref xs, .ref xm, .ref xq])), (xs, .inr (1, [.ref xb, .int 0, .int (-1)]))] H := hP
  have hD : va_D A [(x, .inr (7, [.int h, .int r, .ref xt, .ref xo, .ref xh, .ref xs, .ref xm, .ref xq])), (xs, .inr (1, [.ref xb, .int 0, .int (-1)]))] := hD
  have hK : va_K (dC, dI) classes [] s := hK
  refine W.widen (k := 0) (n := 0) (Nat.le_of_ble_eq_true rfl) (Nat.le_of_ble_eq_true rfl) ?_
  try dsimp only at hw
  subst hw
  refine W.widen (k := 0) (n := 0) (Nat.le_of_ble_eq_true rfl) (Nat.le_of_ble_eq_true rfl) ?_
  exact W.iret (v := (fk_disk k)) hx hb hr (fun t ht hW => ⟨⟨(fk_disk k), (), rfl, rfl, trivial⟩, hS.F ht⟩) hS.2.2 dX7_disk_11
