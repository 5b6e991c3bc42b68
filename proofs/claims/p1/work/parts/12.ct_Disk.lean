def ww_X1_init : List Cond := .code yX1_init cX1_init 1 none :: ([.methodLink RX1 3 objectInit, .instanceMethod objectInit, .code objectInit ⟨#[0xb1]⟩ 1 none, .classLink RX1 9 RX0, .instantiable RX0 2, .initialized RX0, .code yX0_init cX0_init 2 none, .methodLink RX0 3 objectInit, .arrayClass .int, .fieldLink RX0 9 "LeafSigner$ByteRow" "words" "[I", .fieldLink RX0 15 "LeafSigner$ByteRow" "count" "I", .methodLink RX1 13 yX0_init, .instanceMethod yX0_init, .fieldLink RX1 16 "LeafSigner$Disk" "bytes" "LLeafSigner$ByteRow;", .methodLink RX1 20 yX0_fill, .instanceMethod yX0_fill, .selects RX0 yX0_fill yX0_fill, .code yX0_fill cX0_fill 1 none, .fieldLink RX1 23 "LeafSigner$Disk" "written" "I", .fieldLink RX1 27 "LeafSigner$Disk" "fuseLeft" "I"] ++ (wsX00 ++ wsX10))
theorem iX1_init_X0 : ∀ w ∈ wsX00, w ∈ ww_X1_init := fun w h => List.mem_cons_of_mem _ (List.mem_append_right _ (List.mem_append_left _ h))
theorem iX1_init_X1 : ∀ w ∈ wsX10, w ∈ ww_X1_init := fun w h => List.mem_cons_of_mem _ (List.mem_append_right _ (List.mem_append_right _ h))
set_option maxRecDepth 20000 in
theorem gX1_init_X0_init_13 : GoodIn ww_X1_init ww_X0_init := vx_good _ [7, 8, 2, 3, 9, 10, 11, 21, 22] rfl (by decide +kernel)
set_option maxRecDepth 20000 in
theorem gX1_init_X0_fill_20 : GoodIn ww_X1_init (wsV RX1 20 RX0 yX0_fill ww_X0_fill) := vx_good _ [15, 16, 17, 6, 18, 10, 11, 21, 22] rfl (by decide +kernel)
set_option maxHeartbeats 4000000 in
set_option maxRecDepth 100000 in
theorem ct_Disk (l : Launch) (dC : Nat → ClassId) (dI : Nat → Nat → Nat) (sz : Nat) (h0 : Nat) : Met l yX1_init ww_X1_init ({ frames := 2, cells := 2, slots := 8, locals := 41 }) (va_Pc [.ref h0] (fun U => U.heap.size = sz ∧ va_P (dC, dI) classes [(h0, .inr (1, [.null, .int 0, .int 0]))] U.heap ∧ va_K (dC, dI) classes [] U ∧ va_D (fun _ => True) [(h0, .inr (1, [.null, .int 0, .int 0]))])) (va_Qv (fun (_ : Unit) => True) (fun (_ : Unit) (t : State) => ∃ qb0 : Nat, ∃ qw0 : Nat, ∃ cA0 : ClassId, va_P (dC, dI) classes [(h0, .inr (1, [.ref qb0, .int 0, .int (-1)])), (qb0, .inr (0, [.ref qw0, .int 24])), (qw0, .inl (cA0, 6, .inl (fun _ => 0)))] t.heap ∧ va_K (dC, dI) classes [(cA0, .int)] t ∧ va_D (va_A [(h0, .inr (1, [.null, .int 0, .int 0]))] sz) [(h0, .inr (1, [.ref qb0, .int 0, .int (-1)])), (qb0, .inr (0, [.ref qw0, .int 24])), (qw0, .inl (cA0, 6, .inl (fun _ => 0)))]) (va_A [(h0, .inr (1, [.null, .int 0, .int 0]))] sz)) 2 8 (va_A [(h0, .inr (1, [.null, .int 0, .int 0]))] sz) := by
  refine Met.ofW (cc := cX1_init) (maxL := 1) (ret := none) (by decide) rfl ?_
  intro p e s m args below meth c s₁ B hml hv
  obtain ⟨rfl, hsz, hP, hK, hD0⟩ := hv
  have hx := B.exec
  have hb := B.bytes
  have hr := B.returns
  have hts := atoms_spec (ws := ww_X1_init) B.pre
  have hown : s.vm.findClass RX1 = some m.cls := findClass_of_methodNamed B.named
  have hlocks := B.notSynchronized
  have hin : meth.name = "<init>" := (name_of_methodNamed B.named B.method).1
  subst hsz
  have hD := hD0.self (sz := s.heap.size)
  generalize hAe : va_A [(h0, .inr (1, [.null, .int 0, .int 0]))] s.heap.size = A at hD ⊢
  have hA : ∀ q : Nat, s.heap.size ≤ q → A q := fun q h => by rw [← hAe]; exact Or.inr h
  have hS : va_S A s.heap s.heap [] := va_S.rf
  have hP : va_P (dC, dI) classes [(h0, .inr (1, [.null, .int 0, .int 0]))] s.heap := hP
  have hl := lv_entry ([.ref h0]) (n := 1) (Nat.le_of_ble_eq_true rfl)
  rw [lg_entry_eq]
  generalize (lg_sl ([.ref h0]) ++ List.replicate (1 - (lg_sl ([.ref h0])).length) Slot.unset).toArray = ls at hl ⊢
  have hl : lv_has ls 1 [(0, .ref h0)] := hl
  generalize hHe : s.heap = H at hP ⊢
  have hS : va_S A s.heap H [] := by rw [← hHe]; exact va_S.rf
  refine lv_aload_n hx hb dX1_init_0 rfl (lv_at hl 0 rfl) ?_
  refine W.objInit hx hb hown (hts (.methodLink RX1 3 objectInit) (List.mem_of_getElem? (i := 1) rfl)) (hts (.instanceMethod objectInit) (List.mem_of_getElem? (i := 2) rfl)) (hts (.code objectInit ⟨#[0xb1]⟩ 1 none) (List.mem_of_getElem? (i := 3) rfl)) rfl (by rw [hml]; exact hl.1) rfl dX1_init_1 (Nat.le_of_ble_eq_true rfl) (Nat.le_of_ble_eq_true rfl) ?_
  refine W.eq (g2 := F0 m 4 ls []) rfl ?_
  refine lv_aload_n hx hb dX1_init_4 rfl (lv_at hl 0 rfl) ?_
  refine va_new (ci := 0) (fs := [.null, .int 0]) (C := RX0) (T := TX0) (N := 2) hx hb hts iX1_init_X0 tyX0 tyX0_ok hown (hts (.classLink RX1 9 RX0) (List.mem_of_getElem? (i := 4) rfl)) (hts (.instantiable RX0 2) (List.mem_of_getElem? (i := 5) rfl)) (hts (.initialized RX0) (List.mem_of_getElem? (i := 6) rfl)) hK hP hD hS hA rfl (by decide) (Nat.le_of_ble_eq_true rfl) (Nat.le_of_ble_eq_true rfl) dX1_init_5 (fun q12 H hP hD hS => ?_)
  have hP : va_P (dC, dI) classes [(h0, .inr (1, [.null, .int 0, .int 0])), (q12, .inr (0, [.null, .int 0]))] H := hP
  have hD : va_D A [(h0, .inr (1, [.null, .int 0, .int 0])), (q12, .inr (0, [.null, .int 0]))] := hD
  refine W.widen (k := 1) (n := 2) (Nat.le_of_ble_eq_true rfl) (Nat.le_of_ble_eq_true rfl) ?_
  refine lv_dup hx hb dX1_init_8 rfl ?_
  refine lv_bipush (v := 6) hx hb dX1_init_9 (by decide) ?_
  have hPc := hP.sub (ws' := [(q12, .inr (0, [.null, .int 0]))]) [1] rfl
  have hDc := hD.sub (ws' := [(q12, .inr (0, [.null, .int 0]))]) [1] (by decide) rfl
  have hKc := hK.sub (tys' := []) [] rfl
  have hFc := va_free (wc := [(q12, .inr (0, [.null, .int 0]))]) hD hS hA [1] rfl
  refine va_callv (va_runI (As := [.int 6]) (rest := [.ref q12, .ref h0]) ⟨hx, hb, hml, hown, hts⟩ (ct_ByteRow l dC dI H.size q12 6 6 6 (by decide) (by decide) (by decide) (by decide)) (cwI 1 hts gX1_init_X0_init_13 rfl rfl rfl (hts (.initialized RX0) (List.mem_of_getElem? (i := 6) rfl)) (hts (.methodLink RX1 13 yX0_init) (List.mem_of_getElem? (i := 12) rfl)) (hts (.instanceMethod yX0_init) (List.mem_of_getElem? (i := 13) rfl)) rfl (by decide +kernel) ⟨(Nat.le_of_ble_eq_true rfl), (Nat.le_of_ble_eq_true rfl)⟩) ⟨fun a U g mk q => by obtain ⟨q0, q1, qP, qK, qD⟩ := q; exact ⟨q0, q1, qP, va_K.moved (u := U) (U := U.calling g mk a) (Vm.Alike.refl U.vm) qK, qD⟩, fun U hU hW => ⟨rfl, by rw [hU], by rw [hU]; exact hPc, va_K.moved hW.alike hKc, hDc.weaken (fun _ _ _ _ => trivial)⟩⟩ rfl rfl hl.1 rfl (lv_room (Nat.le_of_ble_eq_true rfl)) dX1_init_11 ⟨(Nat.le_of_ble_eq_true rfl), (Nat.le_of_ble_eq_true rfl)⟩) hS (fun q _ h => hFc q h) hFc (fun u t H1 locs ht hvm hw hB hz1 hk1 hS => ?_)
  obtain ⟨qw_14, cA_15, hP1, hK1, hD1⟩ := hB
  rw [ht] at hP1
  have hK1 := va_K.moved hvm.symm hK1
  obtain ⟨hP, hD⟩ := va_join (wr := [(h0, .inr (1, [.null, .int 0, .int 0]))]) (w1 := [(q12, .inr (0, [.ref qw_14, .int 0])), (qw_14, .inl (cA_15, 6, .inl (fun _ => 0)))]) hP hD [1] [0] rfl rfl (by decide) (by decide) hk1 hFc hP1 hD1
  have hK := hK.sub (tys' := []) [] rfl
  have hK := hK.app hK1
  generalize H1 = H at hP hS ⊢
  have hP : va_P (dC, dI) classes [(h0, .inr (1, [.null, .int 0, .int 0])), (q12, .inr (0, [.ref qw_14, .int 0])), (qw_14, .inl (cA_15, 6, .inl (fun _ => 0)))] H := hP
  have hD : va_D A [(h0, .inr (1, [.null, .int 0, .int 0])), (q12, .inr (0, [.ref qw_14, .int 0])), (qw_14, .inl (cA_15, 6, .inl (fun _ => 0)))] := hD
  have hK : va_K (dC, dI) classes [(cA_15, .int)] s := hK
  refine W.widen (k := 2) (n := 8) (Nat.le_of_ble_eq_true rfl) (Nat.le_of_ble_eq_true rfl) ?_
  refine va_putF (D := (dC, dI)) (ci := 1) (v := .ref q12) (ty := .object "LeafSigner$ByteRow") (C := RX1) (T := TX1) (N := 3) hx hb hts iX1_init_X1 tyX1 tyX1_ok nmX1 hown hK hP hD hS 0 rfl rfl 0 (by decide) (hts (.fieldLink RX1 16 "LeafSigner$Disk" "bytes" "LLeafSigner$ByteRow;") (List.mem_of_getElem? (i := 14) rfl)) (fun _ h9 => h9) rfl hin rfl (by decide +kernel) rfl rfl (Nat.le_of_ble_eq_true rfl) dX1_init_14 (fun H locs hP hD hS => ?_)
  have hP : va_P (dC, dI) classes [(h0, .inr (1, [.ref q12, .int 0, .int 0])), (q12, .inr (0, [.ref qw_14, .int 0])), (qw_14, .inl (cA_15, 6, .inl (fun _ => 0)))] H := hP
  have hD : va_D A [(h0, .inr (1, [.ref q12, .int 0, .int 0])), (q12, .inr (0, [.ref qw_14, .int 0])), (qw_14, .inl (cA_15, 6, .inl (fun _ => 0)))] := hD
  refine lv_aload_n hx hb dX1_init_17 rfl (lv_at hl 0 rfl) ?_
  refine va_get (D := (dC, dI)) (ci := 1) (v := .ref q12) (C := RX1) (T := TX1) (N := 3) hx hb hts iX1_init_X1 hown hK hP 0 rfl rfl 0 (by decide) (hts (.fieldLink RX1 16 "LeafSigner$Disk" "bytes" "LLeafSigner$ByteRow;") (List.mem_of_getElem? (i := 14) rfl)) (fun _ h9 => h9) rfl dX1_init_18 ?_
  have hPc := hP.sub (ws' := [(q12, .inr (0, [.ref qw_14, .int 0])), (qw_14, .inl (cA_15, 6, .inl (fun _ => 0)))]) [1, 2] rfl
  have hDc := hD.sub (ws' := [(q12, .inr (0, [.ref qw_14, .int 0])), (qw_14, .inl (cA_15, 6, .inl (fun _ => 0)))]) [1, 2] (by decide) rfl
  have hKc := hK.sub (tys' := [(cA_15, .int)]) [0] rfl
  have hFc := va_free (wc := [(q12, .inr (0, [.ref qw_14, .int 0])), (qw_14, .inl (cA_15, 6, .inl (fun _ => 0)))]) hD hS hA [1, 2] rfl
  refine va_callv (va_runV (As := []) (rest := []) ⟨hx, hb, hml, hown, hts⟩ (ct_fill l dC dI H.size q12 qw_14 0 cA_15 6 (fun _ => 0) 24 (by decide)) (cwV 0 hts gX1_init_X0_fill_20 rfl rfl rfl (by decide +kernel) ⟨(Nat.le_of_ble_eq_true rfl), (Nat.le_of_ble_eq_true rfl)⟩) ⟨fun a U g mk q => by obtain ⟨q0, q1, qP, qK, qD⟩ := q; exact ⟨q0, q1, qP, va_K.moved (u := U) (U := U.calling g mk a) (Vm.Alike.refl U.vm) qK, qD⟩, va_recv hKc hPc (ci := 0) (q0 := 0) rfl rfl, fun U hU hW => ⟨rfl, by rw [hU], by rw [hU]; exact hPc, va_K.moved hW.alike hKc, hDc.weaken (fun _ _ _ _ => trivial)⟩⟩ rfl rfl hl.1 rfl (lv_room (Nat.le_of_ble_eq_true rfl)) dX1_init_21 ⟨(Nat.le_of_ble_eq_true rfl), (Nat.le_of_ble_eq_true rfl)⟩) hS (fun q _ h => hFc q h) hFc (fun u t H1 locs ht hvm hw hB hz1 hk1 hS => ?_)
  obtain ⟨hP1, hK1, hD1⟩ := hB
  rw [ht] at hP1
  have hK1 := va_K.moved hvm.symm hK1
  obtain ⟨hP, hD⟩ := va_join (wr := [(h0, .inr (1, [.ref q12, .int 0, .int 0]))]) (w1 := [(q12, .inr (0, [.ref qw_14, .int 24])), (qw_14, .inl (cA_15, 6, .inl (fun _ => 0)))]) hP hD [1, 2] [0] rfl rfl (by decide) (by decide) hk1 hFc hP1 hD1
  have hK := hK.sub (tys' := []) [] rfl
  have hK := hK.app hK1
  generalize H1 = H at hP hS ⊢
  have hP : va_P (dC, dI) classes [(h0, .inr (1, [.ref q12, .int 0, .int 0])), (q12, .inr (0, [.ref qw_14, .int 24])), (qw_14, .inl (cA_15, 6, .inl (fun _ => 0)))] H := hP
  have hD : va_D A [(h0, .inr (1, [.ref q12, .int 0, .int 0])), (q12, .inr (0, [.ref qw_14, .int 24])), (qw_14, .inl (cA_15, 6, .inl (fun _ => 0)))] := hD
  have hK : va_K (dC, dI) classes [(cA_15, .int)] s := hK
  refine W.widen (k := 2) (n := 8) (Nat.le_of_ble_eq_true rfl) (Nat.le_of_ble_eq_true rfl) ?_
  refine lv_aload_n hx hb dX1_init_24 rfl (lv_at hl 0 rfl) ?_
  refine lv_iconst (v := 0) hx hb dX1_init_25 (by decide) ?_
  refine va_put (D := (dC, dI)) (ci := 1) (v := .int 0) (ty := .int) (C := RX1) (T := TX1) (N := 3) hx hb hts iX1_init_X1 tyX1 tyX1_ok nmX1 hown hK hP hD hS 0 rfl rfl 1 (by decide) (hts (.fieldLink RX1 23 "LeafSigner$Disk" "written" "I") (List.mem_of_getElem? (i := 19) rfl)) (fun _ h9 => h9) rfl (by decide +kernel) rfl rfl (Nat.le_of_ble_eq_true rfl) dX1_init_26 (fun H locs hP hD hS => ?_)
  have hP : va_P (dC, dI) classes [(h0, .inr (1, [.ref q12, .int 0, .int 0])), (q12, .inr (0, [.ref qw_14, .int 24])), (qw_14, .inl (cA_15, 6, .inl (fun _ => 0)))] H := hP
  have hD : va_D A [(h0, .inr (1, [.ref q12, .int 0, .int 0])), (q12, .inr (0, [.ref qw_14, .int 24])), (qw_14, .inl (cA_15, 6, .inl (fun _ => 0)))] := hD
  refine lv_aload_n hx hb dX1_init_29 rfl (lv_at hl 0 rfl) ?_
  refine lv_iconst (v := (-1)) hx hb dX1_init_30 (by decide) ?_
  refine va_put (D := (dC, dI)) (ci := 1) (v := .int (-1)) (ty := .int) (C := RX1) (T := TX1) (N := 3) hx hb hts iX1_init_X1 tyX1 tyX1_ok nmX1 hown hK hP hD hS 0 rfl rfl 2 (by decide) (hts (.fieldLink RX1 27 "LeafSigner$Disk" "fuseLeft" "I") (List.mem_of_getElem? (i := 20) rfl)) (fun _ h9 => h9) rfl (by decide +kernel) rfl rfl (Nat.le_of_ble_eq_true rfl) dX1_init_31 (fun H locs hP hD hS => ?_)
  have hP : va_P (dC, dI) classes [(h0, .inr (1, [.ref q12, .int 0, .int (-1)])), (q12, .inr (0, [.ref qw_14, .int 24])), (qw_14, .inl (cA_15, 6, .inl (fun _ => 0)))] H := hP
  have hD : va_D A [(h0, .inr (1, [.ref q12, .int 0, .int (-1)])), (q12, .inr (0, [.ref qw_14, .int 24])), (qw_14, .inl (cA_15, 6, .inl (fun _ => 0)))] := hD
  refine W.widen (k := 2) (n := 8) (Nat.le_of_ble_eq_true rfl) (Nat.le_of_ble_eq_true rfl) ?_
  have hP9 := hP.sub (ws' := [(h0, .inr (1, [.ref q12, .int 0, .int (-1)])), (q12, .inr (0, [.ref qw_14, .int 24])), (qw_14, .inl (cA_15, 6, .inl (fun _ => 0)))]) [0, 1, 2] rfl
  have hD9 := hD.sub (ws' := [(h0, .inr (1, [.ref q12, .int 0, .int (-1)])), (q12, .inr (0, [.ref qw_14, .int 24])), (qw_14, .inl (cA_15, 6, .inl (fun _ => 0)))]) [0, 1, 2] (by decide) rfl
  have hK9 := hK.sub (tys' := [(cA_15, .int)]) [0] rfl
  exact W.vret hx hb hr (fun t ht hW => ⟨⟨(), rfl, trivial, ⟨q12, qw_14, cA_15, by rw [ht]; exact hP9, va_K.moved hW.alike hK9, hD9⟩⟩, hS.F ht⟩) hS.2.2 dX1_init_34
