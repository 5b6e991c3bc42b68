def ww_X2_init : List Cond := .code yX2_init cX2_init 1 none :: ([.methodLink RX2 3 objectInit, .instanceMethod objectInit, .code objectInit ⟨#[0xb1]⟩ 1 none, .classLink RX2 9 RX5, .instantiable RX5 2, .initialized RX5, .code yX5_init cX5_init 1 none, .methodLink RX5 3 objectInit, .arrayClass .int, .fieldLink RX5 9 "LeafSigner$Sha256" "state" "[I", .fieldLink RX5 15 "LeafSigner$Sha256" "words" "[I", .methodLink RX2 11 yX5_init, .instanceMethod yX5_init, .fieldLink RX2 12 "LeafSigner$Hashes" "sha" "LLeafSigner$Sha256;", .fieldLink RX2 18 "LeafSigner$Hashes" "seedState" "[I", .fieldLink RX2 22 "LeafSigner$Hashes" "address" "[I", .fieldLink RX2 25 "LeafSigner$Hashes" "key" "[I", .fieldLink RX2 28 "LeafSigner$Hashes" "mask" "[I", .fieldLink RX2 31 "LeafSigner$Hashes" "otherMask" "[I"] ++ (wsX50 ++ wsX20))
theorem iX2_init_X5 : ∀ w ∈ wsX50, w ∈ ww_X2_init := fun w h => List.mem_cons_of_mem _ (List.mem_append_right _ (List.mem_append_left _ h))
theorem iX2_init_X2 : ∀ w ∈ wsX20, w ∈ ww_X2_init := fun w h => List.mem_cons_of_mem _ (List.mem_append_right _ (List.mem_append_right _ h))
set_option maxRecDepth 20000 in
theorem gX2_init_X5_init_11 : GoodIn ww_X2_init ww_X5_init := vx_good _ [7, 8, 2, 3, 9, 10, 11, 20, 21] rfl (by decide +kernel)
set_option maxHeartbeats 4000000 in
set_option maxRecDepth 100000 in
theorem ct_Hashes (l : Launch) (dC : Nat → ClassId) (dI : Nat → Nat → Nat) (sz : Nat) (h0 : Nat) : Met l yX2_init ww_X2_init ({ frames := 2, cells := 8, slots := 114, locals := 40 }) (va_Pc [.ref h0] (fun U => U.heap.size = sz ∧ va_P (dC, dI) classes [(h0, .inr (2, [.null, .null, .null, .null, .null, .null]))] U.heap ∧ va_K (dC, dI) classes [] U ∧ va_D (fun _ => True) [(h0, .inr (2, [.null, .null, .null, .null, .null, .null]))])) (va_Qv (fun (_ : Unit) => True) (fun (_ : Unit) (_ : State) => True) (va_A [(h0, .inr (2, [.null, .null, .null, .null, .null, .null]))] sz)) 8 114 (va_A [(h0, .inr (2, [.null, .null, .null, .null, .null, .null]))] sz) := by
  refine Met.ofW (cc := cX2_init) (maxL := 1) (ret := none) (by decide) rfl ?_
  intro p e s m args below meth c s₁ B hml hv
  obtain ⟨rfl, hsz, hP, hK, hD0⟩ := hv
  have hx := B.exec
  have hb := B.bytes
  have hr := B.returns
  have hts := atoms_spec (ws := ww_X2_init) B.pre
  have hown : s.vm.findClass RX2 = some m.cls := findClass_of_methodNamed B.named
  have hlocks := B.notSynchronized
  have hin : meth.name = "<init>" := (name_of_methodNamed B.named B.method).1
  subst hsz
  have hD := hD0.self (sz := s.heap.size)
  generalize hAe : va_A [(h0, .inr (2, [.null, .null, .null, .null, .null, .null]))] s.heap.size = A at hD ⊢
  have hA : ∀ q : Nat, s.heap.size ≤ q → A q := fun q h => by rw [← hAe]; exact Or.inr h
  have hS : va_S A s.heap s.heap [] := va_S.rf
  have hP : va_P (dC, dI) classes [(h0, .inr (2, [.null, .null, .null, .null, .null, .null]))] s.heap := hP
  have hl := lv_entry ([.ref h0]) (n := 1) (Nat.le_of_ble_eq_true rfl)
  rw [lg_entry_eq]
  generalize (lg_sl ([.ref h0]) ++ List.replicate (1 - (lg_sl ([.ref h0])).length) Slot.unset).toArray = ls at hl ⊢
  have hl : lv_has ls 1 [(0, .ref h0)] := hl
  generalize hHe : s.heap = H at hP ⊢
  have hS : va_S A s.heap H [] := by rw [← hHe]; exact va_S.rf
  refine lv_aload_n hx hb dX2_init_0 rfl (lv_at hl 0 rfl) ?_
  refine W.objInit hx hb hown (hts (.methodLink RX2 3 objectInit) (List.mem_of_getElem? (i := 1) rfl)) (hts (.instanceMethod objectInit) (List.mem_of_getElem? (i := 2) rfl)) (hts (.code objectInit ⟨#[0xb1]⟩ 1 none) (List.mem_of_getElem? (i := 3) rfl)) rfl (by rw [hml]; exact hl.1) rfl dX2_init_1 (Nat.le_of_ble_eq_true rfl) (Nat.le_of_ble_eq_true rfl) ?_
  refine W.eq (g2 := F0 m 4 ls []) rfl ?_
  refine lv_aload_n hx hb dX2_init_4 rfl (lv_at hl 0 rfl) ?_
  refine va_new (ci := 5) (fs := [.null, .null]) (C := RX5) (T := TX5) (N := 2) hx hb hts iX2_init_X5 tyX5 tyX5_ok hown (hts (.classLink RX2 9 RX5) (List.mem_of_getElem? (i := 4) rfl)) (hts (.instantiable RX5 2) (List.mem_of_getElem? (i := 5) rfl)) (hts (.initialized RX5) (List.mem_of_getElem? (i := 6) rfl)) hK hP hD hS hA rfl (by decide) (Nat.le_of_ble_eq_true rfl) (Nat.le_of_ble_eq_true rfl) dX2_init_5 (fun q23 H hP hD hS => ?_)
  have hP : va_P (dC, dI) classes [(h0, .inr (2, [.null, .null, .null, .null, .null, .null])), (q23, .inr (5, [.null, .null]))] H := hP
  have hD : va_D A [(h0, .inr (2, [.null, .null, .null, .null, .null, .null])), (q23, .inr (5, [.null, .null]))] := hD
  refine W.widen (k := 1) (n := 2) (Nat.le_of_ble_eq_true rfl) (Nat.le_of_ble_eq_true rfl) ?_
  refine lv_dup hx hb dX2_init_8 rfl ?_
  have hPc := hP.sub (ws' := [(q23, .inr (5, [.null, .null]))]) [1] rfl
  have hDc := hD.sub (ws' := [(q23, .inr (5, [.null, .null]))]) [1] (by decide) rfl
  have hKc := hK.sub (tys' := []) [] rfl
  have hFc := va_free (wc := [(q23, .inr (5, [.null, .null]))]) hD hS hA [1] rfl
  refine va_callv (va_runI (As := []) (rest := [.ref q23, .ref h0]) ⟨hx, hb, hml, hown, hts⟩ (ct_Sha l dC dI H.size q23) (cwI 0 hts gX2_init_X5_init_11 rfl rfl rfl (hts (.initialized RX5) (List.mem_of_getElem? (i := 6) rfl)) (hts (.methodLink RX2 11 yX5_init) (List.mem_of_getElem? (i := 12) rfl)) (hts (.instanceMethod yX5_init) (List.mem_of_getElem? (i := 13) rfl)) rfl (by decide +kernel) ⟨(Nat.le_of_ble_eq_true rfl), (Nat.le_of_ble_eq_true rfl)⟩) ⟨fun a U g mk q => by obtain ⟨q0, q1, qP, qK, qD⟩ := q; exact ⟨q0, q1, qP, va_K.moved (u := U) (U := U.calling g mk a) (Vm.Alike.refl U.vm) qK, qD⟩, fun U hU hW => ⟨rfl, by rw [hU], by rw [hU]; exact hPc, va_K.moved hW.alike hKc, hDc.weaken (fun _ _ _ _ => trivial)⟩⟩ rfl rfl hl.1 rfl (lv_room (Nat.le_of_ble_eq_true rfl)) dX2_init_9 ⟨(Nat.le_of_ble_eq_true rfl), (Nat.le_of_ble_eq_true rfl)⟩) hS (fun q _ h => hFc q h) hFc (fun u t H1 locs ht hvm hw hB hz1 hk1 hS => ?_)
  have hP1 : va_P (dC, dI) classes [] H1 := vx_P0
  have hD1 : va_D (va_A [(q23, .inr (5, [.null, .null]))] H.size) [] := vx_D0
  obtain ⟨hP, hD⟩ := va_join (wr := [(h0, .inr (2, [.null, .null, .null, .null, .null, .null]))]) (w1 := []) hP hD [1] [0] rfl rfl (by decide) (by decide) hk1 hFc hP1 hD1
  have hK := hK.sub (tys' := []) [] rfl
  generalize H1 = H at hP hS ⊢
  have hP : va_P (dC, dI) classes [(h0, .inr (2, [.null, .null, .null, .null, .null, .null]))] H := hP
  have hD : va_D A [(h0, .inr (2, [.null, .null, .null, .null, .null, .null]))] := hD
  have hK : va_K (dC, dI) classes [] s := hK
  refine W.widen (k := 3) (n := 74) (Nat.le_of_ble_eq_true rfl) (Nat.le_of_ble_eq_true rfl) ?_
  refine va_putF (D := (dC, dI)) (ci := 2) (v := .ref q23) (ty := .object "LeafSigner$Sha256") (C := RX2) (T := TX2) (N := 6) hx hb hts iX2_init_X2 tyX2 tyX2_ok nmX2 hown hK hP hD hS 0 rfl rfl 0 (by decide) (hts (.fieldLink RX2 12 "LeafSigner$Hashes" "sha" "LLeafSigner$Sha256;") (List.mem_of_getElem? (i := 14) rfl)) (fun _ h9 => h9) rfl hin rfl (by decide +kernel) rfl rfl (Nat.le_of_ble_eq_true rfl) dX2_init_12 (fun H locs hP hD hS => ?_)
  have hP : va_P (dC, dI) classes [(h0, .inr (2, [.ref q23, .null, .null, .null, .null, .null]))] H := hP
  have hD : va_D A [(h0, .inr (2, [.ref q23, .null, .null, .null, .null, .null]))] := hD
  refine lv_aload_n hx hb dX2_init_15 rfl (lv_at hl 0 rfl) ?_
  refine lv_bipush (v := 8) hx hb dX2_init_16 (by decide) ?_
  refine va_newa (atype := .int) (ty := .int) (a0 := (8, .inl (fun _ => 0))) hx hb (hts (.arrayClass .int) (List.mem_of_getElem? (i := 9) rfl)) rfl hK hP hD hS hA (fun _ => rfl) (by decide) (by decide) (by decide) (Nat.le_of_ble_eq_true rfl) (Nat.le_of_ble_eq_true rfl) dX2_init_18 (fun q25 cA26 H hK hP hD hS => ?_)
  have hK : va_K (dC, dI) classes [(cA26, .int)] s := hK
  have hP : va_P (dC, dI) classes [(h0, .inr (2, [.ref q23, .null, .null, .null, .null, .null])), (q25, .inl (cA26, 8, .inl (fun _ => 0)))] H := hP
  have hD : va_D A [(h0, .inr (2, [.ref q23, .null, .null, .null, .null, .null])), (q25, .inl (cA26, 8, .inl (fun _ => 0)))] := hD
  refine W.widen (k := 4) (n := 82) (Nat.le_of_ble_eq_true rfl) (Nat.le_of_ble_eq_true rfl) ?_
  refine va_putF (D := (dC, dI)) (ci := 2) (v := .ref q25) (ty := .array .int) (C := RX2) (T := TX2) (N := 6) hx hb hts iX2_init_X2 tyX2 tyX2_ok nmX2 hown hK hP hD hS 0 rfl rfl 1 (by decide) (hts (.fieldLink RX2 18 "LeafSigner$Hashes" "seedState" "[I") (List.mem_of_getElem? (i := 15) rfl)) (fun _ h9 => h9) rfl hin rfl (by decide +kernel) rfl rfl (Nat.le_of_ble_eq_true rfl) dX2_init_20 (fun H locs hP hD hS => ?_)
  have hP : va_P (dC, dI) classes [(h0, .inr (2, [.ref q23, .ref q25, .null, .null, .null, .null])), (q25, .inl (cA26, 8, .inl (fun _ => 0)))] H := hP
  have hD : va_D A [(h0, .inr (2, [.ref q23, .ref q25, .null, .null, .null, .null])), (q25, .inl (cA26, 8, .inl (fun _ => 0)))] := hD
  have hP := hP.sub (ws' := [(h0, .inr (2, [.ref q23, .ref q25, .null, .null, .null, .null]))]) [0] rfl
  have hD := hD.sub (ws' := [(h0, .inr (2, [.ref q23, .ref q25, .null, .null, .null, .null]))]) [0] (by decide) rfl
  have hK := hK.sub (tys' := []) [] rfl
  refine lv_aload_n hx hb dX2_init_23 rfl (lv_at hl 0 rfl) ?_
  refine lv_bipush (v := 8) hx hb dX2_init_24 (by decide) ?_
  refine va_newa (atype := .int) (ty := .int) (a0 := (8, .inl (fun _ => 0))) hx hb (hts (.arrayClass .int) (List.mem_of_getElem? (i := 9) rfl)) rfl hK hP hD hS hA (fun _ => rfl) (by decide) (by decide) (by decide) (Nat.le_of_ble_eq_true rfl) (Nat.le_of_ble_eq_true rfl) dX2_init_26 (fun q27 cA28 H hK hP hD hS => ?_)
  have hK : va_K (dC, dI) classes [(cA28, .int)] s := hK
  have hP : va_P (dC, dI) classes [(h0, .inr (2, [.ref q23, .ref q25, .null, .null, .null, .null])), (q27, .inl (cA28, 8, .inl (fun _ => 0)))] H := hP
  have hD : va_D A [(h0, .inr (2, [.ref q23, .ref q25, .null, .null, .null, .null])), (q27, .inl (cA28, 8, .inl (fun _ => 0)))] := hD
  refine W.widen (k := 5) (n := 90) (Nat.le_of_ble_eq_true rfl) (Nat.le_of_ble_eq_true rfl) ?_
  refine va_putF (D := (dC, dI)) (ci := 2) (v := .ref q27) (ty := .array .int) (C := RX2) (T := TX2) (N := 6) hx hb hts iX2_init_X2 tyX2 tyX2_ok nmX2 hown hK hP hD hS 0 rfl rfl 2 (by decide) (hts (.fieldLink RX2 22 "LeafSigner$Hashes" "address" "[I") (List.mem_of_getElem? (i := 16) rfl)) (fun _ h9 => h9) rfl hin rfl (by decide +kernel) rfl rfl (Nat.le_of_ble_eq_true rfl) dX2_init_28 (fun H locs hP hD hS => ?_)
  have hP : va_P (dC, dI) classes [(h0, .inr (2, [.ref q23, .ref q25, .ref q27, .null, .null, .null])), (q27, .inl (cA28, 8, .inl (fun _ => 0)))] H := hP
  have hD : va_D A [(h0, .inr (2, [.ref q23, .ref q25, .ref q27, .null, .null, .null])), (q27, .inl (cA28, 8, .inl (fun _ => 0)))] := hD
  have hP := hP.sub (ws' := [(h0, .inr (2, [.ref q23, .ref q25, .ref q27, .null, .null, .null]))]) [0] rfl
  have hD := hD.sub (ws' := [(h0, .inr (2, [.ref q23, .ref q25, .ref q27, .null, .null, .null]))]) [0] (by decide) rfl
  have hK := hK.sub (tys' := []) [] rfl
  refine lv_aload_n hx hb dX2_init_31 rfl (lv_at hl 0 rfl) ?_
  refine lv_bipush (v := 8) hx hb dX2_init_32 (by decide) ?_
  refine va_newa (atype := .int) (ty := .int) (a0 := (8, .inl (fun _ => 0))) hx hb (hts (.arrayClass .int) (List.mem_of_getElem? (i := 9) rfl)) rfl hK hP hD hS hA (fun _ => rfl) (by decide) (by decide) (by decide) (Nat.le_of_ble_eq_true rfl) (Nat.le_of_ble_eq_true rfl) dX2_init_34 (fun q29 cA30 H hK hP hD hS => ?_)
  have hK : va_K (dC, dI) classes [(cA30, .int)] s := hK
  have hP : va_P (dC, dI) classes [(h0, .inr (2, [.ref q23, .ref q25, .ref q27, .null, .null, .null])), (q29, .inl (cA30, 8, .inl (fun _ => 0)))] H := hP
  have hD : va_D A [(h0, .inr (2, [.ref q23, .ref q25, .ref q27, .null, .null, .null])), (q29, .inl (cA30, 8, .inl (fun _ => 0)))] := hD
  refine W.widen (k := 6) (n := 98) (Nat.le_of_ble_eq_true rfl) (Nat.le_of_ble_eq_true rfl) ?_
  refine va_putF (D := (dC, dI)) (ci := 2) (v := .ref q29) (ty := .array .int) (C := RX2) (T := TX2) (N := 6) hx hb hts iX2_init_X2 tyX2 tyX2_ok nmX2 hown hK hP hD hS 0 rfl rfl 3 (by decide) (hts (.fieldLink RX2 25 "LeafSigner$Hashes" "key" "[I") (List.mem_of_getElem? (i := 17) rfl)) (fun _ h9 => h9) rfl hin rfl (by decide +kernel) rfl rfl (Nat.le_of_ble_eq_true rfl) dX2_init_36 (fun H locs hP hD hS => ?_)
  have hP : va_P (dC, dI) classes [(h0, .inr (2, [.ref q23, .ref q25, .ref q27, .ref q29, .null, .null])), (q29, .inl (cA30, 8, .inl (fun _ => 0)))] H := hP
  have hD : va_D A [(h0, .inr (2, [.ref q23, .ref q25, .ref q27, .ref q29, .null, .null])), (q29, .inl (cA30, 8, .inl (fun _ => 0)))] := hD
  have hP := hP.sub (ws' := [(h0, .inr (2, [.ref q23, .ref q25, .ref q27, .ref q29, .null, .null]))]) [0] rfl
  have hD := hD.sub (ws' := [(h0, .inr (2, [.ref q23, .ref q25, .ref q27, .ref q29, .null, .null]))]) [0] (by decide) rfl
  have hK := hK.sub (tys' := []) [] rfl
  refine lv_aload_n hx hb dX2_init_39 rfl (lv_at hl 0 rfl) ?_
  refine lv_bipush (v := 8) hx hb dX2_init_40 (by decide) ?_
  refine va_newa (atype := .int) (ty := .int) (a0 := (8, .inl (fun _ => 0))) hx hb (hts (.arrayClass .int) (List.mem_of_getElem? (i := 9) rfl)) rfl hK hP hD hS hA (fun _ => rfl) (by decide) (by decide) (by decide) (Nat.le_of_ble_eq_true rfl) (Nat.le_of_ble_eq_true rfl) dX2_init_42 (fun q31 cA32 H hK hP hD hS => ?_)
  have hK : va_K (dC, dI) classes [(cA32, .int)] s := hK
  have hP : va_P (dC, dI) classes [(h0, .inr (2, [.ref q23, .ref q25, .ref q27, .ref q29, .null, .null])), (q31, .inl (cA32, 8, .inl (fun _ => 0)))] H := hP
  have hD : va_D A [(h0, .inr (2, [.ref q23, .ref q25, .ref q27, .ref q29, .null, .null])), (q31, .inl (cA32, 8, .inl (fun _ => 0)))] := hD
  refine W.widen (k := 7) (n := 106) (Nat.le_of_ble_eq_true rfl) (Nat.le_of_ble_eq_true rfl) ?_
  refine va_putF (D := (dC, dI)) (ci := 2) (v := .ref q31) (ty := .array .int) (C := RX2) (T := TX2) (N := 6) hx hb hts iX2_init_X2 tyX2 tyX2_ok nmX2 hown hK hP hD hS 0 rfl rfl 4 (by decide) (hts (.fieldLink RX2 28 "LeafSigner$Hashes" "mask" "[I") (List.mem_of_getElem? (i := 18) rfl)) (fun _ h9 => h9) rfl hin rfl (by decide +kernel) rfl rfl (Nat.le_of_ble_eq_true rfl) dX2_init_44 (fun H locs hP hD hS => ?_)
  have hP : va_P (dC, dI) classes [(h0, .inr (2, [.ref q23, .ref q25, .ref q27, .ref q29, .ref q31, .null])), (q31, .inl (cA32, 8, .inl (fun _ => 0)))] H := hP
  have hD : va_D A [(h0, .inr (2, [.ref q23, .ref q25, .ref q27, .ref q29, .ref q31, .null])), (q31, .inl (cA32, 8, .inl (fun _ => 0)))] := hD
  have hP := hP.sub (ws' := [(h0, .inr (2, [.ref q23, .ref q25, .ref q27, .ref q29, .ref q31, .null]))]) [0] rfl
  have hD := hD.sub (ws' := [(h0, .inr (2, [.ref q23, .ref q25, .ref q27, .ref q29, .ref q31, .null]))]) [0] (by decide) rfl
  have hK := hK.sub (tys' := []) [] rfl
  refine lv_aload_n hx hb dX2_init_47 rfl (lv_at hl 0 rfl) ?_
  refine lv_bipush (v := 8) hx hb dX2_init_48 (by decide) ?_
  refine va_newa (atype := .int) (ty := .int) (a0 := (8, .inl (fun _ => 0))) hx hb (hts (.arrayClass .int) (List.mem_of_getElem? (i := 9) rfl)) rfl hK hP hD hS hA (fun _ => rfl) (by decide) (by decide) (by decide) (Nat.le_of_ble_eq_true rfl) (Nat.le_of_ble_eq_true rfl) dX2_init_50 (fun q33 cA34 H hK hP hD hS => ?_)
  have hK : va_K (dC, dI) classes [(cA34, .int)] s := hK
  have hP : va_P (dC, dI) classes [(h0, .inr (2, [.ref q23, .ref q25, .ref q27, .ref q29, .ref q31, .null])), (q33, .inl (cA34, 8, .inl (fun _ => 0)))] H := hP
  have hD : va_D A [(h0, .inr (2, [.ref q23, .ref q25, .ref q27, .ref q29, .ref q31, .null])), (q33, .inl (cA34, 8, .inl (fun _ => 0)))] := hD
  refine W.widen (k := 8) (n := 114) (Nat.le_of_ble_eq_true rfl) (Nat.le_of_ble_eq_true rfl) ?_
  refine va_putF (D := (dC, dI)) (ci := 2) (v := .ref q33) (ty := .array .int) (C := RX2) (T := TX2) (N := 6) hx hb hts iX2_init_X2 tyX2 tyX2_ok nmX2 hown hK hP hD hS 0 rfl rfl 5 (by decide) (hts (.fieldLink RX2 31 "LeafSigner$Hashes" "otherMask" "[I") (List.mem_of_getElem? (i := 19) rfl)) (fun _ h9 => h9) rfl hin rfl (by decide +kernel) rfl rfl (Nat.le_of_ble_eq_true rfl) dX2_init_52 (fun H locs hP hD hS => ?_)
  have hP : va_P (dC, dI) classes [(h0, .inr (2, [.ref q23, .ref q25, .ref q27, .ref q29, .ref q31, .ref q33])), (q33, .inl (cA34, 8, .inl (fun _ => 0)))] H := hP
  have hD : va_D A [(h0, .inr (2, [.ref q23, .ref q25, .ref q27, .ref q29, .ref q31, .ref q33])), (q33, .inl (cA34, 8, .inl (fun _ => 0)))] := hD
  refine W.widen (k := 8) (n := 114) (Nat.le_of_ble_eq_true rfl) (Nat.le_of_ble_eq_true rfl) ?_
  exact W.vret hx hb hr (fun t ht hW => ⟨⟨(), rfl, trivial, trivial⟩, hS.F ht⟩) hS.2.2 dX2_init_55
set_option maxHeartbeats 4000000 in
set_option maxRecDepth 100000 in
/-- Arrays.fill's loop; what is behind it is a premise -/
theorem lp_fill {p : Program} {l : Launch} {e : Env} {R : Room} {s : State} {m : MethodId} {args : Array Value} {below : List Frame} {meth : Method} {c : Code} {Q : State → Prop} {A : Nat → Prop} {dC : Nat → ClassId} {dI : Nat → Nat → Nat} {a : Nat} {cA : ClassId} {N : Nat} {v : Int32} {cells slots : Nat} (hx : p.tables.exec = Jvm.exec) (hb : c.code = cJ7_fill_53178) (hK : va_K (dC, dI) classes [(cA, .int)] s) (hN : N < 2 ^ 31)
    (kend : ∀ (H : Heap) (locs : List Loc) (ls : Array Slot), va_S A s.heap H locs → W p l e R s m args below meth c H locs cells slots Q (F0 m 20 ls [])) :
    ∀ (n j : Nat) (x : Int32), j + n = N → x = nI j → ∀ (f : Nat → Int32) (H : Heap) (locs : List Loc) (ls : Array Slot), va_P (dC, dI) classes [(a, .inl (cA, N, .inl f))] H → va_D A [(a, .inl (cA, N, .inl f))] → va_S A s.heap H locs → lv_has ls 4 [(2, .int x), (3, .int (Int32.ofNat N)), (0, .ref a), (1, .int v)] → W p l e R s m args below meth c H locs cells slots Q (F0 m 5 ls []) := by
  intro n
  induction n with
  | zero =>
    intro j x hj ex f H locs ls hP hD hS hl
    refine lv_iload_n hx hb dJ7_fill_53178_5 rfl (lv_at hl 0 rfl) ?_
    refine lv_iload_n hx hb dJ7_fill_53178_6 rfl (lv_at hl 1 rfl) ?_
    refine lv_icmp_ge (tgt := 20) hx hb dJ7_fill_53178_7 (by decide) (fun c1 => ?_) (fun c1 => absurd (by rw [ex]; exact nI_le (show N ≤ j by omega) (by omega)) c1)
    exact kend H locs ls hS
  | succ n ih =>
    intro j x hj ex f H locs ls hP hD hS hl
    refine lv_iload_n hx hb dJ7_fill_53178_5 rfl (lv_at hl 0 rfl) ?_
    refine lv_iload_n hx hb dJ7_fill_53178_6 rfl (lv_at hl 1 rfl) ?_
    refine lv_icmp_ge (tgt := 20) hx hb dJ7_fill_53178_7 (by decide) (fun c1 => absurd c1 (by rw [ex]; exact nI_ge (show j < N by omega) hN)) (fun c1 => ?_)
    refine lv_aload_n hx hb dJ7_fill_53178_10 rfl (lv_at hl 2 rfl) ?_
    refine lv_iload_n hx hb dJ7_fill_53178_11 rfl (lv_at hl 0 rfl) ?_
    refine lv_iload_n hx hb dJ7_fill_53178_12 rfl (lv_at hl 3 rfl) ?_
    refine vx_iast hx hb hK hP hD hS 0 0 rfl rfl (by rw [ex]; exact vp_in_nI (show j < N by omega) hN) dJ7_fill_53178_13 (fun H locs f1 hP hD hS => ?_)
    have hP : va_P (dC, dI) classes [(a, .inl (cA, N, .inl f1))] H := hP
    have hD : va_D A [(a, .inl (cA, N, .inl f1))] := hD
    obtain ⟨x1, ex1⟩ : ∃ y : Int32, y = x + 1 := ⟨_, rfl⟩
    refine lv_iinc (v := x1) (lv' := [(2, .int x1), (3, .int (Int32.ofNat N)), (0, .ref a), (1, .int v)]) hx hb dJ7_fill_53178_14 hl (k := 0) rfl (by rw [ex1]; rfl) (by decide) rfl (fun ls hl => ?_)
    refine lv_goto (tgt := 5) hx hb dJ7_fill_53178_17 (by decide) ?_
    exact ih (j + 1) x1 (by omega) (by rw [ex1, ex]; exact nI_1 j) f1 H locs ls hP hD hS hl
