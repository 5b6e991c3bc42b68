def ww_X6_init : List Cond := .code yX6_init cX6_init 2 none :: ([.methodLink RX6 3 objectInit, .instanceMethod objectInit, .code objectInit ⟨#[0xb1]⟩ 1 none, .fieldLink RX6 9 "LeafSigner$Tree" "height" "I", .fieldLink RX6 15 "LeafSigner$Tree" "leaves" "I", .classLink RX6 18 RX0, .instantiable RX0 2, .initialized RX0, .code yX0_init cX0_init 2 none, .methodLink RX0 3 objectInit, .arrayClass .int, .fieldLink RX0 9 "LeafSigner$ByteRow" "words" "[I", .fieldLink RX0 15 "LeafSigner$ByteRow" "count" "I", .methodLink RX6 20 yX0_init, .instanceMethod yX0_init, .fieldLink RX6 23 "LeafSigner$Tree" "nodes" "LLeafSigner$ByteRow;", .methodLink RX6 27 yX0_fill, .instanceMethod yX0_fill, .selects RX0 yX0_fill yX0_fill, .code yX0_fill cX0_fill 1 none, .classLink RX6 30 RX2, .instantiable RX2 6, .initialized RX2, .code yX2_init cX2_init 1 none, .methodLink RX2 3 objectInit, .classLink RX2 9 RX5, .instantiable RX5 2, .initialized RX5, .code yX5_init cX5_init 1 none, .methodLink RX5 3 objectInit, .fieldLink RX5 9 "LeafSigner$Sha256" "state" "[I", .fieldLink RX5 15 "LeafSigner$Sha256" "words" "[I", .methodLink RX2 11 yX5_init, .instanceMethod yX5_init, .fieldLink RX2 12 "LeafSigner$Hashes" "sha" "LLeafSigner$Sha256;", .fieldLink RX2 18 "LeafSigner$Hashes" "seedState" "[I", .fieldLink RX2 22 "LeafSigner$Hashes" "address" "[I", .fieldLink RX2 25 "LeafSigner$Hashes" "key" "[I", .fieldLink RX2 28 "LeafSigner$Hashes" "mask" "[I", .fieldLink RX2 31 "LeafSigner$Hashes" "otherMask" "[I", .methodLink RX6 32 yX2_init, .instanceMethod yX2_init, .fieldLink RX6 33 "LeafSigner$Tree" "hashes" "LLeafSigner$Hashes;", .classLink RX6 37 RX4, .instantiable RX4 5, .initialized RX4, .code yX4_init cX4_init 2 none, .methodLink RX4 3 objectInit, .fieldLink RX4 9 "LeafSigner$OneTime" "hashes" "LLeafSigner$Hashes;", .fieldLink RX4 15 "LeafSigner$OneTime" "leafSecret" "[I", .fieldLink RX4 19 "LeafSigner$OneTime" "bottoms" "[I", .fieldLink RX4 22 "LeafSigner$OneTime" "digits" "[I", .fieldLink RX4 25 "LeafSigner$OneTime" "tops" "[I", .methodLink RX4 28 yJ7_fill_53178, .static yJ7_fill_53178, .initialized RJ7, .code yJ7_fill_53178 cJ7_fill_53178 4 none, .methodLink RX6 39 yX4_init, .instanceMethod yX4_init, .fieldLink RX6 42 "LeafSigner$Tree" "oneTime" "LLeafSigner$OneTime;", .fieldLink RX6 46 "LeafSigner$Tree" "secret" "[I", .fieldLink RX6 50 "LeafSigner$Tree" "randomKey" "[I", .fieldLink RX6 53 "LeafSigner$Tree" "digest" "[I", .fieldLink RX6 56 "LeafSigner$Tree" "parts" "[I", .fieldLink RX6 59 "LeafSigner$Tree" "pair" "[I", .fieldLink RX6 62 "LeafSigner$Tree" "grown" "Z"] ++ (wsX60 ++ wsX00 ++ wsX20 ++ wsX50 ++ wsX40))
theorem iX6_init_X6 : ∀ w ∈ wsX60, w ∈ ww_X6_init := fun w h => List.mem_cons_of_mem _ (List.mem_append_right _ (List.mem_append_left _ (List.mem_append_left _ (List.mem_append_left _ (List.mem_append_left _ h)))))
theorem iX6_init_X0 : ∀ w ∈ wsX00, w ∈ ww_X6_init := fun w h => List.mem_cons_of_mem _ (List.mem_append_right _ (List.mem_append_left _ (List.mem_append_left _ (List.mem_append_left _ (List.mem_append_right _ h)))))
theorem iX6_init_X2 : ∀ w ∈ wsX20, w ∈ ww_X6_init := fun w h => List.mem_cons_of_mem _ (List.mem_append_right _ (List.mem_append_left _ (List.mem_append_left _ (List.mem_append_right _ h))))
theorem iX6_init_X5 : ∀ w ∈ wsX50, w ∈ ww_X6_init := fun w h => List.mem_cons_of_mem _ (List.mem_append_right _ (List.mem_append_left _ (List.mem_append_right _ h)))
theorem iX6_init_X4 : ∀ w ∈ wsX40, w ∈ ww_X6_init := fun w h => List.mem_cons_of_mem _ (List.mem_append_right _ (List.mem_append_right _ h))
set_option maxRecDepth 20000 in
theorem gX6_init_X0_init_20 : GoodIn ww_X6_init ww_X0_init := vx_good _ [9, 10, 2, 3, 11, 12, 13, 78, 79] rfl (by decide +kernel)
set_option maxRecDepth 20000 in
theorem gX6_init_X0_fill_27 : GoodIn ww_X6_init (wsV RX6 27 RX0 yX0_fill ww_X0_fill) := vx_good _ [17, 18, 19, 8, 20, 12, 13, 78, 79] rfl (by decide +kernel)
set_option maxRecDepth 20000 in
theorem gX6_init_X2_init_32 : GoodIn ww_X6_init ww_X2_init := vx_good _ [24, 25, 2, 3, 26, 27, 28, 29, 30, 11, 31, 32, 33, 34, 35, 36, 37, 38, 39, 40, 86, 87, 80, 81, 82, 83, 84, 85] rfl (by decide +kernel)
set_option maxRecDepth 20000 in
theorem gX6_init_X4_init_39 : GoodIn ww_X6_init ww_X4_init := vx_good _ [47, 48, 2, 3, 49, 11, 50, 51, 52, 53, 54, 55, 56, 57, 88, 89, 90, 91, 92] rfl (by decide +kernel)
set_option maxHeartbeats 4000000 in
set_option maxRecDepth 100000 in
theorem ct_Tree (l : Launch) (dC : Nat → ClassId) (dI : Nat → Nat → Nat) (sz : Nat) (h0 : Nat) (h : Int32) (hh : h = 1 ∨ h = 2 ∨ h = 3 ∨ h = 4) : Met l yX6_init ww_X6_init ({ frames := 3, cells := 21, slots := 1168, locals := 60 }) (va_Pc [.ref h0, .int h] (fun U => U.heap.size = sz ∧ va_P (dC, dI) classes [(h0, .inr (6, [.int 0, .int 0, .null, .null, .null, .null, .null, .null, .null, .null, .int 0]))] U.heap ∧ va_K (dC, dI) classes [] U ∧ va_D (fun _ => True) [(h0, .inr (6, [.int 0, .int 0, .null, .null, .null, .null, .null, .null, .null, .null, .int 0]))])) (va_Qv (fun (_ : Unit) => True) (fun (_ : Unit) (_ : State) => True) (va_A [(h0, .inr (6, [.int 0, .int 0, .null, .null, .null, .null, .null, .null, .null, .null, .int 0]))] sz)) 21 1168 (va_A [(h0, .inr (6, [.int 0, .int 0, .null, .null, .null, .null, .null, .null, .null, .null, .int 0]))] sz) := by
  refine Met.ofW (cc := cX6_init) (maxL := 2) (ret := none) (by decide) rfl ?_
  intro p e s m args below meth c s₁ B hml hv
  obtain ⟨rfl, hsz, hP, hK, hD0⟩ := hv
  have hx := B.exec
  have hb := B.bytes
  have hr := B.returns
  have hts := atoms_spec (ws := ww_X6_init) B.pre
  have hown : s.vm.findClass RX6 = some m.cls := findClass_of_methodNamed B.named
  have hlocks := B.notSynchronized
  have hin : meth.name = "<init>" := (name_of_methodNamed B.named B.method).1
  subst hsz
  have hD := hD0.self (sz := s.heap.size)
  generalize hAe : va_A [(h0, .inr (6, [.int 0, .int 0, .null, .null, .null, .null, .null, .null, .null, .null, .int 0]))] s.heap.size = A at hD ⊢
  have hA : ∀ q : Nat, s.heap.size ≤ q → A q := fun q h => by rw [← hAe]; exact Or.inr h
  have hS : va_S A s.heap s.heap [] := va_S.rf
  have hP : va_P (dC, dI) classes [(h0, .inr (6, [.int 0, .int 0, .null, .null, .null, .null, .null, .null, .null, .null, .int 0]))] s.heap := hP
  have hl := lv_entry ([.ref h0, .int h]) (n := 2) (Nat.le_of_ble_eq_true rfl)
  rw [lg_entry_eq]
  generalize (lg_sl ([.ref h0, .int h]) ++ List.replicate (2 - (lg_sl ([.ref h0, .int h])).length) Slot.unset).toArray = ls at hl ⊢
  have hl : lv_has ls 2 [(0, .ref h0), (1, .int h)] := hl
  generalize hHe : s.heap = H at hP ⊢
  have hS : va_S A s.heap H [] := by rw [← hHe]; exact va_S.rf
  refine lv_aload_n hx hb dX6_init_0 rfl (lv_at hl 0 rfl) ?_
  refine W.objInit hx hb hown (hts (.methodLink RX6 3 objectInit) (List.mem_of_getElem? (i := 1) rfl)) (hts (.instanceMethod objectInit) (List.mem_of_getElem? (i := 2) rfl)) (hts (.code objectInit ⟨#[0xb1]⟩ 1 none) (List.mem_of_getElem? (i := 3) rfl)) rfl (by rw [hml]; exact hl.1) rfl dX6_init_1 (Nat.le_of_ble_eq_true rfl) (Nat.le_of_ble_eq_true rfl) ?_
  refine W.eq (g2 := F0 m 4 ls []) rfl ?_
  refine lv_aload_n hx hb dX6_init_4 rfl (lv_at hl 0 rfl) ?_
  refine lv_iload_n hx hb dX6_init_5 rfl (lv_at hl 1 rfl) ?_
  refine va_putF (D := (dC, dI)) (ci := 6) (v := .int h) (ty := .int) (C := RX6) (T := TX6) (N := 11) hx hb hts iX6_init_X6 tyX6 tyX6_ok nmX6 hown hK hP hD hS 0 rfl rfl 0 (by decide) (hts (.fieldLink RX6 9 "LeafSigner$Tree" "height" "I") (List.mem_of_getElem? (i := 4) rfl)) (fun _ h9 => h9) rfl hin rfl (by decide +kernel) rfl rfl (Nat.le_of_ble_eq_true rfl) dX6_init_6 (fun H locs hP hD hS => ?_)
  have hP : va_P (dC, dI) classes [(h0, .inr (6, [.int h, .int 0, .null, .null, .null, .null, .null, .null, .null, .null, .int 0]))] H := hP
  have hD : va_D A [(h0, .inr (6, [.int h, .int 0, .null, .null, .null, .null, .null, .null, .null, .null, .int 0]))] := hD
  refine lv_aload_n hx hb dX6_init_9 rfl (lv_at hl 0 rfl) ?_
  refine lv_iconst (v := 1) hx hb dX6_init_10 (by decide) ?_
  refine lv_iload_n hx hb dX6_init_11 rfl (lv_at hl 1 rfl) ?_
  refine lv_ishl hx hb dX6_init_12 ?_
  refine va_putF (D := (dC, dI)) (ci := 6) (v := .int ((1 : Int32) <<< (h &&& 31))) (ty := .int) (C := RX6) (T := TX6) (N := 11) hx hb hts iX6_init_X6 tyX6 tyX6_ok nmX6 hown hK hP hD hS 0 rfl rfl 1 (by decide) (hts (.fieldLink RX6 15 "LeafSigner$Tree" "leaves" "I") (List.mem_of_getElem? (i := 5) rfl)) (fun _ h9 => h9) rfl hin rfl (by decide +kernel) rfl rfl (Nat.le_of_ble_eq_true rfl) dX6_init_13 (fun H locs hP hD hS => ?_)
  have hP : va_P (dC, dI) classes [(h0, .inr (6, [.int h, .int ((1 : Int32) <<< (h &&& 31)), .null, .null, .null, .null, .null, .null, .null, .null, .int 0]))] H := hP
  have hD : va_D A [(h0, .inr (6, [.int h, .int ((1 : Int32) <<< (h &&& 31)), .null, .null, .null, .null, .null, .null, .null, .null, .int 0]))] := hD
  refine lv_aload_n hx hb dX6_init_16 rfl (lv_at hl 0 rfl) ?_
  refine va_new (ci := 0) (fs := [.null, .int 0]) (C := RX0) (T := TX0) (N := 2) hx hb hts iX6_init_X0 tyX0 tyX0_ok hown (hts (.classLink RX6 18 RX0) (List.mem_of_getElem? (i := 6) rfl)) (hts (.instantiable RX0 2) (List.mem_of_getElem? (i := 7) rfl)) (hts (.initialized RX0) (List.mem_of_getElem? (i := 8) rfl)) hK hP hD hS hA rfl (by decide) (Nat.le_of_ble_eq_true rfl) (Nat.le_of_ble_eq_true rfl) dX6_init_17 (fun q44 H hP hD hS => ?_)
  have hP : va_P (dC, dI) classes [(h0, .inr (6, [.int h, .int ((1 : Int32) <<< (h &&& 31)), .null, .null, .null, .null, .null, .null, .null, .null, .int 0])), (q44, .inr (0, [.null, .int 0]))] H := hP
  have hD : va_D A [(h0, .inr (6, [.int h, .int ((1 : Int32) <<< (h &&& 31)), .null, .null, .null, .null, .null, .null, .null, .null, .int 0])), (q44, .inr (0, [.null, .int 0]))] := hD
  refine W.widen (k := 1) (n := 2) (Nat.le_of_ble_eq_true rfl) (Nat.le_of_ble_eq_true rfl) ?_
  refine lv_dup hx hb dX6_init_20 rfl ?_
  refine lv_iconst (v := 2) hx hb dX6_init_21 (by decide) ?_
  refine lv_aload_n hx hb dX6_init_22 rfl (lv_at hl 0 rfl) ?_
  refine va_get (D := (dC, dI)) (ci := 6) (v := .int ((1 : Int32) <<< (h &&& 31))) (C := RX6) (T := TX6) (N := 11) hx hb hts iX6_init_X6 hown hK hP 0 rfl rfl 1 (by decide) (hts (.fieldLink RX6 15 "LeafSigner$Tree" "leaves" "I") (List.mem_of_getElem? (i := 5) rfl)) (fun _ h9 => h9) rfl dX6_init_23 ?_
  refine lv_imul hx hb dX6_init_26 ?_
  refine lv_bipush (v := 8) hx hb dX6_init_27 (by decide) ?_
  refine lv_imul hx hb dX6_init_29 ?_
  have hPc := hP.sub (ws' := [(q44, .inr (0, [.null, .int 0]))]) [1] rfl
  have hDc := hD.sub (ws' := [(q44, .inr (0, [.null, .int 0]))]) [1] (by decide) rfl
  have hKc := hK.sub (tys' := []) [] rfl
  have hFc := va_free (wc := [(q44, .inr (0, [.null, .int 0]))]) hD hS hA [1] rfl
  refine va_callv (va_runI (As := [.int (((2 : Int32) * ((1 : Int32) <<< (h &&& 31))) * (8 : Int32))]) (rest := [.ref q44, .ref h0]) ⟨hx, hb, hml, hown, hts⟩ (ct_ByteRow l dC dI H.size q44 (((2 : Int32) * ((1 : Int32) <<< (h &&& 31))) * (8 : Int32)) (((2 : Int32) * ((1 : Int32) <<< (h &&& 31))) * (8 : Int32)).toNatClampNeg 256 (vx_T hh).1 rfl (vx_T hh).2 (Nat.le_trans (vx_T hh).2 (by decide))) (cwI 1 hts gX6_init_X0_init_20 rfl rfl rfl (hts (.initialized RX0) (List.mem_of_getElem? (i := 8) rfl)) (hts (.methodLink RX6 20 yX0_init) (List.mem_of_getElem? (i := 14) rfl)) (hts (.instanceMethod yX0_init) (List.mem_of_getElem? (i := 15) rfl)) rfl (by decide +kernel) ⟨(Nat.le_of_ble_eq_true rfl), (Nat.le_of_ble_eq_true rfl)⟩) ⟨fun a U g mk q => by obtain ⟨q0, q1, qP, qK, qD⟩ := q; exact ⟨q0, q1, qP, va_K.moved (u := U) (U := U.calling g mk a) (Vm.Alike.refl U.vm) qK, qD⟩, fun U hU hW => ⟨rfl, by rw [hU], by rw [hU]; exact hPc, va_K.moved hW.alike hKc, hDc.weaken (fun _ _ _ _ => trivial)⟩⟩ rfl rfl hl.1 rfl (lv_room (Nat.le_of_ble_eq_true rfl)) dX6_init_30 ⟨(Nat.le_of_ble_eq_true rfl), (Nat.le_of_ble_eq_true rfl)⟩) hS (fun q _ h => hFc q h) hFc (fun u t H1 locs ht hvm hw hB hz1 hk1 hS => ?_)
  obtain ⟨qw_46, cA_47, hP1, hK1, hD1⟩ := hB
  rw [ht] at hP1
  have hK1 := va_K.moved hvm.symm hK1
  obtain ⟨hP, hD⟩ := va_join (wr := [(h0, .inr (6, [.int h, .int ((1 : Int32) <<< (h &&& 31)), .null, .null, .null, .null, .null, .null, .null, .null, .int 0]))]) (w1 := [(q44, .inr (0, [.ref qw_46, .int 0])), (qw_46, .inl (cA_47, (((2 : Int32) * ((1 : Int32) <<< (h &&& 31))) * (8 : Int32)).toNatClampNeg, .inl (fun _ => 0)))]) hP hD [1] [0] rfl rfl (by decide) (by decide) hk1 hFc hP1 hD1
  have hK := hK.sub (tys' := []) [] rfl
  have hK := hK.app hK1
  generalize H1 = H at hP hS ⊢
  have hP : va_P (dC, dI) classes [(h0, .inr (6, [.int h, .int ((1 : Int32) <<< (h &&& 31)), .null, .null, .null, .null, .null, .null, .null, .null, .int 0])), (q44, .inr (0, [.ref qw_46, .int 0])), (qw_46, .inl (cA_47, (((2 : Int32) * ((1 : Int32) <<< (h &&& 31))) * (8 : Int32)).toNatClampNeg, .inl (fun _ => 0)))] H := hP
  have hD : va_D A [(h0, .inr (6, [.int h, .int ((1 : Int32) <<< (h &&& 31)), .null, .null, .null, .null, .null, .null, .null, .null, .int 0])), (q44, .inr (0, [.ref qw_46, .int 0])), (qw_46, .inl (cA_47, (((2 : Int32) * ((1 : Int32) <<< (h &&& 31))) * (8 : Int32)).toNatClampNeg, .inl (fun _ => 0)))] := hD
  have hK : va_K (dC, dI) classes [(cA_47, .int)] s := hK
  refine W.widen (k := 2) (n := 258) (Nat.le_of_ble_eq_true rfl) (Nat.le_of_ble_eq_true rfl) ?_
  refine va_putF (D := (dC, dI)) (ci := 6) (v := .ref q44) (ty := .object "LeafSigner$ByteRow") (C := RX6) (T := TX6) (N := 11) hx hb hts iX6_init_X6 tyX6 tyX6_ok nmX6 hown hK hP hD hS 0 rfl rfl 2 (by decide) (hts (.fieldLink RX6 23 "LeafSigner$Tree" "nodes" "LLeafSigner$ByteRow;") (List.mem_of_getElem? (i := 16) rfl)) (fun _ h9 => h9) rfl hin rfl (by decide +kernel) rfl rfl (Nat.le_of_ble_eq_true rfl) dX6_init_33 (fun H locs hP hD hS => ?_)
  have hP : va_P (dC, dI) classes [(h0, .inr (6, [.int h, .int ((1 : Int32) <<< (h &&& 31)), .ref q44, .null, .null, .null, .null, .null, .null, .null, .int 0])), (q44, .inr (0, [.ref qw_46, .int 0])), (qw_46, .inl (cA_47, (((2 : Int32) * ((1 : Int32) <<< (h &&& 31))) * (8 : Int32)).toNatClampNeg, .inl (fun _ => 0)))] H := hP
  have hD : va_D A [(h0, .inr (6, [.int h, .int ((1 : Int32) <<< (h &&& 31)), .ref q44, .null, .null, .null, .null, .null, .null, .null, .int 0])), (q44, .inr (0, [.ref qw_46, .int 0])), (qw_46, .inl (cA_47, (((2 : Int32) * ((1 : Int32) <<< (h &&& 31))) * (8 : Int32)).toNatClampNeg, .inl (fun _ => 0)))] := hD
  refine lv_aload_n hx hb dX6_init_36 rfl (lv_at hl 0 rfl) ?_
  refine va_get (D := (dC, dI)) (ci := 6) (v := .ref q44) (C := RX6) (T := TX6) (N := 11) hx hb hts iX6_init_X6 hown hK hP 0 rfl rfl 2 (by decide) (hts (.fieldLink RX6 23 "LeafSigner$Tree" "nodes" "LLeafSigner$ByteRow;") (List.mem_of_getElem? (i := 16) rfl)) (fun _ h9 => h9) rfl dX6_init_37 ?_
  have hPc := hP.sub (ws' := [(q44, .inr (0, [.ref qw_46, .int 0])), (qw_46, .inl (cA_47, (((2 : Int32) * ((1 : Int32) <<< (h &&& 31))) * (8 : Int32)).toNatClampNeg, .inl (fun _ => 0)))]) [1, 2] rfl
  have hDc := hD.sub (ws' := [(q44, .inr (0, [.ref qw_46, .int 0])), (qw_46, .inl (cA_47, (((2 : Int32) * ((1 : Int32) <<< (h &&& 31))) * (8 : Int32)).toNatClampNeg, .inl (fun _ => 0)))]) [1, 2] (by decide) rfl
  have hKc := hK.sub (tys' := [(cA_47, .int)]) [0] rfl
  have hFc := va_free (wc := [(q44, .inr (0, [.ref qw_46, .int 0])), (qw_46, .inl (cA_47, (((2 : Int32) * ((1 : Int32) <<< (h &&& 31))) * (8 : Int32)).toNatClampNeg, .inl (fun _ => 0)))]) hD hS hA [1, 2] rfl
  refine va_callv (va_runV (As := []) (rest := []) ⟨hx, hb, hml, hown, hts⟩ (ct_fill l dC dI H.size q44 qw_46 0 cA_47 (((2 : Int32) * ((1 : Int32) <<< (h &&& 31))) * (8 : Int32)).toNatClampNeg (fun _ => 0) (Int32.ofNat (((2 : Int32) * ((1 : Int32) <<< (h &&& 31))) * (8 : Int32)).toNatClampNeg * 4) rfl) (cwV 0 hts gX6_init_X0_fill_27 rfl rfl rfl (by decide +kernel) ⟨(Nat.le_of_ble_eq_true rfl), (Nat.le_of_ble_eq_true rfl)⟩) ⟨fun a U g mk q => by obtain ⟨q0, q1, qP, qK, qD⟩ := q; exact ⟨q0, q1, qP, va_K.moved (u := U) (U := U.calling g mk a) (Vm.Alike.refl U.vm) qK, qD⟩, va_recv hKc hPc (ci := 0) (q0 := 0) rfl rfl, fun U hU hW => ⟨rfl, by rw [hU], by rw [hU]; exact hPc, va_K.moved hW.alike hKc, hDc.weaken (fun _ _ _ _ => trivial)⟩⟩ rfl rfl hl.1 rfl (lv_room (Nat.le_of_ble_eq_true rfl)) dX6_init_40 ⟨(Nat.le_of_ble_eq_true rfl), (Nat.le_of_ble_eq_true rfl)⟩) hS (fun q _ h => hFc q h) hFc (fun u t H1 locs ht hvm hw hB hz1 hk1 hS => ?_)
  obtain ⟨hP1, hK1, hD1⟩ := hB
  rw [ht] at hP1
  have hK1 := va_K.moved hvm.symm hK1
  obtain ⟨hP, hD⟩ := va_join (wr := [(h0, .inr (6, [.int h, .int ((1 : Int32) <<< (h &&& 31)), .ref q44, .null, .null, .null, .null, .null, .null, .null, .int 0]))]) (w1 := [(q44, .inr (0, [.ref qw_46, .int (Int32.ofNat (((2 : Int32) * ((1 : Int32) <<< (h &&& 31))) * (8 : Int32)).toNatClampNeg * 4)])), (qw_46, .inl (cA_47, (((2 : Int32) * ((1 : Int32) <<< (h &&& 31))) * (8 : Int32)).toNatClampNeg, .inl (fun _ => 0)))]) hP hD [1, 2] [0] rfl rfl (by decide) (by decide) hk1 hFc hP1 hD1
  have hK := hK.sub (tys' := []) [] rfl
  have hK := hK.app hK1
  generalize H1 = H at hP hS ⊢
  have hP : va_P (dC, dI) classes [(h0, .inr (6, [.int h, .int ((1 : Int32) <<< (h &&& 31)), .ref q44, .null, .null, .null, .null, .null, .null, .null, .int 0])), (q44, .inr (0, [.ref qw_46, .int (Int32.ofNat (((2 : Int32) * ((1 : Int32) <<< (h &&& 31))) * (8 : Int32)).toNatClampNeg * 4)])), (qw_46, .inl (cA_47, (((2 : Int32) * ((1 : Int32) <<< (h &&& 31))) * (8 : Int32)).toNatClampNeg, .inl (fun _ => 0)))] H := hP
  have hD : va_D A [(h0, .inr (6, [.int h, .int ((1 : Int32) <<< (h &&& 31)), .ref q44, .null, .null, .null, .null, .null, .null, .null, .int 0])), (q44, .inr (0, [.ref qw_46, .int (Int32.ofNat (((2 : Int32) * ((1 : Int32) <<< (h &&& 31))) * (8 : Int32)).toNatClampNeg * 4)])), (qw_46, .inl (cA_47, (((2 : Int32) * ((1 : Int32) <<< (h &&& 31))) * (8 : Int32)).toNatClampNeg, .inl (fun _ => 0)))] := hD
  have hK : va_K (dC, dI) classes [(cA_47, .int)] s := hK
  refine W.widen (k := 2) (n := 258) (Nat.le_of_ble_eq_true rfl) (Nat.le_of_ble_eq_true rfl) ?_
  have hP := hP.sub (ws' := [(h0, .inr (6, [.int h, .int ((1 : Int32) <<< (h &&& 31)), .ref q44, .null, .null, .null, .null, .null, .null, .null, .int 0]))]) [0] rfl
  have hD := hD.sub (ws' := [(h0, .inr (6, [.int h, .int ((1 : Int32) <<< (h &&& 31)), .ref q44, .null, .null, .null, .null, .null, .null, .null, .int 0]))]) [0] (by decide) rfl
  have hK := hK.sub (tys' := []) [] rfl
  refine lv_aload_n hx hb dX6_init_43 rfl (lv_at hl 0 rfl) ?_
  refine va_new (ci := 2) (fs := [.null, .null, .null, .null, .null, .null]) (C := RX2) (T := TX2) (N := 6) hx hb hts iX6_init_X2 tyX2 tyX2_ok hown (hts (.classLink RX6 30 RX2) (List.mem_of_getElem? (i := 21) rfl)) (hts (.instantiable RX2 6) (List.mem_of_getElem? (i := 22) rfl)) (hts (.initialized RX2) (List.mem_of_getElem? (i := 23) rfl)) hK hP hD hS hA rfl (by decide) (Nat.le_of_ble_eq_true rfl) (Nat.le_of_ble_eq_true rfl) dX6_init_44 (fun q49 H hP hD hS => ?_)
  have hP : va_P (dC, dI) classes [(h0, .inr (6, [.int h, .int ((1 : Int32) <<< (h &&& 31)), .ref q44, .null, .null, .null, .null, .null, .null, .null, .int 0])), (q49, .inr (2, [.null, .null, .null, .null, .null, .null]))] H := hP
  have hD : va_D A [(h0, .inr (6, [.int h, .int ((1 : Int32) <<< (h &&& 31)), .ref q44, .null, .null, .null, .null, .null, .null, .null, .int 0])), (q49, .inr (2, [.null, .null, .null, .null, .null, .null]))] := hD
  refine W.widen (k := 3) (n := 264) (Nat.le_of_ble_eq_true rfl) (Nat.le_of_ble_eq_true rfl) ?_
  refine lv_dup hx hb dX6_init_47 rfl ?_
  have hPc := hP.sub (ws' := [(q49, .inr (2, [.null, .null, .null, .null, .null, .null]))]) [1] rfl
  have hDc := hD.sub (ws' := [(q49, .inr (2, [.null, .null, .null, .null, .null, .null]))]) [1] (by decide) rfl
  have hKc := hK.sub (tys' := []) [] rfl
  have hFc := va_free (wc := [(q49, .inr (2, [.null, .null, .null, .null, .null, .null]))]) hD hS hA [1] rfl
  refine va_callv (va_runI (As := []) (rest := [.ref q49, .ref h0]) ⟨hx, hb, hml, hown, hts⟩ (ct_Hashes l dC dI H.size q49) (cwI 0 hts gX6_init_X2_init_32 rfl rfl rfl (hts (.initialized RX2) (List.mem_of_getElem? (i := 23) rfl)) (hts (.methodLink RX6 32 yX2_init) (List.mem_of_getElem? (i := 41) rfl)) (hts (.instanceMethod yX2_init) (List.mem_of_getElem? (i := 42) rfl)) rfl (by decide +kernel) ⟨(Nat.le_of_ble_eq_true rfl), (Nat.le_of_ble_eq_true rfl)⟩) ⟨fun a U g mk q => by obtain ⟨q0, q1, qP, qK, qD⟩ := q; exact ⟨q0, q1, qP, va_K.moved (u := U) (U := U.calling g mk a) (Vm.Alike.refl U.vm) qK, qD⟩, fun U hU hW => ⟨rfl, by rw [hU], by rw [hU]; exact hPc, va_K.moved hW.alike hKc, hDc.weaken (fun _ _ _ _ => trivial)⟩⟩ rfl rfl hl.1 rfl (lv_room (Nat.le_of_ble_eq_true rfl)) dX6_init_48 ⟨(Nat.le_of_ble_eq_true rfl), (Nat.le_of_ble_eq_true rfl)⟩) hS (fun q _ h => hFc q h) hFc (fun u t H1 locs ht hvm hw hB hz1 hk1 hS => ?_)
  have hP1 : va_P (dC, dI) classes [] H1 := vx_P0
  have hD1 : va_D (va_A [(q49, .inr (2, [.null, .null, .null, .null, .null, .null]))] H.size) [] := vx_D0
  obtain ⟨hP, hD⟩ := va_join (wr := [(h0, .inr (6, [.int h, .int ((1 : Int32) <<< (h &&& 31)), .ref q44, .null, .null, .null, .null, .null, .null, .null, .int 0]))]) (w1 := []) hP hD [1] [0] rfl rfl (by decide) (by decide) hk1 hFc hP1 hD1
  have hK := hK.sub (tys' := []) [] rfl
  generalize H1 = H at hP hS ⊢
  have hP : va_P (dC, dI) classes [(h0, .inr (6, [.int h, .int ((1 : Int32) <<< (h &&& 31)), .ref q44, .null, .null, .null, .null, .null, .null, .null, .int 0]))] H := hP
  have hD : va_D A [(h0, .inr (6, [.int h, .int ((1 : Int32) <<< (h &&& 31)), .ref q44, .null, .null, .null, .null, .null, .null, .null, .int 0]))] := hD
  have hK : va_K (dC, dI) classes [] s := hK
  refine W.widen (k := 11) (n := 378) (Nat.le_of_ble_eq_true rfl) (Nat.le_of_ble_eq_true rfl) ?_
  refine va_putF (D := (dC, dI)) (ci := 6) (v := .ref q49) (ty := .object "LeafSigner$Hashes") (C := RX6) (T := TX6) (N := 11) hx hb hts iX6_init_X6 tyX6 tyX6_ok nmX6 hown hK hP hD hS 0 rfl rfl 3 (by decide) (hts (.fieldLink RX6 33 "LeafSigner$Tree" "hashes" "LLeafSigner$Hashes;") (List.mem_of_getElem? (i := 43) rfl)) (fun _ h9 => h9) rfl hin rfl (by decide +kernel) rfl rfl (Nat.le_of_ble_eq_true rfl) dX6_init_51 (fun H locs hP hD hS => ?_)
  have hP : va_P (dC, dI) classes [(h0, .inr (6, [.int h, .int ((1 : Int32) <<< (h &&& 31)), .ref q44, .ref q49, .null, .null, .null, .null, .null, .null, .int 0]))] H := hP
  have hD : va_D A [(h0, .inr (6, [.int h, .int ((1 : Int32) <<< (h &&& 31)), .ref q44, .ref q49, .null, .null, .null, .null, .null, .null, .int 0]))] := hD
  refine lv_aload_n hx hb dX6_init_54 rfl (lv_at hl 0 rfl) ?_
  refine va_new (ci := 4) (fs := [.null, .null, .null, .null, .null]) (C := RX4) (T := TX4) (N := 5) hx hb hts iX6_init_X4 tyX4 tyX4_ok hown (hts (.classLink RX6 37 RX4) (List.mem_of_getElem? (i := 44) rfl)) (hts (.instantiable RX4 5) (List.mem_of_getElem? (i := 45) rfl)) (hts (.initialized RX4) (List.mem_of_getElem? (i := 46) rfl)) hK hP hD hS hA rfl (by decide) (Nat.le_of_ble_eq_true rfl) (Nat.le_of_ble_eq_true rfl) dX6_init_55 (fun q51 H hP hD hS => ?_)
  have hP : va_P (dC, dI) classes [(h0, .inr (6, [.int h, .int ((1 : Int32) <<< (h &&& 31)), .ref q44, .ref q49, .null, .null, .null, .null, .null, .null, .int 0])), (q51, .inr (4, [.null, .null, .null, .null, .null]))] H := hP
  have hD : va_D A [(h0, .inr (6, [.int h, .int ((1 : Int32) <<< (h &&& 31)), .ref q44, .ref q49, .null, .null, .null, .null, .null, .null, .int 0])), (q51, .inr (4, [.null, .null, .null, .null, .null]))] := hD
  refine W.widen (k := 12) (n := 383) (Nat.le_of_ble_eq_true rfl) (Nat.le_of_ble_eq_true rfl) ?_
  refine lv_dup hx hb dX6_init_58 rfl ?_
  refine lv_aload_n hx hb dX6_init_59 rfl (lv_at hl 0 rfl) ?_
  refine va_get (D := (dC, dI)) (ci := 6) (v := .ref q49) (C := RX6) (T := TX6) (N := 11) hx hb hts iX6_init_X6 hown hK hP 0 rfl rfl 3 (by decide) (hts (.fieldLink RX6 33 "LeafSigner$Tree" "hashes" "LLeafSigner$Hashes;") (List.mem_of_getElem? (i := 43) rfl)) (fun _ h9 => h9) rfl dX6_init_60 ?_
  have hPc := hP.sub (ws' := [(q51, .inr (4, [.null, .null, .null, .null, .null]))]) [1] rfl
  have hDc := hD.sub (ws' := [(q51, .inr (4, [.null, .null, .null, .null, .null]))]) [1] (by decide) rfl
  have hKc := hK.sub (tys' := []) [] rfl
  have hFc := va_free (wc := [(q51, .inr (4, [.null, .null, .null, .null, .null]))]) hD hS hA [1] rfl
  refine va_callv (va_runI (As := [.ref q49]) (rest := [.ref q51, .ref h0]) ⟨hx, hb, hml, hown, hts⟩ (ct_OneTime l dC dI H.size q51 q49) (cwI 1 hts gX6_init_X4_init_39 rfl rfl rfl (hts (.initialized RX4) (List.mem_of_getElem? (i := 46) rfl)) (hts (.methodLink RX6 39 yX4_init) (List.mem_of_getElem? (i := 58) rfl)) (hts (.instanceMethod yX4_init) (List.mem_of_getElem? (i := 59) rfl)) rfl (by decide +kernel) ⟨(Nat.le_of_ble_eq_true rfl), (Nat.le_of_ble_eq_true rfl)⟩) ⟨fun a U g mk q => by obtain ⟨q0, q1, qP, qK, qD⟩ := q; exact ⟨q0, q1, qP, va_K.moved (u := U) (U := U.calling g mk a) (Vm.Alike.refl U.vm) qK, qD⟩, fun U hU hW => ⟨rfl, by rw [hU], by rw [hU]; exact hPc, va_K.moved hW.alike hKc, hDc.weaken (fun _ _ _ _ => trivial)⟩⟩ rfl rfl hl.1 rfl (lv_room (Nat.le_of_ble_eq_true rfl)) dX6_init_63 ⟨(Nat.le_of_ble_eq_true rfl), (Nat.le_of_ble_eq_true rfl)⟩) hS (fun q _ h => hFc q h) hFc (fun u t H1 locs ht hvm hw hB hz1 hk1 hS => ?_)
  have hP1 : va_P (dC, dI) classes [] H1 := vx_P0
  have hD1 : va_D (va_A [(q51, .inr (4, [.null, .null, .null, .null, .null]))] H.size) [] := vx_D0
  obtain ⟨hP, hD⟩ := va_join (wr := [(h0, .inr (6, [.int h, .int ((1 : Int32) <<< (h &&& 31)), .ref q44, .ref q49, .null, .null, .null, .null, .null, .null, .int 0]))]) (w1 := []) hP hD [1] [0] rfl rfl (by decide) (by decide) hk1 hFc hP1 hD1
  have hK := hK.sub (tys' := []) [] rfl
  generalize H1 = H at hP hS ⊢
  have hP : va_P (dC, dI) classes [(h0, .inr (6, [.int h, .int ((1 : Int32) <<< (h &&& 31)), .ref q44, .ref q49, .null, .null, .null, .null, .null, .null, .int 0]))] H := hP
  have hD : va_D A [(h0, .inr (6, [.int h, .int ((1 : Int32) <<< (h &&& 31)), .ref q44, .ref q49, .null, .null, .null, .null, .null, .null, .int 0]))] := hD
  have hK : va_K (dC, dI) classes [] s := hK
  refine W.widen (k := 16) (n := 592) (Nat.le_of_ble_eq_true rfl) (Nat.le_of_ble_eq_true rfl) ?_
  refine va_putF (D := (dC, dI)) (ci := 6) (v := .ref q51) (ty := .object "LeafSigner$OneTime") (C := RX6) (T := TX6) (N := 11) hx hb hts iX6_init_X6 tyX6 tyX6_ok nmX6 hown hK hP hD hS 0 rfl rfl 4 (by decide) (hts (.fieldLink RX6 42 "LeafSigner$Tree" "oneTime" "LLeafSigner$OneTime;") (List.mem_of_getElem? (i := 60) rfl)) (fun _ h9 => h9) rfl hin rfl (by decide +kernel) rfl rfl (Nat.le_of_ble_eq_true rfl) dX6_init_66 (fun H locs hP hD hS => ?_)
  have hP : va_P (dC, dI) classes [(h0, .inr (6, [.int h, .int ((1 : Int32) <<< (h &&& 31)), .ref q44, .ref q49, .ref q51, .null, .null, .null, .null, .null, .int 0]))] H := hP
  have hD : va_D A [(h0, .inr (6, [.int h, .int ((1 : Int32) <<< (h &&& 31)), .ref q44, .ref q49, .ref q51, .null, .null, .null, .null, .null, .int 0]))] := hD
  refine lv_aload_n hx hb dX6_init_69 rfl (lv_at hl 0 rfl) ?_
  refine lv_bipush (v := 8) hx hb dX6_init_70 (by decide) ?_
  refine va_newa (atype := .int) (ty := .int) (a0 := (8, .inl (fun _ => 0))) hx hb (hts (.arrayClass .int) (List.mem_of_getElem? (i := 11) rfl)) rfl hK hP hD hS hA (fun _ => rfl) (by decide) (by decide) (by decide) (Nat.le_of_ble_eq_true rfl) (Nat.le_of_ble_eq_true rfl) dX6_init_72 (fun q53 cA54 H hK hP hD hS => ?_)
  have hK : va_K (dC, dI) classes [(cA54, .int)] s := hK
  have hP : va_P (dC, dI) classes [(h0, .inr (6, [.int h, .int ((1 : Int32) <<< (h &&& 31)), .ref q44, .ref q49, .ref q51, .null, .null, .null, .null, .null, .int 0])), (q53, .inl (cA54, 8, .inl (fun _ => 0)))] H := hP
  have hD : va_D A [(h0, .inr (6, [.int h, .int ((1 : Int32) <<< (h &&& 31)), .ref q44, .ref q49, .ref q51, .null, .null, .null, .null, .null, .int 0])), (q53, .inl (cA54, 8, .inl (fun _ => 0)))] := hD
  refine W.widen (k := 17) (n := 600) (Nat.le_of_ble_eq_true rfl) (Nat.le_of_ble_eq_true rfl) ?_
  refine va_putF (D := (dC, dI)) (ci := 6) (v := .ref q53) (ty := .array .int) (C := RX6) (T := TX6) (N := 11) hx hb hts iX6_init_X6 tyX6 tyX6_ok nmX6 hown hK hP hD hS 0 rfl rfl 5 (by decide) (hts (.fieldLink RX6 46 "LeafSigner$Tree" "secret" "[I") (List.mem_of_getElem? (i := 61) rfl)) (fun _ h9 => h9) rfl hin rfl (by decide +kernel) rfl rfl (Nat.le_of_ble_eq_true rfl) dX6_init_74 (fun H locs hP hD hS => ?_)
  have hP : va_P (dC, dI) classes [(h0, .inr (6, [.int h, .int ((1 : Int32) <<< (h &&& 31)), .ref q44, .ref q49, .ref q51, .ref q53, .null, .null, .null, .null, .int 0])), (q53, .inl (cA54, 8, .inl (fun _ => 0)))] H := hP
  have hD : va_D A [(h0, .inr (6, [.int h, .int ((1 : Int32) <<< (h &&& 31)), .ref q44, .ref q49, .ref q51, .ref q53, .null, .null, .null, .null, .int 0])), (q53, .inl (cA54, 8, .inl (fun _ => 0)))] := hD
  have hP := hP.sub (ws' := [(h0, .inr (6, [.int h, .int ((1 : Int32) <<< (h &&& 31)), .ref q44, .ref q49, .ref q51, .ref q53, .null, .null, .null, .null, .int 0]))]) [0] rfl
  have hD := hD.sub (ws' := [(h0, .inr (6, [.int h, .int ((1 : Int32) <<< (h &&& 31)), .ref q44, .ref q49, .ref q51, .ref q53, .null, .null, .null, .null, .int 0]))]) [0] (by decide) rfl
  have hK := hK.sub (tys' := []) [] rfl
  refine lv_aload_n hx hb dX6_init_77 rfl (lv_at hl 0 rfl) ?_
  refine lv_bipush (v := 8) hx hb dX6_init_78 (by decide) ?_
  refine va_newa (atype := .int) (ty := .int) (a0 := (8, .inl (fun _ => 0))) hx hb (hts (.arrayClass .int) (List.mem_of_getElem? (i := 11) rfl)) rfl hK hP hD hS hA (fun _ => rfl) (by decide) (by decide) (by decide) (Nat.le_of_ble_eq_true rfl) (Nat.le_of_ble_eq_true rfl) dX6_init_80 (fun q55 cA56 H hK hP hD hS => ?_)
  have hK : va_K (dC, dI) classes [(cA56, .int)] s := hK
  have hP : va_P (dC, dI) classes [(h0, .inr (6, [.int h, .int ((1 : Int32) <<< (h &&& 31)), .ref q44, .ref q49, .ref q51, .ref q53, .null, .null, .null, .null, .int 0])), (q55, .inl (cA56, 8, .inl (fun _ => 0)))] H := hP
  have hD : va_D A [(h0, .inr (6, [.int h, .int ((1 : Int32) <<< (h &&& 31)), .ref q44, .ref q49, .ref q51, .ref q53, .null, .null, .null, .null, .int 0])), (q55, .inl (cA56, 8, .inl (fun _ => 0)))] := hD
  refine W.widen (k := 18) (n := 608) (Nat.le_of_ble_eq_true rfl) (Nat.le_of_ble_eq_true rfl) ?_
  refine va_putF (D := (dC, dI)) (ci := 6) (v := .ref q55) (ty := .array .int) (C := RX6) (T := TX6) (N := 11) hx hb hts iX6_init_X6 tyX6 tyX6_ok nmX6 hown hK hP hD hS 0 rfl rfl 6 (by decide) (hts (.fieldLink RX6 50 "LeafSigner$Tree" "randomKey" "[I") (List.mem_of_getElem? (i := 62) rfl)) (fun _ h9 => h9) rfl hin rfl (by decide +kernel) rfl rfl (Nat.le_of_ble_eq_true rfl) dX6_init_82 (fun H locs hP hD hS => ?_)
  have hP : va_P (dC, dI) classes [(h0, .inr (6, [.int h, .int ((1 : Int32) <<< (h &&& 31)), .ref q44, .ref q49, .ref q51, .ref q53, .ref q55, .null, .null, .null, .int 0])), (q55, .inl (cA56, 8, .inl (fun _ => 0)))] H := hP
  have hD : va_D A [(h0, .inr (6, [.int h, .int ((1 : Int32) <<< (h &&& 31)), .ref q44, .ref q49, .ref q51, .ref q53, .ref q55, .null, .null, .null, .int 0])), (q55, .inl (cA56, 8, .inl (fun _ => 0)))] := hD
  have hP := hP.sub (ws' := [(h0, .inr (6, [.int h, .int ((1 : Int32) <<< (h &&& 31)), .ref q44, .ref q49, .ref q51, .ref q53, .ref q55, .null, .null, .null, .int 0]))]) [0] rfl
  have hD := hD.sub (ws' := [(h0, .inr (6, [.int h, .int ((1 : Int32) <<< (h &&& 31)), .ref q44, .ref q49, .ref q51, .ref q53, .ref q55, .null, .null, .null, .int 0]))]) [0] (by decide) rfl
  have hK := hK.sub (tys' := []) [] rfl
  refine lv_aload_n hx hb dX6_init_85 rfl (lv_at hl 0 rfl) ?_
  refine lv_bipush (v := 8) hx hb dX6_init_86 (by decide) ?_
  refine va_newa (atype := .int) (ty := .int) (a0 := (8, .inl (fun _ => 0))) hx hb (hts (.arrayClass .int) (List.mem_of_getElem? (i := 11) rfl)) rfl hK hP hD hS hA (fun _ => rfl) (by decide) (by decide) (by decide) (Nat.le_of_ble_eq_true rfl) (Nat.le_of_ble_eq_true rfl) dX6_init_88 (fun q57 cA58 H hK hP hD hS => ?_)
  have hK : va_K (dC, dI) classes [(cA58, .int)] s := hK
  have hP : va_P (dC, dI) classes [(h0, .inr (6, [.int h, .int ((1 : Int32) <<< (h &&& 31)), .ref q44, .ref q49, .ref q51, .ref q53, .ref q55, .null, .null, .null, .int 0])), (q57, .inl (cA58, 8, .inl (fun _ => 0)))] H := hP
  have hD : va_D A [(h0, .inr (6, [.int h, .int ((1 : Int32) <<< (h &&& 31)), .ref q44, .ref q49, .ref q51, .ref q53, .ref q55, .null, .null, .null, .int 0])), (q57, .inl (cA58, 8, .inl (fun _ => 0)))] := hD
  refine W.widen (k := 19) (n := 616) (Nat.le_of_ble_eq_true rfl) (Nat.le_of_ble_eq_true rfl) ?_
  refine va_putF (D := (dC, dI)) (ci := 6) (v := .ref q57) (ty := .array .int) (C := RX6) (T := TX6) (N := 11) hx hb hts iX6_init_X6 tyX6 tyX6_ok nmX6 hown hK hP hD hS 0 rfl rfl 7 (by decide) (hts (.fieldLink RX6 53 "LeafSigner$Tree" "digest" "[I") (List.mem_of_getElem? (i := 63) rfl)) (fun _ h9 => h9) rfl hin rfl (by decide +kernel) rfl rfl (Nat.le_of_ble_eq_true rfl) dX6_init_90 (fun H locs hP hD hS => ?_)
  have hP : va_P (dC, dI) classes [(h0, .inr (6, [.int h, .int ((1 : Int32) <<< (h &&& 31)), .ref q44, .ref q49, .ref q51, .ref q53, .ref q55, .ref q57, .null, .null, .int 0])), (q57, .inl (cA58, 8, .inl (fun _ => 0)))] H := hP
  have hD : va_D A [(h0, .inr (6, [.int h, .int ((1 : Int32) <<< (h &&& 31)), .ref q44, .ref q49, .ref q51, .ref q53, .ref q55, .ref q57, .null, .null, .int 0])), (q57, .inl (cA58, 8, .inl (fun _ => 0)))] := hD
  have hP := hP.sub (ws' := [(h0, .inr (6, [.int h, .int ((1 : Int32) <<< (h &&& 31)), .ref q44, .ref q49, .ref q51, .ref q53, .ref q55, .ref q57, .null, .null, .int 0]))]) [0] rfl
  have hD := hD.sub (ws' := [(h0, .inr (6, [.int h, .int ((1 : Int32) <<< (h &&& 31)), .ref q44, .ref q49, .ref q51, .ref q53, .ref q55, .ref q57, .null, .null, .int 0]))]) [0] (by decide) rfl
  have hK := hK.sub (tys' := []) [] rfl
  refine lv_aload_n hx hb dX6_init_93 rfl (lv_at hl 0 rfl) ?_
  refine lv_sipush (v := 536) hx hb dX6_init_94 (by decide) ?_
  refine va_newa (atype := .int) (ty := .int) (a0 := (536, .inl (fun _ => 0))) hx hb (hts (.arrayClass .int) (List.mem_of_getElem? (i := 11) rfl)) rfl hK hP hD hS hA (fun _ => rfl) (by decide) (by decide) (by decide) (Nat.le_of_ble_eq_true rfl) (Nat.le_of_ble_eq_true rfl) dX6_init_97 (fun q59 cA60 H hK hP hD hS => ?_)
  have hK : va_K (dC, dI) classes [(cA60, .int)] s := hK
  have hP : va_P (dC, dI) classes [(h0, .inr (6, [.int h, .int ((1 : Int32) <<< (h &&& 31)), .ref q44, .ref q49, .ref q51, .ref q53, .ref q55, .ref q57, .null, .null, .int 0])), (q59, .inl (cA60, 536, .inl (fun _ => 0)))] H := hP
  have hD : va_D A [(h0, .inr (6, [.int h, .int ((1 : Int32) <<< (h &&& 31)), .ref q44, .ref q49, .ref q51, .ref q53, .ref q55, .ref q57, .null, .null, .int 0])), (q59, .inl (cA60, 536, .inl (fun _ => 0)))] := hD
  refine W.widen (k := 20) (n := 1152) (Nat.le_of_ble_eq_true rfl) (Nat.le_of_ble_eq_true rfl) ?_
  refine va_putF (D := (dC, dI)) (ci := 6) (v := .ref q59) (ty := .array .int) (C := RX6) (T := TX6) (N := 11) hx hb hts iX6_init_X6 tyX6 tyX6_ok nmX6 hown hK hP hD hS 0 rfl rfl 8 (by decide) (hts (.fieldLink RX6 56 "LeafSigner$Tree" "parts" "[I") (List.mem_of_getElem? (i := 64) rfl)) (fun _ h9 => h9) rfl hin rfl (by decide +kernel) rfl rfl (Nat.le_of_ble_eq_true rfl) dX6_init_99 (fun H locs hP hD hS => ?_)
  have hP : va_P (dC, dI) classes [(h0, .inr (6, [.int h, .int ((1 : Int32) <<< (h &&& 31)), .ref q44, .ref q49, .ref q51, .ref q53, .ref q55, .ref q57, .ref q59, .null, .int 0])), (q59, .inl (cA60, 536, .inl (fun _ => 0)))] H := hP
  have hD : va_D A [(h0, .inr (6, [.int h, .int ((1 : Int32) <<< (h &&& 31)), .ref q44, .ref q49, .ref q51, .ref q53, .ref q55, .ref q57, .ref q59, .null, .int 0])), (q59, .inl (cA60, 536, .inl (fun _ => 0)))] := hD
  have hP := hP.sub (ws' := [(h0, .inr (6, [.int h, .int ((1 : Int32) <<< (h &&& 31)), .ref q44, .ref q49, .ref q51, .ref q53, .ref q55, .ref q57, .ref q59, .null, .int 0]))]) [0] rfl
  have hD := hD.sub (ws' := [(h0, .inr (6, [.int h, .int ((1 : Int32) <<< (h &&& 31)), .ref q44, .ref q49, .ref q51, .ref q53, .ref q55, .ref q57, .ref q59, .null, .int 0]))]) [0] (by decide) rfl
  have hK := hK.sub (tys' := []) [] rfl
  refine lv_aload_n hx hb dX6_init_102 rfl (lv_at hl 0 rfl) ?_
  refine lv_bipush (v := 16) hx hb dX6_init_103 (by decide) ?_
  refine va_newa (atype := .int) (ty := .int) (a0 := (16, .inl (fun _ => 0))) hx hb (hts (.arrayClass .int) (List.mem_of_getElem? (i := 11) rfl)) rfl hK hP hD hS hA (fun _ => rfl) (by decide) (by decide) (by decide) (Nat.le_of_ble_eq_true rfl) (Nat.le_of_ble_eq_true rfl) dX6_init_105 (fun q61 cA62 H hK hP hD hS => ?_)
  have hK : va_K (dC, dI) classes [(cA62, .int)] s := hK
  have hP : va_P (dC, dI) classes [(h0, .inr (6, [.int h, .int ((1 : Int32) <<< (h &&& 31)), .ref q44, .ref q49, .ref q51, .ref q53, .ref q55, .ref q57, .ref q59, .null, .int 0])), (q61, .inl (cA62, 16, .inl (fun _ => 0)))] H := hP
  have hD : va_D A [(h0, .inr (6, [.int h, .int ((1 : Int32) <<< (h &&& 31)), .ref q44, .ref q49, .ref q51, .ref q53, .ref q55, .ref q57, .ref q59, .null, .int 0])), (q61, .inl (cA62, 16, .inl (fun _ => 0)))] := hD
  refine W.widen (k := 21) (n := 1168) (Nat.le_of_ble_eq_true rfl) (Nat.le_of_ble_eq_true rfl) ?_
  refine va_putF (D := (dC, dI)) (ci := 6) (v := .ref q61) (ty := .array .int) (C := RX6) (T := TX6) (N := 11) hx hb hts iX6_init_X6 tyX6 tyX6_ok nmX6 hown hK hP hD hS 0 rfl rfl 9 (by decide) (hts (.fieldLink RX6 59 "LeafSigner$Tree" "pair" "[I") (List.mem_of_getElem? (i := 65) rfl)) (fun _ h9 => h9) rfl hin rfl (by decide +kernel) rfl rfl (Nat.le_of_ble_eq_true rfl) dX6_init_107 (fun H locs hP hD hS => ?_)
  have hP : va_P (dC, dI) classes [(h0, .inr (6, [.int h, .int ((1 : Int32) <<< (h &&& 31)), .ref q44, .ref q49, .ref q51, .ref q53, .ref q55, .ref q57, .ref q59, .ref q61, .int 0])), (q61, .inl (cA62, 16, .inl (fun _ => 0)))] H := hP
  have hD : va_D A [(h0, .inr (6, [.int h, .int ((1 : Int32) <<< (h &&& 31)), .ref q44, .ref q49, .ref q51, .ref q53, .ref q55, .ref q57, .ref q59, .ref q61, .int 0])), (q61, .inl (cA62, 16, .inl (fun _ => 0)))] := hD
  have hP := hP.sub (ws' := [(h0, .inr (6, [.int h, .int ((1 : Int32) <<< (h &&& 31)), .ref q44, .ref q49, .ref q51, .ref q53, .ref q55, .ref q57, .ref q59, .ref q61, .int 0]))]) [0] rfl
  have hD := hD.sub (ws' := [(h0, .inr (6, [.int h, .int ((1 : Int32) <<< (h &&& 31)), .ref q44, .ref q49, .ref q51, .ref q53, .ref q55, .ref q57, .ref q59, .ref q61, .int 0]))]) [0] (by decide) rfl
  have hK := hK.sub (tys' := []) [] rfl
  refine lv_aload_n hx hb dX6_init_110 rfl (lv_at hl 0 rfl) ?_
  refine lv_iconst (v := 0) hx hb dX6_init_111 (by decide) ?_
  refine va_put (D := (dC, dI)) (ci := 6) (v := .int 0) (ty := .boolean) (C := RX6) (T := TX6) (N := 11) hx hb hts iX6_init_X6 tyX6 tyX6_ok nmX6 hown hK hP hD hS 0 rfl rfl 10 (by decide) (hts (.fieldLink RX6 62 "LeafSigner$Tree" "grown" "Z") (List.mem_of_getElem? (i := 66) rfl)) (fun _ h9 => h9) rfl (by decide +kernel) rfl rfl (Nat.le_of_ble_eq_true rfl) dX6_init_112 (fun H locs hP hD hS => ?_)
  have hP : va_P (dC, dI) classes [(h0, .inr (6, [.int h, .int ((1 : Int32) <<< (h &&& 31)), .ref q44, .ref q49, .ref q51, .ref q53, .ref q55, .ref q57, .ref q59, .ref q61, .int 0]))] H := hP
  have hD : va_D A [(h0, .inr (6, [.int h, .int ((1 : Int32) <<< (h &&& 31)), .ref q44, .ref q49, .ref q51, .ref q53, .ref q55, .ref q57, .ref q59, .ref q61, .int 0]))] := hD
  refine W.widen (k := 21) (n := 1168) (Nat.le_of_ble_eq_true rfl) (Nat.le_of_ble_eq_true rfl) ?_
  exact W.vret hx hb hr (fun t ht hW => ⟨⟨(), rfl, trivial, trivial⟩, hS.F ht⟩) hS.2.2 dX6_init_115
