def ww_X4_init : List Cond := .code yX4_init cX4_init 2 none :: ([.methodLink RX4 3 objectInit, .instanceMethod objectInit, .code objectInit ⟨#[0xb1]⟩ 1 none, .fieldLink RX4 9 "LeafSigner$OneTime" "hashes" "LLeafSigner$Hashes;", .arrayClass .int, .fieldLink RX4 15 "LeafSigner$OneTime" "leafSecret" "[I", .fieldLink RX4 19 "LeafSigner$OneTime" "bottoms" "[I", .fieldLink RX4 22 "LeafSigner$OneTime" "digits" "[I", .fieldLink RX4 25 "LeafSigner$OneTime" "tops" "[I", .methodLink RX4 28 yJ7_fill_53178, .static yJ7_fill_53178, .initialized RJ7, .code yJ7_fill_53178 cJ7_fill_53178 4 none] ++ (wsX40))
theorem iX4_init_X4 : ∀ w ∈ wsX40, w ∈ ww_X4_init := fun w h => List.mem_cons_of_mem _ (List.mem_append_right _ h)
set_option maxRecDepth 20000 in
theorem gX4_init_J7_fill_53178_28 : GoodIn ww_X4_init (va_wsS RX4 28 yJ7_fill_53178 ww_J7_fill_53178) := vx_good _ [10, 11, 12, 13] rfl (by decide +kernel)
set_option maxHeartbeats 4000000 in
set_option maxRecDepth 100000 in
theorem ct_OneTime (l : Launch) (dC : Nat → ClassId) (dI : Nat → Nat → Nat) (sz : Nat) (h0 : Nat) (hq : Nat) : Met l yX4_init ww_X4_init ({ frames := 1, cells := 4, slots := 209, locals := 23 }) (va_Pc [.ref h0, .ref hq] (fun U => U.heap.size = sz ∧ va_P (dC, dI) classes [(h0, .inr (4, [.null, .null, .null, .null, .null]))] U.heap ∧ va_K (dC, dI) classes [] U ∧ va_D (fun _ => True) [(h0, .inr (4, [.null, .null, .null, .null, .null]))])) (va_Qv (fun (_ : Unit) => True) (fun (_ : Unit) (_ : State) => True) (va_A [(h0, .inr (4, [.null, .null, .null, .null, .null]))] sz)) 4 209 (va_A [(h0, .inr (4, [.null, .null, .null, .null, .null]))] sz) := by
  refine Met.ofW (cc := cX4_init) (maxL := 2) (ret := none) (by decide) rfl ?_
  intro p e s m args below meth c s₁ B hml hv
  obtain ⟨rfl, hsz, hP, hK, hD0⟩ := hv
  have hx := B.exec
  have hb := B.bytes
  have hr := B.returns
  have hts := atoms_spec (ws := ww_X4_init) B.pre
  have hown : s.vm.findClass RX4 = some m.cls := findClass_of_methodNamed B.named
  have hlocks := B.notSynchronized
  have hin : meth.name = "<init>" := (name_of_methodNamed B.named B.method).1
  subst hsz
  have hD := hD0.self (sz := s.heap.size)
  generalize hAe : va_A [(h0, .inr (4, [.null, .null, .null, .null, .null]))] s.heap.size = A at hD ⊢
  have hA : ∀ q : Nat, s.heap.size ≤ q → A q := fun q h => by rw [← hAe]; exact Or.inr h
  have hS : va_S A s.heap s.heap [] := va_S.rf
  have hP : va_P (dC, dI) classes [(h0, .inr (4, [.null, .null, .null, .null, .null]))] s.heap := hP
  have hl := lv_entry ([.ref h0, .ref hq]) (n := 2) (Nat.le_of_ble_eq_true rfl)
  rw [lg_entry_eq]
  generalize (lg_sl ([.ref h0, .ref hq]) ++ List.replicate (2 - (lg_sl ([.ref h0, .ref hq])).length) Slot.unset).toArray = ls at hl ⊢
  have hl : lv_has ls 2 [(0, .ref h0), (1, .ref hq)] := hl
  generalize hHe : s.heap = H at hP ⊢
  have hS : va_S A s.heap H [] := by rw [← hHe]; exact va_S.rf
  refine lv_aload_n hx hb dX4_init_0 rfl (lv_at hl 0 rfl) ?_
  refine W.objInit hx hb hown (hts (.methodLink RX4 3 objectInit) (List.mem_of_getElem? (i := 1) rfl)) (hts (.instanceMethod objectInit) (List.mem_of_getElem? (i := 2) rfl)) (hts (.code objectInit ⟨#[0xb1]⟩ 1 none) (List.mem_of_getElem? (i := 3) rfl)) rfl (by rw [hml]; exact hl.1) rfl dX4_init_1 (Nat.le_of_ble_eq_true rfl) (Nat.le_of_ble_eq_true rfl) ?_
  refine W.eq (g2 := F0 m 4 ls []) rfl ?_
  refine lv_aload_n hx hb dX4_init_4 rfl (lv_at hl 0 rfl) ?_
  refine lv_aload_n hx hb dX4_init_5 rfl (lv_at hl 1 rfl) ?_
  refine va_putF (D := (dC, dI)) (ci := 4) (v := .ref hq) (ty := .object "LeafSigner$Hashes") (C := RX4) (T := TX4) (N := 5) hx hb hts iX4_init_X4 tyX4 tyX4_ok nmX4 hown hK hP hD hS 0 rfl rfl 0 (by decide) (hts (.fieldLink RX4 9 "LeafSigner$OneTime" "hashes" "LLeafSigner$Hashes;") (List.mem_of_getElem? (i := 4) rfl)) (fun _ h9 => h9) rfl hin rfl (by decide +kernel) rfl rfl (Nat.le_of_ble_eq_true rfl) dX4_init_6 (fun H locs hP hD hS => ?_)
  have hP : va_P (dC, dI) classes [(h0, .inr (4, [.ref hq, .null, .null, .null, .null]))] H := hP
  have hD : va_D A [(h0, .inr (4, [.ref hq, .null, .null, .null, .null]))] := hD
  refine lv_aload_n hx hb dX4_init_9 rfl (lv_at hl 0 rfl) ?_
  refine lv_bipush (v := 8) hx hb dX4_init_10 (by decide) ?_
  refine va_newa (atype := .int) (ty := .int) (a0 := (8, .inl (fun _ => 0))) hx hb (hts (.arrayClass .int) (List.mem_of_getElem? (i := 5) rfl)) rfl hK hP hD hS hA (fun _ => rfl) (by decide) (by decide) (by decide) (Nat.le_of_ble_eq_true rfl) (Nat.le_of_ble_eq_true rfl) dX4_init_12 (fun q35 cA36 H hK hP hD hS => ?_)
  have hK : va_K (dC, dI) classes [(cA36, .int)] s := hK
  have hP : va_P (dC, dI) classes [(h0, .inr (4, [.ref hq, .null, .null, .null, .null])), (q35, .inl (cA36, 8, .inl (fun _ => 0)))] H := hP
  have hD : va_D A [(h0, .inr (4, [.ref hq, .null, .null, .null, .null])), (q35, .inl (cA36, 8, .inl (fun _ => 0)))] := hD
  refine W.widen (k := 1) (n := 8) (Nat.le_of_ble_eq_true rfl) (Nat.le_of_ble_eq_true rfl) ?_
  refine va_putF (D := (dC, dI)) (ci := 4) (v := .ref q35) (ty := .array .int) (C := RX4) (T := TX4) (N := 5) hx hb hts iX4_init_X4 tyX4 tyX4_ok nmX4 hown hK hP hD hS 0 rfl rfl 1 (by decide) (hts (.fieldLink RX4 15 "LeafSigner$OneTime" "leafSecret" "[I") (List.mem_of_getElem? (i := 6) rfl)) (fun _ h9 => h9) rfl hin rfl (by decide +kernel) rfl rfl (Nat.le_of_ble_eq_true rfl) dX4_init_14 (fun H locs hP hD hS => ?_)
  have hP : va_P (dC, dI) classes [(h0, .inr (4, [.ref hq, .ref q35, .null, .null, .null])), (q35, .inl (cA36, 8, .inl (fun _ => 0)))] H := hP
  have hD : va_D A [(h0, .inr (4, [.ref hq, .ref q35, .null, .null, .null])), (q35, .inl (cA36, 8, .inl (fun _ => 0)))] := hD
  have hP := hP.sub (ws' := [(h0, .inr (4, [.ref hq, .ref q35, .null, .null, .null]))]) [0] rfl
  have hD := hD.sub (ws' := [(h0, .inr (4, [.ref hq, .ref q35, .null, .null, .null]))]) [0] (by decide) rfl
  have hK := hK.sub (tys' := []) [] rfl
  refine lv_aload_n hx hb dX4_init_17 rfl (lv_at hl 0 rfl) ?_
  refine lv_bipush (v := 67) hx hb dX4_init_18 (by decide) ?_
  refine va_newa (atype := .int) (ty := .int) (a0 := (67, .inl (fun _ => 0))) hx hb (hts (.arrayClass .int) (List.mem_of_getElem? (i := 5) rfl)) rfl hK hP hD hS hA (fun _ => rfl) (by decide) (by decide) (by decide) (Nat.le_of_ble_eq_true rfl) (Nat.le_of_ble_eq_true rfl) dX4_init_20 (fun q37 cA38 H hK hP hD hS => ?_)
  have hK : va_K (dC, dI) classes [(cA38, .int)] s := hK
  have hP : va_P (dC, dI) classes [(h0, .inr (4, [.ref hq, .ref q35, .null, .null, .null])), (q37, .inl (cA38, 67, .inl (fun _ => 0)))] H := hP
  have hD : va_D A [(h0, .inr (4, [.ref hq, .ref q35, .null, .null, .null])), (q37, .inl (cA38, 67, .inl (fun _ => 0)))] := hD
  refine W.widen (k := 2) (n := 75) (Nat.le_of_ble_eq_true rfl) (Nat.le_of_ble_eq_true rfl) ?_
  refine va_putF (D := (dC, dI)) (ci := 4) (v := .ref q37) (ty := .array .int) (C := RX4) (T := TX4) (N := 5) hx hb hts iX4_init_X4 tyX4 tyX4_ok nmX4 hown hK hP hD hS 0 rfl rfl 2 (by decide) (hts (.fieldLink RX4 19 "LeafSigner$OneTime" "bottoms" "[I") (List.mem_of_getElem? (i := 7) rfl)) (fun _ h9 => h9) rfl hin rfl (by decide +kernel) rfl rfl (Nat.le_of_ble_eq_true rfl) dX4_init_22 (fun H locs hP hD hS => ?_)
  have hP : va_P (dC, dI) classes [(h0, .inr (4, [.ref hq, .ref q35, .ref q37, .null, .null])), (q37, .inl (cA38, 67, .inl (fun _ => 0)))] H := hP
  have hD : va_D A [(h0, .inr (4, [.ref hq, .ref q35, .ref q37, .null, .null])), (q37, .inl (cA38, 67, .inl (fun _ => 0)))] := hD
  have hP := hP.sub (ws' := [(h0, .inr (4, [.ref hq, .ref q35, .ref q37, .null, .null]))]) [0] rfl
  have hD := hD.sub (ws' := [(h0, .inr (4, [.ref hq, .ref q35, .ref q37, .null, .null]))]) [0] (by decide) rfl
  have hK := hK.sub (tys' := []) [] rfl
  refine lv_aload_n hx hb dX4_init_25 rfl (lv_at hl 0 rfl) ?_
  refine lv_bipush (v := 67) hx hb dX4_init_26 (by decide) ?_
  refine va_newa (atype := .int) (ty := .int) (a0 := (67, .inl (fun _ => 0))) hx hb (hts (.arrayClass .int) (List.mem_of_getElem? (i := 5) rfl)) rfl hK hP hD hS hA (fun _ => rfl) (by decide) (by decide) (by decide) (Nat.le_of_ble_eq_true rfl) (Nat.le_of_ble_eq_true rfl) dX4_init_28 (fun q39 cA40 H hK hP hD hS => ?_)
  have hK : va_K (dC, dI) classes [(cA40, .int)] s := hK
  have hP : va_P (dC, dI) classes [(h0, .inr (4, [.ref hq, .ref q35, .ref q37, .null, .null])), (q39, .inl (cA40, 67, .inl (fun _ => 0)))] H := hP
  have hD : va_D A [(h0, .inr (4, [.ref hq, .ref q35, .ref q37, .null, .null])), (q39, .inl (cA40, 67, .inl (fun _ => 0)))] := hD
  refine W.widen (k := 3) (n := 142) (Nat.le_of_ble_eq_true rfl) (Nat.le_of_ble_eq_true rfl) ?_
  refine va_putF (D := (dC, dI)) (ci := 4) (v := .ref q39) (ty := .array .int) (C := RX4) (T := TX4) (N := 5) hx hb hts iX4_init_X4 tyX4 tyX4_ok nmX4 hown hK hP hD hS 0 rfl rfl 3 (by decide) (hts (.fieldLink RX4 22 "LeafSigner$OneTime" "digits" "[I") (List.mem_of_getElem? (i := 8) rfl)) (fun _ h9 => h9) rfl hin rfl (by decide +kernel) rfl rfl (Nat.le_of_ble_eq_true rfl) dX4_init_30 (fun H locs hP hD hS => ?_)
  have hP : va_P (dC, dI) classes [(h0, .inr (4, [.ref hq, .ref q35, .ref q37, .ref q39, .null])), (q39, .inl (cA40, 67, .inl (fun _ => 0)))] H := hP
  have hD : va_D A [(h0, .inr (4, [.ref hq, .ref q35, .ref q37, .ref q39, .null])), (q39, .inl (cA40, 67, .inl (fun _ => 0)))] := hD
  have hP := hP.sub (ws' := [(h0, .inr (4, [.ref hq, .ref q35, .ref q37, .ref q39, .null]))]) [0] rfl
  have hD := hD.sub (ws' := [(h0, .inr (4, [.ref hq, .ref q35, .ref q37, .ref q39, .null]))]) [0] (by decide) rfl
  have hK := hK.sub (tys' := []) [] rfl
  refine lv_aload_n hx hb dX4_init_33 rfl (lv_at hl 0 rfl) ?_
  refine lv_bipush (v := 67) hx hb dX4_init_34 (by decide) ?_
  refine va_newa (atype := .int) (ty := .int) (a0 := (67, .inl (fun _ => 0))) hx hb (hts (.arrayClass .int) (List.mem_of_getElem? (i := 5) rfl)) rfl hK hP hD hS hA (fun _ => rfl) (by decide) (by decide) (by decide) (Nat.le_of_ble_eq_true rfl) (Nat.le_of_ble_eq_true rfl) dX4_init_36 (fun q41 cA42 H hK hP hD hS => ?_)
  have hK : va_K (dC, dI) classes [(cA42, .int)] s := hK
  have hP : va_P (dC, dI) classes [(h0, .inr (4, [.ref hq, .ref q35, .ref q37, .ref q39, .null])), (q41, .inl (cA42, 67, .inl (fun _ => 0)))] H := hP
  have hD : va_D A [(h0, .inr (4, [.ref hq, .ref q35, .ref q37, .ref q39, .null])), (q41, .inl (cA42, 67, .inl (fun _ => 0)))] := hD
  refine W.widen (k := 4) (n := 209) (Nat.le_of_ble_eq_true rfl) (Nat.le_of_ble_eq_true rfl) ?_
  refine va_putF (D := (dC, dI)) (ci := 4) (v := .ref q41) (ty := .array .int) (C := RX4) (T := TX4) (N := 5) hx hb hts iX4_init_X4 tyX4 tyX4_ok nmX4 hown hK hP hD hS 0 rfl rfl 4 (by decide) (hts (.fieldLink RX4 25 "LeafSigner$OneTime" "tops" "[I") (List.mem_of_getElem? (i := 9) rfl)) (fun _ h9 => h9) rfl hin rfl (by decide +kernel) rfl rfl (Nat.le_of_ble_eq_true rfl) dX4_init_38 (fun H locs hP hD hS => ?_)
  have hP : va_P (dC, dI) classes [(h0, .inr (4, [.ref hq, .ref q35, .ref q37, .ref q39, .ref q41])), (q41, .inl (cA42, 67, .inl (fun _ => 0)))] H := hP
  have hD : va_D A [(h0, .inr (4, [.ref hq, .ref q35, .ref q37, .ref q39, .ref q41])), (q41, .inl (cA42, 67, .inl (fun _ => 0)))] := hD
  refine lv_aload_n hx hb dX4_init_41 rfl (lv_at hl 0 rfl) ?_
  refine va_get (D := (dC, dI)) (ci := 4) (v := .ref q41) (C := RX4) (T := TX4) (N := 5) hx hb hts iX4_init_X4 hown hK hP 0 rfl rfl 4 (by decide) (hts (.fieldLink RX4 25 "LeafSigner$OneTime" "tops" "[I") (List.mem_of_getElem? (i := 9) rfl)) (fun _ h9 => h9) rfl dX4_init_42 ?_
  refine lv_bipush (v := 15) hx hb dX4_init_45 (by decide) ?_
  have hPc := hP.sub (ws' := [(q41, .inl (cA42, 67, .inl (fun _ => 0)))]) [1] rfl
  have hDc := hD.sub (ws' := [(q41, .inl (cA42, 67, .inl (fun _ => 0)))]) [1] (by decide) rfl
  have hKc := hK.sub (tys' := [(cA42, .int)]) [0] rfl
  have hFc := va_free (wc := [(q41, .inl (cA42, 67, .inl (fun _ => 0)))]) hD hS hA [1] rfl
  refine va_callv (va_runS (As := [.ref q41, .int 15]) (rest := []) ⟨hx, hb, hml, hown, hts⟩ (ct_afill l dC dI H.size q41 15 cA42 67 (fun _ => 0) (by decide)) (va_cwS 2 hts gX4_init_J7_fill_53178_28 rfl rfl rfl (by decide +kernel) ⟨(Nat.le_of_ble_eq_true rfl), (Nat.le_of_ble_eq_true rfl)⟩) ⟨fun a U g mk q => by obtain ⟨q0, q1, qP, qK, qD⟩ := q; exact ⟨q0, q1, qP, va_K.moved (u := U) (U := U.calling g mk a) (Vm.Alike.refl U.vm) qK, qD⟩, fun U hU hW => ⟨rfl, by rw [hU], by rw [hU]; exact hPc, va_K.moved hW.alike hKc, hDc.weaken (fun _ _ _ _ => trivial)⟩⟩ rfl rfl hl.1 rfl (lv_room (Nat.le_of_ble_eq_true rfl)) dX4_init_47 ⟨(Nat.le_of_ble_eq_true rfl), (Nat.le_of_ble_eq_true rfl)⟩) hS (fun q _ h => hFc q h) hFc (fun u t H1 locs ht hvm hw hB hz1 hk1 hS => ?_)
  have hP1 : va_P (dC, dI) classes [] H1 := vx_P0
  have hD1 : va_D (va_A [(q41, .inl (cA42, 67, .inl (fun _ => 0)))] H.size) [] := vx_D0
  obtain ⟨hP, hD⟩ := va_join (wr := [(h0, .inr (4, [.ref hq, .ref q35, .ref q37, .ref q39, .ref q41]))]) (w1 := []) hP hD [1] [0] rfl rfl (by decide) (by decide) hk1 hFc hP1 hD1
  have hK := hK.sub (tys' := []) [] rfl
  generalize H1 = H at hP hS ⊢
  have hP : va_P (dC, dI) classes [(h0, .inr (4, [.ref hq, .ref q35, .ref q37, .ref q39, .ref q41]))] H := hP
  have hD : va_D A [(h0, .inr (4, [.ref hq, .ref q35, .ref q37, .ref q39, .ref q41]))] := hD
  have hK : va_K (dC, dI) classes [] s := hK
  refine W.widen (k := 4) (n := 209) (Nat.le_of_ble_eq_true rfl) (Nat.le_of_ble_eq_true rfl) ?_
  refine W.widen (k := 4) (n := 209) (Nat.le_of_ble_eq_true rfl) (Nat.le_of_ble_eq_true rfl) ?_
  exact W.vret hx hb hr (fun t ht hW => ⟨⟨(), rfl, trivial, trivial⟩, hS.F ht⟩) hS.2.2 dX4_init_50
