def ww_X7_feed : List Cond := .code yX7_feed cX7_feed 6 (some .int) :: ([.fieldLink RX7 30 "LeafSigner" "tape" "LLeafSigner$ByteRow;", .fieldLink RX7 63 "LeafSigner$ByteRow" "count" "I", .methodLink RX7 66 yX0_append, .instanceMethod yX0_append, .selects RX0 yX0_append yX0_append, .initialized RX0, .code yX0_append cX0_append 2 none, .fieldLink RX0 15 "LeafSigner$ByteRow" "count" "I", .fieldLink RX0 9 "LeafSigner$ByteRow" "words" "[I"] ++ (wsX70 ++ wsX00))
theorem iX7_feed_X7 : ∀ w ∈ wsX70, w ∈ ww_X7_feed := fun w h => List.mem_cons_of_mem _ (List.mem_append_right _ (List.mem_append_left _ h))
theorem iX7_feed_X0 : ∀ w ∈ wsX00, w ∈ ww_X7_feed := fun w h => List.mem_cons_of_mem _ (List.mem_append_right _ (List.mem_append_right _ h))
set_option maxRecDepth 20000 in
theorem gX7_feed_X0_append_66 : GoodIn ww_X7_feed (wsV RX7 66 RX0 yX0_append ww_X0_append) := vx_good _ [3, 4, 5, 6, 7, 8, 9, 18, 19] rfl (by decide +kernel)
set_option maxHeartbeats 4000000 in
set_option maxRecDepth 100000 in
theorem ct_feed (l : Launch) (dC : Nat → ClassId) (dI : Nat → Nat → Nat) (sz : Nat) (x : Nat) (k1 : Int32) (k2 : Int32) (k3 : Int32) (k4 : Int32) (k5 : Int32) (h : Int32) (r : Int32) (xt : Nat) (xo : Nat) (xh : Nat) (xs : Nat) (xm : Nat) (xq : Nat) (xtw : Nat) (cT : ClassId) : Met l yX7_feed ww_X7_feed ({ frames := 1, cells := 0, slots := 0, locals := 21 }) (va_Pc [.ref x, .int k1, .int k2, .int k3, .int k4, .int k5] (fun U => U.heap.size = sz ∧ va_P (dC, dI) classes [(x, .inr (7, [.int h, .int r, .ref xt, .ref xo, .ref xh, .ref xs, .ref xm, .ref xq])), (xt, .inr (0, [.ref xtw, .int 0])), (xtw, .inl (cT, 50, .inl (fun _ => 0)))] U.heap ∧ va_K (dC, dI) classes [(cT, .int)] U ∧ va_D (fun _ => True) [(x, .inr (7, [.int h, .int r, .ref xt, .ref xo, .ref xh, .ref xs, .ref xm, .ref xq])), (xt, .inr (0, [.ref xtw, .int 0])), (xtw, .inl (cT, 50, .inl (fun _ => 0)))])) (va_Qi (fun (r : Int32) (_ : Unit) => r = 20) (fun (_ : Unit) (_ : State) => True) (va_A [(x, .inr (7, [.int h, .int r, .ref xt, .ref xo, .ref xh, .ref xs, .ref xm, .ref xq])), (xt, .inr (0, [.ref xtw, .int 0])), (xtw, .inl (cT, 50, .inl (fun _ => 0)))] sz)) 0 0 (va_A [(x, .inr (7, [.int h, .int r, .ref xt, .ref xo, .ref xh, .ref xs, .ref xm, .ref xq])), (xt, .inr (0, [.ref xtw, .int 0])), (xtw, .inl (cT, 50, .inl (fun _ => 0)))] sz) := by
  refine Met.ofW (cc := cX7_feed) (maxL := 6) (ret := (some .int)) (by decide) rfl ?_
  intro p e s m args below meth c s₁ B hml hv
  obtain ⟨rfl, hsz, hP, hK, hD0⟩ := hv
  have hx := B.exec
  have hb := B.bytes
  have hr := B.returns
  have hts := atoms_spec (ws := ww_X7_feed) B.pre
  have hown : s.vm.findClass RX7 = some m.cls := findClass_of_methodNamed B.named
  have hlocks := B.notSynchronized
  subst hsz
  have hD := hD0.self (sz := s.heap.size)
  generalize hAe : va_A [(x, .inr (7, [.int h, .int r, .ref xt, .ref xo, .ref xh, .ref xs, .ref xm, .ref xq])), (xt, .inr (0, [.ref xtw, .int 0])), (xtw, .inl (cT, 50, .inl (fun _ => 0)))] s.heap.size = A at hD ⊢
  have hA : ∀ q : Nat, s.heap.size ≤ q → A q := fun q h => by rw [← hAe]; exact Or.inr h
  have hS : va_S A s.heap s.heap [] := va_S.rf
  have hP : va_P (dC, dI) classes [(x, .inr (7, [.int h, .int r, .ref xt, .ref xo, .ref xh, .ref xs, .ref xm, .ref xq])), (xt, .inr (0, [.ref xtw, .int 0])), (xtw, .inl (cT, 50, .inl (fun _ => 0)))] s.heap := hP
  have hl := lv_entry ([.ref x, .int k1, .int k2, .int k3, .int k4, .int k5]) (n := 6) (Nat.le_of_ble_eq_true rfl)
  rw [lg_entry_eq]
  generalize (lg_sl ([.ref x, .int k1, .int k2, .int k3, .int k4, .int k5]) ++ List.replicate (6 - (lg_sl ([.ref x, .int k1, .int k2, .int k3, .int k4, .int k5])).length) Slot.unset).toArray = ls at hl ⊢
  have hl : lv_has ls 6 [(0, .ref x), (1, .int k1), (2, .int k2), (3, .int k3), (4, .int k4), (5, .int k5)] := hl
  generalize hHe : s.heap = H at hP ⊢
  have hS : va_S A s.heap H [] := by rw [← hHe]; exact va_S.rf
  refine lv_aload_n hx hb dX7_feed_0 rfl (lv_at hl 0 rfl) ?_
  refine va_get (D := (dC, dI)) (ci := 7) (v := .ref xt) (C := RX7) (T := TX7) (N := 8) hx hb hts iX7_feed_X7 hown hK hP 0 rfl rfl 2 (by decide) (hts (.fieldLink RX7 30 "LeafSigner" "tape" "LLeafSigner$ByteRow;") (List.mem_of_getElem? (i := 1) rfl)) (fun _ h9 => h9) rfl dX7_feed_1 ?_
  refine va_get (D := (dC, dI)) (ci := 0) (v := .int 0) (C := RX0) (T := TX0) (N := 2) hx hb hts iX7_feed_X0 hown hK hP 1 rfl rfl 1 (by decide) (hts (.fieldLink RX7 63 "LeafSigner$ByteRow" "count" "I") (List.mem_of_getElem? (i := 2) rfl)) (fun _ h9 => h9) rfl dX7_feed_4 ?_
  refine lv_sipush (v := 180) hx hb dX7_feed_7 (by decide) ?_
  refine lv_icmp_le (tgt := 15) hx hb dX7_feed_10 (by decide) (fun c89 => ?_) (fun c89 => absurd (by decide) c89)
  refine lv_aload_n hx hb dX7_feed_15 rfl (lv_at hl 0 rfl) ?_
  refine va_get (D := (dC, dI)) (ci := 7) (v := .ref xt) (C := RX7) (T := TX7) (N := 8) hx hb hts iX7_feed_X7 hown hK hP 0 rfl rfl 2 (by decide) (hts (.fieldLink RX7 30 "LeafSigner" "tape" "LLeafSigner$ByteRow;") (List.mem_of_getElem? (i := 1) rfl)) (fun _ h9 => h9) rfl dX7_feed_16 ?_
  refine lv_iload_n hx hb dX7_feed_19 rfl (lv_at hl 1 rfl) ?_
  have hPc := hP.sub (ws' := [(xt, .inr (0, [.ref xtw, .int 0])), (xtw, .inl (cT, 50, .inl (fun _ => 0)))]) [1, 2] rfl
  have hDc := hD.sub (ws' := [(xt, .inr (0, [.ref xtw, .int 0])), (xtw, .inl (cT, 50, .inl (fun _ => 0)))]) [1, 2] (by decide) rfl
  have hKc := hK.sub (tys' := [(cT, .int)]) [0] rfl
  have hFc := va_free (wc := [(xt, .inr (0, [.ref xtw, .int 0])), (xtw, .inl (cT, 50, .inl (fun _ => 0)))]) hD hS hA [1, 2] rfl
  refine va_callv (va_runV (As := [.int k1]) (rest := []) ⟨hx, hb, hml, hown, hts⟩ (ct_append l dC dI H.size xt k1 xtw 0 cT (fun _ => 0) 4 (by decide) (vx_in (by decide)) (by decide)) (cwV 1 hts gX7_feed_X0_append_66 rfl rfl rfl (by decide +kernel) ⟨(Nat.le_of_ble_eq_true rfl), (Nat.le_of_ble_eq_true rfl)⟩) ⟨fun a U g mk q => by obtain ⟨q0, q1, qP, qK, qD⟩ := q; exact ⟨q0, q1, qP, va_K.moved (u := U) (U := U.calling g mk a) (Vm.Alike.refl U.vm) qK, qD⟩, va_recv hKc hPc (ci := 0) (q0 := 0) rfl rfl, fun U hU hW => ⟨rfl, by rw [hU], by rw [hU]; exact hPc, va_K.moved hW.alike hKc, hDc.weaken (fun _ _ _ _ => trivial)⟩⟩ rfl rfl hl.1 rfl (lv_room (Nat.le_of_ble_eq_true rfl)) dX7_feed_20 ⟨(Nat.le_of_ble_eq_true rfl), (Nat.le_of_ble_eq_true rfl)⟩) hS (fun q _ h => hFc q h) hFc (fun u t H1 locs ht hvm hw hB hz1 hk1 hS => ?_)
  obtain ⟨f_91, hP1, hK1, hD1⟩ := hB
  rw [ht] at hP1
  have hK1 := va_K.moved hvm.symm hK1
  obtain ⟨hP, hD⟩ := va_join (wr := [(x, .inr (7, [.int h, .int r, .ref xt, .ref xo, .ref xh, .ref xs, .ref xm, .ref xq]))]) (w1 := [(xt, .inr (0, [.ref xtw, .int 4])), (xtw, .inl (cT, 50, .inl f_91))]) hP hD [1, 2] [0] rfl rfl (by decide) (by decide) hk1 hFc hP1 hD1
  have hK := hK.sub (tys' := []) [] rfl
  have hK := hK.app hK1
  generalize H1 = H at hP hS ⊢
  have hP : va_P (dC, dI) classes [(x, .inr (7, [.int h, .int r, .ref xt, .ref xo, .ref xh, .ref xs, .ref xm, .ref xq])), (xt, .inr (0, [.ref xtw, .int 4])), (xtw, .inl (cT, 50, .inl f_91))] H := hP
  have hD : va_D A [(x, .inr (7, [.int h, .int r, .ref xt, .ref xo, .ref xh, .ref xs, .ref xm, .ref xq])), (xt, .inr (0, [.ref xtw, .int 4])), (xtw, .inl (cT, 50, .inl f_91))] := hD
  have hK : va_K (dC, dI) classes [(cT, .int)] s := hK
  refine W.widen (k := 0) (n := 0) (Nat.le_of_ble_eq_true rfl) (Nat.le_of_ble_eq_true rfl) ?_
  refine lv_aload_n hx hb dX7_feed_23 rfl (lv_at hl 0 rfl) ?_
  refine va_get (D := (dC, dI)) (ci := 7) (v := .ref xt) (C := RX7) (T := TX7) (N := 8) hx hb hts iX7_feed_X7 hown hK hP 0 rfl rfl 2 (by decide) (hts (.fieldLink RX7 30 "LeafSigner" "tape" "LLeafSigner$ByteRow;") (List.mem_of_getElem? (i := 1) rfl)) (fun _ h9 => h9) rfl dX7_feed_24 ?_
  refine lv_iload_n hx hb dX7_feed_27 rfl (lv_at hl 2 rfl) ?_
  have hPc := hP.sub (ws' := [(xt, .inr (0, [.ref xtw, .int 4])), (xtw, .inl (cT, 50, .inl f_91))]) [1, 2] rfl
  have hDc := hD.sub (ws' := [(xt, .inr (0, [.ref xtw, .int 4])), (xtw, .inl (cT, 50, .inl f_91))]) [1, 2] (by decide) rfl
  have hKc := hK.sub (tys' := [(cT, .int)]) [0] rfl
  have hFc := va_free (wc := [(xt, .inr (0, [.ref xtw, .int 4])), (xtw, .inl (cT, 50, .inl f_91))]) hD hS hA [1, 2] rfl
  refine va_callv (va_runV (As := [.int k2]) (rest := []) ⟨hx, hb, hml, hown, hts⟩ (ct_append l dC dI H.size xt k2 xtw 4 cT f_91 8 (by decide) (vx_in (by decide)) (by decide)) (cwV 1 hts gX7_feed_X0_append_66 rfl rfl rfl (by decide +kernel) ⟨(Nat.le_of_ble_eq_true rfl), (Nat.le_of_ble_eq_true rfl)⟩) ⟨fun a U g mk q => by obtain ⟨q0, q1, qP, qK, qD⟩ := q; exact ⟨q0, q1, qP, va_K.moved (u := U) (U := U.calling g mk a) (Vm.Alike.refl U.vm) qK, qD⟩, va_recv hKc hPc (ci := 0) (q0 := 0) rfl rfl, fun U hU hW => ⟨rfl, by rw [hU], by rw [hU]; exact hPc, va_K.moved hW.alike hKc, hDc.weaken (fun _ _ _ _ => trivial)⟩⟩ rfl rfl hl.1 rfl (lv_room (Nat.le_of_ble_eq_true rfl)) dX7_feed_28 ⟨(Nat.le_of_ble_eq_true rfl), (Nat.le_of_ble_eq_true rfl)⟩) hS (fun q _ h => hFc q h) hFc (fun u t H1 locs ht hvm hw hB hz1 hk1 hS => ?_)
  obtain ⟨f_93, hP1, hK1, hD1⟩ := hB
  rw [ht] at hP1
  have hK1 := va_K.moved hvm.symm hK1
  obtain ⟨hP, hD⟩ := va_join (wr := [(x, .inr (7, [.int h, .int r, .ref xt, .ref xo, .ref xh, .ref xs, .ref xm, .ref xq]))]) (w1 := [(xt, .inr (0, [.ref xtw, .int 8])), (xtw, .inl (cT, 50, .inl f_93))]) hP hD [1, 2] [0] rfl rfl (by decide) (by decide) hk1 hFc hP1 hD1
  have hK := hK.sub (tys' := []) [] rfl
  have hK := hK.app hK1
  generalize H1 = H at hP hS ⊢
  have hP : va_P (dC, dI) classes [(x, .inr (7, [.int h, .int r, .ref xt, .ref xo, .ref xh, .ref xs, .ref xm, .ref xq])), (xt, .inr (0, [.ref xtw, .int 8])), (xtw, .inl (cT, 50, .inl f_93))] H := hP
  have hD : va_D A [(x, .inr (7, [.int h, .int r, .ref xt, .ref xo, .ref xh, .ref xs, .ref xm, .ref xq])), (xt, .inr (0, [.ref xtw, .int 8])), (xtw, .inl (cT, 50, .inl f_93))] := hD
  have hK : va_K (dC, dI) classes [(cT, .int)] s := hK
  refine W.widen (k := 0) (n := 0) (Nat.le_of_ble_eq_true rfl) (Nat.le_of_ble_eq_true rfl) ?_
  refine lv_aload_n hx hb dX7_feed_31 rfl (lv_at hl 0 rfl) ?_
  refine va_get (D := (dC, dI)) (ci := 7) (v := .ref xt) (C := RX7) (T := TX7) (N := 8) hx hb hts iX7_feed_X7 hown hK hP 0 rfl rfl 2 (by decide) (hts (.fieldLink RX7 30 "LeafSigner" "tape" "LLeafSigner$ByteRow;") (List.mem_of_getElem? (i := 1) rfl)) (fun _ h9 => h9) rfl dX7_feed_32 ?_
  refine lv_iload_n hx hb dX7_feed_35 rfl (lv_at hl 3 rfl) ?_
  have hPc := hP.sub (ws' := [(xt, .inr (0, [.ref xtw, .int 8])), (xtw, .inl (cT, 50, .inl f_93))]) [1, 2] rfl
  have hDc := hD.sub (ws' := [(xt, .inr (0, [.ref xtw, .int 8])), (xtw, .inl (cT, 50, .inl f_93))]) [1, 2] (by decide) rfl
  have hKc := hK.sub (tys' := [(cT, .int)]) [0] rfl
  have hFc := va_free (wc := [(xt, .inr (0, [.ref xtw, .int 8])), (xtw, .inl (cT, 50, .inl f_93))]) hD hS hA [1, 2] rfl
  refine va_callv (va_runV (As := [.int k3]) (rest := []) ⟨hx, hb, hml, hown, hts⟩ (ct_append l dC dI H.size xt k3 xtw 8 cT f_93 12 (by decide) (vx_in (by decide)) (by decide)) (cwV 1 hts gX7_feed_X0_append_66 rfl rfl rfl (by decide +kernel) ⟨(Nat.le_of_ble_eq_true rfl), (Nat.le_of_ble_eq_true rfl)⟩) ⟨fun a U g mk q => by obtain ⟨q0, q1, qP, qK, qD⟩ := q; exact ⟨q0, q1, qP, va_K.moved (u := U) (U := U.calling g mk a) (Vm.Alike.refl U.vm) qK, qD⟩, va_recv hKc hPc (ci := 0) (q0 := 0) rfl rfl, fun U hU hW => ⟨rfl, by rw [hU], by rw [hU]; exact hPc, va_K.moved hW.alike hKc, hDc.weaken (fun _ _ _ _ => trivial)⟩⟩ rfl rfl hl.1 rfl (lv_room (Nat.le_of_ble_eq_true rfl)) dX7_feed_36 ⟨(Nat.le_of_ble_eq_true rfl), (Nat.le_of_ble_eq_true rfl)⟩) hS (fun q _ h => hFc q h) hFc (fun u t H1 locs ht hvm hw hB hz1 hk1 hS => ?_)
  obtain ⟨f_95, hP1, hK1, hD1⟩ := hB
  rw [ht] at hP1
  have hK1 := va_K.moved hvm.symm hK1
  obtain ⟨hP, hD⟩ := va_join (wr := [(x, .inr (7, [.int h, .int r, .ref xt, .ref xo, .ref xh, .ref xs, .ref xm, .ref xq]))]) (w1 := [(xt, .inr (0, [.ref xtw, .int 12])), (xtw, .inl (cT, 50, .inl f_95))]) hP hD [1, 2] [0] rfl rfl (by decide) (by decide) hk1 hFc hP1 hD1
  have hK := hK.sub (tys' := []) [] rfl
  have hK := hK.app hK1
  generalize H1 = H at hP hS ⊢
  have hP : va_P (dC, dI) classes [(x, .inr (7, [.int h, .int r, .ref xt, .ref xo, .ref xh, .ref xs, .ref xm, .ref xq])), (xt, .inr (0, [.ref xtw, .int 12])), (xtw, .inl (cT, 50, .inl f_95))] H := hP
  have hD : va_D A [(x, .inr (7, [.int h, .int r, .ref xt, .ref xo, .ref xh, .ref xs, .ref xm, .ref xq])), (xt, .inr (0, [.ref xtw, .int 12])), (xtw, .inl (cT, 50, .inl f_95))] := hD
  have hK : va_K (dC, dI) classes [(cT, .int)] s := hK
  refine W.widen (k := 0) (n := 0) (Nat.le_of_ble_eq_true rfl) (Nat.le_of_ble_eq_true rfl) ?_
  refine lv_aload_n hx hb dX7_feed_39 rfl (lv_at hl 0 rfl) ?_
  refine va_get (D := (dC, dI)) (ci := 7) (v := .ref xt) (C := RX7) (T := TX7) (N := 8) hx hb hts iX7_feed_X7 hown hK hP 0 rfl rfl 2 (by decide) (hts (.fieldLink RX7 30 "LeafSigner" "tape" "LLeafSigner$ByteRow;") (List.mem_of_getElem? (i := 1) rfl)) (fun _ h9 => h9) rfl dX7_feed_40 ?_
  refine lv_iload hx hb dX7_feed_43 (lv_at hl 4 rfl) ?_
  have hPc := hP.sub (ws' := [(xt, .inr (0, [.ref xtw, .int 12])), (xtw, .inl (cT, 50, .inl f_95))]) [1, 2] rfl
  have hDc := hD.sub (ws' := [(xt, .inr (0, [.ref xtw, .int 12])), (xtw, .inl (cT, 50, .inl f_95))]) [1, 2] (by decide) rfl
  have hKc := hK.sub (tys' := [(cT, .int)]) [0] rfl
  have hFc := va_free (wc := [(xt, .inr (0, [.ref xtw, .int 12])), (xtw, .inl (cT, 50, .inl f_95))]) hD hS hA [1, 2] rfl
  refine va_callv (va_runV (As := [.int k4]) (rest := []) ⟨hx, hb, hml, hown, hts⟩ (ct_append l dC dI H.size xt k4 xtw 12 cT f_95 16 (by decide) (vx_in (by decide)) (by decide)) (cwV 1 hts gX7_feed_X0_append_66 rfl rfl rfl (by decide +kernel) ⟨(Nat.le_of_ble_eq_true rfl), (Nat.le_of_ble_eq_true rfl)⟩) ⟨fun a U g mk q => by obtain ⟨q0, q1, qP, qK, qD⟩ := q; exact ⟨q0, q1, qP, va_K.moved (u := U) (U := U.calling g mk a) (Vm.Alike.refl U.vm) qK, qD⟩, va_recv hKc hPc (ci := 0) (q0 := 0) rfl rfl, fun U hU hW => ⟨rfl, by rw [hU], by rw [hU]; exact hPc, va_K.moved hW.alike hKc, hDc.weaken (fun _ _ _ _ => trivial)⟩⟩ rfl rfl hl.1 rfl (lv_room (Nat.le_of_ble_eq_true rfl)) dX7_feed_45 ⟨(Nat.le_of_ble_eq_true rfl), (Nat.le_of_ble_eq_true rfl)⟩) hS (fun q _ h => hFc q h) hFc (fun u t H1 locs ht hvm hw hB hz1 hk1 hS => ?_)
  obtain ⟨f_97, hP1, hK1, hD1⟩ := hB
  rw [ht] at hP1
  have hK1 := va_K.moved hvm.symm hK1
  obtain ⟨hP, hD⟩ := va_join (wr := [(x, .inr (7, [.int h, .int r, .ref xt, .ref xo, .ref xh, .ref xs, .ref xm, .ref xq]))]) (w1 := [(xt, .inr (0, [.ref xtw, .int 16])), (xtw, .inl (cT, 50, .inl f_97))]) hP hD [1, 2] [0] rfl rfl (by decide) (by decide) hk1 hFc hP1 hD1
  have hK := hK.sub (tys' := []) [] rfl
  have hK := hK.app hK1
  generalize H1 = H at hP hS ⊢
  have hP : va_P (dC, dI) classes [(x, .inr (7, [.int h, .int r, .ref xt, .ref xo, .ref xh, .ref xs, .ref xm, .ref xq])), (xt, .inr (0, [.ref xtw, .int 16])), (xtw, .inl (cT, 50, .inl f_97))] H := hP
  have hD : va_D A [(x, .inr (7, [.int h, .int r, .ref xt, .ref xo, .ref xh, .ref xs, .ref xm, .ref xq])), (xt, .inr (0, [.ref xtw, .int 16])), (xtw, .inl (cT, 50, .inl f_97))] := hD
  have hK : va_K (dC, dI) classes [(cT, .int)] s := hK
  refine W.widen (k := 0) (n := 0) (Nat.le_of_ble_eq_true rfl) (Nat.le_of_ble_eq_true rfl) ?_
  refine lv_aload_n hx hb dX7_feed_48 rfl (lv_at hl 0 rfl) ?_
  refine va_get (D := (dC, dI)) (ci := 7) (v := .ref xt) (C := RX7) (T := TX7) (N := 8) hx hb hts iX7_feed_X7 hown hK hP 0 rfl rfl 2 (by decide) (hts (.fieldLink RX7 30 "LeafSigner" "tape" "LLeafSigner$ByteRow;") (List.mem_of_getElem? (i := 1) rfl)) (fun _ h9 => h9) rfl dX7_feed_49 ?_
  refine lv_iload hx hb dX7_feed_52 (lv_at hl 5 rfl) ?_
  have hPc := hP.sub (ws' := [(xt, .inr (0, [.ref xtw, .int 16])), (xtw, .inl (cT, 50, .inl f_97))]) [1, 2] rfl
  have hDc := hD.sub (ws' := [(xt, .inr (0, [.ref xtw, .int 16])), (xtw, .inl (cT, 50, .inl f_97))]) [1, 2] (by decide) rfl
  have hKc := hK.sub (tys' := [(cT, .int)]) [0] rfl
  have hFc := va_free (wc := [(xt, .inr (0, [.ref xtw, .int 16])), (xtw, .inl (cT, 50, .inl f_97))]) hD hS hA [1, 2] rfl
  refine va_callv (va_runV (As := [.int k5]) (rest := []) ⟨hx, hb, hml, hown, hts⟩ (ct_append l dC dI H.size xt k5 xtw 16 cT f_97 20 (by decide) (vx_in (by decide)) (by decide)) (cwV 1 hts gX7_feed_X0_append_66 rfl rfl rfl (by decide +kernel) ⟨(Nat.le_of_ble_eq_true rfl), (Nat.le_of_ble_eq_true rfl)⟩) ⟨fun a U g mk q => by obtain ⟨q0, q1, qP, qK, qD⟩ := q; exact ⟨q0, q1, qP, va_K.moved (u := U) (U := U.calling g mk a) (Vm.Alike.refl U.vm) qK, qD⟩, va_recv hKc hPc (ci := 0) (q0 := 0) rfl rfl, fun U hU hW => ⟨rfl, by rw [hU], by rw [hU]; exact hPc, va_K.moved hW.alike hKc, hDc.weaken (fun _ _ _ _ => trivial)⟩⟩ rfl rfl hl.1 rfl (lv_room (Nat.le_of_ble_eq_true rfl)) dX7_feed_54 ⟨(Nat.le_of_ble_eq_true rfl), (Nat.le_of_ble_eq_true rfl)⟩) hS (fun q _ h => hFc q h) hFc (fun u t H1 locs ht hvm hw hB hz1 hk1 hS => ?_)
  obtain ⟨f_99, hP1, hK1, hD1⟩ := hB
  rw [ht] at hP1
  have hK1 := va_K.moved hvm.symm hK1
  obtain ⟨hP, hD⟩ := va_join (wr := [(x, .inr (7, [.int h, .int r, .ref xt, .ref xo, .ref xh, .ref xs, .ref xm, .ref xq]))]) (w1 := [(xt, .inr (0, [.ref xtw, .int 20])), (xtw, .inl (cT, 50, .inl f_99))]) hP hD [1, 2] [0] rfl rfl (by decide) (by decide) hk1 hFc hP1 hD1
  have hK := hK.sub (tys' := []) [] rfl
  have hK := hK.app hK1
  generalize H1 = H at hP hS ⊢
  have hP : va_P (dC, dI) classes [(x, .inr (7, [.int h, .int r, .ref xt, .ref xo, .ref xh, .ref xs, .ref xm, .ref xq])), (xt, .inr (0, [.ref xtw, .int 20])), (xtw, .inl (cT, 50, .inl f_99))] H := hP
  have hD : va_D A [(x, .inr (7, [.int h, .int r, .ref xt, .ref xo, .ref xh, .ref xs, .ref xm, .ref xq])), (xt, .inr (0, [.ref xtw, .int 20])), (xtw, .inl (cT, 50, .inl f_99))] := hD
  have hK : va_K (dC, dI) classes [(cT, .int)] s := hK
  refine W.widen (k := 0) (n := 0) (Nat.le_of_ble_eq_true rfl) (Nat.le_of_ble_eq_true rfl) ?_
  refine lv_aload_n hx hb dX7_feed_57 rfl (lv_at hl 0 rfl) ?_
  refine va_get (D := (dC, dI)) (ci := 7) (v := .ref xt) (C := RX7) (T := TX7) (N := 8) hx hb hts iX7_feed_X7 hown hK hP 0 rfl rfl 2 (by decide) (hts (.fieldLink RX7 30 "LeafSigner" "tape" "LLeafSigner$ByteRow;") (List.mem_of_getElem? (i := 1) rfl)) (fun _ h9 => h9) rfl dX7_feed_58 ?_
  refine va_get (D := (dC, dI)) (ci := 0) (v := .int 20) (C := RX0) (T := TX0) (N := 2) hx hb hts iX7_feed_X0 hown hK hP 1 rfl rfl 1 (by decide) (hts (.fieldLink RX7 63 "LeafSigner$ByteRow" "count" "I") (List.mem_of_getElem? (i := 2) rfl)) (fun _ h9 => h9) rfl dX7_feed_61 ?_
  refine W.widen (k := 0) (n := 0) (Nat.le_of_ble_eq_true rfl) (Nat.le_of_ble_eq_true rfl) ?_
  exact W.iret (v := 20) hx hb hr (fun t ht hW => ⟨⟨20, (), rfl, rfl, trivial⟩, hS.F ht⟩) hS.2.2 dX7_feed_64
