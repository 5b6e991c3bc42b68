def ww_X7_about : List Cond := .code yX7_about cX7_about 3 (some .int) :: ([.fieldLink RX7 52 "LeafSigner" "machine" "LLeafSigner$Machine;", .fieldLink RX7 84 "LeafSigner$Machine" "state" "I", .methodLink RX7 145 yX3_countOf, .instanceMethod yX3_countOf, .selects RX3 yX3_countOf yX3_countOf, .initialized RX3, .code yX3_countOf cX3_countOf 4 (some .int), .fieldLink RX3 7 "LeafSigner$Machine" "fates" "[I", .fieldLink RX7 43 "LeafSigner" "store" "LLeafSigner$Disk;", .fieldLink RX7 148 "LeafSigner$Disk" "written" "I", .fieldLink RX7 101 "LeafSigner$Disk" "fuseLeft" "I", .fieldLink RX7 30 "LeafSigner" "tape" "LLeafSigner$ByteRow;", .fieldLink RX7 63 "LeafSigner$ByteRow" "count" "I", .fieldLink RX7 34 "LeafSigner" "output" "LLeafSigner$ByteRow;", .fieldLink RX7 37 "LeafSigner" "held" "LLeafSigner$ByteRow;", .fieldLink RX7 18 "LeafSigner" "height" "I", .fieldLink RX7 22 "LeafSigner" "reserve" "I"] ++ (wsX70 ++ wsX30 ++ wsX10 ++ wsX00))
theorem iX7_about_X7 : ∀ w ∈ wsX70, w ∈ ww_X7_about := fun w h => List.mem_cons_of_mem _ (List.mem_append_right _ (List.mem_append_left _ (List.mem_append_left _ (List.mem_append_left _ h))))
theorem iX7_about_X3 : ∀ w ∈ wsX30, w ∈ ww_X7_about := fun w h => List.mem_cons_of_mem _ (List.mem_append_right _ (List.mem_append_left _ (List.mem_append_left _ (List.mem_append_right _ h))))
theorem iX7_about_X1 : ∀ w ∈ wsX10, w ∈ ww_X7_about := fun w h => List.mem_cons_of_mem _ (List.mem_append_right _ (List.mem_append_left _ (List.mem_append_right _ h)))
theorem iX7_about_X0 : ∀ w ∈ wsX00, w ∈ ww_X7_about := fun w h => List.mem_cons_of_mem _ (List.mem_append_right _ (List.mem_append_right _ h))
set_option maxRecDepth 20000 in
theorem gX7_about_X3_countOf_145 : GoodIn ww_X7_about (wsV RX7 145 RX3 yX3_countOf ww_X3_countOf) := vx_good _ [3, 4, 5, 6, 7, 8, 26, 27, 28, 29, 30, 31, 32] rfl (by decide +kernel)
set_option maxHeartbeats 4000000 in
set_option maxRecDepth 100000 in
theorem ct_about (l : Launch) (dC : Nat → ClassId) (dI : Nat → Nat → Nat) (sz : Nat) (x : Nat) (k : Int32) (h : Int32) (r : Int32) (xt : Nat) (xo : Nat) (xh : Nat) (xs : Nat) (xm : Nat) (xq : Nat) (xtw : Nat) (xow : Nat) (xhw : Nat) (xb : Nat) (xf : Nat) (cF : ClassId) (NF : Nat) (hN : NF < 2 ^ 31) : Met l yX7_about ww_X7_about ({ frames := 1, cells := 0, slots := 0, locals := 23 }) (va_Pc [.ref x, .int k] (fun U => U.heap.size = sz ∧ va_P (dC, dI) classes [(x, .inr (7, [.int h, .int r, .ref xt, .ref xo, .ref xh, .ref xs, .ref xm, .ref xq])), (xt, .inr (0, [.ref xtw, .int 0])), (xo, .inr (0, [.ref xow, .int 0])), (xh, .inr (0, [.ref xhw, .int 0])), (xs, .inr (1, [.ref xb, .int 0, .int (-1)])), (xm, .inr (3, [.ref xf, .int r, .ref xs, .int 0, .int 0, .int 0, .int 0])), (xf, .inl (cF, NF, .inl (fun _ => 0)))] U.heap ∧ va_K (dC, dI) classes [(cF, .int)] U ∧ va_D (fun _ => True) [(x, .inr (7, [.int h, .int r, .ref xt, .ref xo, .ref xh, .ref xs, .ref xm, .ref xq])), (xt, .inr (0, [.ref xtw, .int 0])), (xo, .inr (0, [.ref xow, .int 0])), (xh, .inr (0, [.ref xhw, .int 0])), (xs, .inr (1, [.ref xb, .int 0, .int (-1)])), (xm, .inr (3, [.ref xf, .int r, .ref xs, .int 0, .int 0, .int 0, .int 0])), (xf, .inl (cF, NF, .inl (fun _ => 0)))])) (va_Qi (fun (ra : Int32) (_ : Unit) => ra = fk_about k h r) (fun (_ : Unit) (_ : State) => True) (va_A [(x, .inr (7, [.int h, .int r, .ref xt, .ref xo, .ref xh, .ref xs, .ref xm, .ref xq])), (xt, .inr (0, [.ref xtw, .int 0])), (xo, .inr (0, [.ref xow, .int 0])), (xh, .inr (0, [.ref xhw, .int 0])), (xs, .inr (1, [.ref xb, .int 0, .int (-1)])), (xm, .inr (3, [.ref xf, .int r, .ref xs, .int 0, .int 0, .int 0, .int 0])), (xf, .inl (cF, NF, .inl (fun _ => 0)))] sz)) 0 0 (va_A [(x, .inr (7, [.int h, .int r, .ref xt, .ref xo, .ref xh, .ref xs, .ref xm, .ref xq])), (xt, .inr (0, [.ref xtw, .int 0])), (xo, .inr (0, [.ref xow, .int 0])), (xh, .inr (0, [.ref xhw, .int 0])), (xs, .inr (1, [.ref xb, .int 0, .int (-1)])), (xm, .inr (3, [.ref xf, .int r, .ref xs, .int 0, .int 0, .int 0, .int 0])), (xf, .inl (cF, NF, .inl (fun _ => 0)))] sz) := by
  refine Met.ofW (cc := cX7_about) (maxL := 3) (ret := (some .int)) (by decide) rfl ?_
  intro p e s m args below meth c s₁ B hml hv
  obtain ⟨rfl, hsz, hP, hK, hD0⟩ := hv
  have hx := B.exec
  have hb := B.bytes
  have hr := B.returns
  have hts := atoms_spec (ws := ww_X7_about) B.pre
  have hown : s.vm.findClass RX7 = some m.cls := findClass_of_methodNamed B.named
  have hlocks := B.notSynchronized
  subst hsz
  have hD := hD0.self (sz := s.heap.size)
  generalize hAe : va_A [(x, .inr (7, [.int h, .int r, .ref xt, .ref xo, .ref xh, .ref xs, .ref xm, .ref xq])), (xt, .inr (0, [.ref xtw, .int 0])), (xo, .inr (0, [.ref xow, .int 0])), (xh, .inr (0, [.ref xhw, .int 0])), (xs, .inr (1, [.ref xb, .int 0, .int (-1)])), (xm, .inr (3, [.ref xf, .int r, .ref xs, .int 0, .int 0, .int 0, .int 0])), (xf, .inl (cF, NF, .inl (fun _ => 0)))] s.heap.size = A at hD ⊢
  have hA : ∀ q : Nat, s.heap.size ≤ q → A q := fun q h => by rw [← hAe]; exact Or.inr h
  have hS : va_S A s.heap s.heap [] := va_S.rf
  have hP : va_P (dC, dI) classes [(x, .inr (7, [.int h, .int r, .ref xt, .ref xo, .ref xh, .ref xs, .ref xm, .ref xq])), (xt, .inr (0, [.ref xtw, .int 0])), (xo, .inr (0, [.ref xow, .int 0])), (xh, .inr (0, [.ref xhw, .int 0])), (xs, .inr (1, [.ref xb, .int 0, .int (-1)])), (xm, .inr (3, [.ref xf, .int r, .ref xs, .int 0, .int 0, .int 0, .int 0])), (xf, .inl (cF, NF, .inl (fun _ => 0)))] s.heap := hP
  have hl := lv_entry ([.ref x, .int k]) (n := 3) (Nat.le_of_ble_eq_true rfl)
  rw [lg_entry_eq]
  generalize (lg_sl ([.ref x, .int k]) ++ List.replicate (3 - (lg_sl ([.ref x, .int k])).length) Slot.unset).toArray = ls at hl ⊢
  have hl : lv_has ls 3 [(0, .ref x), (1, .int k)] := hl
  generalize hHe : s.heap = H at hP ⊢
  have hS : va_S A s.heap H [] := by rw [← hHe]; exact va_S.rf
  refine lv_aload_n hx hb dX7_about_0 rfl (lv_at hl 0 rfl) ?_
  refine va_get (D := (dC, dI)) (ci := 7) (v := .ref xm) (C := RX7) (T := TX7) (N := 8) hx hb hts iX7_about_X7 hown hK hP 0 rfl rfl 6 (by decide) (hts (.fieldLink RX7 52 "LeafSigner" "machine" "LLeafSigner$Machine;") (List.mem_of_getElem? (i := 1) rfl)) (fun _ h9 => h9) rfl dX7_about_1 ?_
  refine va_get (D := (dC, dI)) (ci := 3) (v := .int 0) (C := RX3) (T := TX3) (N := 7) hx hb hts iX7_about_X3 hown hK hP 5 rfl rfl 3 (by decide) (hts (.fieldLink RX7 84 "LeafSigner$Machine" "state" "I") (List.mem_of_getElem? (i := 2) rfl)) (fun _ h9 => h9) rfl dX7_about_4 ?_
  refine lv_iconst (v := 1) hx hb dX7_about_7 (by decide) ?_
  refine lv_icmp_ne (tgt := 15) hx hb dX7_about_8 (by decide) (fun c121 => ?_) (fun c121 => absurd c121 (by decide))
  refine lv_iconst (v := 0) hx hb dX7_about_15 (by decide) ?_
  refine lv_istore_n (lv' := [(2, .int 0), (0, .ref x), (1, .int k)]) hx hb dX7_about_16 rfl hl (by decide) rfl (fun ls hl => ?_)
  refine lv_iload_n hx hb dX7_about_17 rfl (lv_at hl 2 rfl) ?_
  by_cases c122 : k = 0
  · subst c122
    have hl : lv_has ls 3 [(2, .int 0), (0, .ref x), (1, .int 0)] := hl
    refine lv_tableIn (off := 62) (tgt := 80) hx hb dX7_about_18 (by decide) (by decide) (by decide) (by decide) ?_
    refine lv_aload_n hx hb dX7_about_80 rfl (lv_at hl 1 rfl) ?_
    refine va_get (D := (dC, dI)) (ci := 7) (v := .ref xm) (C := RX7) (T := TX7) (N := 8) hx hb hts iX7_about_X7 hown hK hP 0 rfl rfl 6 (by decide) (hts (.fieldLink RX7 52 "LeafSigner" "machine" "LLeafSigner$Machine;") (List.mem_of_getElem? (i := 1) rfl)) (fun _ h9 => h9) rfl dX7_about_81 ?_
    refine va_get (D := (dC, dI)) (ci := 3) (v := .int 0) (C := RX3) (T := TX3) (N := 7) hx hb hts iX7_about_X3 hown hK hP 5 rfl rfl 3 (by decide) (hts (.fieldLink RX7 84 "LeafSigner$Machine" "state" "I") (List.mem_of_getElem? (i := 2) rfl)) (fun _ h9 => h9) rfl dX7_about_84 ?_
    refine W.widen (k := 0) (n := 0) (Nat.le_of_ble_eq_true rfl) (Nat.le_of_ble_eq_true rfl) ?_
    exact W.iret (v := 0) hx hb hr (fun t ht hW => ⟨⟨0, (), rfl, rfl, trivial⟩, hS.F ht⟩) hS.2.2 dX7_about_87
  · by_cases c123 : k = 1
    · subst c123
      have hl : lv_has ls 3 [(2, .int 0), (0, .ref x), (1, .int 1)] := hl
      refine lv_tableIn (off := 70) (tgt := 88) hx hb dX7_about_18 (by decide) (by decide) (by decide) (by decide) ?_
      refine lv_iload_n hx hb dX7_about_88 rfl (lv_at hl 0 rfl) ?_
      refine lv_if_eq (tgt := 102) hx hb dX7_about_89 (by decide) (fun c124 => ?_) (fun c124 => absurd (by decide) c124)
      refine lv_iconst (v := (-1)) hx hb dX7_about_102 (by decide) ?_
      refine W.widen (k := 0) (n := 0) (Nat.le_of_ble_eq_true rfl) (Nat.le_of_ble_eq_true rfl) ?_
      exact W.iret (v := (-1)) hx hb hr (fun t ht hW => ⟨⟨(-1), (), rfl, rfl, trivial⟩, hS.F ht⟩) hS.2.2 dX7_about_103
    · by_cases c125 : k = 2
      · subst c125
        have hl : lv_has ls 3 [(2, .int 0), (0, .ref x), (1, .int 2)] := hl
        refine lv_tableIn (off := 86) (tgt := 104) hx hb dX7_about_18 (by decide) (by decide) (by decide) (by decide) ?_
        refine lv_iload_n hx hb dX7_about_104 rfl (lv_at hl 0 rfl) ?_
        refine lv_if_eq (tgt := 118) hx hb dX7_about_105 (by decide) (fun c126 => ?_) (fun c126 => absurd (by decide) c126)
        refine lv_iconst (v := (-1)) hx hb dX7_about_118 (by decide) ?_
        refine W.widen (k := 0) (n := 0) (Nat.le_of_ble_eq_true rfl) (Nat.le_of_ble_eq_true rfl) ?_
        exact W.iret (v := (-1)) hx hb hr (fun t ht hW => ⟨⟨(-1), (), rfl, rfl, trivial⟩, hS.F ht⟩) hS.2.2 dX7_about_119
      · by_cases c127 : k = 3
        · subst c127
          have hl : lv_has ls 3 [(2, .int 0), (0, .ref x), (1, .int 3)] := hl
          refine lv_tableIn (off := 102) (tgt := 120) hx hb dX7_about_18 (by decide) (by decide) (by decide) (by decide) ?_
          refine lv_aload_n hx hb dX7_about_120 rfl (lv_at hl 1 rfl) ?_
          refine va_get (D := (dC, dI)) (ci := 7) (v := .ref xm) (C := RX7) (T := TX7) (N := 8) hx hb hts iX7_about_X7 hown hK hP 0 rfl rfl 6 (by decide) (hts (.fieldLink RX7 52 "LeafSigner" "machine" "LLeafSigner$Machine;") (List.mem_of_getElem? (i := 1) rfl)) (fun _ h9 => h9) rfl dX7_about_121 ?_
          refine lv_iconst (v := 2) hx hb dX7_about_124 (by decide) ?_
          have hPc := hP.sub (ws' := [(xm, .inr (3, [.ref xf, .int r, .ref xs, .int 0, .int 0, .int 0, .int 0])), (xf, .inl (cF, NF, .inl (fun _ => 0)))]) [5, 6] rfl
          have hDc := hD.sub (ws' := [(xm, .inr (3, [.ref xf, .int r, .ref xs, .int 0, .int 0, .int 0, .int 0])), (xf, .inl (cF, NF, .inl (fun _ => 0)))]) [5, 6] (by decide) rfl
          have hKc := hK.sub (tys' := [(cF, .int)]) [0] rfl
          have hFc := va_free (wc := [(xm, .inr (3, [.ref xf, .int r, .ref xs, .int 0, .int 0, .int 0, .int 0])), (xf, .inl (cF, NF, .inl (fun _ => 0)))]) hD hS hA [5, 6] rfl
          refine va_calli (va_runV (As := [.int 2]) (rest := []) ⟨hx, hb, hml, hown, hts⟩ (ct_countOf l dC dI H.size xm 2 xf r xs cF NF hN (by decide)) (cwV 1 hts gX7_about_X3_countOf_145 rfl rfl rfl (by decide +kernel) ⟨(Nat.le_of_ble_eq_true rfl), (Nat.le_of_ble_eq_true rfl)⟩) ⟨fun a U g mk q => by obtain ⟨q0, q1, qP, qK, qD⟩ := q; exact ⟨q0, q1, qP, va_K.moved (u := U) (U := U.calling g mk a) (Vm.Alike.refl U.vm) qK, qD⟩, va_recv hKc hPc (ci := 3) (q0 := 0) rfl rfl, fun U hU hW => ⟨rfl, by rw [hU], by rw [hU]; exact hPc, va_K.moved hW.alike hKc, hDc.weaken (fun _ _ _ _ => trivial)⟩⟩ rfl rfl hl.1 rfl (lv_room (Nat.le_of_ble_eq_true rfl)) dX7_about_125 ⟨(Nat.le_of_ble_eq_true rfl), (Nat.le_of_ble_eq_true rfl)⟩) hS (fun q _ h => hFc q h) hFc (fun r128 u t H1 locs ht hvm hw hB hz1 hk1 hS => ?_)
          have hP1 : va_P (dC, dI) classes [] H1 := vx_P0
          have hD1 : va_D (va_A [(xm, .inr (3, [.ref xf, .int r, .ref xs, .int 0, .int 0, .int 0, .int 0])), (xf, .inl (cF, NF, .inl (fun _ => 0)))] H.size) [] := vx_D0
          obtain ⟨hP, hD⟩ := va_join (wr := [(x, .inr (7, [.int h, .int r, .ref xt, .ref xo, .ref xh, .ref xs, .ref xm, .ref xq])), (xt, .inr (0, [.ref xtw, .int 0])), (xo, .inr (0, [.ref xow, .int 0])), (xh, .inr (0, [.ref xhw, .int 0])), (xs, .inr (1, [.ref xb, .int 0, .int (-1)]))]) (w1 := []) hP hD [5, 6] [0, 1, 2, 3, 4] rfl rfl (by decide) (by decide) hk1 hFc hP1 hD1
          have hK := hK.sub (tys' := []) [] rfl
          generalize H1 = H at hP hS ⊢
          have hP : va_P (dC, dI) classes [(x, .inr (7, [.int h, .int r, .ref xt, .ref xo, .ref xh, .ref xs, .ref xm, .ref xq])), (xt, .inr (0, [.ref xtw, .int 0])), (xo, .inr (0, [.ref xow, .int 0])), (xh, .inr (0, [.ref xhw, .int 0])), (xs, .inr (1, [.ref xb, .int 0, .int (-1)]))] H := hP
          have hD : va_D A [(x, .inr (7, [.int h, .int r, .ref xt, .ref xo, .ref xh, .ref xs, .ref xm, .ref xq])), (xt, .inr (0, [.ref xtw, .int 0])), (xo, .inr (0, [.ref xow, .int 0])), (xh, .inr (0, [.ref xhw, .int 0])), (xs, .inr (1, [.ref xb, .int 0, .int (-1)]))] := hD
          have hK : va_K (dC, dI) classes [] s := hK
          refine W.widen (k := 0) (n := 0) (Nat.le_of_ble_eq_true rfl) (Nat.le_of_ble_eq_true rfl) ?_
          try dsimp only at hw
          obtain rfl : r128 = 0 := hw
          refine W.widen (k := 0) (n := 0) (Nat.le_of_ble_eq_true rfl) (Nat.le_of_ble_eq_true rfl) ?_
          exact W.iret (v := 0) hx hb hr (fun t ht hW => ⟨⟨0, (), rfl, rfl, trivial⟩, hS.F ht⟩) hS.2.2 dX7_about_128
        · by_cases c129 : k = 4
          · subst c129
            have hl : lv_has ls 3 [(2, .int 0), (0, .ref x), (1, .int 4)] := hl
            refine lv_tableIn (off := 111) (tgt := 129) hx hb dX7_about_18 (by decide) (by decide) (by decide) (by decide) ?_
            refine lv_aload_n hx hb dX7_about_129 rfl (lv_at hl 1 rfl) ?_
            refine va_get (D := (dC, dI)) (ci := 7) (v := .ref xm) (C := RX7) (T := TX7) (N := 8) hx hb hts iX7_about_X7 hown hK hP 0 rfl rfl 6 (by decide) (hts (.fieldLink RX7 52 "LeafSigner" "machine" "LLeafSigner$Machine;") (List.mem_of_getElem? (i := 1) rfl)) (fun _ h9 => h9) rfl dX7_about_130 ?_
            refine lv_iconst (v := 3) hx hb dX7_about_133 (by decide) ?_
            have hPc := hP.sub (ws' := [(xm, .inr (3, [.ref xf, .int r, .ref xs, .int 0, .int 0, .int 0, .int 0])), (xf, .inl (cF, NF, .inl (fun _ => 0)))]) [5, 6] rfl
            have hDc := hD.sub (ws' := [(xm, .inr (3, [.ref xf, .int r, .ref xs, .int 0, .int 0, .int 0, .int 0])), (xf, .inl (cF, NF, .inl (fun _ => 0)))]) [5, 6] (by decide) rfl
            have hKc := hK.sub (tys' := [(cF, .int)]) [0] rfl
            have hFc := va_free (wc := [(xm, .inr (3, [.ref xf, .int r, .ref xs, .int 0, .int 0, .int 0, .int 0])), (xf, .inl (cF, NF, .inl (fun _ => 0)))]) hD hS hA [5, 6] rfl
            refine va_calli (va_runV (As := [.int 3]) (rest := []) ⟨hx, hb, hml, hown, hts⟩ (ct_countOf l dC dI H.size xm 3 xf r xs cF NF hN (by decide)) (cwV 1 hts gX7_about_X3_countOf_145 rfl rfl rfl (by decide +kernel) ⟨(Nat.le_of_ble_eq_true rfl), (Nat.le_of_ble_eq_true rfl)⟩) ⟨fun a U g mk q => by obtain ⟨q0, q1, qP, qK, qD⟩ := q; exact ⟨q0, q1, qP, va_K.moved (u := U) (U := U.calling g mk a) (Vm.Alike.refl U.vm) qK, qD⟩, va_recv hKc hPc (ci := 3) (q0 := 0) rfl rfl, fun U hU hW => ⟨rfl, by rw [hU], by rw [hU]; exact hPc, va_K.moved hW.alike hKc, hDc.weaken (fun _ _ _ _ => trivial)⟩⟩ rfl rfl hl.1 rfl (lv_room (Nat.le_of_ble_eq_true rfl)) dX7_about_134 ⟨(Nat.le_of_ble_eq_true rfl), (Nat.le_of_ble_eq_true rfl)⟩) hS (fun q _ h => hFc q h) hFc (fun r130 u t H1 locs ht hvm hw hB hz1 hk1 hS => ?_)
            have hP1 : va_P (dC, dI) classes [] H1 := vx_P0
            have hD1 : va_D (va_A [(xm, .inr (3, [.ref xf, .int r, .ref xs, .int 0, .int 0, .int 0, .int 0])), (xf, .inl (cF, NF, .inl (fun _ => 0)))] H.size) [] := vx_D0
            obtain ⟨hP, hD⟩ := va_join (wr := [(x, .inr (7, [.int h, .int r, .ref xt, .ref xo, .ref xh, .ref xs, .ref xm, .ref xq])), (xt, .inr (0, [.ref xtw, .int 0])), (xo, .inr (0, [.ref xow, .int 0])), (xh, .inr (0, [.ref xhw, .int 0])), (xs, .inr (1, [.ref xb, .int 0, .int (-1)]))]) (w1 := []) hP hD [5, 6] [0, 1, 2, 3, 4] rfl rfl (by decide) (by decide) hk1 hFc hP1 hD1
            have hK := hK.sub (tys' := []) [] rfl
            generalize H1 = H at hP hS ⊢
            have hP : va_P (dC, dI) classes [(x, .inr (7, [.int h, .int r, .ref xt, .ref xo, .ref xh, .ref xs, .ref xm, .ref xq])), (xt, .inr (0, [.ref xtw, .int 0])), (xo, .inr (0, [.ref xow, .int 0])), (xh, .inr (0, [.ref xhw, .int 0])), (xs, .inr (1, [.ref xb, .int 0, .int (-1)]))] H := hP
            have hD : va_D A [(x, .inr (7, [.int h, .int r, .ref xt, .ref xo, .ref xh, .ref xs, .ref xm, .ref xq])), (xt, .inr (0, [.ref xtw, .int 0])), (xo, .inr (0, [.ref xow, .int 0])), (xh, .inr (0, [.ref xhw, .int 0])), (xs, .inr (1, [.ref xb, .int 0, .int (-1)]))] := hD
            have hK : va_K (dC, dI) classes [] s := hK
            refine W.widen (k := 0) (n := 0) (Nat.le_of_ble_eq_true rfl) (Nat.le_of_ble_eq_true rfl) ?_
            try dsimp only at hw
            obtain rfl : r130 = 0 := hw
            refine W.widen (k := 0) (n := 0) (Nat.le_of_ble_eq_true rfl) (Nat.le_of_ble_eq_true rfl) ?_
            exact W.iret (v := 0) hx hb hr (fun t ht hW => ⟨⟨0, (), rfl, rfl, trivial⟩, hS.F ht⟩) hS.2.2 dX7_about_137
          · by_cases c131 : k = 5
            · subst c131
              have hl : lv_has ls 3 [(2, .int 0), (0, .ref x), (1, .int 5)] := hl
              refine lv_tableIn (off := 120) (tgt := 138) hx hb dX7_about_18 (by decide) (by decide) (by decide) (by decide) ?_
              refine lv_aload_n hx hb dX7_about_138 rfl (lv_at hl 1 rfl) ?_
              refine va_get (D := (dC, dI)) (ci := 7) (v := .ref xs) (C := RX7) (T := TX7) (N := 8) hx hb hts iX7_about_X7 hown hK hP 0 rfl rfl 5 (by decide) (hts (.fieldLink RX7 43 "LeafSigner" "store" "LLeafSigner$Disk;") (List.mem_of_getElem? (i := 9) rfl)) (fun _ h9 => h9) rfl dX7_about_139 ?_
              refine va_get (D := (dC, dI)) (ci := 1) (v := .int 0) (C := RX1) (T := TX1) (N := 3) hx hb hts iX7_about_X1 hown hK hP 4 rfl rfl 1 (by decide) (hts (.fieldLink RX7 148 "LeafSigner$Disk" "written" "I") (List.mem_of_getElem? (i := 10) rfl)) (fun _ h9 => h9) rfl dX7_about_142 ?_
              refine W.widen (k := 0) (n := 0) (Nat.le_of_ble_eq_true rfl) (Nat.le_of_ble_eq_true rfl) ?_
              exact W.iret (v := 0) hx hb hr (fun t ht hW => ⟨⟨0, (), rfl, rfl, trivial⟩, hS.F ht⟩) hS.2.2 dX7_about_145
            · by_cases c132 : k = 6
              · subst c132
                have hl : lv_has ls 3 [(2, .int 0), (0, .ref x), (1, .int 6)] := hl
                refine lv_tableIn (off := 128) (tgt := 146) hx hb dX7_about_18 (by decide) (by decide) (by decide) (by decide) ?_
                refine lv_aload_n hx hb dX7_about_146 rfl (lv_at hl 1 rfl) ?_
                refine va_get (D := (dC, dI)) (ci := 7) (v := .ref xs) (C := RX7) (T := TX7) (N := 8) hx hb hts iX7_about_X7 hown hK hP 0 rfl rfl 5 (by decide) (hts (.fieldLink RX7 43 "LeafSigner" "store" "LLeafSigner$Disk;") (List.mem_of_getElem? (i := 9) rfl)) (fun _ h9 => h9) rfl dX7_about_147 ?_
                refine va_get (D := (dC, dI)) (ci := 1) (v := .int (-1)) (C := RX1) (T := TX1) (N := 3) hx hb hts iX7_about_X1 hown hK hP 4 rfl rfl 2 (by decide) (hts (.fieldLink RX7 101 "LeafSigner$Disk" "fuseLeft" "I") (List.mem_of_getElem? (i := 11) rfl)) (fun _ h9 => h9) rfl dX7_about_150 ?_
                refine W.widen (k := 0) (n := 0) (Nat.le_of_ble_eq_true rfl) (Nat.le_of_ble_eq_true rfl) ?_
                exact W.iret (v := (-1)) hx hb hr (fun t ht hW => ⟨⟨(-1), (), rfl, rfl, trivial⟩, hS.F ht⟩) hS.2.2 dX7_about_153
              · by_cases c133 : k = 7
                · subst c133
                  have hl : lv_has ls 3 [(2, .int 0), (0, .ref x), (1, .int 7)] := hl
                  refine lv_tableIn (off := 136) (tgt := 154) hx hb dX7_about_18 (by decide) (by decide) (by decide) (by decide) ?_
                  refine lv_aload_n hx hb dX7_about_154 rfl (lv_at hl 1 rfl) ?_
                  refine va_get (D := (dC, dI)) (ci := 7) (v := .ref xt) (C := RX7) (T := TX7) (N := 8) hx hb hts iX7_about_X7 hown hK hP 0 rfl rfl 2 (by decide) (hts (.fieldLink RX7 30 "LeafSigner" "tape" "LLeafSigner$ByteRow;") (List.mem_of_getElem? (i := 12) rfl)) (fun _ h9 => h9) rfl dX7_about_155 ?_
                  refine va_get (D := (dC, dI)) (ci := 0) (v := .int 0) (C := RX0) (T := TX0) (N := 2) hx hb hts iX7_about_X0 hown hK hP 1 rfl rfl 1 (by decide) (hts (.fieldLink RX7 63 "LeafSigner$ByteRow" "count" "I") (List.mem_of_getElem? (i := 13) rfl)) (fun _ h9 => h9) rfl dX7_about_158 ?_
                  refine W.widen (k := 0) (n := 0) (Nat.le_of_ble_eq_true rfl) (Nat.le_of_ble_eq_true rfl) ?_
                  exact W.iret (v := 0) hx hb hr (fun t ht hW => ⟨⟨0, (), rfl, rfl, trivial⟩, hS.F ht⟩) hS.2.2 dX7_about_161
                · by_cases c134 : k = 8
                  · subst c134
                    have hl : lv_has ls 3 [(2, .int 0), (0, .ref x), (1, .int 8)] := hl
                    refine lv_tableIn (off := 144) (tgt := 162) hx hb dX7_about_18 (by decide) (by decide) (by decide) (by decide) ?_
                    refine lv_aload_n hx hb dX7_about_162 rfl (lv_at hl 1 rfl) ?_
                    refine va_get (D := (dC, dI)) (ci := 7) (v := .ref xo) (C := RX7) (T := TX7) (N := 8) hx hb hts iX7_about_X7 hown hK hP 0 rfl rfl 3 (by decide) (hts (.fieldLink RX7 34 "LeafSigner" "output" "LLeafSigner$ByteRow;") (List.mem_of_getElem? (i := 14) rfl)) (fun _ h9 => h9) rfl dX7_about_163 ?_
                    refine va_get (D := (dC, dI)) (ci := 0) (v := .int 0) (C := RX0) (T := TX0) (N := 2) hx hb hts iX7_about_X0 hown hK hP 2 rfl rfl 1 (by decide) (hts (.fieldLink RX7 63 "LeafSigner$ByteRow" "count" "I") (List.mem_of_getElem? (i := 13) rfl)) (fun _ h9 => h9) rfl dX7_about_166 ?_
                    refine W.widen (k := 0) (n := 0) (Nat.le_of_ble_eq_true rfl) (Nat.le_of_ble_eq_true rfl) ?_
                    exact W.iret (v := 0) hx hb hr (fun t ht hW => ⟨⟨0, (), rfl, rfl, trivial⟩, hS.F ht⟩) hS.2.2 dX7_about_169
                  · by_cases c135 : k = 9
                    · subst c135
                      have hl : lv_has ls 3 [(2, .int 0), (0, .ref x), (1, .int 9)] := hl
                      refine lv_tableIn (off := 152) (tgt := 170) hx hb dX7_about_18 (by decide) (by decide) (by decide) (by decide) ?_
                      refine lv_aload_n hx hb dX7_about_170 rfl (lv_at hl 1 rfl) ?_
                      refine va_get (D := (dC, dI)) (ci := 7) (v := .ref xh) (C := RX7) (T := TX7) (N := 8) hx hb hts iX7_about_X7 hown hK hP 0 rfl rfl 4 (by decide) (hts (.fieldLink RX7 37 "LeafSigner" "held" "LLeafSigner$ByteRow;") (List.mem_of_getElem? (i := 15) rfl)) (fun _ h9 => h9) rfl dX7_about_171 ?_
                      refine va_get (D := (dC, dI)) (ci := 0) (v := .int 0) (C := RX0) (T := TX0) (N := 2) hx hb hts iX7_about_X0 hown hK hP 3 rfl rfl 1 (by decide) (hts (.fieldLink RX7 63 "LeafSigner$ByteRow" "count" "I") (List.mem_of_getElem? (i := 13) rfl)) (fun _ h9 => h9) rfl dX7_about_174 ?_
                      refine W.widen (k := 0) (n := 0) (Nat.le_of_ble_eq_true rfl) (Nat.le_of_ble_eq_true rfl) ?_
                      exact W.iret (v := 0) hx hb hr (fun t ht hW => ⟨⟨0, (), rfl, rfl, trivial⟩, hS.F ht⟩) hS.2.2 dX7_about_177
                    · by_cases c136 : k = 10
                      · subst c136
                        have hl : lv_has ls 3 [(2, .int 0), (0, .ref x), (1, .int 10)] := hl
                        refine lv_tableIn (off := 160) (tgt := 178) hx hb dX7_about_18 (by decide) (by decide) (by decide) (by decide) ?_
                        refine lv_aload_n hx hb dX7_about_178 rfl (lv_at hl 1 rfl) ?_
                        refine va_get (D := (dC, dI)) (ci := 7) (v := .int h) (C := RX7) (T := TX7) (N := 8) hx hb hts iX7_about_X7 hown hK hP 0 rfl rfl 0 (by decide) (hts (.fieldLink RX7 18 "LeafSigner" "height" "I") (List.mem_of_getElem? (i := 16) rfl)) (fun _ h9 => h9) rfl dX7_about_179 ?_
                        refine W.widen (k := 0) (n := 0) (Nat.le_of_ble_eq_true rfl) (Nat.le_of_ble_eq_true rfl) ?_
                        exact W.iret (v := h) hx hb hr (fun t ht hW => ⟨⟨h, (), rfl, rfl, trivial⟩, hS.F ht⟩) hS.2.2 dX7_about_182
                      · by_cases c137 : k = 11
                        · subst c137
                          have hl : lv_has ls 3 [(2, .int 0), (0, .ref x), (1, .int 11)] := hl
                          refine lv_tableIn (off := 165) (tgt := 183) hx hb dX7_about_18 (by decide) (by decide) (by decide) (by decide) ?_
                          refine lv_aload_n hx hb dX7_about_183 rfl (lv_at hl 1 rfl) ?_
                          refine va_get (D := (dC, dI)) (ci := 7) (v := .int r) (C := RX7) (T := TX7) (N := 8) hx hb hts iX7_about_X7 hown hK hP 0 rfl rfl 1 (by decide) (hts (.fieldLink RX7 22 "LeafSigner" "reserve" "I") (List.mem_of_getElem? (i := 17) rfl)) (fun _ h9 => h9) rfl dX7_about_184 ?_
                          refine W.widen (k := 0) (n := 0) (Nat.le_of_ble_eq_true rfl) (Nat.le_of_ble_eq_true rfl) ?_
                          exact W.iret (v := r) hx hb hr (fun t ht hW => ⟨⟨r, (), rfl, rfl, trivial⟩, hS.F ht⟩) hS.2.2 dX7_about_187
                        · refine lv_tableOut (tgt := 188) hx hb dX7_about_18 (vx_out c122 c123 c125 c127 c129 c131 c132 c133 c134 c135 c136 c137) (by decide) ?_
                          refine lv_iconst (v := (-1)) hx hb dX7_about_188 (by decide) ?_
                          refine W.widen (k := 0) (n := 0) (Nat.le_of_ble_eq_true rfl) (Nat.le_of_ble_eq_true rfl) ?_
                          exact W.iret (v := (-1)) hx hb hr (fun t ht hW => ⟨⟨(-1), (), rfl, (by unfold fk_about; simp only [if_neg c122, if_neg c123, if_neg c125, if_neg c127, if_neg c129, if_neg c131, if_neg c132, if_neg c133, if_neg c134, if_neg c135, if_neg c136, if_neg c137]), trivial⟩, hS.F ht⟩) hS.2.2 dX7_about_189
