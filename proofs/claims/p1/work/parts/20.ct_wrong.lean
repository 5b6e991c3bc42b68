def ww_X7_isWrongCount : List Cond := .code yX7_isWrongCount cX7_isWrongCount 2 (some .boolean) :: ([.fieldLink RX7 30 "LeafSigner" "tape" "LLeafSigner$ByteRow;", .fieldLink RX7 63 "LeafSigner$ByteRow" "count" "I"] ++ (wsX70 ++ wsX00))
theorem iX7_isWrongCount_X7 : ∀ w ∈ wsX70, w ∈ ww_X7_isWrongCount := fun w h => List.mem_cons_of_mem _ (List.mem_append_right _ (List.mem_append_left _ h))
theorem iX7_isWrongCount_X0 : ∀ w ∈ wsX00, w ∈ ww_X7_isWrongCount := fun w h => List.mem_cons_of_mem _ (List.mem_append_right _ (List.mem_append_right _ h))
set_option maxHeartbeats 4000000 in
set_option maxRecDepth 100000 in
theorem ct_wrong (l : Launch) (dC : Nat → ClassId) (dI : Nat → Nat → Nat) (sz : Nat) (x : Nat) (k : Int32) (h : Int32) (r : Int32) (xt : Nat) (xo : Nat) (xh : Nat) (xs : Nat) (xm : Nat) (xq : Nat) (xtw : Nat) : Met l yX7_isWrongCount ww_X7_isWrongCount ({ frames := 0, cells := 0, slots := 0, locals := 0 }) (va_Pc [.ref x, .int k] (fun U => U.heap.size = sz ∧ va_P (dC, dI) classes [(x, .inr (7, [.int h, .int r, .ref xt, .ref xo, .ref xh, .ref xs, .ref xm, .ref xq])), (xt, .inr (0, [.ref xtw, .int 0]))] U.heap ∧ va_K (dC, dI) classes [] U ∧ va_D (fun _ => True) [(x, .inr (7, [.int h, .int r, .ref xt, .ref xo, .ref xh, .ref xs, .ref xm, .ref xq])), (xt, .inr (0, [.ref xtw, .int 0]))])) (va_Qi (fun (r : Int32) (_ : Unit) => r = fk_wrong k) (fun (_ : Unit) (t : State) => va_P (dC, dI) classes [(x, .inr (7, [.int h, .int r, .ref xt, .ref xo, .ref xh, .ref xs, .ref xm, .ref xq])), (xt, .inr (0, [.ref xtw, .int 0]))] t.heap ∧ va_K (dC, dI) classes [] t ∧ va_D (va_A [(x, .inr (7, [.int h, .int r, .ref xt, .ref xo, .ref xh, .ref xs, .ref xm, .ref xq])), (xt, .inr (0, [.ref xtw, .int 0]))] sz) [(x, .inr (7, [.int h, .int r, .ref xt, .ref xo, .ref xh, .ref xs, .ref xm, .ref xq])), (xt, .inr (0, [.ref xtw, .int 0]))]) (va_A [(x, .inr (7, [.int h, .int r, .ref xt, .ref xo, .ref xh, .ref xs, .ref xm, .ref xq])), (xt, .inr (0, [.ref xtw, .int 0]))] sz)) 0 0 (va_A [(x, .inr (7, [.int h, .int r, .ref xt, .ref xo, .ref xh, .ref xs, .ref xm, .ref xq])), (xt, .inr (0, [.ref xtw, .int 0]))] sz) := by
  refine Met.ofW (cc := cX7_isWrongCount) (maxL := 2) (ret := (some .boolean)) (by decide) rfl ?_
  intro p e s m args below meth c s₁ B hml hv
  obtain ⟨rfl, hsz, hP, hK, hD0⟩ := hv
  have hx := B.exec
  have hb := B.bytes
  have hr := B.returns
  have hts := atoms_spec (ws := ww_X7_isWrongCount) B.pre
  have hown : s.vm.findClass RX7 = some m.cls := findClass_of_methodNamed B.named
  have hlocks := B.notSynchronized
  subst hsz
  have hD := hD0.self (sz := s.heap.size)
  generalize hAe : va_A [(x, .inr (7, [.int h, .int r, .ref xt, .ref xo, .ref xh, .ref xs, .ref xm, .ref xq])), (xt, .inr (0, [.ref xtw, .int 0]))] s.heap.size = A at hD ⊢
  have hA : ∀ q : Nat, s.heap.size ≤ q → A q := fun q h => by rw [← hAe]; exact Or.inr h
  have hS : va_S A s.heap s.heap [] := va_S.rf
  have hP : va_P (dC, dI) classes [(x, .inr (7, [.int h, .int r, .ref xt, .ref xo, .ref xh, .ref xs, .ref xm, .ref xq])), (xt, .inr (0, [.ref xtw, .int 0]))] s.heap := hP
  have hl := lv_entry ([.ref x, .int k]) (n := 2) (Nat.le_of_ble_eq_true rfl)
  rw [lg_entry_eq]
  generalize (lg_sl ([.ref x, .int k]) ++ List.replicate (2 - (lg_sl ([.ref x, .int k])).length) Slot.unset).toArray = ls at hl ⊢
  have hl : lv_has ls 2 [(0, .ref x), (1, .int k)] := hl
  generalize hHe : s.heap = H at hP ⊢
  have hS : va_S A s.heap H [] := by rw [← hHe]; exact va_S.rf
  refine lv_iload_n hx hb dX7_isWrongCount_0 rfl (lv_at hl 1 rfl) ?_
  refine lv_if_lt (tgt := 15) hx hb dX7_isWrongCount_1 (by decide) (fun c86 => ?_) (fun c86 => ?_)
  · refine lv_iconst (v := 1) hx hb dX7_isWrongCount_15 (by decide) ?_
    refine lv_goto (tgt := 20) hx hb dX7_isWrongCount_16 (by decide) ?_
    refine W.widen (k := 0) (n := 0) (Nat.le_of_ble_eq_true rfl) (Nat.le_of_ble_eq_true rfl) ?_
    have hP9 := hP.sub (ws' := [(x, .inr (7, [.int h, .int r, .ref xt, .ref xo, .ref xh, .ref xs, .ref xm, .ref xq])), (xt, .inr (0, [.ref xtw, .int 0]))]) [0, 1] rfl
    have hD9 := hD.sub (ws' := [(x, .inr (7, [.int h, .int r, .ref xt, .ref xo, .ref xh, .ref xs, .ref xm, .ref xq])), (xt, .inr (0, [.ref xtw, .int 0]))]) [0, 1] (by decide) rfl
    have hK9 := hK.sub (tys' := []) [] rfl
    exact W.zret (v := 1) (ty := .boolean) hx hb hr (by decide) (fun t ht hW => ⟨⟨1, (), rfl, (by unfold fk_wrong; rw [if_pos c86]), ⟨by rw [ht]; exact hP9, va_K.moved hW.alike hK9, hD9⟩⟩, hS.F ht⟩) hS.2.2 dX7_isWrongCount_20
  · refine lv_iload_n hx hb dX7_isWrongCount_4 rfl (lv_at hl 1 rfl) ?_
    refine lv_aload_n hx hb dX7_isWrongCount_5 rfl (lv_at hl 0 rfl) ?_
    refine va_get (D := (dC, dI)) (ci := 7) (v := .ref xt) (C := RX7) (T := TX7) (N := 8) hx hb hts iX7_isWrongCount_X7 hown hK hP 0 rfl rfl 2 (by decide) (hts (.fieldLink RX7 30 "LeafSigner" "tape" "LLeafSigner$ByteRow;") (List.mem_of_getElem? (i := 1) rfl)) (fun _ h9 => h9) rfl dX7_isWrongCount_6 ?_
    refine va_get (D := (dC, dI)) (ci := 0) (v := .int 0) (C := RX0) (T := TX0) (N := 2) hx hb hts iX7_isWrongCount_X0 hown hK hP 1 rfl rfl 1 (by decide) (hts (.fieldLink RX7 63 "LeafSigner$ByteRow" "count" "I") (List.mem_of_getElem? (i := 2) rfl)) (fun _ h9 => h9) rfl dX7_isWrongCount_9 ?_
    refine lv_icmp_le (tgt := 19) hx hb dX7_isWrongCount_12 (by decide) (fun c87 => ?_) (fun c87 => ?_)
    · refine lv_iconst (v := 0) hx hb dX7_isWrongCount_19 (by decide) ?_
      refine W.widen (k := 0) (n := 0) (Nat.le_of_ble_eq_true rfl) (Nat.le_of_ble_eq_true rfl) ?_
      have hP9 := hP.sub (ws' := [(x, .inr (7, [.int h, .int r, .ref xt, .ref xo, .ref xh, .ref xs, .ref xm, .ref xq])), (xt, .inr (0, [.ref xtw, .int 0]))]) [0, 1] rfl
      have hD9 := hD.sub (ws' := [(x, .inr (7, [.int h, .int r, .ref xt, .ref xo, .ref xh, .ref xs, .ref xm, .ref xq])), (xt, .inr (0, [.ref xtw, .int 0]))]) [0, 1] (by decide) rfl
      have hK9 := hK.sub (tys' := []) [] rfl
      exact W.zret (v := 0) (ty := .boolean) hx hb hr (by decide) (fun t ht hW => ⟨⟨0, (), rfl, (by unfold fk_wrong; rw [if_neg c86, if_pos c87]), ⟨by rw [ht]; exact hP9, va_K.moved hW.alike hK9, hD9⟩⟩, hS.F ht⟩) hS.2.2 dX7_isWrongCount_20
    · refine lv_iconst (v := 1) hx hb dX7_isWrongCount_15 (by decide) ?_
      refine lv_goto (tgt := 20) hx hb dX7_isWrongCount_16 (by decide) ?_
      refine W.widen (k := 0) (n := 0) (Nat.le_of_ble_eq_true rfl) (Nat.le_of_ble_eq_true rfl) ?_
      have hP9 := hP.sub (ws' := [(x, .inr (7, [.int h, .int r, .ref xt, .ref xo, .ref xh, .ref xs, .ref xm, .ref xq])), (xt, .inr (0, [.ref xtw, .int 0]))]) [0, 1] rfl
      have hD9 := hD.sub (ws' := [(x, .inr (7, [.int h, .int r, .ref xt, .ref xo, .ref xh, .ref xs, .ref xm, .ref xq])), (xt, .inr (0, [.ref xtw, .int 0]))]) [0, 1] (by decide) rfl
      have hK9 := hK.sub (tys' := []) [] rfl
      exact W.zret (v := 1) (ty := .boolean) hx hb hr (by decide) (fun t ht hW => ⟨⟨1, (), rfl, (by unfold fk_wrong; rw [if_neg c86, if_neg c87]), ⟨by rw [ht]; exact hP9, va_K.moved hW.alike hK9, hD9⟩⟩, hS.F ht⟩) hS.2.2 dX7_isWrongCount_20
