def ww_X7_keys : List Cond := .code yX7_keys cX7_keys 1 (some .boolean) :: ([.fieldLink RX7 30 "LeafSigner" "tape" "LLeafSigner$ByteRow;", .fieldLink RX7 63 "LeafSigner$ByteRow" "count" "I"] ++ (wsX70 ++ wsX00))
theorem iX7_keys_X7 : ∀ w ∈ wsX70, w ∈ ww_X7_keys := fun w h => List.mem_cons_of_mem _ (List.mem_append_right _ (List.mem_append_left _ h))
theorem iX7_keys_X0 : ∀ w ∈ wsX00, w ∈ ww_X7_keys := fun w h => List.mem_cons_of_mem _ (List.mem_append_right _ (List.mem_append_right _ h))
set_option maxHeartbeats 4000000 in
set_option maxRecDepth 100000 in
theorem ct_keys (l : Launch) (dC : Nat → ClassId) (dI : Nat → Nat → Nat) (sz : Nat) (x : Nat) (h : Int32) (r : Int32) (xt : Nat) (xo : Nat) (xh : Nat) (xs : Nat) (xm : Nat) (xq : Nat) (xtw : Nat) : Met l yX7_keys ww_X7_keys ({ frames := 0, cells := 0, slots := 0, locals := 0 }) (va_Pc [.ref x] (fun U => U.heap.size = sz ∧ va_P (dC, dI) classes [(x, .inr (7, [.int h, .int r, .ref xt, .ref xo, .ref xh, .ref xs, .ref xm, .ref xq])), (xt, .inr (0, [.ref xtw, .int 0]))] U.heap ∧ va_K (dC, dI) classes [] U ∧ va_D (fun _ => True) [(x, .inr (7, [.int h, .int r, .ref xt, .ref xo, .ref xh, .ref xs, .ref xm, .ref xq])), (xt, .inr (0, [.ref xtw, .int 0]))])) (va_Qi (fun (r : Int32) (_ : Unit) => r = 0) (fun (_ : Unit) (_ : State) => True) (va_A [(x, .inr (7, [.int h, .int r, .ref xt, .ref xo, .ref xh, .ref xs, .ref xm, .ref xq])), (xt, .inr (0, [.ref xtw, .int 0]))] sz)) 0 0 (va_A [(x, .inr (7, [.int h, .int r, .ref xt, .ref xo, .ref xh, .ref xs, .ref xm, .ref xq])), (xt, .inr (0, [.ref xtw, .int 0]))] sz) := by
  refine Met.ofW (cc := cX7_keys) (maxL := 1) (ret := (some .boolean)) (by decide) rfl ?_
  intro p e s m args below meth c s₁ B hml hv
  obtain ⟨rfl, hsz, hP, hK, hD0⟩ := hv
  have hx := B.exec
  have hb := B.bytes
  have hr := B.returns
  have hts := atoms_spec (ws := ww_X7_keys) B.pre
  have hown : s.vm.findClass RX7 = some m.cls := findClass_of_methodNamed B.named
  have hlocks := B.notSynchronized
  subst hsz
  have hD := hD0.self (sz := s.heap.size)
  generalize hAe : va_A [(x, .inr (7, [.int h, .int r, .ref xt, .ref xo, .ref xh, .ref xs, .ref xm, .ref xq])), (xt, .inr (0, [.ref xtw, .int 0]))] s.heap.size = A at hD ⊢
  have hA : ∀ q : Nat, s.heap.size ≤ q → A q := fun q h => by rw [← hAe]; exact Or.inr h
  have hS : va_S A s.heap s.heap [] := va_S.rf
  have hP : va_P (dC, dI) classes [(x, .inr (7, [.int h, .int r, .ref xt, .ref xo, .ref xh, .ref xs, .ref xm, .ref xq])), (xt, .inr (0, [.ref xtw, .int 0]))] s.heap := hP
  have hl := lv_entry ([.ref x]) (n := 1) (Nat.le_of_ble_eq_true rfl)
  rw [lg_entry_eq]
  generalize (lg_sl ([.ref x]) ++ List.replicate (1 - (lg_sl ([.ref x])).length) Slot.unset).toArray = ls at hl ⊢
  have hl : lv_has ls 1 [(0, .ref x)] := hl
  generalize hHe : s.heap = H at hP ⊢
  have hS : va_S A s.heap H [] := by rw [← hHe]; exact va_S.rf
  refine lv_aload_n hx hb dX7_keys_0 rfl (lv_at hl 0 rfl) ?_
  refine va_get (D := (dC, dI)) (ci := 7) (v := .ref xt) (C := RX7) (T := TX7) (N := 8) hx hb hts iX7_keys_X7 hown hK hP 0 rfl rfl 2 (by decide) (hts (.fieldLink RX7 30 "LeafSigner" "tape" "LLeafSigner$ByteRow;") (List.mem_of_getElem? (i := 1) rfl)) (fun _ h9 => h9) rfl dX7_keys_1 ?_
  refine va_get (D := (dC, dI)) (ci := 0) (v := .int 0) (C := RX0) (T := TX0) (N := 2) hx hb hts iX7_keys_X0 hown hK hP 1 rfl rfl 1 (by decide) (hts (.fieldLink RX7 63 "LeafSigner$ByteRow" "count" "I") (List.mem_of_getElem? (i := 2) rfl)) (fun _ h9 => h9) rfl dX7_keys_4 ?_
  refine lv_bipush (v := 96) hx hb dX7_keys_7 (by decide) ?_
  refine lv_icmp_ge (tgt := 14) hx hb dX7_keys_9 (by decide) (fun c100 => absurd c100 (by decide)) (fun c100 => ?_)
  refine lv_iconst (v := 0) hx hb dX7_keys_12 (by decide) ?_
  refine W.widen (k := 0) (n := 0) (Nat.le_of_ble_eq_true rfl) (Nat.le_of_ble_eq_true rfl) ?_
  exact W.zret (v := 0) (ty := .boolean) hx hb hr (by decide) (fun t ht hW => ⟨⟨0, (), rfl, rfl, trivial⟩, hS.F ht⟩) hS.2.2 dX7_keys_13
