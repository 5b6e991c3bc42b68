def ww_X7_fuse : List Cond := .code yX7_fuse cX7_fuse 2 (some .boolean) :: ([.fieldLink RX7 43 "LeafSigner" "store" "LLeafSigner$Disk;", .fieldLink RX7 101 "LeafSigner$Disk" "fuseLeft" "I"] ++ (wsX70 ++ wsX10))
theorem iX7_fuse_X7 : ∀ w ∈ wsX70, w ∈ ww_X7_fuse := fun w h => List.mem_cons_of_mem _ (List.mem_append_right _ (List.mem_append_left _ h))
theorem iX7_fuse_X1 : ∀ w ∈ wsX10, w ∈ ww_X7_fuse := fun w h => List.mem_cons_of_mem _ (List.mem_append_right _ (List.mem_append_right _ h))
set_option maxHeartbeats 4000000 in
set_option maxRecDepth 100000 in
theorem ct_fuse (l : Launch) (dC : Nat → ClassId) (dI : Nat → Nat → Nat) (sz : Nat) (x : Nat) (k : Int32) (h : Int32) (r : Int32) (xt : Nat) (xo : Nat) (xh : Nat) (xs : Nat) (xm : Nat) (xq : Nat) (xb : Nat) : Met l yX7_fuse ww_X7_fuse ({ frames := 0, cells := 0, slots := 0, locals := 0 }) (va_Pc [.ref x, .int k] (fun U => U.heap.size = sz ∧ va_P (dC, dI) classes [(x, .inr (7, [.int h, .int r, .ref xt, .ref xo, .ref xh, .ref xs, .ref xm, .ref xq])), (xs, .inr (1, [.ref xb, .int 0, .int (-1)]))] U.heap ∧ va_K (dC, dI) classes [] U ∧ va_D (fun _ => True) [(x, .inr (7, [.int h, .int r, .ref xt, .ref xo, .ref xh, .ref xs, .ref xm, .ref xq])), (xs, .inr (1, [.ref xb, .int 0, .int (-1)]))])) (va_Qi (fun (r : Int32) (_ : Unit) => r = fk_fuse k) (fun (_ : Unit) (_ : State) => True) (va_A [(x, .inr (7, [.int h, .int r, .ref xt, .ref xo, .ref xh, .ref xs, .ref xm, .ref xq])), (xs, .inr (1, [.ref xb, .int 0, .int (-1)]))] sz)) 0 0 (va_A [(x, .inr (7, [.int h, .int r, .ref xt, .ref xo, .ref xh, .ref xs, .ref xm, .ref xq])), (xs, .inr (1, [.ref xb, .int 0, .int (-1)]))] sz) := by
  refine Met.ofW (cc := cX7_fuse) (maxL := 2) (ret := (some .boolean)) (by decide) rfl ?_
  intro p e s m args below meth c s₁ B hml hv
  obtain ⟨rfl, hsz, hP, hK, hD0⟩ := hv
  have hx := B.exec
  have hb := B.bytes
  have hr := B.returns
  have hts := atoms_spec (ws := ww_X7_fuse) B.pre
  have hown : s.vm.findClass RX7 = some m.cls := findClass_of_methodNamed B.named
  have hlocks := B.notSynchronized
  subst hsz
  have hD := hD0.self (sz := s.heap.size)
  generalize hAe : va_A [(x, .inr (7, [.int h, .int r, .ref xt, .ref xo, .ref xh, .ref xs, .ref xm, .ref xq])), (xs, .inr (1, [.ref xb, .int 0, .int (-1)]))] s.heap.size = A at hD ⊢
  have hA : ∀ q : Nat, s.heap.size ≤ q → A q := fun q h => by rw [← hAe]; exact Or.inr h
  have hS : va_S A s.heap s.heap [] := va_S.rf
  have hP : va_P (dC, dI) classes [(x, .inr (7, [.int h, .int r, .ref xt, .ref xo, .ref xh, .ref xs, .ref xm, .ref xq])), (xs, .inr (1, [.ref xb, .int 0, .int (-1)]))] s.heap := hP
  have hl := lv_entry ([.ref x, .int k]) (n := 2) (Nat.le_of_ble_eq_true rfl)
  rw [lg_entry_eq]
  generalize (lg_sl ([.ref x, .int k]) ++ List.replicate (2 - (lg_sl ([.ref x, .int k])).length) Slot.unset).toArray = ls at hl ⊢
  have hl : lv_has ls 2 [(0, .ref x), (1, .int k)] := hl
  generalize hHe : s.heap = H at hP ⊢
  have hS : va_S A s.heap H [] := by rw [← hHe]; exact va_S.rf
  refine lv_iload_n hx hb dX7_fuse_0 rfl (lv_at hl 1 rfl) ?_
  refine lv_iconst (v := (-1)) hx hb dX7_fuse_1 (by decide) ?_
  refine lv_icmp_lt (tgt := 12) hx hb dX7_fuse_2 (by decide) (fun c110 => ?_) (fun c110 => ?_)
  · refine lv_iconst (v := 0) hx hb dX7_fuse_12 (by decide) ?_
    refine W.widen (k := 0) (n := 0) (Nat.le_of_ble_eq_true rfl) (Nat.le_of_ble_eq_true rfl) ?_
    exact W.zret (v := 0) (ty := .boolean) hx hb hr (by decide) (fun t ht hW => ⟨⟨0, (), rfl, (by unfold fk_fuse; rw [if_pos c110]), trivial⟩, hS.F ht⟩) hS.2.2 dX7_fuse_13
  · refine lv_iload_n hx hb dX7_fuse_5 rfl (lv_at hl 1 rfl) ?_
    refine lv_sipush (v := 1000) hx hb dX7_fuse_6 (by decide) ?_
    refine lv_icmp_le (tgt := 14) hx hb dX7_fuse_9 (by decide) (fun c111 => ?_) (fun c111 => ?_)
    · refine lv_aload_n hx hb dX7_fuse_14 rfl (lv_at hl 0 rfl) ?_
      refine va_get (D := (dC, dI)) (ci := 7) (v := .ref xs) (C := RX7) (T := TX7) (N := 8) hx hb hts iX7_fuse_X7 hown hK hP 0 rfl rfl 5 (by decide) (hts (.fieldLink RX7 43 "LeafSigner" "store" "LLeafSigner$Disk;") (List.mem_of_getElem? (i := 1) rfl)) (fun _ h9 => h9) rfl dX7_fuse_15 ?_
      refine lv_iload_n hx hb dX7_fuse_18 rfl (lv_at hl 1 rfl) ?_
      refine va_put (D := (dC, dI)) (ci := 1) (v := .int k) (ty := .int) (C := RX1) (T := TX1) (N := 3) hx hb hts iX7_fuse_X1 tyX1 tyX1_ok nmX1 hown hK hP hD hS 1 rfl rfl 2 (by decide) (hts (.fieldLink RX7 101 "LeafSigner$Disk" "fuseLeft" "I") (List.mem_of_getElem? (i := 2) rfl)) (fun _ h9 => h9) rfl (by decide +kernel) rfl rfl (Nat.le_of_ble_eq_true rfl) dX7_fuse_19 (fun H locs hP hD hS => ?_)
      have hP : va_P (dC, dI) classes [(x, .inr (7, [.int h, .int r, .ref xt, .ref xo, .ref xh, .ref xs, .ref xm, .ref xq])), (xs, .inr (1, [.ref xb, .int 0, .int k]))] H := hP
      have hD : va_D A [(x, .inr (7, [.int h, .int r, .ref xt, .ref xo, .ref xh, .ref xs, .ref xm, .ref xq])), (xs, .inr (1, [.ref xb, .int 0, .int k]))] := hD
      refine lv_iconst (v := 1) hx hb dX7_fuse_22 (by decide) ?_
      refine W.widen (k := 0) (n := 0) (Nat.le_of_ble_eq_true rfl) (Nat.le_of_ble_eq_true rfl) ?_
      exact W.zret (v := 1) (ty := .boolean) hx hb hr (by decide) (fun t ht hW => ⟨⟨1, (), rfl, (by unfold fk_fuse; rw [if_neg c110, if_pos c111]), trivial⟩, hS.F ht⟩) hS.2.2 dX7_fuse_23
    · refine lv_iconst (v := 0) hx hb dX7_fuse_12 (by decide) ?_
      refine W.widen (k := 0) (n := 0) (Nat.le_of_ble_eq_true rfl) (Nat.le_of_ble_eq_true rfl) ?_
      exact W.zret (v := 0) (ty := .boolean) hx hb hr (by decide) (fun t ht hW => ⟨⟨0, (), rfl, (by unfold fk_fuse; rw [if_neg c110, if_neg c111]), trivial⟩, hS.F ht⟩) hS.2.2 dX7_fuse_13
