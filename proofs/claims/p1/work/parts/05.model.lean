def mg (l : List Nat) (k : Nat) : Nat := l.getD k 0
def ww_X8_held : List Cond := .code yX8_held cX8_held 3 (some .int) :: ([])
set_option maxHeartbeats 4000000 in
set_option maxRecDepth 100000 in
theorem cm_held (l : Launch) (dC : Nat → ClassId) (dI : Nat → Nat → Nat) (sz : Nat) (k : Int32) (ka : Int32) (kb : Int32) : Met l yX8_held ww_X8_held ({ frames := 0, cells := 0, slots := 0, locals := 0 }) (va_Pc [.int k, .int ka, .int kb] (fun U => U.heap.size = sz ∧ va_P (dC, dI) classes [] U.heap ∧ va_K (dC, dI) classes [] U ∧ va_D (fun _ => True) [])) (va_Qi (fun (r : Int32) (_ : Unit) => r = fk_held k ka kb) (fun (_ : Unit) (_ : State) => True) (va_A [] sz)) 0 0 (va_A [] sz) := by
  refine Met.ofW (cc := cX8_held) (maxL := 3) (ret := (some .int)) (by decide) rfl ?_
  intro p e s m args below meth c s₁ B hml hv
  obtain ⟨rfl, hsz, hP, hK, hD0⟩ := hv
  have hx := B.exec
  have hb := B.bytes
  have hr := B.returns
  have hts := atoms_spec (ws := ww_X8_held) B.pre
  have hown : s.vm.findClass RX8 = some m.cls := findClass_of_methodNamed B.named
  have hlocks := B.notSynchronized
  subst hsz
  have hD := hD0.self (sz := s.heap.size)
  generalize hAe : va_A [] s.heap.size = A at hD ⊢
  have hA : ∀ q : Nat, s.heap.size ≤ q → A q := fun q h => by rw [← hAe]; exact Or.inr h
  have hS : va_S A s.heap s.heap [] := va_S.rf
  have hP : va_P (dC, dI) classes [] s.heap := hP
  have hl := lv_entry ([.int k, .int ka, .int kb]) (n := 3) (Nat.le_of_ble_eq_true rfl)
  rw [lg_entry_eq]
  generalize (lg_sl ([.int k, .int ka, .int kb]) ++ List.replicate (3 - (lg_sl ([.int k, .int ka, .int kb])).length) Slot.unset).toArray = ls at hl ⊢
  have hl : lv_has ls 3 [(0, .int k), (1, .int ka), (2, .int kb)] := hl
  generalize hHe : s.heap = H at hP ⊢
  have hS : va_S A s.heap H [] := by rw [← hHe]; exact va_S.rf
  refine lv_iload_n hx hb dX8_held_0 rfl (lv_at hl 0 rfl) ?_
  refine lv_iload_n hx hb dX8_held_1 rfl (lv_at hl 1 rfl) ?_
  refine lv_icmp_ge (tgt := 9) hx hb dX8_held_2 (by decide) (fun c138 => ?_) (fun c138 => ?_)
  · refine lv_iload_n hx hb dX8_held_9 rfl (lv_at hl 0 rfl) ?_
    refine lv_iload_n hx hb dX8_held_10 rfl (lv_at hl 2 rfl) ?_
    refine lv_icmp_le (tgt := 18) hx hb dX8_held_11 (by decide) (fun c139 => ?_) (fun c139 => ?_)
    · refine lv_iload_n hx hb dX8_held_18 rfl (lv_at hl 0 rfl) ?_
      refine W.widen (k := 0) (n := 0) (Nat.le_of_ble_eq_true rfl) (Nat.le_of_ble_eq_true rfl) ?_
      exact W.iret (v := k) hx hb hr (fun t ht hW => ⟨⟨k, (), rfl, (by unfold fk_held; rw [if_pos c138, if_pos c139]), trivial⟩, hS.F ht⟩) hS.2.2 dX8_held_19
    · refine lv_iload_n hx hb dX8_held_14 rfl (lv_at hl 2 rfl) ?_
      refine lv_goto (tgt := 19) hx hb dX8_held_15 (by decide) ?_
      refine W.widen (k := 0) (n := 0) (Nat.le_of_ble_eq_true rfl) (Nat.le_of_ble_eq_true rfl) ?_
      exact W.iret (v := kb) hx hb hr (fun t ht hW => ⟨⟨kb, (), rfl, (by unfold fk_held; rw [if_pos c138, if_neg c139]), trivial⟩, hS.F ht⟩) hS.2.2 dX8_held_19
  · refine lv_iload_n hx hb dX8_held_5 rfl (lv_at hl 1 rfl) ?_
    refine lv_goto (tgt := 19) hx hb dX8_held_6 (by decide) ?_
    refine W.widen (k := 0) (n := 0) (Nat.le_of_ble_eq_true rfl) (Nat.le_of_ble_eq_true rfl) ?_
    exact W.iret (v := ka) hx hb hr (fun t ht hW => ⟨⟨ka, (), rfl, (by unfold fk_held; rw [if_neg c138]), trivial⟩, hS.F ht⟩) hS.2.2 dX8_held_19
def ww_X8_in : List Cond := .code yX8_in cX8_in 3 (some .boolean) :: ([])
set_option maxHeartbeats 4000000 in
set_option maxRecDepth 100000 in
theorem cm_in (l : Launch) (dC : Nat → ClassId) (dI : Nat → Nat → Nat) (sz : Nat) (k : Int32) (ka : Int32) (kb : Int32) : Met l yX8_in ww_X8_in ({ frames := 0, cells := 0, slots := 0, locals := 0 }) (va_Pc [.int k, .int ka, .int kb] (fun U => U.heap.size = sz ∧ va_P (dC, dI) classes [] U.heap ∧ va_K (dC, dI) classes [] U ∧ va_D (fun _ => True) [])) (va_Qi (fun (r : Int32) (_ : Unit) => r = fk_in k ka kb) (fun (_ : Unit) (_ : State) => True) (va_A [] sz)) 0 0 (va_A [] sz) := by
  refine Met.ofW (cc := cX8_in) (maxL := 3) (ret := (some .boolean)) (by decide) rfl ?_
  intro p e s m args below meth c s₁ B hml hv
  obtain ⟨rfl, hsz, hP, hK, hD0⟩ := hv
  have hx := B.exec
  have hb := B.bytes
  have hr := B.returns
  have hts := atoms_spec (ws := ww_X8_in) B.pre
  have hown : s.vm.findClass RX8 = some m.cls := findClass_of_methodNamed B.named
  have hlocks := B.notSynchronized
  subst hsz
  have hD := hD0.self (sz := s.heap.size)
  generalize hAe : va_A [] s.heap.size = A at hD ⊢
  have hA : ∀ q : Nat, s.heap.size ≤ q → A q := fun q h => by rw [← hAe]; exact Or.inr h
  have hS : va_S A s.heap s.heap [] := va_S.rf
  have hP : va_P (dC, dI) classes [] s.heap := hP
  have hl := lv_entry ([.int k, .int ka, .int kb]) (n := 3) (Nat.le_of_ble_eq_true rfl)
  rw [lg_entry_eq]
  generalize (lg_sl ([.int k, .int ka, .int kb]) ++ List.replicate (3 - (lg_sl ([.int k, .int ka, .int kb])).length) Slot.unset).toArray = ls at hl ⊢
  have hl : lv_has ls 3 [(0, .int k), (1, .int ka), (2, .int kb)] := hl
  generalize hHe : s.heap = H at hP ⊢
  have hS : va_S A s.heap H [] := by rw [← hHe]; exact va_S.rf
  refine lv_iload_n hx hb dX8_in_0 rfl (lv_at hl 0 rfl) ?_
  refine lv_iload_n hx hb dX8_in_1 rfl (lv_at hl 1 rfl) ?_
  refine lv_icmp_lt (tgt := 14) hx hb dX8_in_2 (by decide) (fun c140 => ?_) (fun c140 => ?_)
  · refine lv_iconst (v := 0) hx hb dX8_in_14 (by decide) ?_
    refine W.widen (k := 0) (n := 0) (Nat.le_of_ble_eq_true rfl) (Nat.le_of_ble_eq_true rfl) ?_
    exact W.zret (v := 0) (ty := .boolean) hx hb hr (by decide) (fun t ht hW => ⟨⟨0, (), rfl, (by unfold fk_in; rw [if_pos c140]), trivial⟩, hS.F ht⟩) hS.2.2 dX8_in_15
  · refine lv_iload_n hx hb dX8_in_5 rfl (lv_at hl 0 rfl) ?_
    refine lv_iload_n hx hb dX8_in_6 rfl (lv_at hl 2 rfl) ?_
    refine lv_icmp_gt (tgt := 14) hx hb dX8_in_7 (by decide) (fun c141 => ?_) (fun c141 => ?_)
    · refine lv_iconst (v := 0) hx hb dX8_in_14 (by decide) ?_
      refine W.widen (k := 0) (n := 0) (Nat.le_of_ble_eq_true rfl) (Nat.le_of_ble_eq_true rfl) ?_
      exact W.zret (v := 0) (ty := .boolean) hx hb hr (by decide) (fun t ht hW => ⟨⟨0, (), rfl, (by unfold fk_in; rw [if_neg c140, if_pos c141]), trivial⟩, hS.F ht⟩) hS.2.2 dX8_in_15
    · refine lv_iconst (v := 1) hx hb dX8_in_10 (by decide) ?_
      refine lv_goto (tgt := 15) hx hb dX8_in_11 (by decide) ?_
      refine W.widen (k := 0) (n := 0) (Nat.le_of_ble_eq_true rfl) (Nat.le_of_ble_eq_true rfl) ?_
      exact W.zret (v := 1) (ty := .boolean) hx hb hr (by decide) (fun t ht hW => ⟨⟨1, (), rfl, (by unfold fk_in; rw [if_neg c140, if_neg c141]), trivial⟩, hS.F ht⟩) hS.2.2 dX8_in_15
def ww_X8_feedOne : List Cond := .code yX8_feedOne cX8_feedOne 3 none :: ([.fieldLink RX8 137 "LeafSignerModel" "tape" "[B", .fieldLink RX8 244 "LeafSignerModel" "taped" "I"] ++ (wsX80))
theorem iX8_feedOne_X8 : ∀ w ∈ wsX80, w ∈ ww_X8_feedOne := fun w h => List.mem_cons_of_mem _ (List.mem_append_right _ h)
set_option maxHeartbeats 4000000 in
set_option maxRecDepth 100000 in
theorem cm_feedOne (l : Launch) (dC : Nat → ClassId) (dI : Nat → Nat → Nat) (sz : Nat) (mm : Nat) (k : Int32) (hi : Int32) (ri : Int32) (li : Int32) (cnt : Int32) (cMt : ClassId) (f : (Nat → Int32)) (g : (Nat → Nat)) (n1 : Int32) (n2 : Int32) (n3 : Int32) (n4 : Int32) (v0 : vp_in cnt 200) (v1 : vp_in n1 200) (v2 : vp_in n2 200) (v3 : vp_in n3 200) (e1 : cnt + 1 = n1) (e2 : n1 + 1 = n2) (e3 : n2 + 1 = n3) (e4 : n3 + 1 = n4) : Met l yX8_feedOne ww_X8_feedOne ({ frames := 0, cells := 0, slots := 0, locals := 0 }) (va_Pc [.ref mm, .int k] (fun U => U.heap.size = sz ∧ va_P (dC, dI) classes [(mm, .inr (8, [.int hi, .int ri, .int li, .ref (g 3), .ref (g 4), .ref (g 5), .ref (g 6), .ref (g 7), .ref (g 8), .int 0, .ref (g 10), .ref (g 11), .ref (g 12), .ref (g 13), .ref (g 14), .ref (g 15), .ref (g 16), .ref (g 17), .ref (g 18), .ref (g 19), .ref (g 20), .ref (g 21), .int 0, .ref (g 23), .ref (g 24), .ref (g 25), .ref (g 26), .ref (g 27), .int cnt, .int 0, .int 0, .int 0, .int 0, .int 0, .int 0, .int (-1), .int 0, .ref (g 37), .ref (g 38), .ref (g 39)])), ((g 23), .inl (cMt, 200, .inl f))] U.heap ∧ va_K (dC, dI) classes [(cMt, .byte)] U ∧ va_D (fun _ => True) [(mm, .inr (8, [.int hi, .int ri, .int li, .ref (g 3), .ref (g 4), .ref (g 5), .ref (g 6), .ref (g 7), .ref (g 8), .int 0, .ref (g 10), .ref (g 11), .ref (g 12), .ref (g 13), .ref (g 14), .ref (g 15), .ref (g 16), .ref (g 17), .ref (g 18), .ref (g 19), .ref (g 20), .ref (g 21), .int 0, .ref (g 23), .ref (g 24), .ref (g 25), .ref (g 26), .ref (g 27), .int cnt, .int 0, .int 0, .int 0, .int 0, .int 0, .int 0, .int (-1), .int 0, .ref (g 37), .ref (g 38), .ref (g 39)])), ((g 23), .inl (cMt, 200, .inl f))])) (va_Qv (fun (_ : Unit) => True) (fun (_ : Unit) (t : State) => ∃ f2 : (Nat → Int32), va_P (dC, dI) classes [(mm, .inr (8, [.int hi, .int ri, .int li, .ref (g 3), .ref (g 4), .ref (g 5), .ref (g 6), .ref (g 7), .ref (g 8), .int 0, .ref (g 10), .ref (g 11), .ref (g 12), .ref (g 13), .ref (g 14), .ref (g 15), .ref (g 16), .ref (g 17), .ref (g 18), .ref (g 19), .ref (g 20), .ref (g 21), .int 0, .ref (g 23), .ref (g 24), .ref (g 25), .ref (g 26), .ref (g 27), .int n4, .int 0, .int 0, .int 0, .int 0, .int 0, .int 0, .int (-1), .int 0, .ref (g 37), .ref (g 38), .ref (g 39)])), ((g 23), .inl (cMt, 200, .inl f2))] t.heap ∧ va_K (dC, dI) classes [(cMt, .byte)] t ∧ va_D (va_A [(mm, .inr (8, [.int hi, .int ri, .int li, .ref (g 3), .ref (g 4), .ref (g 5), .ref (g 6), .ref (g 7), .ref (g 8), .int 0, .ref (g 10), .ref (g 11), .ref (g 12), .ref (g 13), .ref (g 14), .ref (g 15), .ref (g 16), .ref (g 17), .ref (g 18), .ref (g 19), .ref (g 20), .ref (g 21), .int 0, .ref (g 23), .ref (g 24), .ref (g 25), .ref (g 26), .ref (g 27), .int cnt, .int 0, .int 0, .int 0, .int 0, .int 0, .int 0, .int (-1), .int 0, .ref (g 37), .ref (g 38), .ref (g 39)])), ((g 23), .inl (cMt, 200, .inl f))] sz) [(mm, .inr (8, [.int hi, .int ri, .int li, .ref (g 3), .ref (g 4), .ref (g 5), .ref (g 6), .ref (g 7), .ref (g 8), .int 0, .ref (g 10), .ref (g 11), .ref (g 12), .ref (g 13), .ref (g 14), .ref (g 15), .ref (g 16), .ref (g 17), .ref (g 18), .ref (g 19), .ref (g 20), .ref (g 21), .int 0, .ref (g 23), .ref (g 24), .ref (g 25), .ref (g 26), .ref (g 27), .int n4, .int 0, .int 0, .int 0, .int 0, .int 0, .int 0, .int (-1), .int 0, .ref (g 37), .ref (g 38), .ref (g 39)])), ((g 23), .inl (cMt, 200, .inl f2))]) (va_A [(mm, .inr (8, [.int hi, .int ri, .int li, .ref (g 3), .ref (g 4), .ref (g 5), .ref (g 6), .ref (g 7), .ref (g 8), .int 0, .ref (g 10), .ref (g 11), .ref (g 12), .ref (g 13), .ref (g 14), .ref (g 15), .ref (g 16), .ref (g 17), .ref (g 18), .ref (g 19), .ref (g 20), .ref (g 21), .int 0, .ref (g 23), .ref (g 24), .ref (g 25), .ref (g 26), .ref (g 27), .int cnt, .int 0, .int 0, .int 0, .int 0, .int 0, .int 0, .int (-1), .int 0, .ref (g 37), .ref (g 38), .ref (g 39)])), ((g 23), .inl (cMt, 200, .inl f))] sz)) 0 0 (va_A [(mm, .inr (8, [.int hi, .int ri, .int li, .ref (g 3), .ref (g 4), .ref (g 5), .ref (g 6), .ref (g 7), .ref (g 8), .int 0, .ref (g 10), .ref (g 11), .ref (g 12), .ref (g 13), .ref (g 14), .ref (g 15), .ref (g 16), .ref (g 17), .ref (g 18), .ref (g 19), .ref (g 20), .ref (g 21), .int 0, .ref (g 23), .ref (g 24), .ref (g 25), .ref (g 26), .ref (g 27), .int cnt, .int 0, .int 0, .int 0, .int 0, .int 0, .int 0, .int (-1), .int 0, .ref (g 37), .ref (g 38), .ref (g 39)])), ((g 23), .inl (cMt, 200, .inl f))] sz) := by
  refine Met.ofW (cc := cX8_feedOne) (maxL := 3) (ret := none) (by decide) rfl ?_
  intro p e s m args below meth c s₁ B hml hv
  obtain ⟨rfl, hsz, hP, hK, hD0⟩ := hv
  have hx := B.exec
  have hb := B.bytes
  have hr := B.returns
  have hts := atoms_spec (ws := ww_X8_feedOne) B.pre
  have hown : s.vm.findClass RX8 = some m.cls := findClass_of_methodNamed B.named
  have hlocks := B.notSynchronized
  subst hsz
  have hD := hD0.self (sz := s.heap.size)
  generalize hAe : va_A [(mm, .inr (8, [.int hi, .int ri, .int li, .ref (g 3), .ref (g 4), .ref (g 5), .ref (g 6), .ref (g 7), .ref (g 8), .int 0, .ref (g 10), .ref (g 11), .ref (g 12), .ref (g 13), .ref (g 14), .ref (g 15), .ref (g 16), .ref (g 17), .ref (g 18), .ref (g 19), .ref (g 20), .ref (g 21), .int 0, .ref (g 23), .ref (g 24), .ref (g 25), .ref (g 26), .ref (g 27), .int cnt, .int 0, .int 0, .int 0, .int 0, .int 0, .int 0, .int (-1), .int 0, .ref (g 37), .ref (g 38), .ref (g 39)])), ((g 23), .inl (cMt, 200, .inl f))] s.heap.size = A at hD ⊢
  have hA : ∀ q : Nat, s.heap.size ≤ q → A q := fun q h => by rw [← hAe]; exact Or.inr h
  have hS : va_S A s.heap s.heap [] := va_S.rf
  have hP : va_P (dC, dI) classes [(mm, .inr (8, [.int hi, .int ri, .int li, .ref (g 3), .ref (g 4), .ref (g 5), .ref (g 6), .ref (g 7), .ref (g 8), .int 0, .ref (g 10), .ref (g 11), .ref (g 12), .ref (g 13), .ref (g 14), .ref (g 15), .ref (g 16), .ref (g 17), .ref (g 18), .ref (g 19), .ref (g 20), .ref (g 21), .int 0, .ref (g 23), .ref (g 24), .ref (g 25), .ref (g 26), .ref (g 27), .int cnt, .int 0, .int 0, .int 0, .int 0, .int 0, .int 0, .int (-1), .int 0, .ref (g 37), .ref (g 38), .ref (g 39)])), ((g 23), .inl (cMt, 200, .inl f))] s.heap := hP
  have hl := lv_entry ([.ref mm, .int k]) (n := 3) (Nat.le_of_ble_eq_true rfl)
  rw [lg_entry_eq]
  generalize (lg_sl ([.ref mm, .int k]) ++ List.replicate (3 - (lg_sl ([.ref mm, .int k])).length) Slot.unset).toArray = ls at hl ⊢
  have hl : lv_has ls 3 [(0, .ref mm), (1, .int k)] := hl
  generalize hHe : s.heap = H at hP ⊢
  have hS : va_S A s.heap H [] := by rw [← hHe]; exact va_S.rf
  refine lv_bipush (v := 24) hx hb dX8_feedOne_0 (by decide) ?_
  refine lv_istore_n (lv' := [(2, .int 24), (0, .ref mm), (1, .int k)]) hx hb dX8_feedOne_2 rfl hl (by decide) rfl (fun ls hl => ?_)
  refine lv_iload_n hx hb dX8_feedOne_3 rfl (lv_at hl 0 rfl) ?_
  refine lv_if_lt (tgt := 36) hx hb dX8_feedOne_4 (by decide) (fun c142 => absurd c142 (by decide)) (fun c142 => ?_)
  refine lv_aload_n hx hb dX8_feedOne_7 rfl (lv_at hl 1 rfl) ?_
  refine va_get (D := (dC, dI)) (ci := 8) (v := .ref (g 23)) (C := RX8) (T := TX8) (N := 40) hx hb hts iX8_feedOne_X8 hown hK hP 0 rfl rfl 23 (by decide) (hts (.fieldLink RX8 137 "LeafSignerModel" "tape" "[B") (List.mem_of_getElem? (i := 1) rfl)) (fun _ h9 => h9) rfl dX8_feedOne_8 ?_
  refine lv_aload_n hx hb dX8_feedOne_11 rfl (lv_at hl 1 rfl) ?_
  refine va_get (D := (dC, dI)) (ci := 8) (v := .int cnt) (C := RX8) (T := TX8) (N := 40) hx hb hts iX8_feedOne_X8 hown hK hP 0 rfl rfl 28 (by decide) (hts (.fieldLink RX8 244 "LeafSignerModel" "taped" "I") (List.mem_of_getElem? (i := 2) rfl)) (fun _ h9 => h9) rfl dX8_feedOne_12 ?_
  refine lv_iload_n hx hb dX8_feedOne_15 rfl (lv_at hl 2 rfl) ?_
  refine lv_iload_n hx hb dX8_feedOne_16 rfl (lv_at hl 0 rfl) ?_
  refine lv_ishr hx hb dX8_feedOne_17 ?_
  refine lv_i2b (v := ((k >>> (24 &&& 31)).toInt8.toInt32)) hx hb dX8_feedOne_18 rfl ?_
  refine vx_bast hx hb hK hP hD hS 1 0 rfl rfl v0 dX8_feedOne_19 (fun H locs f143 hP hD hS => ?_)
  have hP : va_P (dC, dI) classes [(mm, .inr (8, [.int hi, .int ri, .int li, .ref (g 3), .ref (g 4), .ref (g 5), .ref (g 6), .ref (g 7), .ref (g 8), .int 0, .ref (g 10), .ref (g 11), .ref (g 12), .ref (g 13), .ref (g 14), .ref (g 15), .ref (g 16), .ref (g 17), .ref (g 18), .ref (g 19), .ref (g 20), .ref (g 21), .int 0, .ref (g 23), .ref (g 24), .ref (g 25), .ref (g 26), .ref (g 27), .int cnt, .int 0, .int 0, .int 0, .int 0, .int 0, .int 0, .int (-1), .int 0, .ref (g 37), .ref (g 38), .ref (g 39)])), ((g 23), .inl (cMt, 200, .inl f143))] H := hP
  have hD : va_D A [(mm, .inr (8, [.int hi, .int ri, .int li, .ref (g 3), .ref (g 4), .ref (g 5), .ref (g 6), .ref (g 7), .ref (g 8), .int 0, .ref (g 10), .ref (g 11), .ref (g 12), .ref (g 13), .ref (g 14), .ref (g 15), .ref (g 16), .ref (g 17), .ref (g 18), .ref (g 19), .ref (g 20), .ref (g 21), .int 0, .ref (g 23), .ref (g 24), .ref (g 25), .ref (g 26), .ref (g 27), .int cnt, .int 0, .int 0, .int 0, .int 0, .int 0, .int 0, .int (-1), .int 0, .ref (g 37), .ref (g 38), .ref (g 39)])), ((g 23), .inl (cMt, 200, .inl f143))] := hD
  refine lv_aload_n hx hb dX8_feedOne_20 rfl (lv_at hl 1 rfl) ?_
  refine lv_dup hx hb dX8_feedOne_21 rfl ?_
  refine va_get (D := (dC, dI)) (ci := 8) (v := .int cnt) (C := RX8) (T := TX8) (N := 40) hx hb hts iX8_feedOne_X8 hown hK hP 0 rfl rfl 28 (by decide) (hts (.fieldLink RX8 244 "LeafSignerModel" "taped" "I") (List.mem_of_getElem? (i := 2) rfl)) (fun _ h9 => h9) rfl dX8_feedOne_22 ?_
  refine lv_iconst (v := 1) hx hb dX8_feedOne_25 (by decide) ?_
  refine lv_iadd hx hb dX8_feedOne_26 ?_
  refine vx_topk n1 e1 ?_
  refine va_put (D := (dC, dI)) (ci := 8) (v := .int n1) (ty := .int) (C := RX8) (T := TX8) (N := 40) hx hb hts iX8_feedOne_X8 tyX8 tyX8_ok nmX8 hown hK hP hD hS 0 rfl rfl 28 (by decide) (hts (.fieldLink RX8 244 "LeafSignerModel" "taped" "I") (List.mem_of_getElem? (i := 2) rfl)) (fun _ h9 => h9) rfl (by decide +kernel) rfl rfl (Nat.le_of_ble_eq_true rfl) dX8_feedOne_27 (fun H locs hP hD hS => ?_)
  have hP : va_P (dC, dI) classes [(mm, .inr (8, [.int hi, .int ri, .int li, .ref (g 3), .ref (g 4), .ref (g 5), .ref (g 6), .ref (g 7), .ref (g 8), .int 0, .ref (g 10), .ref (g 11), .ref (g 12), .ref (g 13), .ref (g 14), .ref (g 15), .ref (g 16), .ref (g 17), .ref (g 18), .ref (g 19), .ref (g 20), .ref (g 21), .int 0, .ref (g 23), .ref (g 24), .ref (g 25), .ref (g 26), .ref (g 27), .int n1, .int 0, .int 0, .int 0, .int 0, .int 0, .int 0, .int (-1), .int 0, .ref (g 37), .ref (g 38), .ref (g 39)])), ((g 23), .inl (cMt, 200, .inl f143))] H := hP
  have hD : va_D A [(mm, .inr (8, [.int hi, .int ri, .int li, .ref (g 3), .ref (g 4), .ref (g 5), .ref (g 6), .ref (g 7), .ref (g 8), .int 0, .ref (g 10), .ref (g 11), .ref (g 12), .ref (g 13), .ref (g 14), .ref (g 15), .ref (g 16), .ref (g 17), .ref (g 18), .ref (g 19), .ref (g 20), .ref (g 21), .int 0, .ref (g 23), .ref (g 24), .ref (g 25), .ref (g 26), .ref (g 27), .int n1, .int 0, .int 0, .int 0, .int 0, .int 0, .int 0, .int (-1), .int 0, .ref (g 37), .ref (g 38), .ref (g 39)])), ((g 23), .inl (cMt, 200, .inl f143))] := hD
  refine lv_iinc (v := 16) (lv' := [(2, .int 16), (0, .ref mm), (1, .int k)]) hx hb dX8_feedOne_30 hl (k := 0) rfl (by decide) (by decide) rfl (fun ls hl => ?_)
  refine lv_goto (tgt := 3) hx hb dX8_feedOne_33 (by decide) ?_
  refine lv_iload_n hx hb dX8_feedOne_3 rfl (lv_at hl 0 rfl) ?_
  refine lv_if_lt (tgt := 36) hx hb dX8_feedOne_4 (by decide) (fun c144 => absurd c144 (by decide)) (fun c144 => ?_)
  refine lv_aload_n hx hb dX8_feedOne_7 rfl (lv_at hl 1 rfl) ?_
  refine va_get (D := (dC, dI)) (ci := 8) (v := .ref (g 23)) (C := RX8) (T := TX8) (N := 40) hx hb hts iX8_feedOne_X8 hown hK hP 0 rfl rfl 23 (by decide) (hts (.fieldLink RX8 137 "LeafSignerModel" "tape" "[B") (List.mem_of_getElem? (i := 1) rfl)) (fun _ h9 => h9) rfl dX8_feedOne_8 ?_
  refine lv_aload_n hx hb dX8_feedOne_11 rfl (lv_at hl 1 rfl) ?_
  refine va_get (D := (dC, dI)) (ci := 8) (v := .int n1) (C := RX8) (T := TX8) (N := 40) hx hb hts iX8_feedOne_X8 hown hK hP 0 rfl rfl 28 (by decide) (hts (.fieldLink RX8 244 "LeafSignerModel" "taped" "I") (List.mem_of_getElem? (i := 2) rfl)) (fun _ h9 => h9) rfl dX8_feedOne_12 ?_
  refine lv_iload_n hx hb dX8_feedOne_15 rfl (lv_at hl 2 rfl) ?_
  refine lv_iload_n hx hb dX8_feedOne_16 rfl (lv_at hl 0 rfl) ?_
  refine lv_ishr hx hb dX8_feedOne_17 ?_
  refine lv_i2b (v := ((k >>> (16 &&& 31)).toInt8.toInt32)) hx hb dX8_feedOne_18 rfl ?_
  refine vx_bast hx hb hK hP hD hS 1 0 rfl rfl v1 dX8_feedOne_19 (fun H locs f145 hP hD hS => ?_)
  have hP : va_P (dC, dI) classes [(mm, .inr (8, [.int hi, .int ri, .int li, .ref (g 3), .ref (g 4), .ref (g 5), .ref (g 6), .ref (g 7), .ref (g 8), .int 0, .ref (g 10), .ref (g 11), .ref (g 12), .ref (g 13), .ref (g 14), .ref (g 15), .ref (g 16), .ref (g 17), .ref (g 18), .ref (g 19), .ref (g 20), .ref (g 21), .int 0, .ref (g 23), .ref (g 24), .ref (g 25), .ref (g 26), .ref (g 27), .int n1, .int 0, .int 0, .int 0, .int 0, .int 0, .int 0, .int (-1), .int 0, .ref (g 37), .ref (g 38), .ref (g 39)])), ((g 23), .inl (cMt, 200, .inl f145))] H := hP
  have hD : va_D A [(mm, .inr (8, [.int hi, .int ri, .int li, .ref (g 3), .ref (g 4), .ref (g 5), .ref (g 6), .ref (g 7), .ref (g 8), .int 0, .ref (g 10), .ref (g 11), .ref (g 12), .ref (g 13), .ref (g 14), .ref (g 15), .ref (g 16), .ref (g 17), .ref (g 18), .ref (g 19), .ref (g 20), .ref (g 21), .int 0, .ref (g 23), .ref (g 24), .ref (g 25), .ref (g 26), .ref (g 27), .int n1, .int 0, .int 0, .int 0, .int 0, .int 0, .int 0, .int (-1), .int 0, .ref (g 37), .ref (g 38), .ref (g 39)])), ((g 23), .inl (cMt, 200, .inl f145))] := hD
  refine lv_aload_n hx hb dX8_feedOne_20 rfl (lv_at hl 1 rfl) ?_
  refine lv_dup hx hb dX8_feedOne_21 rfl ?_
  refine va_get (D := (dC, dI)) (ci := 8) (v := .int n1) (C := RX8) (T := TX8) (N := 40) hx hb hts iX8_feedOne_X8 hown hK hP 0 rfl rfl 28 (by decide) (hts (.fieldLink RX8 244 "LeafSignerModel" "taped" "I") (List.mem_of_getElem? (i := 2) rfl)) (fun _ h9 => h9) rfl dX8_feedOne_22 ?_
  refine lv_iconst (v := 1) hx hb dX8_feedOne_25 (by decide) ?_
  refine lv_iadd hx hb dX8_feedOne_26 ?_
  refine vx_topk n2 e2 ?_
  refine va_put (D := (dC, dI)) (ci := 8) (v := .int n2) (ty := .int) (C := RX8) (T := TX8) (N := 40) hx hb hts iX8_feedOne_X8 tyX8 tyX8_ok nmX8 hown hK hP hD hS 0 rfl rfl 28 (by decide) (hts (.fieldLink RX8 244 "LeafSignerModel" "taped" "I") (List.mem_of_getElem? (i := 2) rfl)) (fun _ h9 => h9) rfl (by decide +kernel) rfl rfl (Nat.le_of_ble_eq_true rfl) dX8_feedOne_27 (fun H locs hP hD hS => ?_)
  have hP : va_P (dC, dI) classes [(mm, .inr (8, [.int hi, .int ri, .int li, .ref (g 3), .ref (g 4), .ref (g 5), .ref (g 6), .ref (g 7), .ref (g 8), .int 0, .ref (g 10), .ref (g 11), .ref (g 12), .ref (g 13), .ref (g 14), .ref (g 15), .ref (g 16), .ref (g 17), .ref (g 18), .ref (g 19), .ref (g 20), .ref (g 21), .int 0, .ref (g 23), .ref (g 24), .ref (g 25), .ref (g 26), .ref (g 27), .int n2, .int 0, .int 0, .int 0, .int 0, .int 0, .int 0, .int (-1), .int 0, .ref (g 37), .ref (g 38), .ref (g 39)])), ((g 23), .inl (cMt, 200, .inl f145))] H := hP
  have hD : va_D A [(mm, .inr (8, [.int hi, .int ri, .int li, .ref (g 3), .ref (g 4), .ref (g 5), .ref (g 6), .ref (g 7), .ref (g 8), .int 0, .ref (g 10), .ref (g 11), .ref (g 12), .ref (g 13), .ref (g 14), .ref (g 15), .ref (g 16), .ref (g 17), .ref (g 18), .ref (g 19), .ref (g 20), .ref (g 21), .int 0, .ref (g 23), .ref (g 24), .ref (g 25), .ref (g 26), .ref (g 27), .int n2, .int 0, .int 0, .int 0, .int 0, .int 0, .int 0, .int (-1), .int 0, .ref (g 37), .ref (g 38), .ref (g 39)])), ((g 23), .inl (cMt, 200, .inl f145))] := hD
  refine lv_iinc (v := 8) (lv' := [(2, .int 8), (0, .ref mm), (1, .int k)]) hx hb dX8_feedOne_30 hl (k := 0) rfl (by decide) (by decide) rfl (fun ls hl => ?_)
  refine lv_goto (tgt := 3) hx hb dX8_feedOne_33 (by decide) ?_
  refine lv_iload_n hx hb dX8_feedOne_3 rfl (lv_at hl 0 rfl) ?_
  refine lv_if_lt (tgt := 36) hx hb dX8_feedOne_4 (by decide) (fun c146 => absurd c146 (by decide)) (fun c146 => ?_)
  refine lv_aload_n hx hb dX8_feedOne_7 rfl (lv_at hl 1 rfl) ?_
  refine va_get (D := (dC, dI)) (ci := 8) (v := .ref (g 23)) (C := RX8) (T := TX8) (N := 40) hx hb hts iX8_feedOne_X8 hown hK hP 0 rfl rfl 23 (by decide) (hts (.fieldLink RX8 137 "LeafSignerModel" "tape" "[B") (List.mem_of_getElem? (i := 1) rfl)) (fun _ h9 => h9) rfl dX8_feedOne_8 ?_
  refine lv_aload_n hx hb dX8_feedOne_11 rfl (lv_at hl 1 rfl) ?_
  refine va_get (D := (dC, dI)) (ci := 8) (v := .int n2) (C := RX8) (T := TX8) (N := 40) hx hb hts iX8_feedOne_X8 hown hK hP 0 rfl rfl 28 (by decide) (hts (.fieldLink RX8 244 "LeafSignerModel" "taped" "I") (List.mem_of_getElem? (i := 2) rfl)) (fun _ h9 => h9) rfl dX8_feedOne_12 ?_
  refine lv_iload_n hx hb dX8_feedOne_15 rfl (lv_at hl 2 rfl) ?_
  refine lv_iload_n hx hb dX8_feedOne_16 rfl (lv_at hl 0 rfl) ?_
  refine lv_ishr hx hb dX8_feedOne_17 ?_
  refine lv_i2b (v := ((k >>> (8 &&& 31)).toInt8.toInt32)) hx hb dX8_feedOne_18 rfl ?_
  refine vx_bast hx hb hK hP hD hS 1 0 rfl rfl v2 dX8_feedOne_19 (fun H locs f147 hP hD hS => ?_)
  have hP : va_P (dC, dI) classes [(mm, .inr (8, [.int hi, .int ri, .int li, .ref (g 3), .ref (g 4), .ref (g 5), .ref (g 6), .ref (g 7), .ref (g 8), .int 0, .ref (g 10), .ref (g 11), .ref (g 12), .ref (g 13), .ref (g 14), .ref (g 15), .ref (g 16), .ref (g 17), .ref (g 18), .ref (g 19), .ref (g 20), .ref (g 21), .int 0, .ref (g 23), .ref (g 24), .ref (g 25), .ref (g 26), .ref (g 27), .int n2, .int 0, .int 0, .int 0, .int 0, .int 0, .int 0, .int (-1), .int 0, .ref (g 37), .ref (g 38), .ref (g 39)])), ((g 23), .inl (cMt, 200, .inl f147))] H := hP
  have hD : va_D A [(mm, .inr (8, [.int hi, .int ri, .int li, .ref (g 3), .ref (g 4), .ref (g 5), .ref (g 6), .ref (g 7), .ref (g 8), .int 0, .ref (g 10), .ref (g 11), .ref (g 12), .ref (g 13), .ref (g 14), .ref (g 15), .ref (g 16), .ref (g 17), .ref (g 18), .ref (g 19), .ref (g 20), .ref (g 21), .int 0, .ref (g 23), .ref (g 24), .ref (g 25), .ref (g 26), .ref (g 27), .int n2, .int 0, .int 0, .int 0, .int 0, .int 0, .int 0, .int (-1), .int 0, .ref (g 37), .ref (g 38), .ref (g 39)])), ((g 23), .inl (cMt, 200, .inl f147))] := hD
  refine lv_aload_n hx hb dX8_feedOne_20 rfl (lv_at hl 1 rfl) ?_
  refine lv_dup hx hb dX8_feedOne_21 rfl ?_
  refine va_get (D := (dC, dI)) (ci := 8) (v := .int n2) (C := RX8) (T := TX8) (N := 40) hx hb hts iX8_feedOne_X8 hown hK hP 0 rfl rfl 28 (by decide) (hts (.fieldLink RX8 244 "LeafSignerModel" "taped" "I") (List.mem_of_getElem? (i := 2) rfl)) (fun _ h9 => h9) rfl dX8_feedOne_22 ?_
  refine lv_iconst (v := 1) hx hb dX8_feedOne_25 (by decide) ?_
  refine lv_iadd hx hb dX8_feedOne_26 ?_
  refine vx_topk n3 e3 ?_
  refine va_put (D := (dC, dI)) (ci := 8) (v := .int n3) (ty := .int) (C := RX8) (T := TX8) (N := 40) hx hb hts iX8_feedOne_X8 tyX8 tyX8_ok nmX8 hown hK hP hD hS 0 rfl rfl 28 (by decide) (hts (.fieldLink RX8 244 "LeafSignerModel" "taped" "I") (List.mem_of_getElem? (i := 2) rfl)) (fun _ h9 => h9) rfl (by decide +kernel) rfl rfl (Nat.le_of_ble_eq_true rfl) dX8_feedOne_27 (fun H locs hP hD hS => ?_)
  have hP : va_P (dC, dI) classes [(mm, .inr (8, [.int hi, .int ri, .int li, .ref (g 3), .ref (g 4), .ref (g 5), .ref (g 6), .ref (g 7), .ref (g 8), .int 0, .ref (g 10), .ref (g 11), .ref (g 12), .ref (g 13), .ref (g 14), .ref (g 15), .ref (g 16), .ref (g 17), .ref (g 18), .ref (g 19), .ref (g 20), .ref (g 21), .int 0, .ref (g 23), .ref (g 24), .ref (g 25), .ref (g 26), .ref (g 27), .int n3, .int 0, .int 0, .int 0, .int 0, .int 0, .int 0, .int (-1), .int 0, .ref (g 37), .ref (g 38), .ref (g 39)])), ((g 23), .inl (cMt, 200, .inl f147))] H := hP
  have hD : va_D A [(mm, .inr (8, [.int hi, .int ri, .int li, .ref (g 3), .ref (g 4), .ref (g 5), .ref (g 6), .ref (g 7), .ref (g 8), .int 0, .ref (g 10), .ref (g 11), .ref (g 12), .ref (g 13), .ref (g 14), .ref (g 15), .ref (g 16), .ref (g 17), .ref (g 18), .ref (g 19), .ref (g 20), .ref (g 21), .int 0, .ref (g 23), .ref (g 24), .ref (g 25), .ref (g 26), .ref (g 27), .int n3, .int 0, .int 0, .int 0, .int 0, .int 0, .int 0, .int (-1), .int 0, .ref (g 37), .ref (g 38), .ref (g 39)])), ((g 23), .inl (cMt, 200, .inl f147))] := hD
  refine lv_iinc (v := 0) (lv' := [(2, .int 0), (0, .ref mm), (1, .int k)]) hx hb dX8_feedOne_30 hl (k := 0) rfl (by decide) (by decide) rfl (fun ls hl => ?_)
  refine lv_goto (tgt := 3) hx hb dX8_feedOne_33 (by decide) ?_
  refine lv_iload_n hx hb dX8_feedOne_3 rfl (lv_at hl 0 rfl) ?_
  refine lv_if_lt (tgt := 36) hx hb dX8_feedOne_4 (by decide) (fun c148 => absurd c148 (by decide)) (fun c148 => ?_)
  refine lv_aload_n hx hb dX8_feedOne_7 rfl (lv_at hl 1 rfl) ?_
  refine va_get (D := (dC, dI)) (ci := 8) (v := .ref (g 23)) (C := RX8) (T := TX8) (N := 40) hx hb hts iX8_feedOne_X8 hown hK hP 0 rfl rfl 23 (by decide) (hts (.fieldLink RX8 137 "LeafSignerModel" "tape" "[B") (List.mem_of_getElem? (i := 1) rfl)) (fun _ h9 => h9) rfl dX8_feedOne_8 ?_
  refine lv_aload_n hx hb dX8_feedOne_11 rfl (lv_at hl 1 rfl) ?_
  refine va_get (D := (dC, dI)) (ci := 8) (v := .int n3) (C := RX8) (T := TX8) (N := 40) hx hb hts iX8_feedOne_X8 hown hK hP 0 rfl rfl 28 (by decide) (hts (.fieldLink RX8 244 "LeafSignerModel" "taped" "I") (List.mem_of_getElem? (i := 2) rfl)) (fun _ h9 => h9) rfl dX8_feedOne_12 ?_
  refine lv_iload_n hx hb dX8_feedOne_15 rfl (lv_at hl 2 rfl) ?_
  refine lv_iload_n hx hb dX8_feedOne_16 rfl (lv_at hl 0 rfl) ?_
  refine lv_ishr hx hb dX8_feedOne_17 ?_
  refine lv_i2b (v := ((k >>> (0 &&& 31)).toInt8.toInt32)) hx hb dX8_feedOne_18 rfl ?_
  refine vx_bast hx hb hK hP hD hS 1 0 rfl rfl v3 dX8_feedOne_19 (fun H locs f149 hP hD hS => ?_)
  have hP : va_P (dC, dI) classes [(mm, .inr (8, [.int hi, .int ri, .int li, .ref (g 3), .ref (g 4), .ref (g 5), .ref (g 6), .ref (g 7), .ref (g 8), .int 0, .ref (g 10), .ref (g 11), .ref (g 12), .ref (g 13), .ref (g 14), .ref (g 15), .ref (g 16), .ref (g 17), .ref (g 18), .ref (g 19), .ref (g 20), .ref (g 21), .int 0, .ref (g 23), .ref (g 24), .ref (g 25), .ref (g 26), .ref (g 27), .int n3, .int 0, .int 0, .int 0, .int 0, .int 0, .int 0, .int (-1), .int 0, .ref (g 37), .ref (g 38), .ref (g 39)])), ((g 23), .inl (cMt, 200, .inl f149))] H := hP
  have hD : va_D A [(mm, .inr (8, [.int hi, .int ri, .int li, .ref (g 3), .ref (g 4), .ref (g 5), .ref (g 6), .ref (g 7), .ref (g 8), .int 0, .ref (g 10), .ref (g 11), .ref (g 12), .ref (g 13), .ref (g 14), .ref (g 15), .ref (g 16), .ref (g 17), .ref (g 18), .ref (g 19), .ref (g 20), .ref (g 21), .int 0, .ref (g 23), .ref (g 24), .ref (g 25), .ref (g 26), .ref (g 27), .int n3, .int 0, .int 0, .int 0, .int 0, .int 0, .int 0, .int (-1), .int 0, .ref (g 37), .ref (g 38), .ref (g 39)])), ((g 23), .inl (cMt, 200, .inl f149))] := hD
  refine lv_aload_n hx hb dX8_feedOne_20 rfl (lv_at hl 1 rfl) ?_
  refine lv_dup hx hb dX8_feedOne_21 rfl ?_
  refine va_get (D := (dC, dI)) (ci := 8) (v := .int n3) (C := RX8) (T := TX8) (N := 40) hx hb hts iX8_feedOne_X8 hown hK hP 0 rfl rfl 28 (by decide) (hts (.fieldLink RX8 244 "LeafSignerModel" "taped" "I") (List.mem_of_getElem? (i := 2) rfl)) (fun _ h9 => h9) rfl dX8_feedOne_22 ?_
  refine lv_iconst (v := 1) hx hb dX8_feedOne_25 (by decide) ?_
  refine lv_iadd hx hb dX8_feedOne_26 ?_
  refine vx_topk n4 e4 ?_
  refine va_put (D := (dC, dI)) (ci := 8) (v := .int n4) (ty := .int) (C := RX8) (T := TX8) (N := 40) hx hb hts iX8_feedOne_X8 tyX8 tyX8_ok nmX8 hown hK hP hD hS 0 rfl rfl 28 (by decide) (hts (.fieldLink RX8 244 "LeafSignerModel" "taped" "I") (List.mem_of_getElem? (i := 2) rfl)) (fun _ h9 => h9) rfl (by decide +kernel) rfl rfl (Nat.le_of_ble_eq_true rfl) dX8_feedOne_27 (fun H locs hP hD hS => ?_)
  have hP : va_P (dC, dI) classes [(mm, .inr (8, [.int hi, .int ri, .int li, .ref (g 3), .ref (g 4), .ref (g 5), .ref (g 6), .ref (g 7), .ref (g 8), .int 0, .ref (g 10), .ref (g 11), .ref (g 12), .ref (g 13), .ref (g 14), .ref (g 15), .ref (g 16), .ref (g 17), .ref (g 18), .ref (g 19), .ref (g 20), .ref (g 21), .int 0, .ref (g 23), .ref (g 24), .ref (g 25), .ref (g 26), .ref (g 27), .int n4, .int 0, .int 0, .int 0, .int 0, .int 0, .int 0, .int (-1), .int 0, .ref (g 37), .ref (g 38), .ref (g 39)])), ((g 23), .inl (cMt, 200, .inl f149))] H := hP
  have hD : va_D A [(mm, .inr (8, [.int hi, .int ri, .int li, .ref (g 3), .ref (g 4), .ref (g 5), .ref (g 6), .ref (g 7), .ref (g 8), .int 0, .ref (g 10), .ref (g 11), .ref (g 12), .ref (g 13), .ref (g 14), .ref (g 15), .ref (g 16), .ref (g 17), .ref (g 18), .ref (g 19), .ref (g 20), .ref (g 21), .int 0, .ref (g 23), .ref (g 24), .ref (g 25), .ref (g 26), .ref (g 27), .int n4, .int 0, .int 0, .int 0, .int 0, .int 0, .int 0, .int (-1), .int 0, .ref (g 37), .ref (g 38), .ref (g 39)])), ((g 23), .inl (cMt, 200, .inl f149))] := hD
  refine lv_iinc (v := (-8)) (lv' := [(2, .int (-8)), (0, .ref mm), (1, .int k)]) hx hb dX8_feedOne_30 hl (k := 0) rfl (by decide) (by decide) rfl (fun ls hl => ?_)
  refine lv_goto (tgt := 3) hx hb dX8_feedOne_33 (by decide) ?_
  refine lv_iload_n hx hb dX8_feedOne_3 rfl (lv_at hl 0 rfl) ?_
  refine lv_if_lt (tgt := 36) hx hb dX8_feedOne_4 (by decide) (fun c150 => ?_) (fun c150 => absurd (by decide) c150)
  refine W.widen (k := 0) (n := 0) (Nat.le_of_ble_eq_true rfl) (Nat.le_of_ble_eq_true rfl) ?_
  have hP9 := hP.sub (ws' := [(mm, .inr (8, [.int hi, .int ri, .int li, .ref (g 3), .ref (g 4), .ref (g 5), .ref (g 6), .ref (g 7), .ref (g 8), .int 0, .ref (g 10), .ref (g 11), .ref (g 12), .ref (g 13), .ref (g 14), .ref (g 15), .ref (g 16), .ref (g 17), .ref (g 18), .ref (g 19), .ref (g 20), .ref (g 21), .int 0, .ref (g 23), .ref (g 24), .ref (g 25), .ref (g 26), .ref (g 27), .int n4, .int 0, .int 0, .int 0, .int 0, .int 0, .int 0, .int (-1), .int 0, .ref (g 37), .ref (g 38), .ref (g 39)])), ((g 23), .inl (cMt, 200, .inl f149))]) [0, 1] rfl
  have hD9 := hD.sub (ws' := [(mm, .inr (8, [.int hi, .int ri, .int li, .ref (g 3), .ref (g 4), .ref (g 5), .ref (g 6), .ref (g 7), .ref (g 8), .int 0, .ref (g 10), .ref (g 11), .ref (g 12), .ref (g 13), .ref (g 14), .ref (g 15), .ref (g 16), .ref (g 17), .ref (g 18), .ref (g 19), .ref (g 20), .ref (g 21), .int 0, .ref (g 23), .ref (g 24), .ref (g 25), .ref (g 26), .ref (g 27), .int n4, .int 0, .int 0, .int 0, .int 0, .int 0, .int 0, .int (-1), .int 0, .ref (g 37), .ref (g 38), .ref (g 39)])), ((g 23), .inl (cMt, 200, .inl f149))]) [0, 1] (by decide) rfl
  have hK9 := hK.sub (tys' := [(cMt, .byte)]) [0] rfl
  exact W.vret hx hb hr (fun t ht hW => ⟨⟨(), rfl, trivial, ⟨f149, by rw [ht]; exact hP9, va_K.moved hW.alike hK9, hD9⟩⟩, hS.F ht⟩) hS.2.2 dX8_feedOne_36
def ww_X8_feed : List Cond := .code yX8_feed cX8_feed 6 (some .int) :: ([.fieldLink RX8 244 "LeafSignerModel" "taped" "I", .methodLink RX8 247 yX8_feedOne, .instanceMethod yX8_feedOne, .selects RX8 yX8_feedOne yX8_feedOne, .initialized RX8, .code yX8_feedOne cX8_feedOne 3 none, .fieldLink RX8 137 "LeafSignerModel" "tape" "[B"] ++ (wsX80))
theorem iX8_feed_X8 : ∀ w ∈ wsX80, w ∈ ww_X8_feed := fun w h => List.mem_cons_of_mem _ (List.mem_append_right _ h)
set_option maxRecDepth 20000 in
theorem gX8_feed_X8_feedOne_247 : GoodIn ww_X8_feed (wsV RX8 247 RX8 yX8_feedOne ww_X8_feedOne) := vx_good _ [2, 3, 4, 5, 6, 7, 1, 8, 9, 10, 11, 12, 13, 14, 15, 16, 17, 18, 19, 20, 21, 22, 23, 24, 25, 26, 27, 28, 29, 30, 31, 32, 33, 34, 35, 36, 37, 38, 39, 40, 41, 42, 43, 44, 45, 46, 47] rfl (by decide +kernel)
set_option maxHeartbeats 4000000 in
set_option maxRecDepth 100000 in
theorem cm_feed (l : Launch) (dC : Nat → ClassId) (dI : Nat → Nat → Nat) (sz : Nat) (mm : Nat) (k1 : Int32) (k2 : Int32) (k3 : Int32) (k4 : Int32) (k5 : Int32) (hi : Int32) (ri : Int32) (li : Int32) (cMt : ClassId) (g : (Nat → Nat)) : Met l yX8_feed ww_X8_feed ({ frames := 1, cells := 0, slots := 0, locals := 22 }) (va_Pc [.ref mm, .int k1, .int k2, .int k3, .int k4, .int k5] (fun U => U.heap.size = sz ∧ va_P (dC, dI) classes [(mm, .inr (8, [.int hi, .int ri, .int li, .ref (g 3), .ref (g 4), .ref (g 5), .ref (g 6), .ref (g 7), .ref (g 8), .int 0, .ref (g 10), .ref (g 11), .ref (g 12), .ref (g 13), .ref (g 14), .ref (g 15), .ref (g 16), .ref (g 17), .ref (g 18), .ref (g 19), .ref (g 20), .ref (g 21), .int 0, .ref (g 23), .ref (g 24), .ref (g 25), .ref (g 26), .ref (g 27), .int 0, .int 0, .int 0, .int 0, .int 0, .int 0, .int 0, .int (-1), .int 0, .ref (g 37), .ref (g 38), .ref (g 39)])), ((g 23), .inl (cMt, 200, .inl (fun _ => 0)))] U.heap ∧ va_K (dC, dI) classes [(cMt, .byte)] U ∧ va_D (fun _ => True) [(mm, .inr (8, [.int hi, .int ri, .int li, .ref (g 3), .ref (g 4), .ref (g 5), .ref (g 6), .ref (g 7), .ref (g 8), .int 0, .ref (g 10), .ref (g 11), .ref (g 12), .ref (g 13), .ref (g 14), .ref (g 15), .ref (g 16), .ref (g 17), .ref (g 18), .ref (g 19), .ref (g 20), .ref (g 21), .int 0, .ref (g 23), .ref (g 24), .ref (g 25), .ref (g 26), .ref (g 27), .int 0, .int 0, .int 0, .int 0, .int 0, .int 0, .int 0, .int (-1), .int 0, .ref (g 37), .ref (g 38), .ref (g 39)])), ((g 23), .inl (cMt, 200, .inl (fun _ => 0)))])) (va_Qi (fun (r : Int32) (_ : Unit) => r = 20) (fun (_ : Unit) (_ : State) => True) (va_A [(mm, .inr (8, [.int hi, .int ri, .int li, .ref (g 3), .ref (g 4), .ref (g 5), .ref (g 6), .ref (g 7), .ref (g 8), .int 0, .ref (g 10), .ref (g 11), .ref (g 12), .ref (g 13), .ref (g 14), .ref (g 15), .ref (g 16), .ref (g 17), .ref (g 18), .ref (g 19), .ref (g 20), .ref (g 21), .int 0, .ref (g 23), .ref (g 24), .ref (g 25), .ref (g 26), .ref (g 27), .int 0, .int 0, .int 0, .int 0, .int 0, .int 0, .int 0, .int (-1), .int 0, .ref (g 37), .ref (g 38), .ref (g 39)])), ((g 23), .inl (cMt, 200, .inl (fun _ => 0)))] sz)) 0 0 (va_A [(mm, .inr (8, [.int hi, .int ri, .int li, .ref (g 3), .ref (g 4), .ref (g 5), .ref (g 6), .ref (g 7), .ref (g 8), .int 0, .ref (g 10), .ref (g 11), .ref (g 12), .ref (g 13), .ref (g 14), .ref (g 15), .ref (g 16), .ref (g 17), .ref (g 18), .ref (g 19), .ref (g 20), .ref (g 21), .int 0, .ref (g 23), .ref (g 24), .ref (g 25), .ref (g 26), .ref (g 27), .int 0, .int 0, .int 0, .int 0, .int 0, .int 0, .int 0, .int (-1), .int 0, .ref (g 37), .ref (g 38), .ref (g 39)])), ((g 23), .inl (cMt, 200, .inl (fun _ => 0)))] sz) := by
  refine Met.ofW (cc := cX8_feed) (maxL := 6) (ret := (some .int)) (by decide) rfl ?_
  intro p e s m args below meth c s₁ B hml hv
  obtain ⟨rfl, hsz, hP, hK, hD0⟩ := hv
  have hx := B.exec
  have hb := B.bytes
  have hr := B.returns
  have hts := atoms_spec (ws := ww_X8_feed) B.pre
  have hown : s.vm.findClass RX8 = some m.cls := findClass_of_methodNamed B.named
  have hlocks := B.notSynchronized
  subst hsz
  have hD := hD0.self (sz := s.heap.size)
  generalize hAe : va_A [(mm, .inr (8, [.int hi, .int ri, .int li, .ref (g 3), .ref (g 4), .ref (g 5), .ref (g 6), .ref (g 7), .ref (g 8), .int 0, .ref (g 10), .ref (g 11), .ref (g 12), .ref (g 13), .ref (g 14), .ref (g 15), .ref (g 16), .ref (g 17), .ref (g 18), .ref (g 19), .ref (g 20), .ref (g 21), .int 0, .ref (g 23), .ref (g 24), .ref (g 25), .ref (g 26), .ref (g 27), .int 0, .int 0, .int 0, .int 0, .int 0, .int 0, .int 0, .int (-1), .int 0, .ref (g 37), .ref (g 38), .ref (g 39)])), ((g 23), .inl (cMt, 200, .inl (fun _ => 0)))] s.heap.size = A at hD ⊢
  have hA : ∀ q : Nat, s.heap.size ≤ q → A q := fun q h => by rw [← hAe]; exact Or.inr h
  have hS : va_S A s.heap s.heap [] := va_S.rf
  have hP : va_P (dC, dI) classes [(mm, .inr (8, [.int hi, .int ri, .int li, .ref (g 3), .ref (g 4), .ref (g 5), .ref (g 6), .ref (g 7), .ref (g 8), .int 0, .ref (g 10), .ref (g 11), .ref (g 12), .ref (g 13), .ref (g 14), .ref (g 15), .ref (g 16), .ref (g 17), .ref (g 18), .ref (g 19), .ref (g 20), .ref (g 21), .int 0, .ref (g 23), .ref (g 24), .ref (g 25), .ref (g 26), .ref (g 27), .int 0, .int 0, .int 0, .int 0, .int 0, .int 0, .int 0, .int (-1), .int 0, .ref (g 37), .ref (g 38), .ref (g 39)])), ((g 23), .inl (cMt, 200, .inl (fun _ => 0)))] s.heap := hP
  have hl := lv_entry ([.ref mm, .int k1, .int k2, .int k3, .int k4, .int k5]) (n := 6) (Nat.le_of_ble_eq_true rfl)
  rw [lg_entry_eq]
  generalize (lg_sl ([.ref mm, .int k1, .int k2, .int k3, .int k4, .int k5]) ++ List.replicate (6 - (lg_sl ([.ref mm, .int k1, .int k2, .int k3, .int k4, .int k5])).length) Slot.unset).toArray = ls at hl ⊢
  have hl : lv_has ls 6 [(0, .ref mm), (1, .int k1), (2, .int k2), (3, .int k3), (4, .int k4), (5, .int k5)] := hl
  generalize hHe : s.heap = H at hP ⊢
  have hS : va_S A s.heap H [] := by rw [← hHe]; exact va_S.rf
  refine lv_aload_n hx hb dX8_feed_0 rfl (lv_at hl 0 rfl) ?_
  refine va_get (D := (dC, dI)) (ci := 8) (v := .int 0) (C := RX8) (T := TX8) (N := 40) hx hb hts iX8_feed_X8 hown hK hP 0 rfl rfl 28 (by decide) (hts (.fieldLink RX8 244 "LeafSignerModel" "taped" "I") (List.mem_of_getElem? (i := 1) rfl)) (fun _ h9 => h9) rfl dX8_feed_1 ?_
  refine lv_bipush (v := 20) hx hb dX8_feed_4 (by decide) ?_
  refine lv_iadd hx hb dX8_feed_6 ?_
  refine vx_topk 20 (by decide) ?_
  refine lv_sipush (v := 200) hx hb dX8_feed_7 (by decide) ?_
  refine lv_icmp_le (tgt := 15) hx hb dX8_feed_10 (by decide) (fun c151 => ?_) (fun c151 => absurd (by decide) c151)
  refine lv_aload_n hx hb dX8_feed_15 rfl (lv_at hl 0 rfl) ?_
  refine lv_iload_n hx hb dX8_feed_16 rfl (lv_at hl 1 rfl) ?_
  have hPc := hP.sub (ws' := [(mm, .inr (8, [.int hi, .int ri, .int li, .ref (g 3), .ref (g 4), .ref (g 5), .ref (g 6), .ref (g 7), .ref (g 8), .int 0, .ref (g 10), .ref (g 11), .ref (g 12), .ref (g 13), .ref (g 14), .ref (g 15), .ref (g 16), .ref (g 17), .ref (g 18), .ref (g 19), .ref (g 20), .ref (g 21), .int 0, .ref (g 23), .ref (g 24), .ref (g 25), .ref (g 26), .ref (g 27), .int 0, .int 0, .int 0, .int 0, .int 0, .int 0, .int 0, .int (-1), .int 0, .ref (g 37), .ref (g 38), .ref (g 39)])), ((g 23), .inl (cMt, 200, .inl (fun _ => 0)))]) [0, 1] rfl
  have hDc := hD.sub (ws' := [(mm, .inr (8, [.int hi, .int ri, .int li, .ref (g 3), .ref (g 4), .ref (g 5), .ref (g 6), .ref (g 7), .ref (g 8), .int 0, .ref (g 10), .ref (g 11), .ref (g 12), .ref (g 13), .ref (g 14), .ref (g 15), .ref (g 16), .ref (g 17), .ref (g 18), .ref (g 19), .ref (g 20), .ref (g 21), .int 0, .ref (g 23), .ref (g 24), .ref (g 25), .ref (g 26), .ref (g 27), .int 0, .int 0, .int 0, .int 0, .int 0, .int 0, .int 0, .int (-1), .int 0, .ref (g 37), .ref (g 38), .ref (g 39)])), ((g 23), .inl (cMt, 200, .inl (fun _ => 0)))]) [0, 1] (by decide) rfl
  have hKc := hK.sub (tys' := [(cMt, .byte)]) [0] rfl
  have hFc := va_free (wc := [(mm, .inr (8, [.int hi, .int ri, .int li, .ref (g 3), .ref (g 4), .ref (g 5), .ref (g 6), .ref (g 7), .ref (g 8), .int 0, .ref (g 10), .ref (g 11), .ref (g 12), .ref (g 13), .ref (g 14), .ref (g 15), .ref (g 16), .ref (g 17), .ref (g 18), .ref (g 19), .ref (g 20), .ref (g 21), .int 0, .ref (g 23), .ref (g 24), .ref (g 25), .ref (g 26), .ref (g 27), .int 0, .int 0, .int 0, .int 0, .int 0, .int 0, .int 0, .int (-1), .int 0, .ref (g 37), .ref (g 38), .ref (g 39)])), ((g 23), .inl (cMt, 200, .inl (fun _ => 0)))]) hD hS hA [0, 1] rfl
  refine va_callv (va_runV (As := [.int k1]) (rest := []) ⟨hx, hb, hml, hown, hts⟩ (cm_feedOne l dC dI H.size mm k1 hi ri li 0 cMt (fun _ => 0) g 1 2 3 4 (vx_in (by decide)) (vx_in (by decide)) (vx_in (by decide)) (vx_in (by decide)) (by decide) (by decide) (by decide) (by decide)) (cwV 1 hts gX8_feed_X8_feedOne_247 rfl rfl rfl (by decide +kernel) ⟨(Nat.le_of_ble_eq_true rfl), (Nat.le_of_ble_eq_true rfl)⟩) ⟨fun a U g mk q => by obtain ⟨q0, q1, qP, qK, qD⟩ := q; exact ⟨q0, q1, qP, va_K.moved (u := U) (U := U.calling g mk a) (Vm.Alike.refl U.vm) qK, qD⟩, va_recv hKc hPc (ci := 8) (q0 := 0) rfl rfl, fun U hU hW => ⟨rfl, by rw [hU], by rw [hU]; exact hPc, va_K.moved hW.alike hKc, hDc.weaken (fun _ _ _ _ => trivial)⟩⟩ rfl rfl hl.1 rfl (lv_room (Nat.le_of_ble_eq_true rfl)) dX8_feed_17 ⟨(Nat.le_of_ble_eq_true rfl), (Nat.le_of_ble_eq_true rfl)⟩) hS (fun q _ h => hFc q h) hFc (fun u t H1 locs ht hvm hw hB hz1 hk1 hS => ?_)
  obtain ⟨f_153, hP1, hK1, hD1⟩ := hB
  rw [ht] at hP1
  have hK1 := va_K.moved hvm.symm hK1
  obtain ⟨hP, hD⟩ := va_join (wr := []) (w1 := [(mm, .inr (8, [.int hi, .int ri, .int li, .ref (g 3), .ref (g 4), .ref (g 5), .ref (g 6), .ref (g 7), .ref (g 8), .int 0, .ref (g 10), .ref (g 11), .ref (g 12), .ref (g 13), .ref (g 14), .ref (g 15), .ref (g 16), .ref (g 17), .ref (g 18), .ref (g 19), .ref (g 20), .ref (g 21), .int 0, .ref (g 23), .ref (g 24), .ref (g 25), .ref (g 26), .ref (g 27), .int 4, .int 0, .int 0, .int 0, .int 0, .int 0, .int 0, .int (-1), .int 0, .ref (g 37), .ref (g 38), .ref (g 39)])), ((g 23), .inl (cMt, 200, .inl f_153))]) hP hD [0, 1] [] rfl rfl (by decide) (by decide) hk1 hFc hP1 hD1
  have hK := hK.sub (tys' := []) [] rfl
  have hK := hK.app hK1
  generalize H1 = H at hP hS ⊢
  have hP : va_P (dC, dI) classes [(mm, .inr (8, [.int hi, .int ri, .int li, .ref (g 3), .ref (g 4), .ref (g 5), .ref (g 6), .ref (g 7), .ref (g 8), .int 0, .ref (g 10), .ref (g 11), .ref (g 12), .ref (g 13), .ref (g 14), .ref (g 15), .ref (g 16), .ref (g 17), .ref (g 18), .ref (g 19), .ref (g 20), .ref (g 21), .int 0, .ref (g 23), .ref (g 24), .ref (g 25), .ref (g 26), .ref (g 27), .int 4, .int 0, .int 0, .int 0, .int 0, .int 0, .int 0, .int (-1), .int 0, .ref (g 37), .ref (g 38), .ref (g 39)])), ((g 23), .inl (cMt, 200, .inl f_153))] H := hP
  have hD : va_D A [(mm, .inr (8, [.int hi, .int ri, .int li, .ref (g 3), .ref (g 4), .ref (g 5), .ref (g 6), .ref (g 7), .ref (g 8), .int 0, .ref (g 10), .ref (g 11), .ref (g 12), .ref (g 13), .ref (g 14), .ref (g 15), .ref (g 16), .ref (g 17), .ref (g 18), .ref (g 19), .ref (g 20), .ref (g 21), .int 0, .ref (g 23), .ref (g 24), .ref (g 25), .ref (g 26), .ref (g 27), .int 4, .int 0, .int 0, .int 0, .int 0, .int 0, .int 0, .int (-1), .int 0, .ref (g 37), .ref (g 38), .ref (g 39)])), ((g 23), .inl (cMt, 200, .inl f_153))] := hD
  have hK : va_K (dC, dI) classes [(cMt, .byte)] s := hK
  refine W.widen (k := 0) (n := 0) (Nat.le_of_ble_eq_true rfl) (Nat.le_of_ble_eq_true rfl) ?_
  refine lv_aload_n hx hb dX8_feed_20 rfl (lv_at hl 0 rfl) ?_
  refine lv_iload_n hx hb dX8_feed_21 rfl (lv_at hl 2 rfl) ?_
  have hPc := hP.sub (ws' := [(mm, .inr (8, [.int hi, .int ri, .int li, .ref (g 3), .ref (g 4), .ref (g 5), .ref (g 6), .ref (g 7), .ref (g 8), .int 0, .ref (g 10), .ref (g 11), .ref (g 12), .ref (g 13), .ref (g 14), .ref (g 15), .ref (g 16), .ref (g 17), .ref (g 18), .ref (g 19), .ref (g 20), .ref (g 21), .int 0, .ref (g 23), .ref (g 24), .ref (g 25), .ref (g 26), .ref (g 27), .int 4, .int 0, .int 0, .int 0, .int 0, .int 0, .int 0, .int (-1), .int 0, .ref (g 37), .ref (g 38), .ref (g 39)])), ((g 23), .inl (cMt, 200, .inl f_153))]) [0, 1] rfl
  have hDc := hD.sub (ws' := [(mm, .inr (8, [.int hi, .int ri, .int li, .ref (g 3), .ref (g 4), .ref (g 5), .ref (g 6), .ref (g 7), .ref (g 8), .int 0, .ref (g 10), .ref (g 11), .ref (g 12), .ref (g 13), .ref (g 14), .ref (g 15), .ref (g 16), .ref (g 17), .ref (g 18), .ref (g 19), .ref (g 20), .ref (g 21), .int 0, .ref (g 23), .ref (g 24), .ref (g 25), .ref (g 26), .ref (g 27), .int 4, .int 0, .int 0, .int 0, .int 0, .int 0, .int 0, .int (-1), .int 0, .ref (g 37), .ref (g 38), .ref (g 39)])), ((g 23), .inl (cMt, 200, .inl f_153))]) [0, 1] (by decide) rfl
  have hKc := hK.sub (tys' := [(cMt, .byte)]) [0] rfl
  have hFc := va_free (wc := [(mm, .inr (8, [.int hi, .int ri, .int li, .ref (g 3), .ref (g 4), .ref (g 5), .ref (g 6), .ref (g 7), .ref (g 8), .int 0, .ref (g 10), .ref (g 11), .ref (g 12), .ref (g 13), .ref (g 14), .ref (g 15), .ref (g 16), .ref (g 17), .ref (g 18), .ref (g 19), .ref (g 20), .ref (g 21), .int 0, .ref (g 23), .ref (g 24), .ref (g 25), .ref (g 26), .ref (g 27), .int 4, .int 0, .int 0, .int 0, .int 0, .int 0, .int 0, .int (-1), .int 0, .ref (g 37), .ref (g 38), .ref (g 39)])), ((g 23), .inl (cMt, 200, .inl f_153))]) hD hS hA [0, 1] rfl
  refine va_callv (va_runV (As := [.int k2]) (rest := []) ⟨hx, hb, hml, hown, hts⟩ (cm_feedOne l dC dI H.size mm k2 hi ri li 4 cMt f_153 g 5 6 7 8 (vx_in (by decide)) (vx_in (by decide)) (vx_in (by decide)) (vx_in (by decide)) (by decide) (by decide) (by decide) (by decide)) (cwV 1 hts gX8_feed_X8_feedOne_247 rfl rfl rfl (by decide +kernel) ⟨(Nat.le_of_ble_eq_true rfl), (Nat.le_of_ble_eq_true rfl)⟩) ⟨fun a U g mk q => by obtain ⟨q0, q1, qP, qK, qD⟩ := q; exact ⟨q0, q1, qP, va_K.moved (u := U) (U := U.calling g mk a) (Vm.Alike.refl U.vm) qK, qD⟩, va_recv hKc hPc (ci := 8) (q0 := 0) rfl rfl, fun U hU hW => ⟨rfl, by rw [hU], by rw [hU]; exact hPc, va_K.moved hW.alike hKc, hDc.weaken (fun _ _ _ _ => trivial)⟩⟩ rfl rfl hl.1 rfl (lv_room (Nat.le_of_ble_eq_true rfl)) dX8_feed_22 ⟨(Nat.le_of_ble_eq_true rfl), (Nat.le_of_ble_eq_true rfl)⟩) hS (fun q _ h => hFc q h) hFc (fun u t H1 locs ht hvm hw hB hz1 hk1 hS => ?_)
  obtain ⟨f_155, hP1, hK1, hD1⟩ := hB
  rw [ht] at hP1
  have hK1 := va_K.moved hvm.symm hK1
  obtain ⟨hP, hD⟩ := va_join (wr := []) (w1 := [(mm, .inr (8, [.int hi, .int ri, .int li, .ref (g 3), .ref (g 4), .ref (g 5), .ref (g 6), .ref (g 7), .ref (g 8), .int 0, .ref (g 10), .ref (g 11), .ref (g 12), .ref (g 13), .ref (g 14), .ref (g 15), .ref (g 16), .ref (g 17), .ref (g 18), .ref (g 19), .ref (g 20), .ref (g 21), .int 0, .ref (g 23), .ref (g 24), .ref (g 25), .ref (g 26), .ref (g 27), .int 8, .int 0, .int 0, .int 0, .int 0, .int 0, .int 0, .int (-1), .int 0, .ref (g 37), .ref (g 38), .ref (g 39)])), ((g 23), .inl (cMt, 200, .inl f_155))]) hP hD [0, 1] [] rfl rfl (by decide) (by decide) hk1 hFc hP1 hD1
  have hK := hK.sub (tys' := []) [] rfl
  have hK := hK.app hK1
  generalize H1 = H at hP hS ⊢
  have hP : va_P (dC, dI) classes [(mm, .inr (8, [.int hi, .int ri, .int li, .ref (g 3), .ref (g 4), .ref (g 5), .ref (g 6), .ref (g 7), .ref (g 8), .int 0, .ref (g 10), .ref (g 11), .ref (g 12), .ref (g 13), .ref (g 14), .ref (g 15), .ref (g 16), .ref (g 17), .ref (g 18), .ref (g 19), .ref (g 20), .ref (g 21), .int 0, .ref (g 23), .ref (g 24), .ref (g 25), .ref (g 26), .ref (g 27), .int 8, .int 0, .int 0, .int 0, .int 0, .int 0, .int 0, .int (-1), .int 0, .ref (g 37), .ref (g 38), .ref (g 39)])), ((g 23), .inl (cMt, 200, .inl f_155))] H := hP
  have hD : va_D A [(mm, .inr (8, [.int hi, .int ri, .int li, .ref (g 3), .ref (g 4), .ref (g 5), .ref (g 6), .ref (g 7), .ref (g 8), .int 0, .ref (g 10), .ref (g 11), .ref (g 12), .ref (g 13), .ref (g 14), .ref (g 15), .ref (g 16), .ref (g 17), .ref (g 18), .ref (g 19), .ref (g 20), .ref (g 21), .int 0, .ref (g 23), .ref (g 24), .ref (g 25), .ref (g 26), .ref (g 27), .int 8, .int 0, .int 0, .int 0, .int 0, .int 0, .int 0, .int (-1), .int 0, .ref (g 37), .ref (g 38), .ref (g 39)])), ((g 23), .inl (cMt, 200, .inl f_155))] := hD
  have hK : va_K (dC, dI) classes [(cMt, .byte)] s := hK
  refine W.widen (k := 0) (n := 0) (Nat.le_of_ble_eq_true rfl) (Nat.le_of_ble_eq_true rfl) ?_
  refine lv_aload_n hx hb dX8_feed_25 rfl (lv_at hl 0 rfl) ?_
  refine lv_iload_n hx hb dX8_feed_26 rfl (lv_at hl 3 rfl) ?_
  have hPc := hP.sub (ws' := [(mm, .inr (8, [.int hi, .int ri, .int li, .ref (g 3), .ref (g 4), .ref (g 5), .ref (g 6), .ref (g 7), .ref (g 8), .int 0, .ref (g 10), .ref (g 11), .ref (g 12), .ref (g 13), .ref (g 14), .ref (g 15), .ref (g 16), .ref (g 17), .ref (g 18), .ref (g 19), .ref (g 20), .ref (g 21), .int 0, .ref (g 23), .ref (g 24), .ref (g 25), .ref (g 26), .ref (g 27), .int 8, .int 0, .int 0, .int 0, .int 0, .int 0, .int 0, .int (-1), .int 0, .ref (g 37), .ref (g 38), .ref (g 39)])), ((g 23), .inl (cMt, 200, .inl f_155))]) [0, 1] rfl
  have hDc := hD.sub (ws' := [(mm, .inr (8, [.int hi, .int ri, .int li, .ref (g 3), .ref (g 4), .ref (g 5), .ref (g 6), .ref (g 7), .ref (g 8), .int 0, .ref (g 10), .ref (g 11), .ref (g 12), .ref (g 13), .ref (g 14), .ref (g 15), .ref (g 16), .ref (g 17), .ref (g 18), .ref (g 19), .ref (g 20), .ref (g 21), .int 0, .ref (g 23), .ref (g 24), .ref (g 25), .ref (g 26), .ref (g 27), .int 8, .int 0, .int 0, .int 0, .int 0, .int 0, .int 0, .int (-1), .int 0, .ref (g 37), .ref (g 38), .ref (g 39)])), ((g 23), .inl (cMt, 200, .inl f_155))]) [0, 1] (by decide) rfl
  have hKc := hK.sub (tys' := [(cMt, .byte)]) [0] rfl
  have hFc := va_free (wc := [(mm, .inr (8, [.int hi, .int ri, .int li, .ref (g 3), .ref (g 4), .ref (g 5), .ref (g 6), .ref (g 7), .ref (g 8), .int 0, .ref (g 10), .ref (g 11), .ref (g 12), .ref (g 13), .ref (g 14), .ref (g 15), .ref (g 16), .ref (g 17), .ref (g 18), .ref (g 19), .ref (g 20), .ref (g 21), .int 0, .ref (g 23), .ref (g 24), .ref (g 25), .ref (g 26), .ref (g 27), .int 8, .int 0, .int 0, .int 0, .int 0, .int 0, .int 0, .int (-1), .int 0, .ref (g 37), .ref (g 38), .ref (g 39)])), ((g 23), .inl (cMt, 200, .inl f_155))]) hD hS hA [0, 1] rfl
  refine va_callv (va_runV (As := [.int k3]) (rest := []) ⟨hx, hb, hml, hown, hts⟩ (cm_feedOne l dC dI H.size mm k3 hi ri li 8 cMt f_155 g 9 10 11 12 (vx_in (by decide)) (vx_in (by decide)) (vx_in (by decide)) (vx_in (by decide)) (by decide) (by decide) (by decide) (by decide)) (cwV 1 hts gX8_feed_X8_feedOne_247 rfl rfl rfl (by decide +kernel) ⟨(Nat.le_of_ble_eq_true rfl), (Nat.le_of_ble_eq_true rfl)⟩) ⟨fun a U g mk q => by obtain ⟨q0, q1, qP, qK, qD⟩ := q; exact ⟨q0, q1, qP, va_K.moved (u := U) (U := U.calling g mk a) (Vm.Alike.refl U.vm) qK, qD⟩, va_recv hKc hPc (ci := 8) (q0 := 0) rfl rfl, fun U hU hW => ⟨rfl, by rw [hU], by rw [hU]; exact hPc, va_K.moved hW.alike hKc, hDc.weaken (fun _ _ _ _ => trivial)⟩⟩ rfl rfl hl.1 rfl (lv_room (Nat.le_of_ble_eq_true rfl)) dX8_feed_27 ⟨(Nat.le_of_ble_eq_true rfl), (Nat.le_of_ble_eq_true rfl)⟩) hS (fun q _ h => hFc q h) hFc (fun u t H1 locs ht hvm hw hB hz1 hk1 hS => ?_)
  obtain ⟨f_157, hP1, hK1, hD1⟩ := hB
  rw [ht] at hP1
  have hK1 := va_K.moved hvm.symm hK1
  obtain ⟨hP, hD⟩ := va_join (wr := []) (w1 := [(mm, .inr (8, [.int hi, .int ri, .int li, .ref (g 3), .ref (g 4), .ref (g 5), .ref (g 6), .ref (g 7), .ref (g 8), .int 0, .ref (g 10), .ref (g 11), .ref (g 12), .ref (g 13), .ref (g 14), .ref (g 15), .ref (g 16), .ref (g 17), .ref (g 18), .ref (g 19), .ref (g 20), .ref (g 21), .int 0, .ref (g 23), .ref (g 24), .ref (g 25), .ref (g 26), .ref (g 27), .int 12, .int 0, .int 0, .int 0, .int 0, .int 0, .int 0, .int (-1), .int 0, .ref (g 37), .ref (g 38), .ref (g 39)])), ((g 23), .inl (cMt, 200, .inl f_157))]) hP hD [0, 1] [] rfl rfl (by decide) (by decide) hk1 hFc hP1 hD1
  have hK := hK.sub (tys' := []) [] rfl
  have hK := hK.app hK1
  generalize H1 = H at hP hS ⊢
  have hP : va_P (dC, dI) classes [(mm, .inr (8, [.int hi, .int ri, .int li, .ref (g 3), .ref (g 4), .ref (g 5), .ref (g 6), .ref (g 7), .ref (g 8), .int 0, .ref (g 10), .ref (g 11), .ref (g 12), .ref (g 13), .ref (g 14), .ref (g 15), .ref (g 16), .ref (g 17), .ref (g 18), .ref (g 19), .ref (g 20), .ref (g 21), .int 0, .ref (g 23), .ref (g 24), .ref (g 25), .ref (g 26), .ref (g 27), .int 12, .int 0, .int 0, .int 0, .int 0, .int 0, .int 0, .int (-1), .int 0, .ref (g 37), .ref (g 38), .ref (g 39)])), ((g 23), .inl (cMt, 200, .inl f_157))] H := hP
  have hD : va_D A [(mm, .inr (8, [.int hi, .int ri, .int li, .ref (g 3), .ref (g 4), .ref (g 5), .ref (g 6), .ref (g 7), .ref (g 8), .int 0, .ref (g 10), .ref (g 11), .ref (g 12), .ref (g 13), .ref (g 14), .ref (g 15), .ref (g 16), .ref (g 17), .ref (g 18), .ref (g 19), .ref (g 20), .ref (g 21), .int 0, .ref (g 23), .ref (g 24), .ref (g 25), .ref (g 26), .ref (g 27), .int 12, .int 0, .int 0, .int 0, .int 0, .int 0, .int 0, .int (-1), .int 0, .ref (g 37), .ref (g 38), .ref (g 39)])), ((g 23), .inl (cMt, 200, .inl f_157))] := hD
  have hK : va_K (dC, dI) classes [(cMt, .byte)] s := hK
  refine W.widen (k := 0) (n := 0) (Nat.le_of_ble_eq_true rfl) (Nat.le_of_ble_eq_true rfl) ?_
  refine lv_aload_n hx hb dX8_feed_30 rfl (lv_at hl 0 rfl) ?_
  refine lv_iload hx hb dX8_feed_31 (lv_at hl 4 rfl) ?_
  have hPc := hP.sub (ws' := [(mm, .inr (8, [.int hi, .int ri, .int li, .ref (g 3), .ref (g 4), .ref (g 5), .ref (g 6), .ref (g 7), .ref (g 8), .int 0, .ref (g 10), .ref (g 11), .ref (g 12), .ref (g 13), .ref (g 14), .ref (g 15), .ref (g 16), .ref (g 17), .ref (g 18), .ref (g 19), .ref (g 20), .ref (g 21), .int 0, .ref (g 23), .ref (g 24), .ref (g 25), .ref (g 26), .ref (g 27), .int 12, .int 0, .int 0, .int 0, .int 0, .int 0, .int 0, .int (-1), .int 0, .ref (g 37), .ref (g 38), .ref (g 39)])), ((g 23), .inl (cMt, 200, .inl f_157))]) [0, 1] rfl
  have hDc := hD.sub (ws' := [(mm, .inr (8, [.int hi, .int ri, .int li, .ref (g 3), .ref (g 4), .ref (g 5), .ref (g 6), .ref (g 7), .ref (g 8), .int 0, .ref (g 10), .ref (g 11), .ref (g 12), .ref (g 13), .ref (g 14), .ref (g 15), .ref (g 16), .ref (g 17), .ref (g 18), .ref (g 19), .ref (g 20), .ref (g 21), .int 0, .ref (g 23), .ref (g 24), .ref (g 25), .ref (g 26), .ref (g 27), .int 12, .int 0, .int 0, .int 0, .int 0, .int 0, .int 0, .int (-1), .int 0, .ref (g 37), .ref (g 38), .ref (g 39)])), ((g 23), .inl (cMt, 200, .inl f_157))]) [0, 1] (by decide) rfl
  have hKc := hK.sub (tys' := [(cMt, .byte)]) [0] rfl
  have hFc := va_free (wc := [(mm, .inr (8, [.int hi, .int ri, .int li, .ref (g 3), .ref (g 4), .ref (g 5), .ref (g 6), .ref (g 7), .ref (g 8), .int 0, .ref (g 10), .ref (g 11), .ref (g 12), .ref (g 13), .ref (g 14), .ref (g 15), .ref (g 16), .ref (g 17), .ref (g 18), .ref (g 19), .ref (g 20), .ref (g 21), .int 0, .ref (g 23), .ref (g 24), .ref (g 25), .ref (g 26), .ref (g 27), .int 12, .int 0, .int 0, .int 0, .int 0, .int 0, .int 0, .int (-1), .int 0, .ref (g 37), .ref (g 38), .ref (g 39)])), ((g 23), .inl (cMt, 200, .inl f_157))]) hD hS hA [0, 1] rfl
  refine va_callv (va_runV (As := [.int k4]) (rest := []) ⟨hx, hb, hml, hown, hts⟩ (cm_feedOne l dC dI H.size mm k4 hi ri li 12 cMt f_157 g 13 14 15 16 (vx_in (by decide)) (vx_in (by decide)) (vx_in (by decide)) (vx_in (by decide)) (by decide) (by decide) (by decide) (by decide)) (cwV 1 hts gX8_feed_X8_feedOne_247 rfl rfl rfl (by decide +kernel) ⟨(Nat.le_of_ble_eq_true rfl), (Nat.le_of_ble_eq_true rfl)⟩) ⟨fun a U g mk q => by obtain ⟨q0, q1, qP, qK, qD⟩ := q; exact ⟨q0, q1, qP, va_K.moved (u := U) (U := U.calling g mk a) (Vm.Alike.refl U.vm) qK, qD⟩, va_recv hKc hPc (ci := 8) (q0 := 0) rfl rfl, fun U hU hW => ⟨rfl, by rw [hU], by rw [hU]; exact hPc, va_K.moved hW.alike hKc, hDc.weaken (fun _ _ _ _ => trivial)⟩⟩ rfl rfl hl.1 rfl (lv_room (Nat.le_of_ble_eq_true rfl)) dX8_feed_33 ⟨(Nat.le_of_ble_eq_true rfl), (Nat.le_of_ble_eq_true rfl)⟩) hS (fun q _ h => hFc q h) hFc (fun u t H1 locs ht hvm hw hB hz1 hk1 hS => ?_)
  obtain ⟨f_159, hP1, hK1, hD1⟩ := hB
  rw [ht] at hP1
  have hK1 := va_K.moved hvm.symm hK1
  obtain ⟨hP, hD⟩ := va_join (wr := []) (w1 := [(mm, .inr (8, [.int hi, .int ri, .int li, .ref (g 3), .ref (g 4), .ref (g 5), .ref (g 6), .ref (g 7), .ref (g 8), .int 0, .ref (g 10), .ref (g 11), .ref (g 12), .ref (g 13), .ref (g 14), .ref (g 15), .ref (g 16), .ref (g 17), .ref (g 18), .ref (g 19), .ref (g 20), .ref (g 21), .int 0, .ref (g 23), .ref (g 24), .ref (g 25), .ref (g 26), .ref (g 27), .int 16, .int 0, .int 0, .int 0, .int 0, .int 0, .int 0, .int (-1), .int 0, .ref (g 37), .ref (g 38), .ref (g 39)])), ((g 23), .inl (cMt, 200, .inl f_159))]) hP hD [0, 1] [] rfl rfl (by decide) (by decide) hk1 hFc hP1 hD1
  have hK := hK.sub (tys' := []) [] rfl
  have hK := hK.app hK1
  generalize H1 = H at hP hS ⊢
  have hP : va_P (dC, dI) classes [(mm, .inr (8, [.int hi, .int ri, .int li, .ref (g 3), .ref (g 4), .ref (g 5), .ref (g 6), .ref (g 7), .ref (g 8), .int 0, .ref (g 10), .ref (g 11), .ref (g 12), .ref (g 13), .ref (g 14), .ref (g 15), .ref (g 16), .ref (g 17), .ref (g 18), .ref (g 19), .ref (g 20), .ref (g 21), .int 0, .ref (g 23), .ref (g 24), .ref (g 25), .ref (g 26), .ref (g 27), .int 16, .int 0, .int 0, .int 0, .int 0, .int 0, .int 0, .int (-1), .int 0, .ref (g 37), .ref (g 38), .ref (g 39)])), ((g 23), .inl (cMt, 200, .inl f_159))] H := hP
  have hD : va_D A [(mm, .inr (8, [.int hi, .int ri, .int li, .ref (g 3), .ref (g 4), .ref (g 5), .ref (g 6), .ref (g 7), .ref (g 8), .int 0, .ref (g 10), .ref (g 11), .ref (g 12), .ref (g 13), .ref (g 14), .ref (g 15), .ref (g 16), .ref (g 17), .ref (g 18), .ref (g 19), .ref (g 20), .ref (g 21), .int 0, .ref (g 23), .ref (g 24), .ref (g 25), .ref (g 26), .ref (g 27), .int 16, .int 0, .int 0, .int 0, .int 0, .int 0, .int 0, .int (-1), .int 0, .ref (g 37), .ref (g 38), .ref (g 39)])), ((g 23), .inl (cMt, 200, .inl f_159))] := hD
  have hK : va_K (dC, dI) classes [(cMt, .byte)] s := hK
  refine W.widen (k := 0) (n := 0) (Nat.le_of_ble_eq_true rfl) (Nat.le_of_ble_eq_true rfl) ?_
  refine lv_aload_n hx hb dX8_feed_36 rfl (lv_at hl 0 rfl) ?_
  refine lv_iload hx hb dX8_feed_37 (lv_at hl 5 rfl) ?_
  have hPc := hP.sub (ws' := [(mm, .inr (8, [.int hi, .int ri, .int li, .ref (g 3), .ref (g 4), .ref (g 5), .ref (g 6), .ref (g 7), .ref (g 8), .int 0, .ref (g 10), .ref (g 11), .ref (g 12), .ref (g 13), .ref (g 14), .ref (g 15), .ref (g 16), .ref (g 17), .ref (g 18), .ref (g 19), .ref (g 20), .ref (g 21), .int 0, .ref (g 23), .ref (g 24), .ref (g 25), .ref (g 26), .ref (g 27), .int 16, .int 0, .int 0, .int 0, .int 0, .int 0, .int 0, .int (-1), .int 0, .ref (g 37), .ref (g 38), .ref (g 39)])), ((g 23), .inl (cMt, 200, .inl f_159))]) [0, 1] rfl
  have hDc := hD.sub (ws' := [(mm, .inr (8, [.int hi, .int ri, .int li, .ref (g 3), .ref (g 4), .ref (g 5), .ref (g 6), .ref (g 7), .ref (g 8), .int 0, .ref (g 10), .ref (g 11), .ref (g 12), .ref (g 13), .ref (g 14), .ref (g 15), .ref (g 16), .ref (g 17), .ref (g 18), .ref (g 19), .ref (g 20), .ref (g 21), .int 0, .ref (g 23), .ref (g 24), .ref (g 25), .ref (g 26), .ref (g 27), .int 16, .int 0, .int 0, .int 0, .int 0, .int 0, .int 0, .int (-1), .int 0, .ref (g 37), .ref (g 38), .ref (g 39)])), ((g 23), .inl (cMt, 200, .inl f_159))]) [0, 1] (by decide) rfl
  have hKc := hK.sub (tys' := [(cMt, .byte)]) [0] rfl
  have hFc := va_free (wc := [(mm, .inr (8, [.int hi, .int ri, .int li, .ref (g 3), .ref (g 4), .ref (g 5), .ref (g 6), .ref (g 7), .ref (g 8), .int 0, .ref (g 10), .ref (g 11), .ref (g 12), .ref (g 13), .ref (g 14), .ref (g 15), .ref (g 16), .ref (g 17), .ref (g 18), .ref (g 19), .ref (g 20), .ref (g 21), .int 0, .ref (g 23), .ref (g 24), .ref (g 25), .ref (g 26), .ref (g 27), .int 16, .int 0, .int 0, .int 0, .int 0, .int 0, .int 0, .int (-1), .int 0, .ref (g 37), .ref (g 38), .ref (g 39)])), ((g 23), .inl (cMt, 200, .inl f_159))]) hD hS hA [0, 1] rfl
  refine va_callv (va_runV (As := [.int k5]) (rest := []) ⟨hx, hb, hml, hown, hts⟩ (cm_feedOne l dC dI H.size mm k5 hi ri li 16 cMt f_159 g 17 18 19 20 (vx_in (by decide)) (vx_in (by decide)) (vx_in (by decide)) (vx_in (by decide)) (by decide) (by decide) (by decide) (by decide)) (cwV 1 hts gX8_feed_X8_feedOne_247 rfl rfl rfl (by decide +kernel) ⟨(Nat.le_of_ble_eq_true rfl), (Nat.le_of_ble_eq_true rfl)⟩) ⟨fun a U g mk q => by obtain ⟨q0, q1, qP, qK, qD⟩ := q; exact ⟨q0, q1, qP, va_K.moved (u := U) (U := U.calling g mk a) (Vm.Alike.refl U.vm) qK, qD⟩, va_recv hKc hPc (ci := 8) (q0 := 0) rfl rfl, fun U hU hW => ⟨rfl, by rw [hU], by rw [hU]; exact hPc, va_K.moved hW.alike hKc, hDc.weaken (fun _ _ _ _ => trivial)⟩⟩ rfl rfl hl.1 rfl (lv_room (Nat.le_of_ble_eq_true rfl)) dX8_feed_39 ⟨(Nat.le_of_ble_eq_true rfl), (Nat.le_of_ble_eq_true rfl)⟩) hS (fun q _ h => hFc q h) hFc (fun u t H1 locs ht hvm hw hB hz1 hk1 hS => ?_)
  obtain ⟨f_161, hP1, hK1, hD1⟩ := hB
  rw [ht] at hP1
  have hK1 := va_K.moved hvm.symm hK1
  obtain ⟨hP, hD⟩ := va_join (wr := []) (w1 := [(mm, .inr (8, [.int hi, .int ri, .int li, .ref (g 3), .ref (g 4), .ref (g 5), .ref (g 6), .ref (g 7), .ref (g 8), .int 0, .ref (g 10), .ref (g 11), .ref (g 12), .ref (g 13), .ref (g 14), .ref (g 15), .ref (g 16), .ref (g 17), .ref (g 18), .ref (g 19), .ref (g 20), .ref (g 21), .int 0, .ref (g 23), .ref (g 24), .ref (g 25), .ref (g 26), .ref (g 27), .int 20, .int 0, .int 0, .int 0, .int 0, .int 0, .int 0, .int (-1), .int 0, .ref (g 37), .ref (g 38), .ref (g 39)])), ((g 23), .inl (cMt, 200, .inl f_161))]) hP hD [0, 1] [] rfl rfl (by decide) (by decide) hk1 hFc hP1 hD1
  have hK := hK.sub (tys' := []) [] rfl
  have hK := hK.app hK1
  generalize H1 = H at hP hS ⊢
  have hP : va_P (dC, dI) classes [(mm, .inr (8, [.int hi, .int ri, .int li, .ref (g 3), .ref (g 4), .ref (g 5), .ref (g 6), .ref (g 7), .ref (g 8), .int 0, .ref (g 10), .ref (g 11), .ref (g 12), .ref (g 13), .ref (g 14), .ref (g 15), .ref (g 16), .ref (g 17), .ref (g 18), .ref (g 19), .ref (g 20), .ref (g 21), .int 0, .ref (g 23), .ref (g 24), .ref (g 25), .ref (g 26), .ref (g 27), .int 20, .int 0, .int 0, .int 0, .int 0, .int 0, .int 0, .int (-1), .int 0, .ref (g 37), .ref (g 38), .ref (g 39)])), ((g 23), .inl (cMt, 200, .inl f_161))] H := hP
  have hD : va_D A [(mm, .inr (8, [.int hi, .int ri, .int li, .ref (g 3), .ref (g 4), .ref (g 5), .ref (g 6), .ref (g 7), .ref (g 8), .int 0, .ref (g 10), .ref (g 11), .ref (g 12), .ref (g 13), .ref (g 14), .ref (g 15), .ref (g 16), .ref (g 17), .ref (g 18), .ref (g 19), .ref (g 20), .ref (g 21), .int 0, .ref (g 23), .ref (g 24), .ref (g 25), .ref (g 26), .ref (g 27), .int 20, .int 0, .int 0, .int 0, .int 0, .int 0, .int 0, .int (-1), .int 0, .ref (g 37), .ref (g 38), .ref (g 39)])), ((g 23), .inl (cMt, 200, .inl f_161))] := hD
  have hK : va_K (dC, dI) classes [(cMt, .byte)] s := hK
  refine W.widen (k := 0) (n := 0) (Nat.le_of_ble_eq_true rfl) (Nat.le_of_ble_eq_true rfl) ?_
  refine lv_aload_n hx hb dX8_feed_42 rfl (lv_at hl 0 rfl) ?_
  refine va_get (D := (dC, dI)) (ci := 8) (v := .int 20) (C := RX8) (T := TX8) (N := 40) hx hb hts iX8_feed_X8 hown hK hP 0 rfl rfl 28 (by decide) (hts (.fieldLink RX8 244 "LeafSignerModel" "taped" "I") (List.mem_of_getElem? (i := 1) rfl)) (fun _ h9 => h9) rfl dX8_feed_43 ?_
  refine W.widen (k := 0) (n := 0) (Nat.le_of_ble_eq_true rfl) (Nat.le_of_ble_eq_true rfl) ?_
  exact W.iret (v := 20) hx hb hr (fun t ht hW => ⟨⟨20, (), rfl, rfl, trivial⟩, hS.F ht⟩) hS.2.2 dX8_feed_46
def ww_X8_keys : List Cond := .code yX8_keys cX8_keys 2 (some .boolean) :: ([.fieldLink RX8 244 "LeafSignerModel" "taped" "I"] ++ (wsX80))
theorem iX8_keys_X8 : ∀ w ∈ wsX80, w ∈ ww_X8_keys := fun w h => List.mem_cons_of_mem _ (List.mem_append_right _ h)
set_option maxHeartbeats 4000000 in
set_option maxRecDepth 100000 in
theorem cm_keys (l : Launch) (dC : Nat → ClassId) (dI : Nat → Nat → Nat) (sz : Nat) (mm : Nat) (hi : Int32) (ri : Int32) (li : Int32) (g : (Nat → Nat)) : Met l yX8_keys ww_X8_keys ({ frames := 0, cells := 0, slots := 0, locals := 0 }) (va_Pc [.ref mm] (fun U => U.heap.size = sz ∧ va_P (dC, dI) classes [(mm, .inr (8, [.int hi, .int ri, .int li, .ref (g 3), .ref (g 4), .ref (g 5), .ref (g 6), .ref (g 7), .ref (g 8), .int 0, .ref (g 10), .ref (g 11), .ref (g 12), .ref (g 13), .ref (g 14), .ref (g 15), .ref (g 16), .ref (g 17), .ref (g 18), .ref (g 19), .ref (g 20), .ref (g 21), .int 0, .ref (g 23), .ref (g 24), .ref (g 25), .ref (g 26), .ref (g 27), .int 0, .int 0, .int 0, .int 0, .int 0, .int 0, .int 0, .int (-1), .int 0, .ref (g 37), .ref (g 38), .ref (g 39)]))] U.heap ∧ va_K (dC, dI) classes [] U ∧ va_D (fun _ => True) [(mm, .inr (8, [.int hi, .int ri, .int li, .ref (g 3), .ref (g 4), .ref (g 5), .ref (g 6), .ref (g 7), .ref (g 8), .int 0, .ref (g 10), .ref (g 11), .ref (g 12), .ref (g 13), .ref (g 14), .ref (g 15), .ref (g 16), .ref (g 17), .ref (g 18), .ref (g 19), .ref (g 20), .ref (g 21), .int 0, .ref (g 23), .ref (g 24), .ref (g 25), .ref (g 26), .ref (g 27), .int 0, .int 0, .int 0, .int 0, .int 0, .int 0, .int 0, .int (-1), .int 0, .ref (g 37), .ref (g 38), .ref (g 39)]))])) (va_Qi (fun (r : Int32) (_ : Unit) => r = 0) (fun (_ : Unit) (_ : State) => True) (va_A [(mm, .inr (8, [.int hi, .int ri, .int li, .ref (g 3), .ref (g 4), .ref (g 5), .ref (g 6), .ref (g 7), .ref (g 8), .int 0, .ref (g 10), .ref (g 11), .ref (g 12), .ref (g 13), .ref (g 14), .ref (g 15), .ref (g 16), .ref (g 17), .ref (g 18), .ref (g 19), .ref (g 20), .ref (g 21), .int 0, .ref (g 23), .ref (g 24), .ref (g 25), .ref (g 26), .ref (g 27), .int 0, .int 0, .int 0, .int 0, .int 0, .int 0, .int 0, .int (-1), .int 0, .ref (g 37), .ref (g 38), .ref (g 39)]))] sz)) 0 0 (va_A [(mm, .inr (8, [.int hi, .int ri, .int li, .ref (g 3), .ref (g 4), .ref (g 5), .ref (g 6), .ref (g 7), .ref (g 8), .int 0, .ref (g 10), .ref (g 11), .ref (g 12), .ref (g 13), .ref (g 14), .ref (g 15), .ref (g 16), .ref (g 17), .ref (g 18), .ref (g 19), .ref (g 20), .ref (g 21), .int 0, .ref (g 23), .ref (g 24), .ref (g 25), .ref (g 26), .ref (g 27), .int 0, .int 0, .int 0, .int 0, .int 0, .int 0, .int 0, .int (-1), .int 0, .ref (g 37), .ref (g 38), .ref (g 39)]))] sz) := by
  refine Met.ofW (cc := cX8_keys) (maxL := 2) (ret := (some .boolean)) (by decide) rfl ?_
  intro p e s m args below meth c s₁ B hml hv
  obtain ⟨rfl, hsz, hP, hK, hD0⟩ := hv
  have hx := B.exec
  have hb := B.bytes
  have hr := B.returns
  have hts := atoms_spec (ws := ww_X8_keys) B.pre
  have hown : s.vm.findClass RX8 = some m.cls := findClass_of_methodNamed B.named
  have hlocks := B.notSynchronized
  subst hsz
  have hD := hD0.self (sz := s.heap.size)
  generalize hAe : va_A [(mm, .inr (8, [.int hi, .int ri, .int li, .ref (g 3), .ref (g 4), .ref (g 5), .ref (g 6), .ref (g 7), .ref (g 8), .int 0, .ref (g 10), .ref (g 11), .ref (g 12), .ref (g 13), .ref (g 14), .ref (g 15), .ref (g 16), .ref (g 17), .ref (g 18), .ref (g 19), .ref (g 20), .ref (g 21), .int 0, .ref (g 23), .ref (g 24), .ref (g 25), .ref (g 26), .ref (g 27), .int 0, .int 0, .int 0, .int 0, .int 0, .int 0, .int 0, .int (-1), .int 0, .ref (g 37), .ref (g 38), .ref (g 39)]))] s.heap.size = A at hD ⊢
  have hA : ∀ q : Nat, s.heap.size ≤ q → A q := fun q h => by rw [← hAe]; exact Or.inr h
  have hS : va_S A s.heap s.heap [] := va_S.rf
  have hP : va_P (dC, dI) classes [(mm, .inr (8, [.int hi, .int ri, .int li, .ref (g 3), .ref (g 4), .ref (g 5), .ref (g 6), .ref (g 7), .ref (g 8), .int 0, .ref (g 10), .ref (g 11), .ref (g 12), .ref (g 13), .ref (g 14), .ref (g 15), .ref (g 16), .ref (g 17), .ref (g 18), .ref (g 19), .ref (g 20), .ref (g 21), .int 0, .ref (g 23), .ref (g 24), .ref (g 25), .ref (g 26), .ref (g 27), .int 0, .int 0, .int 0, .int 0, .int 0, .int 0, .int 0, .int (-1), .int 0, .ref (g 37), .ref (g 38), .ref (g 39)]))] s.heap := hP
  have hl := lv_entry ([.ref mm]) (n := 2) (Nat.le_of_ble_eq_true rfl)
  rw [lg_entry_eq]
  generalize (lg_sl ([.ref mm]) ++ List.replicate (2 - (lg_sl ([.ref mm])).length) Slot.unset).toArray = ls at hl ⊢
  have hl : lv_has ls 2 [(0, .ref mm)] := hl
  generalize hHe : s.heap = H at hP ⊢
  have hS : va_S A s.heap H [] := by rw [← hHe]; exact va_S.rf
  refine lv_aload_n hx hb dX8_keys_0 rfl (lv_at hl 0 rfl) ?_
  refine va_get (D := (dC, dI)) (ci := 8) (v := .int 0) (C := RX8) (T := TX8) (N := 40) hx hb hts iX8_keys_X8 hown hK hP 0 rfl rfl 28 (by decide) (hts (.fieldLink RX8 244 "LeafSignerModel" "taped" "I") (List.mem_of_getElem? (i := 1) rfl)) (fun _ h9 => h9) rfl dX8_keys_1 ?_
  refine lv_bipush (v := 96) hx hb dX8_keys_4 (by decide) ?_
  refine lv_icmp_ge (tgt := 11) hx hb dX8_keys_6 (by decide) (fun c162 => absurd c162 (by decide)) (fun c162 => ?_)
  refine lv_iconst (v := 0) hx hb dX8_keys_9 (by decide) ?_
  refine W.widen (k := 0) (n := 0) (Nat.le_of_ble_eq_true rfl) (Nat.le_of_ble_eq_true rfl) ?_
  exact W.zret (v := 0) (ty := .boolean) hx hb hr (by decide) (fun t ht hW => ⟨⟨0, (), rfl, rfl, trivial⟩, hS.F ht⟩) hS.2.2 dX8_keys_10
def ww_X8_fall : List Cond := .code yX8_fall cX8_fall 1 (some .boolean) :: ([.fieldLink RX8 257 "LeafSignerModel" "state" "I"] ++ (wsX80))
theorem iX8_fall_X8 : ∀ w ∈ wsX80, w ∈ ww_X8_fall := fun w h => List.mem_cons_of_mem _ (List.mem_append_right _ h)
set_option maxHeartbeats 4000000 in
set_option maxRecDepth 100000 in
theorem cm_fall (l : Launch) (dC : Nat → ClassId) (dI : Nat → Nat → Nat) (sz : Nat) (mm : Nat) (hi : Int32) (ri : Int32) (li : Int32) (g : (Nat → Nat)) : Met l yX8_fall ww_X8_fall ({ frames := 0, cells := 0, slots := 0, locals := 0 }) (va_Pc [.ref mm] (fun U => U.heap.size = sz ∧ va_P (dC, dI) classes [(mm, .inr (8, [.int hi, .int ri, .int li, .ref (g 3), .ref (g 4), .ref (g 5), .ref (g 6), .ref (g 7), .ref (g 8), .int 0, .ref (g 10), .ref (g 11), .ref (g 12), .ref (g 13), .ref (g 14), .ref (g 15), .ref (g 16), .ref (g 17), .ref (g 18), .ref (g 19), .ref (g 20), .ref (g 21), .int 0, .ref (g 23), .ref (g 24), .ref (g 25), .ref (g 26), .ref (g 27), .int 0, .int 0, .int 0, .int 0, .int 0, .int 0, .int 0, .int (-1), .int 0, .ref (g 37), .ref (g 38), .ref (g 39)]))] U.heap ∧ va_K (dC, dI) classes [] U ∧ va_D (fun _ => True) [(mm, .inr (8, [.int hi, .int ri, .int li, .ref (g 3), .ref (g 4), .ref (g 5), .ref (g 6), .ref (g 7), .ref (g 8), .int 0, .ref (g 10), .ref (g 11), .ref (g 12), .ref (g 13), .ref (g 14), .ref (g 15), .ref (g 16), .ref (g 17), .ref (g 18), .ref (g 19), .ref (g 20), .ref (g 21), .int 0, .ref (g 23), .ref (g 24), .ref (g 25), .ref (g 26), .ref (g 27), .int 0, .int 0, .int 0, .int 0, .int 0, .int 0, .int 0, .int (-1), .int 0, .ref (g 37), .ref (g 38), .ref (g 39)]))])) (va_Qi (fun (r : Int32) (_ : Unit) => r = 0) (fun (_ : Unit) (_ : State) => True) (va_A [(mm, .inr (8, [.int hi, .int ri, .int li, .ref (g 3), .ref (g 4), .ref (g 5), .ref (g 6), .ref (g 7), .ref (g 8), .int 0, .ref (g 10), .ref (g 11), .ref (g 12), .ref (g 13), .ref (g 14), .ref (g 15), .ref (g 16), .ref (g 17), .ref (g 18), .ref (g 19), .ref (g 20), .ref (g 21), .int 0, .ref (g 23), .ref (g 24), .ref (g 25), .ref (g 26), .ref (g 27), .int 0, .int 0, .int 0, .int 0, .int 0, .int 0, .int 0, .int (-1), .int 0, .ref (g 37), .ref (g 38), .ref (g 39)]))] sz)) 0 0 (va_A [(mm, .inr (8, [.int hi, .int ri, .int li, .ref (g 3), .ref (g 4), .ref (g 5), .ref (g 6), .ref (g 7), .ref (g 8), .int 0, .ref (g 10), .ref (g 11), .ref (g 12), .ref (g 13), .ref (g 14), .ref (g 15), .ref (g 16), .ref (g 17), .ref (g 18), .ref (g 19), .ref (g 20), .ref (g 21), .int 0, .ref (g 23), .ref (g 24), .ref (g 25), .ref (g 26), .ref (g 27), .int 0, .int 0, .int 0, .int 0, .int 0, .int 0, .int 0, .int (-1), .int 0, .ref (g 37), .ref (g 38), .ref (g 39)]))] sz) := by
  refine Met.ofW (cc := cX8_fall) (maxL := 1) (ret := (some .boolean)) (by decide) rfl ?_
  intro p e s m args below meth c s₁ B hml hv
  obtain ⟨rfl, hsz, hP, hK, hD0⟩ := hv
  have hx := B.exec
  have hb := B.bytes
  have hr := B.returns
  have hts := atoms_spec (ws := ww_X8_fall) B.pre
  have hown : s.vm.findClass RX8 = some m.cls := findClass_of_methodNamed B.named
  have hlocks := B.notSynchronized
  subst hsz
  have hD := hD0.self (sz := s.heap.size)
  generalize hAe : va_A [(mm, .inr (8, [.int hi, .int ri, .int li, .ref (g 3), .ref (g 4), .ref (g 5), .ref (g 6), .ref (g 7), .ref (g 8), .int 0, .ref (g 10), .ref (g 11), .ref (g 12), .ref (g 13), .ref (g 14), .ref (g 15), .ref (g 16), .ref (g 17), .ref (g 18), .ref (g 19), .ref (g 20), .ref (g 21), .int 0, .ref (g 23), .ref (g 24), .ref (g 25), .ref (g 26), .ref (g 27), .int 0, .int 0, .int 0, .int 0, .int 0, .int 0, .int 0, .int (-1), .int 0, .ref (g 37), .ref (g 38), .ref (g 39)]))] s.heap.size = A at hD ⊢
  have hA : ∀ q : Nat, s.heap.size ≤ q → A q := fun q h => by rw [← hAe]; exact Or.inr h
  have hS : va_S A s.heap s.heap [] := va_S.rf
  have hP : va_P (dC, dI) classes [(mm, .inr (8, [.int hi, .int ri, .int li, .ref (g 3), .ref (g 4), .ref (g 5), .ref (g 6), .ref (g 7), .ref (g 8), .int 0, .ref (g 10), .ref (g 11), .ref (g 12), .ref (g 13), .ref (g 14), .ref (g 15), .ref (g 16), .ref (g 17), .ref (g 18), .ref (g 19), .ref (g 20), .ref (g 21), .int 0, .ref (g 23), .ref (g 24), .ref (g 25), .ref (g 26), .ref (g 27), .int 0, .int 0, .int 0, .int 0, .int 0, .int 0, .int 0, .int (-1), .int 0, .ref (g 37), .ref (g 38), .ref (g 39)]))] s.heap := hP
  have hl := lv_entry ([.ref mm]) (n := 1) (Nat.le_of_ble_eq_true rfl)
  rw [lg_entry_eq]
  generalize (lg_sl ([.ref mm]) ++ List.replicate (1 - (lg_sl ([.ref mm])).length) Slot.unset).toArray = ls at hl ⊢
  have hl : lv_has ls 1 [(0, .ref mm)] := hl
  generalize hHe : s.heap = H at hP ⊢
  have hS : va_S A s.heap H [] := by rw [← hHe]; exact va_S.rf
  refine lv_aload_n hx hb dX8_fall_0 rfl (lv_at hl 0 rfl) ?_
  refine va_get (D := (dC, dI)) (ci := 8) (v := .int 0) (C := RX8) (T := TX8) (N := 40) hx hb hts iX8_fall_X8 hown hK hP 0 rfl rfl 31 (by decide) (hts (.fieldLink RX8 257 "LeafSignerModel" "state" "I") (List.mem_of_getElem? (i := 1) rfl)) (fun _ h9 => h9) rfl dX8_fall_1 ?_
  refine lv_iconst (v := 1) hx hb dX8_fall_4 (by decide) ?_
  refine lv_icmp_eq (tgt := 10) hx hb dX8_fall_5 (by decide) (fun c163 => absurd c163 (by decide)) (fun c163 => ?_)
  refine lv_iconst (v := 0) hx hb dX8_fall_8 (by decide) ?_
  refine W.widen (k := 0) (n := 0) (Nat.le_of_ble_eq_true rfl) (Nat.le_of_ble_eq_true rfl) ?_
  exact W.zret (v := 0) (ty := .boolean) hx hb hr (by decide) (fun t ht hW => ⟨⟨0, (), rfl, rfl, trivial⟩, hS.F ht⟩) hS.2.2 dX8_fall_9
def ww_X8_rise : List Cond := .code yX8_rise cX8_rise 2 (some .boolean) :: ([.fieldLink RX8 257 "LeafSignerModel" "state" "I"] ++ (wsX80))
theorem iX8_rise_X8 : ∀ w ∈ wsX80, w ∈ ww_X8_rise := fun w h => List.mem_cons_of_mem _ (List.mem_append_right _ h)
set_option maxHeartbeats 4000000 in
set_option maxRecDepth 100000 in
theorem cm_rise (l : Launch) (dC : Nat → ClassId) (dI : Nat → Nat → Nat) (sz : Nat) (mm : Nat) (hi : Int32) (ri : Int32) (li : Int32) (g : (Nat → Nat)) : Met l yX8_rise ww_X8_rise ({ frames := 0, cells := 0, slots := 0, locals := 0 }) (va_Pc [.ref mm] (fun U => U.heap.size = sz ∧ va_P (dC, dI) classes [(mm, .inr (8, [.int hi, .int ri, .int li, .ref (g 3), .ref (g 4), .ref (g 5), .ref (g 6), .ref (g 7), .ref (g 8), .int 0, .ref (g 10), .ref (g 11), .ref (g 12), .ref (g 13), .ref (g 14), .ref (g 15), .ref (g 16), .ref (g 17), .ref (g 18), .ref (g 19), .ref (g 20), .ref (g 21), .int 0, .ref (g 23), .ref (g 24), .ref (g 25), .ref (g 26), .ref (g 27), .int 0, .int 0, .int 0, .int 0, .int 0, .int 0, .int 0, .int (-1), .int 0, .ref (g 37), .ref (g 38), .ref (g 39)]))] U.heap ∧ va_K (dC, dI) classes [] U ∧ va_D (fun _ => True) [(mm, .inr (8, [.int hi, .int ri, .int li, .ref (g 3), .ref (g 4), .ref (g 5), .ref (g 6), .ref (g 7), .ref (g 8), .int 0, .ref (g 10), .ref (g 11), .ref (g 12), .ref (g 13), .ref (g 14), .ref (g 15), .ref (g 16), .ref (g 17), .ref (g 18), .ref (g 19), .ref (g 20), .ref (g 21), .int 0, .ref (g 23), .ref (g 24), .ref (g 25), .ref (g 26), .ref (g 27), .int 0, .int 0, .int 0, .int 0, .int 0, .int 0, .int 0, .int (-1), .int 0, .ref (g 37), .ref (g 38), .ref (g 39)]))])) (va_Qi (fun (r : Int32) (_ : Unit) => r = 0) (fun (_ : Unit) (_ : State) => True) (va_A [(mm, .inr (8, [.int hi, .int ri, .int li, .ref (g 3), .ref (g 4), .ref (g 5), .ref (g 6), .ref (g 7), .ref (g 8), .int 0, .ref (g 10), .ref (g 11), .ref (g 12), .ref (g 13), .ref (g 14), .ref (g 15), .ref (g 16), .ref (g 17), .ref (g 18), .ref (g 19), .ref (g 20), .ref (g 21), .int 0, .ref (g 23), .ref (g 24), .ref (g 25), .ref (g 26), .ref (g 27), .int 0, .int 0, .int 0, .int 0, .int 0, .int 0, .int 0, .int (-1), .int 0, .ref (g 37), .ref (g 38), .ref (g 39)]))] sz)) 0 0 (va_A [(mm, .inr (8, [.int hi, .int ri, .int li, .ref (g 3), .ref (g 4), .ref (g 5), .ref (g 6), .ref (g 7), .ref (g 8), .int 0, .ref (g 10), .ref (g 11), .ref (g 12), .ref (g 13), .ref (g 14), .ref (g 15), .ref (g 16), .ref (g 17), .ref (g 18), .ref (g 19), .ref (g 20), .ref (g 21), .int 0, .ref (g 23), .ref (g 24), .ref (g 25), .ref (g 26), .ref (g 27), .int 0, .int 0, .int 0, .int 0, .int 0, .int 0, .int 0, .int (-1), .int 0, .ref (g 37), .ref (g 38), .ref (g 39)]))] sz) := by
  refine Met.ofW (cc := cX8_rise) (maxL := 2) (ret := (some .boolean)) (by decide) rfl ?_
  intro p e s m args below meth c s₁ B hml hv
  obtain ⟨rfl, hsz, hP, hK, hD0⟩ := hv
  have hx := B.exec
  have hb := B.bytes
  have hr := B.returns
  have hts := atoms_spec (ws := ww_X8_rise) B.pre
  have hown : s.vm.findClass RX8 = some m.cls := findClass_of_methodNamed B.named
  have hlocks := B.notSynchronized
  subst hsz
  have hD := hD0.self (sz := s.heap.size)
  generalize hAe : va_A [(mm, .inr (8, [.int hi, .int ri, .int li, .ref (g 3), .ref (g 4), .ref (g 5), .ref (g 6), .ref (g 7), .ref (g 8), .int 0, .ref (g 10), .ref (g 11), .ref (g 12), .ref (g 13), .ref (g 14), .ref (g 15), .ref (g 16), .ref (g 17), .ref (g 18), .ref (g 19), .ref (g 20), .ref (g 21), .int 0, .ref (g 23), .ref (g 24), .ref (g 25), .ref (g 26), .ref (g 27), .int 0, .int 0, .int 0, .int 0, .int 0, .int 0, .int 0, .int (-1), .int 0, .ref (g 37), .ref (g 38), .ref (g 39)]))] s.heap.size = A at hD ⊢
  have hA : ∀ q : Nat, s.heap.size ≤ q → A q := fun q h => by rw [← hAe]; exact Or.inr h
  have hS : va_S A s.heap s.heap [] := va_S.rf
  have hP : va_P (dC, dI) classes [(mm, .inr (8, [.int hi, .int ri, .int li, .ref (g 3), .ref (g 4), .ref (g 5), .ref (g 6), .ref (g 7), .ref (g 8), .int 0, .ref (g 10), .ref (g 11), .ref (g 12), .ref (g 13), .ref (g 14), .ref (g 15), .ref (g 16), .ref (g 17), .ref (g 18), .ref (g 19), .ref (g 20), .ref (g 21), .int 0, .ref (g 23), .ref (g 24), .ref (g 25), .ref (g 26), .ref (g 27), .int 0, .int 0, .int 0, .int 0, .int 0, .int 0, .int 0, .int (-1), .int 0, .ref (g 37), .ref (g 38), .ref (g 39)]))] s.heap := hP
  have hl := lv_entry ([.ref mm]) (n := 2) (Nat.le_of_ble_eq_true rfl)
  rw [lg_entry_eq]
  generalize (lg_sl ([.ref mm]) ++ List.replicate (2 - (lg_sl ([.ref mm])).length) Slot.unset).toArray = ls at hl ⊢
  have hl : lv_has ls 2 [(0, .ref mm)] := hl
  generalize hHe : s.heap = H at hP ⊢
  have hS : va_S A s.heap H [] := by rw [← hHe]; exact va_S.rf
  refine lv_aload_n hx hb dX8_rise_0 rfl (lv_at hl 0 rfl) ?_
  refine va_get (D := (dC, dI)) (ci := 8) (v := .int 0) (C := RX8) (T := TX8) (N := 40) hx hb hts iX8_rise_X8 hown hK hP 0 rfl rfl 31 (by decide) (hts (.fieldLink RX8 257 "LeafSignerModel" "state" "I") (List.mem_of_getElem? (i := 1) rfl)) (fun _ h9 => h9) rfl dX8_rise_1 ?_
  refine lv_iconst (v := 2) hx hb dX8_rise_4 (by decide) ?_
  refine lv_icmp_eq (tgt := 10) hx hb dX8_rise_5 (by decide) (fun c164 => absurd c164 (by decide)) (fun c164 => ?_)
  refine lv_iconst (v := 0) hx hb dX8_rise_8 (by decide) ?_
  refine W.widen (k := 0) (n := 0) (Nat.le_of_ble_eq_true rfl) (Nat.le_of_ble_eq_true rfl) ?_
  exact W.zret (v := 0) (ty := .boolean) hx hb hr (by decide) (fun t ht hW => ⟨⟨0, (), rfl, rfl, trivial⟩, hS.F ht⟩) hS.2.2 dX8_rise_9
def ww_X8_hold : List Cond := .code yX8_hold cX8_hold 2 (some .int) :: ([.fieldLink RX8 290 "LeafSignerModel" "outs" "I", .fieldLink RX8 300 "LeafSignerModel" "keeps" "I"] ++ (wsX80))
theorem iX8_hold_X8 : ∀ w ∈ wsX80, w ∈ ww_X8_hold := fun w h => List.mem_cons_of_mem _ (List.mem_append_right _ h)
set_option maxHeartbeats 4000000 in
set_option maxRecDepth 100000 in
theorem cm_hold (l : Launch) (dC : Nat → ClassId) (dI : Nat → Nat → Nat) (sz : Nat) (mm : Nat) (hi : Int32) (ri : Int32) (li : Int32) (g : (Nat → Nat)) : Met l yX8_hold ww_X8_hold ({ frames := 0, cells := 0, slots := 0, locals := 0 }) (va_Pc [.ref mm] (fun U => U.heap.size = sz ∧ va_P (dC, dI) classes [(mm, .inr (8, [.int hi, .int ri, .int li, .ref (g 3), .ref (g 4), .ref (g 5), .ref (g 6), .ref (g 7), .ref (g 8), .int 0, .ref (g 10), .ref (g 11), .ref (g 12), .ref (g 13), .ref (g 14), .ref (g 15), .ref (g 16), .ref (g 17), .ref (g 18), .ref (g 19), .ref (g 20), .ref (g 21), .int 0, .ref (g 23), .ref (g 24), .ref (g 25), .ref (g 26), .ref (g 27), .int 0, .int 0, .int 0, .int 0, .int 0, .int 0, .int 0, .int (-1), .int 0, .ref (g 37), .ref (g 38), .ref (g 39)]))] U.heap ∧ va_K (dC, dI) classes [] U ∧ va_D (fun _ => True) [(mm, .inr (8, [.int hi, .int ri, .int li, .ref (g 3), .ref (g 4), .ref (g 5), .ref (g 6), .ref (g 7), .ref (g 8), .int 0, .ref (g 10), .ref (g 11), .ref (g 12), .ref (g 13), .ref (g 14), .ref (g 15), .ref (g 16), .ref (g 17), .ref (g 18), .ref (g 19), .ref (g 20), .ref (g 21), .int 0, .ref (g 23), .ref (g 24), .ref (g 25), .ref (g 26), .ref (g 27), .int 0, .int 0, .int 0, .int 0, .int 0, .int 0, .int 0, .int (-1), .int 0, .ref (g 37), .ref (g 38), .ref (g 39)]))])) (va_Qi (fun (r : Int32) (_ : Unit) => r = 0) (fun (_ : Unit) (_ : State) => True) (va_A [(mm, .inr (8, [.int hi, .int ri, .int li, .ref (g 3), .ref (g 4), .ref (g 5), .ref (g 6), .ref (g 7), .ref (g 8), .int 0, .ref (g 10), .ref (g 11), .ref (g 12), .ref (g 13), .ref (g 14), .ref (g 15), .ref (g 16), .ref (g 17), .ref (g 18), .ref (g 19), .ref (g 20), .ref (g 21), .int 0, .ref (g 23), .ref (g 24), .ref (g 25), .ref (g 26), .ref (g 27), .int 0, .int 0, .int 0, .int 0, .int 0, .int 0, .int 0, .int (-1), .int 0, .ref (g 37), .ref (g 38), .ref (g 39)]))] sz)) 0 0 (va_A [(mm, .inr (8, [.int hi, .int ri, .int li, .ref (g 3), .ref (g 4), .ref (g 5), .ref (g 6), .ref (g 7), .ref (g 8), .int 0, .ref (g 10), .ref (g 11), .ref (g 12), .ref (g 13), .ref (g 14), .ref (g 15), .ref (g 16), .ref (g 17), .ref (g 18), .ref (g 19), .ref (g 20), .ref (g 21), .int 0, .ref (g 23), .ref (g 24), .ref (g 25), .ref (g 26), .ref (g 27), .int 0, .int 0, .int 0, .int 0, .int 0, .int 0, .int 0, .int (-1), .int 0, .ref (g 37), .ref (g 38), .ref (g 39)]))] sz) := by
  refine Met.ofW (cc := cX8_hold) (maxL := 2) (ret := (some .int)) (by decide) rfl ?_
  intro p e s m args below meth c s₁ B hml hv
  obtain ⟨rfl, hsz, hP, hK, hD0⟩ := hv
  have hx := B.exec
  have hb := B.bytes
  have hr := B.returns
  have hts := atoms_spec (ws := ww_X8_hold) B.pre
  have hown : s.vm.findClass RX8 = some m.cls := findClass_of_methodNamed B.named
  have hlocks := B.notSynchronized
  subst hsz
  have hD := hD0.self (sz := s.heap.size)
  generalize hAe : va_A [(mm, .inr (8, [.int hi, .int ri, .int li, .ref (g 3), .ref (g 4), .ref (g 5), .ref (g 6), .ref (g 7), .ref (g 8), .int 0, .ref (g 10), .ref (g 11), .ref (g 12), .ref (g 13), .ref (g 14), .ref (g 15), .ref (g 16), .ref (g 17), .ref (g 18), .ref (g 19), .ref (g 20), .ref (g 21), .int 0, .ref (g 23), .ref (g 24), .ref (g 25), .ref (g 26), .ref (g 27), .int 0, .int 0, .int 0, .int 0, .int 0, .int 0, .int 0, .int (-1), .int 0, .ref (g 37), .ref (g 38), .ref (g 39)]))] s.heap.size = A at hD ⊢
  have hA : ∀ q : Nat, s.heap.size ≤ q → A q := fun q h => by rw [← hAe]; exact Or.inr h
  have hS : va_S A s.heap s.heap [] := va_S.rf
  have hP : va_P (dC, dI) classes [(mm, .inr (8, [.int hi, .int ri, .int li, .ref (g 3), .ref (g 4), .ref (g 5), .ref (g 6), .ref (g 7), .ref (g 8), .int 0, .ref (g 10), .ref (g 11), .ref (g 12), .ref (g 13), .ref (g 14), .ref (g 15), .ref (g 16), .ref (g 17), .ref (g 18), .ref (g 19), .ref (g 20), .ref (g 21), .int 0, .ref (g 23), .ref (g 24), .ref (g 25), .ref (g 26), .ref (g 27), .int 0, .int 0, .int 0, .int 0, .int 0, .int 0, .int 0, .int (-1), .int 0, .ref (g 37), .ref (g 38), .ref (g 39)]))] s.heap := hP
  have hl := lv_entry ([.ref mm]) (n := 2) (Nat.le_of_ble_eq_true rfl)
  rw [lg_entry_eq]
  generalize (lg_sl ([.ref mm]) ++ List.replicate (2 - (lg_sl ([.ref mm])).length) Slot.unset).toArray = ls at hl ⊢
  have hl : lv_has ls 2 [(0, .ref mm)] := hl
  generalize hHe : s.heap = H at hP ⊢
  have hS : va_S A s.heap H [] := by rw [← hHe]; exact va_S.rf
  refine lv_iconst (v := 0) hx hb dX8_hold_0 (by decide) ?_
  refine lv_istore_n (lv' := [(1, .int 0), (0, .ref mm)]) hx hb dX8_hold_1 rfl hl (by decide) rfl (fun ls hl => ?_)
  refine lv_iload_n hx hb dX8_hold_2 rfl (lv_at hl 0 rfl) ?_
  refine lv_aload_n hx hb dX8_hold_3 rfl (lv_at hl 1 rfl) ?_
  refine va_get (D := (dC, dI)) (ci := 8) (v := .int 0) (C := RX8) (T := TX8) (N := 40) hx hb hts iX8_hold_X8 hown hK hP 0 rfl rfl 29 (by decide) (hts (.fieldLink RX8 290 "LeafSignerModel" "outs" "I") (List.mem_of_getElem? (i := 1) rfl)) (fun _ h9 => h9) rfl dX8_hold_4 ?_
  refine lv_icmp_ge (tgt := 28) hx hb dX8_hold_7 (by decide) (fun c165 => ?_) (fun c165 => absurd (by decide) c165)
  refine lv_aload_n hx hb dX8_hold_28 rfl (lv_at hl 1 rfl) ?_
  refine lv_aload_n hx hb dX8_hold_29 rfl (lv_at hl 1 rfl) ?_
  refine va_get (D := (dC, dI)) (ci := 8) (v := .int 0) (C := RX8) (T := TX8) (N := 40) hx hb hts iX8_hold_X8 hown hK hP 0 rfl rfl 29 (by decide) (hts (.fieldLink RX8 290 "LeafSignerModel" "outs" "I") (List.mem_of_getElem? (i := 1) rfl)) (fun _ h9 => h9) rfl dX8_hold_30 ?_
  refine va_put (D := (dC, dI)) (ci := 8) (v := .int 0) (ty := .int) (C := RX8) (T := TX8) (N := 40) hx hb hts iX8_hold_X8 tyX8 tyX8_ok nmX8 hown hK hP hD hS 0 rfl rfl 30 (by decide) (hts (.fieldLink RX8 300 "LeafSignerModel" "keeps" "I") (List.mem_of_getElem? (i := 2) rfl)) (fun _ h9 => h9) rfl (by decide +kernel) rfl rfl (Nat.le_of_ble_eq_true rfl) dX8_hold_33 (fun H locs hP hD hS => ?_)
  have hP : va_P (dC, dI) classes [(mm, .inr (8, [.int hi, .int ri, .int li, .ref (g 3), .ref (g 4), .ref (g 5), .ref (g 6), .ref (g 7), .ref (g 8), .int 0, .ref (g 10), .ref (g 11), .ref (g 12), .ref (g 13), .ref (g 14), .ref (g 15), .ref (g 16), .ref (g 17), .ref (g 18), .ref (g 19), .ref (g 20), .ref (g 21), .int 0, .ref (g 23), .ref (g 24), .ref (g 25), .ref (g 26), .ref (g 27), .int 0, .int 0, .int 0, .int 0, .int 0, .int 0, .int 0, .int (-1), .int 0, .ref (g 37), .ref (g 38), .ref (g 39)]))] H := hP
  have hD : va_D A [(mm, .inr (8, [.int hi, .int ri, .int li, .ref (g 3), .ref (g 4), .ref (g 5), .ref (g 6), .ref (g 7), .ref (g 8), .int 0, .ref (g 10), .ref (g 11), .ref (g 12), .ref (g 13), .ref (g 14), .ref (g 15), .ref (g 16), .ref (g 17), .ref (g 18), .ref (g 19), .ref (g 20), .ref (g 21), .int 0, .ref (g 23), .ref (g 24), .ref (g 25), .ref (g 26), .ref (g 27), .int 0, .int 0, .int 0, .int 0, .int 0, .int 0, .int 0, .int (-1), .int 0, .ref (g 37), .ref (g 38), .ref (g 39)]))] := hD
  refine lv_aload_n hx hb dX8_hold_36 rfl (lv_at hl 1 rfl) ?_
  refine va_get (D := (dC, dI)) (ci := 8) (v := .int 0) (C := RX8) (T := TX8) (N := 40) hx hb hts iX8_hold_X8 hown hK hP 0 rfl rfl 30 (by decide) (hts (.fieldLink RX8 300 "LeafSignerModel" "keeps" "I") (List.mem_of_getElem? (i := 2) rfl)) (fun _ h9 => h9) rfl dX8_hold_37 ?_
  refine W.widen (k := 0) (n := 0) (Nat.le_of_ble_eq_true rfl) (Nat.le_of_ble_eq_true rfl) ?_
  exact W.iret (v := 0) hx hb hr (fun t ht hW => ⟨⟨0, (), rfl, rfl, trivial⟩, hS.F ht⟩) hS.2.2 dX8_hold_40
def ww_X8_sign : List Cond := .code yX8_sign cX8_sign 5 (some .int) :: ([.fieldLink RX8 244 "LeafSignerModel" "taped" "I", .methodLink RX8 279 yX8_in, .static yX8_in, .initialized RX8, .code yX8_in cX8_in 3 (some .boolean), .fieldLink RX8 257 "LeafSignerModel" "state" "I"] ++ (wsX80))
theorem iX8_sign_X8 : ∀ w ∈ wsX80, w ∈ ww_X8_sign := fun w h => List.mem_cons_of_mem _ (List.mem_append_right _ h)
set_option maxRecDepth 20000 in
theorem gX8_sign_X8_in_279 : GoodIn ww_X8_sign (va_wsS RX8 279 yX8_in ww_X8_in) := vx_good _ [2, 3, 4, 5] rfl (by decide +kernel)
set_option maxHeartbeats 4000000 in
set_option maxRecDepth 100000 in
theorem cm_sign (l : Launch) (dC : Nat → ClassId) (dI : Nat → Nat → Nat) (sz : Nat) (mm : Nat) (k : Int32) (hi : Int32) (ri : Int32) (li : Int32) (g : (Nat → Nat)) : Met l yX8_sign ww_X8_sign ({ frames := 1, cells := 0, slots := 0, locals := 22 }) (va_Pc [.ref mm, .int k] (fun U => U.heap.size = sz ∧ va_P (dC, dI) classes [(mm, .inr (8, [.int hi, .int ri, .int li, .ref (g 3), .ref (g 4), .ref (g 5), .ref (g 6), .ref (g 7), .ref (g 8), .int 0, .ref (g 10), .ref (g 11), .ref (g 12), .ref (g 13), .ref (g 14), .ref (g 15), .ref (g 16), .ref (g 17), .ref (g 18), .ref (g 19), .ref (g 20), .ref (g 21), .int 0, .ref (g 23), .ref (g 24), .ref (g 25), .ref (g 26), .ref (g 27), .int 0, .int 0, .int 0, .int 0, .int 0, .int 0, .int 0, .int (-1), .int 0, .ref (g 37), .ref (g 38), .ref (g 39)]))] U.heap ∧ va_K (dC, dI) classes [] U ∧ va_D (fun _ => True) [(mm, .inr (8, [.int hi, .int ri, .int li, .ref (g 3), .ref (g 4), .ref (g 5), .ref (g 6), .ref (g 7), .ref (g 8), .int 0, .ref (g 10), .ref (g 11), .ref (g 12), .ref (g 13), .ref (g 14), .ref (g 15), .ref (g 16), .ref (g 17), .ref (g 18), .ref (g 19), .ref (g 20), .ref (g 21), .int 0, .ref (g 23), .ref (g 24), .ref (g 25), .ref (g 26), .ref (g 27), .int 0, .int 0, .int 0, .int 0, .int 0, .int 0, .int 0, .int (-1), .int 0, .ref (g 37), .ref (g 38), .ref (g 39)]))])) (va_Qi (fun (r : Int32) (_ : Unit) => r = fm_sign k) (fun (_ : Unit) (_ : State) => True) (va_A [(mm, .inr (8, [.int hi, .int ri, .int li, .ref (g 3), .ref (g 4), .ref (g 5), .ref (g 6), .ref (g 7), .ref (g 8), .int 0, .ref (g 10), .ref (g 11), .ref (g 12), .ref (g 13), .ref (g 14), .ref (g 15), .ref (g 16), .ref (g 17), .ref (g 18), .ref (g 19), .ref (g 20), .ref (g 21), .int 0, .ref (g 23), .ref (g 24), .ref (g 25), .ref (g 26), .ref (g 27), .int 0, .int 0, .int 0, .int 0, .int 0, .int 0, .int 0, .int (-1), .int 0, .ref (g 37), .ref (g 38), .ref (g 39)]))] sz)) 0 0 (va_A [(mm, .inr (8, [.int hi, .int ri, .int li, .ref (g 3), .ref (g 4), .ref (g 5), .ref (g 6), .ref (g 7), .ref (g 8), .int 0, .ref (g 10), .ref (g 11), .ref (g 12), .ref (g 13), .ref (g 14), .ref (g 15), .ref (g 16), .ref (g 17), .ref (g 18), .ref (g 19), .ref (g 20), .ref (g 21), .int 0, .ref (g 23), .ref (g 24), .ref (g 25), .ref (g 26), .ref (g 27), .int 0, .int 0, .int 0, .int 0, .int 0, .int 0, .int 0, .int (-1), .int 0, .ref (g 37), .ref (g 38), .ref (g 39)]))] sz) := by
  refine Met.ofW (cc := cX8_sign) (maxL := 5) (ret := (some .int)) (by decide) rfl ?_
  intro p e s m args below meth c s₁ B hml hv
  obtain ⟨rfl, hsz, hP, hK, hD0⟩ := hv
  have hx := B.exec
  have hb := B.bytes
  have hr := B.returns
  have hts := atoms_spec (ws := ww_X8_sign) B.pre
  have hown : s.vm.findClass RX8 = some m.cls := findClass_of_methodNamed B.named
  have hlocks := B.notSynchronized
  subst hsz
  have hD := hD0.self (sz := s.heap.size)
  generalize hAe : va_A [(mm, .inr (8, [.int hi, .int ri, .int li, .ref (g 3), .ref (g 4), .ref (g 5), .ref (g 6), .ref (g 7), .ref (g 8), .int 0, .ref (g 10), .ref (g 11), .ref (g 12), .ref (g 13), .ref (g 14), .ref (g 15), .ref (g 16), .ref (g 17), .ref (g 18), .ref (g 19), .ref (g 20), .ref (g 21), .int 0, .ref (g 23), .ref (g 24), .ref (g 25), .ref (g 26), .ref (g 27), .int 0, .int 0, .int 0, .int 0, .int 0, .int 0, .int 0, .int (-1), .int 0, .ref (g 37), .ref (g 38), .ref (g 39)]))] s.heap.size = A at hD ⊢
  have hA : ∀ q : Nat, s.heap.size ≤ q → A q := fun q h => by rw [← hAe]; exact Or.inr h
  have hS : va_S A s.heap s.heap [] := va_S.rf
  have hP : va_P (dC, dI) classes [(mm, .inr (8, [.int hi, .int ri, .int li, .ref (g 3), .ref (g 4), .ref (g 5), .ref (g 6), .ref (g 7), .ref (g 8), .int 0, .ref (g 10), .ref (g 11), .ref (g 12), .ref (g 13), .ref (g 14), .ref (g 15), .ref (g 16), .ref (g 17), .ref (g 18), .ref (g 19), .ref (g 20), .ref (g 21), .int 0, .ref (g 23), .ref (g 24), .ref (g 25), .ref (g 26), .ref (g 27), .int 0, .int 0, .int 0, .int 0, .int 0, .int 0, .int 0, .int (-1), .int 0, .ref (g 37), .ref (g 38), .ref (g 39)]))] s.heap := hP
  have hl := lv_entry ([.ref mm, .int k]) (n := 5) (Nat.le_of_ble_eq_true rfl)
  rw [lg_entry_eq]
  generalize (lg_sl ([.ref mm, .int k]) ++ List.replicate (5 - (lg_sl ([.ref mm, .int k])).length) Slot.unset).toArray = ls at hl ⊢
  have hl : lv_has ls 5 [(0, .ref mm), (1, .int k)] := hl
  generalize hHe : s.heap = H at hP ⊢
  have hS : va_S A s.heap H [] := by rw [← hHe]; exact va_S.rf
  refine lv_iload_n hx hb dX8_sign_0 rfl (lv_at hl 1 rfl) ?_
  refine lv_iconst (v := 0) hx hb dX8_sign_1 (by decide) ?_
  refine lv_aload_n hx hb dX8_sign_2 rfl (lv_at hl 0 rfl) ?_
  refine va_get (D := (dC, dI)) (ci := 8) (v := .int 0) (C := RX8) (T := TX8) (N := 40) hx hb hts iX8_sign_X8 hown hK hP 0 rfl rfl 28 (by decide) (hts (.fieldLink RX8 244 "LeafSignerModel" "taped" "I") (List.mem_of_getElem? (i := 1) rfl)) (fun _ h9 => h9) rfl dX8_sign_3 ?_
  have hPc := hP.sub (ws' := []) [] rfl
  have hDc := hD.sub (ws' := []) [] (by decide) rfl
  have hKc := hK.sub (tys' := []) [] rfl
  have hFc := va_free (wc := []) hD hS hA [] rfl
  refine va_calli (va_runS (As := [.int k, .int 0, .int 0]) (rest := []) ⟨hx, hb, hml, hown, hts⟩ (cm_in l dC dI H.size k 0 0) (va_cwS 3 hts gX8_sign_X8_in_279 rfl rfl rfl (by decide +kernel) ⟨(Nat.le_of_ble_eq_true rfl), (Nat.le_of_ble_eq_true rfl)⟩) ⟨fun a U g mk q => by obtain ⟨q0, q1, qP, qK, qD⟩ := q; exact ⟨q0, q1, qP, va_K.moved (u := U) (U := U.calling g mk a) (Vm.Alike.refl U.vm) qK, qD⟩, fun U hU hW => ⟨rfl, by rw [hU], by rw [hU]; exact hPc, va_K.moved hW.alike hKc, hDc.weaken (fun _ _ _ _ => trivial)⟩⟩ rfl rfl hl.1 rfl (lv_room (Nat.le_of_ble_eq_true rfl)) dX8_sign_6 ⟨(Nat.le_of_ble_eq_true rfl), (Nat.le_of_ble_eq_true rfl)⟩) hS (fun q _ h => hFc q h) hFc (fun r166 u t H1 locs ht hvm hw hB hz1 hk1 hS => ?_)
  have hP1 : va_P (dC, dI) classes [] H1 := vx_P0
  have hD1 : va_D (va_A [] H.size) [] := vx_D0
  obtain ⟨hP, hD⟩ := va_join (wr := [(mm, .inr (8, [.int hi, .int ri, .int li, .ref (g 3), .ref (g 4), .ref (g 5), .ref (g 6), .ref (g 7), .ref (g 8), .int 0, .ref (g 10), .ref (g 11), .ref (g 12), .ref (g 13), .ref (g 14), .ref (g 15), .ref (g 16), .ref (g 17), .ref (g 18), .ref (g 19), .ref (g 20), .ref (g 21), .int 0, .ref (g 23), .ref (g 24), .ref (g 25), .ref (g 26), .ref (g 27), .int 0, .int 0, .int 0, .int 0, .int 0, .int 0, .int 0, .int (-1), .int 0, .ref (g 37), .ref (g 38), .ref (g 39)]))]) (w1 := []) hP hD [] [0] rfl rfl (by decide) (by decide) hk1 hFc hP1 hD1
  have hK := hK.sub (tys' := []) [] rfl
  generalize H1 = H at hP hS ⊢
  have hP : va_P (dC, dI) classes [(mm, .inr (8, [.int hi, .int ri, .int li, .ref (g 3), .ref (g 4), .ref (g 5), .ref (g 6), .ref (g 7), .ref (g 8), .int 0, .ref (g 10), .ref (g 11), .ref (g 12), .ref (g 13), .ref (g 14), .ref (g 15), .ref (g 16), .ref (g 17), .ref (g 18), .ref (g 19), .ref (g 20), .ref (g 21), .int 0, .ref (g 23), .ref (g 24), .ref (g 25), .ref (g 26), .ref (g 27), .int 0, .int 0, .int 0, .int 0, .int 0, .int 0, .int 0, .int (-1), .int 0, .ref (g 37), .ref (g 38), .ref (g 39)]))] H := hP
  have hD : va_D A [(mm, .inr (8, [.int hi, .int ri, .int li, .ref (g 3), .ref (g 4), .ref (g 5), .ref (g 6), .ref (g 7), .ref (g 8), .int 0, .ref (g 10), .ref (g 11), .ref (g 12), .ref (g 13), .ref (g 14), .ref (g 15), .ref (g 16), .ref (g 17), .ref (g 18), .ref (g 19), .ref (g 20), .ref (g 21), .int 0, .ref (g 23), .ref (g 24), .ref (g 25), .ref (g 26), .ref (g 27), .int 0, .int 0, .int 0, .int 0, .int 0, .int 0, .int 0, .int (-1), .int 0, .ref (g 37), .ref (g 38), .ref (g 39)]))] := hD
  have hK : va_K (dC, dI) classes [] s := hK
  refine W.widen (k := 0) (n := 0) (Nat.le_of_ble_eq_true rfl) (Nat.le_of_ble_eq_true rfl) ?_
  try dsimp only at hw
  subst hw
  refine lv_if_ne (tgt := 15) hx hb dX8_sign_9 (by decide) (fun c167 => ?_) (fun c167 => ?_)
  · refine lv_aload_n hx hb dX8_sign_15 rfl (lv_at hl 0 rfl) ?_
    refine va_get (D := (dC, dI)) (ci := 8) (v := .int 0) (C := RX8) (T := TX8) (N := 40) hx hb hts iX8_sign_X8 hown hK hP 0 rfl rfl 31 (by decide) (hts (.fieldLink RX8 257 "LeafSignerModel" "state" "I") (List.mem_of_getElem? (i := 6) rfl)) (fun _ h9 => h9) rfl dX8_sign_16 ?_
    refine lv_iconst (v := 1) hx hb dX8_sign_19 (by decide) ?_
    refine lv_icmp_eq (tgt := 26) hx hb dX8_sign_20 (by decide) (fun c168 => absurd c168 (by decide)) (fun c168 => ?_)
    refine lv_bipush (v := (-3)) hx hb dX8_sign_23 (by decide) ?_
    refine W.widen (k := 0) (n := 0) (Nat.le_of_ble_eq_true rfl) (Nat.le_of_ble_eq_true rfl) ?_
    exact W.iret (v := (-3)) hx hb hr (fun t ht hW => ⟨⟨(-3), (), rfl, (by unfold fm_sign; rw [if_pos c167]), trivial⟩, hS.F ht⟩) hS.2.2 dX8_sign_25
  · refine lv_bipush (v := (-2)) hx hb dX8_sign_12 (by decide) ?_
    refine W.widen (k := 0) (n := 0) (Nat.le_of_ble_eq_true rfl) (Nat.le_of_ble_eq_true rfl) ?_
    exact W.iret (v := (-2)) hx hb hr (fun t ht hW => ⟨⟨(-2), (), rfl, (by unfold fm_sign; rw [if_neg c167]), trivial⟩, hS.F ht⟩) hS.2.2 dX8_sign_14
def ww_X8_verify : List Cond := .code yX8_verify cX8_verify 4 (some .int) :: ([.fieldLink RX8 244 "LeafSignerModel" "taped" "I", .methodLink RX8 279 yX8_in, .static yX8_in, .initialized RX8, .code yX8_in cX8_in 3 (some .boolean), .fieldLink RX8 250 "LeafSignerModel" "hasKeys" "Z"] ++ (wsX80))
theorem iX8_verify_X8 : ∀ w ∈ wsX80, w ∈ ww_X8_verify := fun w h => List.mem_cons_of_mem _ (List.mem_append_right _ h)
set_option maxRecDepth 20000 in
theorem gX8_verify_X8_in_279 : GoodIn ww_X8_verify (va_wsS RX8 279 yX8_in ww_X8_in) := vx_good _ [2, 3, 4, 5] rfl (by decide +kernel)
set_option maxHeartbeats 4000000 in
set_option maxRecDepth 100000 in
theorem cm_verify (l : Launch) (dC : Nat → ClassId) (dI : Nat → Nat → Nat) (sz : Nat) (mm : Nat) (k : Int32) (hi : Int32) (ri : Int32) (li : Int32) (g : (Nat → Nat)) : Met l yX8_verify ww_X8_verify ({ frames := 1, cells := 0, slots := 0, locals := 22 }) (va_Pc [.ref mm, .int k] (fun U => U.heap.size = sz ∧ va_P (dC, dI) classes [(mm, .inr (8, [.int hi, .int ri, .int li, .ref (g 3), .ref (g 4), .ref (g 5), .ref (g 6), .ref (g 7), .ref (g 8), .int 0, .ref (g 10), .ref (g 11), .ref (g 12), .ref (g 13), .ref (g 14), .ref (g 15), .ref (g 16), .ref (g 17), .ref (g 18), .ref (g 19), .ref (g 20), .ref (g 21), .int 0, .ref (g 23), .ref (g 24), .ref (g 25), .ref (g 26), .ref (g 27), .int 0, .int 0, .int 0, .int 0, .int 0, .int 0, .int 0, .int (-1), .int 0, .ref (g 37), .ref (g 38), .ref (g 39)]))] U.heap ∧ va_K (dC, dI) classes [] U ∧ va_D (fun _ => True) [(mm, .inr (8, [.int hi, .int ri, .int li, .ref (g 3), .ref (g 4), .ref (g 5), .ref (g 6), .ref (g 7), .ref (g 8), .int 0, .ref (g 10), .ref (g 11), .ref (g 12), .ref (g 13), .ref (g 14), .ref (g 15), .ref (g 16), .ref (g 17), .ref (g 18), .ref (g 19), .ref (g 20), .ref (g 21), .int 0, .ref (g 23), .ref (g 24), .ref (g 25), .ref (g 26), .ref (g 27), .int 0, .int 0, .int 0, .int 0, .int 0, .int 0, .int 0, .int (-1), .int 0, .ref (g 37), .ref (g 38), .ref (g 39)]))])) (va_Qi (fun (r : Int32) (_ : Unit) => r = fm_sign k) (fun (_ : Unit) (_ : State) => True) (va_A [(mm, .inr (8, [.int hi, .int ri, .int li, .ref (g 3), .ref (g 4), .ref (g 5), .ref (g 6), .ref (g 7), .ref (g 8), .int 0, .ref (g 10), .ref (g 11), .ref (g 12), .ref (g 13), .ref (g 14), .ref (g 15), .ref (g 16), .ref (g 17), .ref (g 18), .ref (g 19), .ref (g 20), .ref (g 21), .int 0, .ref (g 23), .ref (g 24), .ref (g 25), .ref (g 26), .ref (g 27), .int 0, .int 0, .int 0, .int 0, .int 0, .int 0, .int 0, .int (-1), .int 0, .ref (g 37), .ref (g 38), .ref (g 39)]))] sz)) 0 0 (va_A [(mm, .inr (8, [.int hi, .int ri, .int li, .ref (g 3), .ref (g 4), .ref (g 5), .ref (g 6), .ref (g 7), .ref (g 8), .int 0, .ref (g 10), .ref (g 11), .ref (g 12), .ref (g 13), .ref (g 14), .ref (g 15), .ref (g 16), .ref (g 17), .ref (g 18), .ref (g 19), .ref (g 20), .ref (g 21), .int 0, .ref (g 23), .ref (g 24), .ref (g 25), .ref (g 26), .ref (g 27), .int 0, .int 0, .int 0, .int 0, .int 0, .int 0, .int 0, .int (-1), .int 0, .ref (g 37), .ref (g 38), .ref (g 39)]))] sz) := by
  refine Met.ofW (cc := cX8_verify) (maxL := 4) (ret := (some .int)) (by decide) rfl ?_
  intro p e s m args below meth c s₁ B hml hv
  obtain ⟨rfl, hsz, hP, hK, hD0⟩ := hv
  have hx := B.exec
  have hb := B.bytes
  have hr := B.returns
  have hts := atoms_spec (ws := ww_X8_verify) B.pre
  have hown : s.vm.findClass RX8 = some m.cls := findClass_of_methodNamed B.named
  have hlocks := B.notSynchronized
  subst hsz
  have hD := hD0.self (sz := s.heap.size)
  generalize hAe : va_A [(mm, .inr (8, [.int hi, .int ri, .int li, .ref (g 3), .ref (g 4), .ref (g 5), .ref (g 6), .ref (g 7), .ref (g 8), .int 0, .ref (g 10), .ref (g 11), .ref (g 12), .ref (g 13), .ref (g 14), .ref (g 15), .ref (g 16), .ref (g 17), .ref (g 18), .ref (g 19), .ref (g 20), .ref (g 21), .int 0, .ref (g 23), .ref (g 24), .ref (g 25), .ref (g 26), .ref (g 27), .int 0, .int 0, .int 0, .int 0, .int 0, .int 0, .int 0, .int (-1), .int 0, .ref (g 37), .ref (g 38), .ref (g 39)]))] s.heap.size = A at hD ⊢
  have hA : ∀ q : Nat, s.heap.size ≤ q → A q := fun q h => by rw [← hAe]; exact Or.inr h
  have hS : va_S A s.heap s.heap [] := va_S.rf
  have hP : va_P (dC, dI) classes [(mm, .inr (8, [.int hi, .int ri, .int li, .ref (g 3), .ref (g 4), .ref (g 5), .ref (g 6), .ref (g 7), .ref (g 8), .int 0, .ref (g 10), .ref (g 11), .ref (g 12), .ref (g 13), .ref (g 14), .ref (g 15), .ref (g 16), .ref (g 17), .ref (g 18), .ref (g 19), .ref (g 20), .ref (g 21), .int 0, .ref (g 23), .ref (g 24), .ref (g 25), .ref (g 26), .ref (g 27), .int 0, .int 0, .int 0, .int 0, .int 0, .int 0, .int 0, .int (-1), .int 0, .ref (g 37), .ref (g 38), .ref (g 39)]))] s.heap := hP
  have hl := lv_entry ([.ref mm, .int k]) (n := 4) (Nat.le_of_ble_eq_true rfl)
  rw [lg_entry_eq]
  generalize (lg_sl ([.ref mm, .int k]) ++ List.replicate (4 - (lg_sl ([.ref mm, .int k])).length) Slot.unset).toArray = ls at hl ⊢
  have hl : lv_has ls 4 [(0, .ref mm), (1, .int k)] := hl
  generalize hHe : s.heap = H at hP ⊢
  have hS : va_S A s.heap H [] := by rw [← hHe]; exact va_S.rf
  refine lv_iload_n hx hb dX8_verify_0 rfl (lv_at hl 1 rfl) ?_
  refine lv_iconst (v := 0) hx hb dX8_verify_1 (by decide) ?_
  refine lv_aload_n hx hb dX8_verify_2 rfl (lv_at hl 0 rfl) ?_
  refine va_get (D := (dC, dI)) (ci := 8) (v := .int 0) (C := RX8) (T := TX8) (N := 40) hx hb hts iX8_verify_X8 hown hK hP 0 rfl rfl 28 (by decide) (hts (.fieldLink RX8 244 "LeafSignerModel" "taped" "I") (List.mem_of_getElem? (i := 1) rfl)) (fun _ h9 => h9) rfl dX8_verify_3 ?_
  have hPc := hP.sub (ws' := []) [] rfl
  have hDc := hD.sub (ws' := []) [] (by decide) rfl
  have hKc := hK.sub (tys' := []) [] rfl
  have hFc := va_free (wc := []) hD hS hA [] rfl
  refine va_calli (va_runS (As := [.int k, .int 0, .int 0]) (rest := []) ⟨hx, hb, hml, hown, hts⟩ (cm_in l dC dI H.size k 0 0) (va_cwS 3 hts gX8_verify_X8_in_279 rfl rfl rfl (by decide +kernel) ⟨(Nat.le_of_ble_eq_true rfl), (Nat.le_of_ble_eq_true rfl)⟩) ⟨fun a U g mk q => by obtain ⟨q0, q1, qP, qK, qD⟩ := q; exact ⟨q0, q1, qP, va_K.moved (u := U) (U := U.calling g mk a) (Vm.Alike.refl U.vm) qK, qD⟩, fun U hU hW => ⟨rfl, by rw [hU], by rw [hU]; exact hPc, va_K.moved hW.alike hKc, hDc.weaken (fun _ _ _ _ => trivial)⟩⟩ rfl rfl hl.1 rfl (lv_room (Nat.le_of_ble_eq_true rfl)) dX8_verify_6 ⟨(Nat.le_of_ble_eq_true rfl), (Nat.le_of_ble_eq_true rfl)⟩) hS (fun q _ h => hFc q h) hFc (fun r169 u t H1 locs ht hvm hw hB hz1 hk1 hS => ?_)
  have hP1 : va_P (dC, dI) classes [] H1 := vx_P0
  have hD1 : va_D (va_A [] H.size) [] := vx_D0
  obtain ⟨hP, hD⟩ := va_join (wr := [(mm, .inr (8, [.int hi, .int ri, .int li, .ref (g 3), .ref (g 4), .ref (g 5), .ref (g 6), .ref (g 7), .ref (g 8), .int 0, .ref (g 10), .ref (g 11), .ref (g 12), .ref (g 13), .ref (g 14), .ref (g 15), .ref (g 16), .ref (g 17), .ref (g 18), .ref (g 19), .ref (g 20), .ref (g 21), .int 0, .ref (g 23), .ref (g 24), .ref (g 25), .ref (g 26), .ref (g 27), .int 0, .int 0, .int 0, .int 0, .int 0, .int 0, .int 0, .int (-1), .int 0, .ref (g 37), .ref (g 38), .ref (g 39)]))]) (w1 := []) hP hD [] [0] rfl rfl (by decide) (by decide) hk1 hFc hP1 hD1
  have hK := hK.sub (tys' := []) [] rfl
  generalize H1 = H at hP hS ⊢
  have hP : va_P (dC, dI) classes [(mm, .inr (8, [.int hi, .int ri, .int li, .ref (g 3), .ref (g 4), .ref (g 5), .ref (g 6), .ref (g 7), .ref (g 8), .int 0, .ref (g 10), .ref (g 11), .ref (g 12), .ref (g 13), .ref (g 14), .ref (g 15), .ref (g 16), .ref (g 17), .ref (g 18), .ref (g 19), .ref (g 20), .ref (g 21), .int 0, .ref (g 23), .ref (g 24), .ref (g 25), .ref (g 26), .ref (g 27), .int 0, .int 0, .int 0, .int 0, .int 0, .int 0, .int 0, .int (-1), .int 0, .ref (g 37), .ref (g 38), .ref (g 39)]))] H := hP
  have hD : va_D A [(mm, .inr (8, [.int hi, .int ri, .int li, .ref (g 3), .ref (g 4), .ref (g 5), .ref (g 6), .ref (g 7), .ref (g 8), .int 0, .ref (g 10), .ref (g 11), .ref (g 12), .ref (g 13), .ref (g 14), .ref (g 15), .ref (g 16), .ref (g 17), .ref (g 18), .ref (g 19), .ref (g 20), .ref (g 21), .int 0, .ref (g 23), .ref (g 24), .ref (g 25), .ref (g 26), .ref (g 27), .int 0, .int 0, .int 0, .int 0, .int 0, .int 0, .int 0, .int (-1), .int 0, .ref (g 37), .ref (g 38), .ref (g 39)]))] := hD
  have hK : va_K (dC, dI) classes [] s := hK
  refine W.widen (k := 0) (n := 0) (Nat.le_of_ble_eq_true rfl) (Nat.le_of_ble_eq_true rfl) ?_
  try dsimp only at hw
  subst hw
  refine lv_if_ne (tgt := 15) hx hb dX8_verify_9 (by decide) (fun c170 => ?_) (fun c170 => ?_)
  · refine lv_aload_n hx hb dX8_verify_15 rfl (lv_at hl 0 rfl) ?_
    refine va_get (D := (dC, dI)) (ci := 8) (v := .int 0) (C := RX8) (T := TX8) (N := 40) hx hb hts iX8_verify_X8 hown hK hP 0 rfl rfl 22 (by decide) (hts (.fieldLink RX8 250 "LeafSignerModel" "hasKeys" "Z") (List.mem_of_getElem? (i := 6) rfl)) (fun _ h9 => h9) rfl dX8_verify_16 ?_
    refine lv_if_ne (tgt := 25) hx hb dX8_verify_19 (by decide) (fun c171 => absurd c171 (by decide)) (fun c171 => ?_)
    refine lv_bipush (v := (-3)) hx hb dX8_verify_22 (by decide) ?_
    refine W.widen (k := 0) (n := 0) (Nat.le_of_ble_eq_true rfl) (Nat.le_of_ble_eq_true rfl) ?_
    exact W.iret (v := (-3)) hx hb hr (fun t ht hW => ⟨⟨(-3), (), rfl, (by unfold fm_sign; rw [if_pos c170]), trivial⟩, hS.F ht⟩) hS.2.2 dX8_verify_24
  · refine lv_bipush (v := (-2)) hx hb dX8_verify_12 (by decide) ?_
    refine W.widen (k := 0) (n := 0) (Nat.le_of_ble_eq_true rfl) (Nat.le_of_ble_eq_true rfl) ?_
    exact W.iret (v := (-2)) hx hb hr (fun t ht hW => ⟨⟨(-2), (), rfl, (by unfold fm_sign; rw [if_neg c170]), trivial⟩, hS.F ht⟩) hS.2.2 dX8_verify_14
def ww_X8_fuse : List Cond := .code yX8_fuse cX8_fuse 2 (some .boolean) :: ([.methodLink RX8 279 yX8_in, .static yX8_in, .initialized RX8, .code yX8_in cX8_in 3 (some .boolean), .fieldLink RX8 152 "LeafSignerModel" "fuse" "I"] ++ (wsX80))
theorem iX8_fuse_X8 : ∀ w ∈ wsX80, w ∈ ww_X8_fuse := fun w h => List.mem_cons_of_mem _ (List.mem_append_right _ h)
set_option maxRecDepth 20000 in
theorem gX8_fuse_X8_in_279 : GoodIn ww_X8_fuse (va_wsS RX8 279 yX8_in ww_X8_in) := vx_good _ [1, 2, 3, 4] rfl (by decide +kernel)
set_option maxHeartbeats 4000000 in
set_option maxRecDepth 100000 in
theorem cm_fuse (l : Launch) (dC : Nat → ClassId) (dI : Nat → Nat → Nat) (sz : Nat) (mm : Nat) (k : Int32) (hi : Int32) (ri : Int32) (li : Int32) (g : (Nat → Nat)) : Met l yX8_fuse ww_X8_fuse ({ frames := 1, cells := 0, slots := 0, locals := 22 }) (va_Pc [.ref mm, .int k] (fun U => U.heap.size = sz ∧ va_P (dC, dI) classes [(mm, .inr (8, [.int hi, .int ri, .int li, .ref (g 3), .ref (g 4), .ref (g 5), .ref (g 6), .ref (g 7), .ref (g 8), .int 0, .ref (g 10), .ref (g 11), .ref (g 12), .ref (g 13), .ref (g 14), .ref (g 15), .ref (g 16), .ref (g 17), .ref (g 18), .ref (g 19), .ref (g 20), .ref (g 21), .int 0, .ref (g 23), .ref (g 24), .ref (g 25), .ref (g 26), .ref (g 27), .int 0, .int 0, .int 0, .int 0, .int 0, .int 0, .int 0, .int (-1), .int 0, .ref (g 37), .ref (g 38), .ref (g 39)]))] U.heap ∧ va_K (dC, dI) classes [] U ∧ va_D (fun _ => True) [(mm, .inr (8, [.int hi, .int ri, .int li, .ref (g 3), .ref (g 4), .ref (g 5), .ref (g 6), .ref (g 7), .ref (g 8), .int 0, .ref (g 10), .ref (g 11), .ref (g 12), .ref (g 13), .ref (g 14), .ref (g 15), .ref (g 16), .ref (g 17), .ref (g 18), .ref (g 19), .ref (g 20), .ref (g 21), .int 0, .ref (g 23), .ref (g 24), .ref (g 25), .ref (g 26), .ref (g 27), .int 0, .int 0, .int 0, .int 0, .int 0, .int 0, .int 0, .int (-1), .int 0, .ref (g 37), .ref (g 38), .ref (g 39)]))])) (va_Qi (fun (r : Int32) (_ : Unit) => r = fm_fuse k) (fun (_ : Unit) (_ : State) => True) (va_A [(mm, .inr (8, [.int hi, .int ri, .int li, .ref (g 3), .ref (g 4), .ref (g 5), .ref (g 6), .ref (g 7), .ref (g 8), .int 0, .ref (g 10), .ref (g 11), .ref (g 12), .ref (g 13), .ref (g 14), .ref (g 15), .ref (g 16), .ref (g 17), .ref (g 18), .ref (g 19), .ref (g 20), .ref (g 21), .int 0, .ref (g 23), .ref (g 24), .ref (g 25), .ref (g 26), .ref (g 27), .int 0, .int 0, .int 0, .int 0, .int 0, .int 0, .int 0, .int (-1), .int 0, .ref (g 37), .ref (g 38), .ref (g 39)]))] sz)) 0 0 (va_A [(mm, .inr (8, [.int hi, .int ri, .int li, .ref (g 3), .ref (g 4), .ref (g 5), .ref (g 6), .ref (g 7), .ref (g 8), .int 0, .ref (g 10), .ref (g 11), .ref (g 12), .ref (g 13), .ref (g 14), .ref (g 15), .ref (g 16), .ref (g 17), .ref (g 18), .ref (g 19), .ref (g 20), .ref (g 21), .int 0, .ref (g 23), .ref (g 24), .ref (g 25), .ref (g 26), .ref (g 27), .int 0, .int 0, .int 0, .int 0, .int 0, .int 0, .int 0, .int (-1), .int 0, .ref (g 37), .ref (g 38), .ref (g 39)]))] sz) := by
  refine Met.ofW (cc := cX8_fuse) (maxL := 2) (ret := (some .boolean)) (by decide) rfl ?_
  intro p e s m args below meth c s₁ B hml hv
  obtain ⟨rfl, hsz, hP, hK, hD0⟩ := hv
  have hx := B.exec
  have hb := B.bytes
  have hr := B.returns
  have hts := atoms_spec (ws := ww_X8_fuse) B.pre
  have hown : s.vm.findClass RX8 = some m.cls := findClass_of_methodNamed B.named
  have hlocks := B.notSynchronized
  subst hsz
  have hD := hD0.self (sz := s.heap.size)
  generalize hAe : va_A [(mm, .inr (8, [.int hi, .int ri, .int li, .ref (g 3), .ref (g 4), .ref (g 5), .ref (g 6), .ref (g 7), .ref (g 8), .int 0, .ref (g 10), .ref (g 11), .ref (g 12), .ref (g 13), .ref (g 14), .ref (g 15), .ref (g 16), .ref (g 17), .ref (g 18), .ref (g 19), .ref (g 20), .ref (g 21), .int 0, .ref (g 23), .ref (g 24), .ref (g 25), .ref (g 26), .ref (g 27), .int 0, .int 0, .int 0, .int 0, .int 0, .int 0, .int 0, .int (-1), .int 0, .ref (g 37), .ref (g 38), .ref (g 39)]))] s.heap.size = A at hD ⊢
  have hA : ∀ q : Nat, s.heap.size ≤ q → A q := fun q h => by rw [← hAe]; exact Or.inr h
  have hS : va_S A s.heap s.heap [] := va_S.rf
  have hP : va_P (dC, dI) classes [(mm, .inr (8, [.int hi, .int ri, .int li, .ref (g 3), .ref (g 4), .ref (g 5), .ref (g 6), .ref (g 7), .ref (g 8), .int 0, .ref (g 10), .ref (g 11), .ref (g 12), .ref (g 13), .ref (g 14), .ref (g 15), .ref (g 16), .ref (g 17), .ref (g 18), .ref (g 19), .ref (g 20), .ref (g 21), .int 0, .ref (g 23), .ref (g 24), .ref (g 25), .ref (g 26), .ref (g 27), .int 0, .int 0, .int 0, .int 0, .int 0, .int 0, .int 0, .int (-1), .int 0, .ref (g 37), .ref (g 38), .ref (g 39)]))] s.heap := hP
  have hl := lv_entry ([.ref mm, .int k]) (n := 2) (Nat.le_of_ble_eq_true rfl)
  rw [lg_entry_eq]
  generalize (lg_sl ([.ref mm, .int k]) ++ List.replicate (2 - (lg_sl ([.ref mm, .int k])).length) Slot.unset).toArray = ls at hl ⊢
  have hl : lv_has ls 2 [(0, .ref mm), (1, .int k)] := hl
  generalize hHe : s.heap = H at hP ⊢
  have hS : va_S A s.heap H [] := by rw [← hHe]; exact va_S.rf
  refine lv_iload_n hx hb dX8_fuse_0 rfl (lv_at hl 1 rfl) ?_
  refine lv_iconst (v := (-1)) hx hb dX8_fuse_1 (by decide) ?_
  refine lv_sipush (v := 1000) hx hb dX8_fuse_2 (by decide) ?_
  have hPc := hP.sub (ws' := []) [] rfl
  have hDc := hD.sub (ws' := []) [] (by decide) rfl
  have hKc := hK.sub (tys' := []) [] rfl
  have hFc := va_free (wc := []) hD hS hA [] rfl
  refine va_calli (va_runS (As := [.int k, .int (-1), .int 1000]) (rest := []) ⟨hx, hb, hml, hown, hts⟩ (cm_in l dC dI H.size k -1 1000) (va_cwS 3 hts gX8_fuse_X8_in_279 rfl rfl rfl (by decide +kernel) ⟨(Nat.le_of_ble_eq_true rfl), (Nat.le_of_ble_eq_true rfl)⟩) ⟨fun a U g mk q => by obtain ⟨q0, q1, qP, qK, qD⟩ := q; exact ⟨q0, q1, qP, va_K.moved (u := U) (U := U.calling g mk a) (Vm.Alike.refl U.vm) qK, qD⟩, fun U hU hW => ⟨rfl, by rw [hU], by rw [hU]; exact hPc, va_K.moved hW.alike hKc, hDc.weaken (fun _ _ _ _ => trivial)⟩⟩ rfl rfl hl.1 rfl (lv_room (Nat.le_of_ble_eq_true rfl)) dX8_fuse_5 ⟨(Nat.le_of_ble_eq_true rfl), (Nat.le_of_ble_eq_true rfl)⟩) hS (fun q _ h => hFc q h) hFc (fun r172 u t H1 locs ht hvm hw hB hz1 hk1 hS => ?_)
  have hP1 : va_P (dC, dI) classes [] H1 := vx_P0
  have hD1 : va_D (va_A [] H.size) [] := vx_D0
  obtain ⟨hP, hD⟩ := va_join (wr := [(mm, .inr (8, [.int hi, .int ri, .int li, .ref (g 3), .ref (g 4), .ref (g 5), .ref (g 6), .ref (g 7), .ref (g 8), .int 0, .ref (g 10), .ref (g 11), .ref (g 12), .ref (g 13), .ref (g 14), .ref (g 15), .ref (g 16), .ref (g 17), .ref (g 18), .ref (g 19), .ref (g 20), .ref (g 21), .int 0, .ref (g 23), .ref (g 24), .ref (g 25), .ref (g 26), .ref (g 27), .int 0, .int 0, .int 0, .int 0, .int 0, .int 0, .int 0, .int (-1), .int 0, .ref (g 37), .ref (g 38), .ref (g 39)]))]) (w1 := []) hP hD [] [0] rfl rfl (by decide) (by decide) hk1 hFc hP1 hD1
  have hK := hK.sub (tys' := []) [] rfl
  generalize H1 = H at hP hS ⊢
  have hP : va_P (dC, dI) classes [(mm, .inr (8, [.int hi, .int ri, .int li, .ref (g 3), .ref (g 4), .ref (g 5), .ref (g 6), .ref (g 7), .ref (g 8), .int 0, .ref (g 10), .ref (g 11), .ref (g 12), .ref (g 13), .ref (g 14), .ref (g 15), .ref (g 16), .ref (g 17), .ref (g 18), .ref (g 19), .ref (g 20), .ref (g 21), .int 0, .ref (g 23), .ref (g 24), .ref (g 25), .ref (g 26), .ref (g 27), .int 0, .int 0, .int 0, .int 0, .int 0, .int 0, .int 0, .int (-1), .int 0, .ref (g 37), .ref (g 38), .ref (g 39)]))] H := hP
  have hD : va_D A [(mm, .inr (8, [.int hi, .int ri, .int li, .ref (g 3), .ref (g 4), .ref (g 5), .ref (g 6), .ref (g 7), .ref (g 8), .int 0, .ref (g 10), .ref (g 11), .ref (g 12), .ref (g 13), .ref (g 14), .ref (g 15), .ref (g 16), .ref (g 17), .ref (g 18), .ref (g 19), .ref (g 20), .ref (g 21), .int 0, .ref (g 23), .ref (g 24), .ref (g 25), .ref (g 26), .ref (g 27), .int 0, .int 0, .int 0, .int 0, .int 0, .int 0, .int 0, .int (-1), .int 0, .ref (g 37), .ref (g 38), .ref (g 39)]))] := hD
  have hK : va_K (dC, dI) classes [] s := hK
  refine W.widen (k := 0) (n := 0) (Nat.le_of_ble_eq_true rfl) (Nat.le_of_ble_eq_true rfl) ?_
  try dsimp only at hw
  subst hw
  refine lv_if_ne (tgt := 13) hx hb dX8_fuse_8 (by decide) (fun c173 => ?_) (fun c173 => ?_)
  · refine lv_aload_n hx hb dX8_fuse_13 rfl (lv_at hl 0 rfl) ?_
    refine lv_iload_n hx hb dX8_fuse_14 rfl (lv_at hl 1 rfl) ?_
    refine va_put (D := (dC, dI)) (ci := 8) (v := .int k) (ty := .int) (C := RX8) (T := TX8) (N := 40) hx hb hts iX8_fuse_X8 tyX8 tyX8_ok nmX8 hown hK hP hD hS 0 rfl rfl 35 (by decide) (hts (.fieldLink RX8 152 "LeafSignerModel" "fuse" "I") (List.mem_of_getElem? (i := 5) rfl)) (fun _ h9 => h9) rfl (by decide +kernel) rfl rfl (Nat.le_of_ble_eq_true rfl) dX8_fuse_15 (fun H locs hP hD hS => ?_)
    have hP : va_P (dC, dI) classes [(mm, .inr (8, [.int hi, .int ri, .int li, .ref (g 3), .ref (g 4), .ref (g 5), .ref (g 6), .ref (g 7), .ref (g 8), .int 0, .ref (g 10), .ref (g 11), .ref (g 12), .ref (g 13), .ref (g 14), .ref (g 15), .ref (g 16), .ref (g 17), .ref (g 18), .ref (g 19), .ref (g 20), .ref (g 21), .int 0, .ref (g 23), .ref (g 24), .ref (g 25), .ref (g 26), .ref (g 27), .int 0, .int 0, .int 0, .int 0, .int 0, .int 0, .int 0, .int k, .int 0, .ref (g 37), .ref (g 38), .ref (g 39)]))] H := hP
    have hD : va_D A [(mm, .inr (8, [.int hi, .int ri, .int li, .ref (g 3), .ref (g 4), .ref (g 5), .ref (g 6), .ref (g 7), .ref (g 8), .int 0, .ref (g 10), .ref (g 11), .ref (g 12), .ref (g 13), .ref (g 14), .ref (g 15), .ref (g 16), .ref (g 17), .ref (g 18), .ref (g 19), .ref (g 20), .ref (g 21), .int 0, .ref (g 23), .ref (g 24), .ref (g 25), .ref (g 26), .ref (g 27), .int 0, .int 0, .int 0, .int 0, .int 0, .int 0, .int 0, .int k, .int 0, .ref (g 37), .ref (g 38), .ref (g 39)]))] := hD
    refine lv_iconst (v := 1) hx hb dX8_fuse_18 (by decide) ?_
    refine W.widen (k := 0) (n := 0) (Nat.le_of_ble_eq_true rfl) (Nat.le_of_ble_eq_true rfl) ?_
    exact W.zret (v := 1) (ty := .boolean) hx hb hr (by decide) (fun t ht hW => ⟨⟨1, (), rfl, (by unfold fm_fuse; rw [if_pos c173]), trivial⟩, hS.F ht⟩) hS.2.2 dX8_fuse_19
  · refine lv_iconst (v := 0) hx hb dX8_fuse_11 (by decide) ?_
    refine W.widen (k := 0) (n := 0) (Nat.le_of_ble_eq_true rfl) (Nat.le_of_ble_eq_true rfl) ?_
    exact W.zret (v := 0) (ty := .boolean) hx hb hr (by decide) (fun t ht hW => ⟨⟨0, (), rfl, (by unfold fm_fuse; rw [if_neg c173]), trivial⟩, hS.F ht⟩) hS.2.2 dX8_fuse_12
def ww_X8_alter : List Cond := .code yX8_alter cX8_alter 3 (some .int) :: ([.fieldLink RX8 300 "LeafSignerModel" "keeps" "I", .methodLink RX8 279 yX8_in, .static yX8_in, .initialized RX8, .code yX8_in cX8_in 3 (some .boolean)] ++ (wsX80))
theorem iX8_alter_X8 : ∀ w ∈ wsX80, w ∈ ww_X8_alter := fun w h => List.mem_cons_of_mem _ (List.mem_append_right _ h)
set_option maxRecDepth 20000 in
theorem gX8_alter_X8_in_279 : GoodIn ww_X8_alter (va_wsS RX8 279 yX8_in ww_X8_in) := vx_good _ [2, 3, 4, 5] rfl (by decide +kernel)
set_option maxHeartbeats 4000000 in
set_option maxRecDepth 100000 in
theorem cm_alter (l : Launch) (dC : Nat → ClassId) (dI : Nat → Nat → Nat) (sz : Nat) (mm : Nat) (k : Int32) (z : Int32) (hi : Int32) (ri : Int32) (li : Int32) (g : (Nat → Nat)) : Met l yX8_alter ww_X8_alter ({ frames := 1, cells := 0, slots := 0, locals := 22 }) (va_Pc [.ref mm, .int k, .int z] (fun U => U.heap.size = sz ∧ va_P (dC, dI) classes [(mm, .inr (8, [.int hi, .int ri, .int li, .ref (g 3), .ref (g 4), .ref (g 5), .ref (g 6), .ref (g 7), .ref (g 8), .int 0, .ref (g 10), .ref (g 11), .ref (g 12), .ref (g 13), .ref (g 14), .ref (g 15), .ref (g 16), .ref (g 17), .ref (g 18), .ref (g 19), .ref (g 20), .ref (g 21), .int 0, .ref (g 23), .ref (g 24), .ref (g 25), .ref (g 26), .ref (g 27), .int 0, .int 0, .int 0, .int 0, .int 0, .int 0, .int 0, .int (-1), .int 0, .ref (g 37), .ref (g 38), .ref (g 39)]))] U.heap ∧ va_K (dC, dI) classes [] U ∧ va_D (fun _ => True) [(mm, .inr (8, [.int hi, .int ri, .int li, .ref (g 3), .ref (g 4), .ref (g 5), .ref (g 6), .ref (g 7), .ref (g 8), .int 0, .ref (g 10), .ref (g 11), .ref (g 12), .ref (g 13), .ref (g 14), .ref (g 15), .ref (g 16), .ref (g 17), .ref (g 18), .ref (g 19), .ref (g 20), .ref (g 21), .int 0, .ref (g 23), .ref (g 24), .ref (g 25), .ref (g 26), .ref (g 27), .int 0, .int 0, .int 0, .int 0, .int 0, .int 0, .int 0, .int (-1), .int 0, .ref (g 37), .ref (g 38), .ref (g 39)]))])) (va_Qi (fun (r : Int32) (_ : Unit) => r = -1) (fun (_ : Unit) (_ : State) => True) (va_A [(mm, .inr (8, [.int hi, .int ri, .int li, .ref (g 3), .ref (g 4), .ref (g 5), .ref (g 6), .ref (g 7), .ref (g 8), .int 0, .ref (g 10), .ref (g 11), .ref (g 12), .ref (g 13), .ref (g 14), .ref (g 15), .ref (g 16), .ref (g 17), .ref (g 18), .ref (g 19), .ref (g 20), .ref (g 21), .int 0, .ref (g 23), .ref (g 24), .ref (g 25), .ref (g 26), .ref (g 27), .int 0, .int 0, .int 0, .int 0, .int 0, .int 0, .int 0, .int (-1), .int 0, .ref (g 37), .ref (g 38), .ref (g 39)]))] sz)) 0 0 (va_A [(mm, .inr (8, [.int hi, .int ri, .int li, .ref (g 3), .ref (g 4), .ref (g 5), .ref (g 6), .ref (g 7), .ref (g 8), .int 0, .ref (g 10), .ref (g 11), .ref (g 12), .ref (g 13), .ref (g 14), .ref (g 15), .ref (g 16), .ref (g 17), .ref (g 18), .ref (g 19), .ref (g 20), .ref (g 21), .int 0, .ref (g 23), .ref (g 24), .ref (g 25), .ref (g 26), .ref (g 27), .int 0, .int 0, .int 0, .int 0, .int 0, .int 0, .int 0, .int (-1), .int 0, .ref (g 37), .ref (g 38), .ref (g 39)]))] sz) := by
  refine Met.ofW (cc := cX8_alter) (maxL := 3) (ret := (some .int)) (by decide) rfl ?_
  intro p e s m args below meth c s₁ B hml hv
  obtain ⟨rfl, hsz, hP, hK, hD0⟩ := hv
  have hx := B.exec
  have hb := B.bytes
  have hr := B.returns
  have hts := atoms_spec (ws := ww_X8_alter) B.pre
  have hown : s.vm.findClass RX8 = some m.cls := findClass_of_methodNamed B.named
  have hlocks := B.notSynchronized
  subst hsz
  have hD := hD0.self (sz := s.heap.size)
  generalize hAe : va_A [(mm, .inr (8, [.int hi, .int ri, .int li, .ref (g 3), .ref (g 4), .ref (g 5), .ref (g 6), .ref (g 7), .ref (g 8), .int 0, .ref (g 10), .ref (g 11), .ref (g 12), .ref (g 13), .ref (g 14), .ref (g 15), .ref (g 16), .ref (g 17), .ref (g 18), .ref (g 19), .ref (g 20), .ref (g 21), .int 0, .ref (g 23), .ref (g 24), .ref (g 25), .ref (g 26), .ref (g 27), .int 0, .int 0, .int 0, .int 0, .int 0, .int 0, .int 0, .int (-1), .int 0, .ref (g 37), .ref (g 38), .ref (g 39)]))] s.heap.size = A at hD ⊢
  have hA : ∀ q : Nat, s.heap.size ≤ q → A q := fun q h => by rw [← hAe]; exact Or.inr h
  have hS : va_S A s.heap s.heap [] := va_S.rf
  have hP : va_P (dC, dI) classes [(mm, .inr (8, [.int hi, .int ri, .int li, .ref (g 3), .ref (g 4), .ref (g 5), .ref (g 6), .ref (g 7), .ref (g 8), .int 0, .ref (g 10), .ref (g 11), .ref (g 12), .ref (g 13), .ref (g 14), .ref (g 15), .ref (g 16), .ref (g 17), .ref (g 18), .ref (g 19), .ref (g 20), .ref (g 21), .int 0, .ref (g 23), .ref (g 24), .ref (g 25), .ref (g 26), .ref (g 27), .int 0, .int 0, .int 0, .int 0, .int 0, .int 0, .int 0, .int (-1), .int 0, .ref (g 37), .ref (g 38), .ref (g 39)]))] s.heap := hP
  have hl := lv_entry ([.ref mm, .int k, .int z]) (n := 3) (Nat.le_of_ble_eq_true rfl)
  rw [lg_entry_eq]
  generalize (lg_sl ([.ref mm, .int k, .int z]) ++ List.replicate (3 - (lg_sl ([.ref mm, .int k, .int z])).length) Slot.unset).toArray = ls at hl ⊢
  have hl : lv_has ls 3 [(0, .ref mm), (1, .int k), (2, .int z)] := hl
  generalize hHe : s.heap = H at hP ⊢
  have hS : va_S A s.heap H [] := by rw [← hHe]; exact va_S.rf
  refine lv_iload_n hx hb dX8_alter_0 rfl (lv_at hl 1 rfl) ?_
  refine lv_iconst (v := 0) hx hb dX8_alter_1 (by decide) ?_
  refine lv_aload_n hx hb dX8_alter_2 rfl (lv_at hl 0 rfl) ?_
  refine va_get (D := (dC, dI)) (ci := 8) (v := .int 0) (C := RX8) (T := TX8) (N := 40) hx hb hts iX8_alter_X8 hown hK hP 0 rfl rfl 30 (by decide) (hts (.fieldLink RX8 300 "LeafSignerModel" "keeps" "I") (List.mem_of_getElem? (i := 1) rfl)) (fun _ h9 => h9) rfl dX8_alter_3 ?_
  refine lv_iconst (v := 1) hx hb dX8_alter_6 (by decide) ?_
  refine lv_isub hx hb dX8_alter_7 ?_
  refine vx_topk (-1) (by decide) ?_
  have hPc := hP.sub (ws' := []) [] rfl
  have hDc := hD.sub (ws' := []) [] (by decide) rfl
  have hKc := hK.sub (tys' := []) [] rfl
  have hFc := va_free (wc := []) hD hS hA [] rfl
  refine va_calli (va_runS (As := [.int k, .int 0, .int (-1)]) (rest := []) ⟨hx, hb, hml, hown, hts⟩ (cm_in l dC dI H.size k 0 -1) (va_cwS 3 hts gX8_alter_X8_in_279 rfl rfl rfl (by decide +kernel) ⟨(Nat.le_of_ble_eq_true rfl), (Nat.le_of_ble_eq_true rfl)⟩) ⟨fun a U g mk q => by obtain ⟨q0, q1, qP, qK, qD⟩ := q; exact ⟨q0, q1, qP, va_K.moved (u := U) (U := U.calling g mk a) (Vm.Alike.refl U.vm) qK, qD⟩, fun U hU hW => ⟨rfl, by rw [hU], by rw [hU]; exact hPc, va_K.moved hW.alike hKc, hDc.weaken (fun _ _ _ _ => trivial)⟩⟩ rfl rfl hl.1 rfl (lv_room (Nat.le_of_ble_eq_true rfl)) dX8_alter_8 ⟨(Nat.le_of_ble_eq_true rfl), (Nat.le_of_ble_eq_true rfl)⟩) hS (fun q _ h => hFc q h) hFc (fun r174 u t H1 locs ht hvm hw hB hz1 hk1 hS => ?_)
  have hP1 : va_P (dC, dI) classes [] H1 := vx_P0
  have hD1 : va_D (va_A [] H.size) [] := vx_D0
  obtain ⟨hP, hD⟩ := va_join (wr := [(mm, .inr (8, [.int hi, .int ri, .int li, .ref (g 3), .ref (g 4), .ref (g 5), .ref (g 6), .ref (g 7), .ref (g 8), .int 0, .ref (g 10), .ref (g 11), .ref (g 12), .ref (g 13), .ref (g 14), .ref (g 15), .ref (g 16), .ref (g 17), .ref (g 18), .ref (g 19), .ref (g 20), .ref (g 21), .int 0, .ref (g 23), .ref (g 24), .ref (g 25), .ref (g 26), .ref (g 27), .int 0, .int 0, .int 0, .int 0, .int 0, .int 0, .int 0, .int (-1), .int 0, .ref (g 37), .ref (g 38), .ref (g 39)]))]) (w1 := []) hP hD [] [0] rfl rfl (by decide) (by decide) hk1 hFc hP1 hD1
  have hK := hK.sub (tys' := []) [] rfl
  generalize H1 = H at hP hS ⊢
  have hP : va_P (dC, dI) classes [(mm, .inr (8, [.int hi, .int ri, .int li, .ref (g 3), .ref (g 4), .ref (g 5), .ref (g 6), .ref (g 7), .ref (g 8), .int 0, .ref (g 10), .ref (g 11), .ref (g 12), .ref (g 13), .ref (g 14), .ref (g 15), .ref (g 16), .ref (g 17), .ref (g 18), .ref (g 19), .ref (g 20), .ref (g 21), .int 0, .ref (g 23), .ref (g 24), .ref (g 25), .ref (g 26), .ref (g 27), .int 0, .int 0, .int 0, .int 0, .int 0, .int 0, .int 0, .int (-1), .int 0, .ref (g 37), .ref (g 38), .ref (g 39)]))] H := hP
  have hD : va_D A [(mm, .inr (8, [.int hi, .int ri, .int li, .ref (g 3), .ref (g 4), .ref (g 5), .ref (g 6), .ref (g 7), .ref (g 8), .int 0, .ref (g 10), .ref (g 11), .ref (g 12), .ref (g 13), .ref (g 14), .ref (g 15), .ref (g 16), .ref (g 17), .ref (g 18), .ref (g 19), .ref (g 20), .ref (g 21), .int 0, .ref (g 23), .ref (g 24), .ref (g 25), .ref (g 26), .ref (g 27), .int 0, .int 0, .int 0, .int 0, .int 0, .int 0, .int 0, .int (-1), .int 0, .ref (g 37), .ref (g 38), .ref (g 39)]))] := hD
  have hK : va_K (dC, dI) classes [] s := hK
  refine W.widen (k := 0) (n := 0) (Nat.le_of_ble_eq_true rfl) (Nat.le_of_ble_eq_true rfl) ?_
  try dsimp only at hw
  obtain rfl : r174 = 0 := (hw.trans (vx_in0 k))
  refine lv_if_ne (tgt := 16) hx hb dX8_alter_11 (by decide) (fun c175 => absurd c175 (by decide)) (fun c175 => ?_)
  refine lv_iconst (v := (-1)) hx hb dX8_alter_14 (by decide) ?_
  refine W.widen (k := 0) (n := 0) (Nat.le_of_ble_eq_true rfl) (Nat.le_of_ble_eq_true rfl) ?_
  exact W.iret (v := (-1)) hx hb hr (fun t ht hW => ⟨⟨(-1), (), rfl, rfl, trivial⟩, hS.F ht⟩) hS.2.2 dX8_alter_15
def ww_X8_out : List Cond := .code yX8_out cX8_out 2 (some .int) :: ([.fieldLink RX8 290 "LeafSignerModel" "outs" "I", .methodLink RX8 279 yX8_in, .static yX8_in, .initialized RX8, .code yX8_in cX8_in 3 (some .boolean)] ++ (wsX80))
theorem iX8_out_X8 : ∀ w ∈ wsX80, w ∈ ww_X8_out := fun w h => List.mem_cons_of_mem _ (List.mem_append_right _ h)
set_option maxRecDepth 20000 in
theorem gX8_out_X8_in_279 : GoodIn ww_X8_out (va_wsS RX8 279 yX8_in ww_X8_in) := vx_good _ [2, 3, 4, 5] rfl (by decide +kernel)
set_option maxHeartbeats 4000000 in
set_option maxRecDepth 100000 in
theorem cm_out (l : Launch) (dC : Nat → ClassId) (dI : Nat → Nat → Nat) (sz : Nat) (mm : Nat) (k : Int32) (hi : Int32) (ri : Int32) (li : Int32) (g : (Nat → Nat)) : Met l yX8_out ww_X8_out ({ frames := 1, cells := 0, slots := 0, locals := 22 }) (va_Pc [.ref mm, .int k] (fun U => U.heap.size = sz ∧ va_P (dC, dI) classes [(mm, .inr (8, [.int hi, .int ri, .int li, .ref (g 3), .ref (g 4), .ref (g 5), .ref (g 6), .ref (g 7), .ref (g 8), .int 0, .ref (g 10), .ref (g 11), .ref (g 12), .ref (g 13), .ref (g 14), .ref (g 15), .ref (g 16), .ref (g 17), .ref (g 18), .ref (g 19), .ref (g 20), .ref (g 21), .int 0, .ref (g 23), .ref (g 24), .ref (g 25), .ref (g 26), .ref (g 27), .int 0, .int 0, .int 0, .int 0, .int 0, .int 0, .int 0, .int (-1), .int 0, .ref (g 37), .ref (g 38), .ref (g 39)]))] U.heap ∧ va_K (dC, dI) classes [] U ∧ va_D (fun _ => True) [(mm, .inr (8, [.int hi, .int ri, .int li, .ref (g 3), .ref (g 4), .ref (g 5), .ref (g 6), .ref (g 7), .ref (g 8), .int 0, .ref (g 10), .ref (g 11), .ref (g 12), .ref (g 13), .ref (g 14), .ref (g 15), .ref (g 16), .ref (g 17), .ref (g 18), .ref (g 19), .ref (g 20), .ref (g 21), .int 0, .ref (g 23), .ref (g 24), .ref (g 25), .ref (g 26), .ref (g 27), .int 0, .int 0, .int 0, .int 0, .int 0, .int 0, .int 0, .int (-1), .int 0, .ref (g 37), .ref (g 38), .ref (g 39)]))])) (va_Qi (fun (r : Int32) (_ : Unit) => r = -1) (fun (_ : Unit) (_ : State) => True) (va_A [(mm, .inr (8, [.int hi, .int ri, .int li, .ref (g 3), .ref (g 4), .ref (g 5), .ref (g 6), .ref (g 7), .ref (g 8), .int 0, .ref (g 10), .ref (g 11), .ref (g 12), .ref (g 13), .ref (g 14), .ref (g 15), .ref (g 16), .ref (g 17), .ref (g 18), .ref (g 19), .ref (g 20), .ref (g 21), .int 0, .ref (g 23), .ref (g 24), .ref (g 25), .ref (g 26), .ref (g 27), .int 0, .int 0, .int 0, .int 0, .int 0, .int 0, .int 0, .int (-1), .int 0, .ref (g 37), .ref (g 38), .ref (g 39)]))] sz)) 0 0 (va_A [(mm, .inr (8, [.int hi, .int ri, .int li, .ref (g 3), .ref (g 4), .ref (g 5), .ref (g 6), .ref (g 7), .ref (g 8), .int 0, .ref (g 10), .ref (g 11), .ref (g 12), .ref (g 13), .ref (g 14), .ref (g 15), .ref (g 16), .ref (g 17), .ref (g 18), .ref (g 19), .ref (g 20), .ref (g 21), .int 0, .ref (g 23), .ref (g 24), .ref (g 25), .ref (g 26), .ref (g 27), .int 0, .int 0, .int 0, .int 0, .int 0, .int 0, .int 0, .int (-1), .int 0, .ref (g 37), .ref (g 38), .ref (g 39)]))] sz) := by
  refine Met.ofW (cc := cX8_out) (maxL := 2) (ret := (some .int)) (by decide) rfl ?_
  intro p e s m args below meth c s₁ B hml hv
  obtain ⟨rfl, hsz, hP, hK, hD0⟩ := hv
  have hx := B.exec
  have hb := B.bytes
  have hr := B.returns
  have hts := atoms_spec (ws := ww_X8_out) B.pre
  have hown : s.vm.findClass RX8 = some m.cls := findClass_of_methodNamed B.named
  have hlocks := B.notSynchronized
  subst hsz
  have hD := hD0.self (sz := s.heap.size)
  generalize hAe : va_A [(mm, .inr (8, [.int hi, .int ri, .int li, .ref (g 3), .ref (g 4), .ref (g 5), .ref (g 6), .ref (g 7), .ref (g 8), .int 0, .ref (g 10), .ref (g 11), .ref (g 12), .ref (g 13), .ref (g 14), .ref (g 15), .ref (g 16), .ref (g 17), .ref (g 18), .ref (g 19), .ref (g 20), .ref (g 21), .int 0, .ref (g 23), .ref (g 24), .ref (g 25), .ref (g 26), .ref (g 27), .int 0, .int 0, .int 0, .int 0, .int 0, .int 0, .int 0, .int (-1), .int 0, .ref (g 37), .ref (g 38), .ref (g 39)]))] s.heap.size = A at hD ⊢
  have hA : ∀ q : Nat, s.heap.size ≤ q → A q := fun q h => by rw [← hAe]; exact Or.inr h
  have hS : va_S A s.heap s.heap [] := va_S.rf
  have hP : va_P (dC, dI) classes [(mm, .inr (8, [.int hi, .int ri, .int li, .ref (g 3), .ref (g 4), .ref (g 5), .ref (g 6), .ref (g 7), .ref (g 8), .int 0, .ref (g 10), .ref (g 11), .ref (g 12), .ref (g 13), .ref (g 14), .ref (g 15), .ref (g 16), .ref (g 17), .ref (g 18), .ref (g 19), .ref (g 20), .ref (g 21), .int 0, .ref (g 23), .ref (g 24), .ref (g 25), .ref (g 26), .ref (g 27), .int 0, .int 0, .int 0, .int 0, .int 0, .int 0, .int 0, .int (-1), .int 0, .ref (g 37), .ref (g 38), .ref (g 39)]))] s.heap := hP
  have hl := lv_entry ([.ref mm, .int k]) (n := 2) (Nat.le_of_ble_eq_true rfl)
  rw [lg_entry_eq]
  generalize (lg_sl ([.ref mm, .int k]) ++ List.replicate (2 - (lg_sl ([.ref mm, .int k])).length) Slot.unset).toArray = ls at hl ⊢
  have hl : lv_has ls 2 [(0, .ref mm), (1, .int k)] := hl
  generalize hHe : s.heap = H at hP ⊢
  have hS : va_S A s.heap H [] := by rw [← hHe]; exact va_S.rf
  refine lv_iload_n hx hb dX8_out_0 rfl (lv_at hl 1 rfl) ?_
  refine lv_iconst (v := 0) hx hb dX8_out_1 (by decide) ?_
  refine lv_aload_n hx hb dX8_out_2 rfl (lv_at hl 0 rfl) ?_
  refine va_get (D := (dC, dI)) (ci := 8) (v := .int 0) (C := RX8) (T := TX8) (N := 40) hx hb hts iX8_out_X8 hown hK hP 0 rfl rfl 29 (by decide) (hts (.fieldLink RX8 290 "LeafSignerModel" "outs" "I") (List.mem_of_getElem? (i := 1) rfl)) (fun _ h9 => h9) rfl dX8_out_3 ?_
  refine lv_iconst (v := 1) hx hb dX8_out_6 (by decide) ?_
  refine lv_isub hx hb dX8_out_7 ?_
  refine vx_topk (-1) (by decide) ?_
  have hPc := hP.sub (ws' := []) [] rfl
  have hDc := hD.sub (ws' := []) [] (by decide) rfl
  have hKc := hK.sub (tys' := []) [] rfl
  have hFc := va_free (wc := []) hD hS hA [] rfl
  refine va_calli (va_runS (As := [.int k, .int 0, .int (-1)]) (rest := []) ⟨hx, hb, hml, hown, hts⟩ (cm_in l dC dI H.size k 0 -1) (va_cwS 3 hts gX8_out_X8_in_279 rfl rfl rfl (by decide +kernel) ⟨(Nat.le_of_ble_eq_true rfl), (Nat.le_of_ble_eq_true rfl)⟩) ⟨fun a U g mk q => by obtain ⟨q0, q1, qP, qK, qD⟩ := q; exact ⟨q0, q1, qP, va_K.moved (u := U) (U := U.calling g mk a) (Vm.Alike.refl U.vm) qK, qD⟩, fun U hU hW => ⟨rfl, by rw [hU], by rw [hU]; exact hPc, va_K.moved hW.alike hKc, hDc.weaken (fun _ _ _ _ => trivial)⟩⟩ rfl rfl hl.1 rfl (lv_room (Nat.le_of_ble_eq_true rfl)) dX8_out_8 ⟨(Nat.le_of_ble_eq_true rfl), (Nat.le_of_ble_eq_true rfl)⟩) hS (fun q _ h => hFc q h) hFc (fun r176 u t H1 locs ht hvm hw hB hz1 hk1 hS => ?_)
  have hP1 : va_P (dC, dI) classes [] H1 := vx_P0
  have hD1 : va_D (va_A [] H.size) [] := vx_D0
  obtain ⟨hP, hD⟩ := va_join (wr := [(mm, .inr (8, [.int hi, .int ri, .int li, .ref (g 3), .ref (g 4), .ref (g 5), .ref (g 6), .ref (g 7), .ref (g 8), .int 0, .ref (g 10), .ref (g 11), .ref (g 12), .ref (g 13), .ref (g 14), .ref (g 15), .ref (g 16), .ref (g 17), .ref (g 18), .ref (g 19), .ref (g 20), .ref (g 21), .int 0, .ref (g 23), .ref (g 24), .ref (g 25), .ref (g 26), .ref (g 27), .int 0, .int 0, .int 0, .int 0, .int 0, .int 0, .int 0, .int (-1), .int 0, .ref (g 37), .ref (g 38), .ref (g 39)]))]) (w1 := []) hP hD [] [0] rfl rfl (by decide) (by decide) hk1 hFc hP1 hD1
  have hK := hK.sub (tys' := []) [] rfl
  generalize H1 = H at hP hS ⊢
  have hP : va_P (dC, dI) classes [(mm, .inr (8, [.int hi, .int ri, .int li, .ref (g 3), .ref (g 4), .ref (g 5), .ref (g 6), .ref (g 7), .ref (g 8), .int 0, .ref (g 10), .ref (g 11), .ref (g 12), .ref (g 13), .ref (g 14), .ref (g 15), .ref (g 16), .ref (g 17), .ref (g 18), .ref (g 19), .ref (g 20), .ref (g 21), .int 0, .ref (g 23), .ref (g 24), .ref (g 25), .ref (g 26), .ref (g 27), .int 0, .int 0, .int 0, .int 0, .int 0, .int 0, .int 0, .int (-1), .int 0, .ref (g 37), .ref (g 38), .ref (g 39)]))] H := hP
  have hD : va_D A [(mm, .inr (8, [.int hi, .int ri, .int li, .ref (g 3), .ref (g 4), .ref (g 5), .ref (g 6), .ref (g 7), .ref (g 8), .int 0, .ref (g 10), .ref (g 11), .ref (g 12), .ref (g 13), .ref (g 14), .ref (g 15), .ref (g 16), .ref (g 17), .ref (g 18), .ref (g 19), .ref (g 20), .ref (g 21), .int 0, .ref (g 23), .ref (g 24), .ref (g 25), .ref (g 26), .ref (g 27), .int 0, .int 0, .int 0, .int 0, .int 0, .int 0, .int 0, .int (-1), .int 0, .ref (g 37), .ref (g 38), .ref (g 39)]))] := hD
  have hK : va_K (dC, dI) classes [] s := hK
  refine W.widen (k := 0) (n := 0) (Nat.le_of_ble_eq_true rfl) (Nat.le_of_ble_eq_true rfl) ?_
  try dsimp only at hw
  obtain rfl : r176 = 0 := (hw.trans (vx_in0 k))
  refine lv_if_eq (tgt := 27) hx hb dX8_out_11 (by decide) (fun c177 => ?_) (fun c177 => absurd (by decide) c177)
  refine lv_iconst (v := (-1)) hx hb dX8_out_27 (by decide) ?_
  refine W.widen (k := 0) (n := 0) (Nat.le_of_ble_eq_true rfl) (Nat.le_of_ble_eq_true rfl) ?_
  exact W.iret (v := (-1)) hx hb hr (fun t ht hW => ⟨⟨(-1), (), rfl, rfl, trivial⟩, hS.F ht⟩) hS.2.2 dX8_out_28
def ww_X8_leaf : List Cond := .code yX8_leaf cX8_leaf 2 (some .int) :: ([.fieldLink RX8 250 "LeafSignerModel" "hasKeys" "Z"] ++ (wsX80))
theorem iX8_leaf_X8 : ∀ w ∈ wsX80, w ∈ ww_X8_leaf := fun w h => List.mem_cons_of_mem _ (List.mem_append_right _ h)
set_option maxHeartbeats 4000000 in
set_option maxRecDepth 100000 in
theorem cm_leaf (l : Launch) (dC : Nat → ClassId) (dI : Nat → Nat → Nat) (sz : Nat) (mm : Nat) (k : Int32) (hi : Int32) (ri : Int32) (li : Int32) (g : (Nat → Nat)) : Met l yX8_leaf ww_X8_leaf ({ frames := 0, cells := 0, slots := 0, locals := 0 }) (va_Pc [.ref mm, .int k] (fun U => U.heap.size = sz ∧ va_P (dC, dI) classes [(mm, .inr (8, [.int hi, .int ri, .int li, .ref (g 3), .ref (g 4), .ref (g 5), .ref (g 6), .ref (g 7), .ref (g 8), .int 0, .ref (g 10), .ref (g 11), .ref (g 12), .ref (g 13), .ref (g 14), .ref (g 15), .ref (g 16), .ref (g 17), .ref (g 18), .ref (g 19), .ref (g 20), .ref (g 21), .int 0, .ref (g 23), .ref (g 24), .ref (g 25), .ref (g 26), .ref (g 27), .int 0, .int 0, .int 0, .int 0, .int 0, .int 0, .int 0, .int (-1), .int 0, .ref (g 37), .ref (g 38), .ref (g 39)]))] U.heap ∧ va_K (dC, dI) classes [] U ∧ va_D (fun _ => True) [(mm, .inr (8, [.int hi, .int ri, .int li, .ref (g 3), .ref (g 4), .ref (g 5), .ref (g 6), .ref (g 7), .ref (g 8), .int 0, .ref (g 10), .ref (g 11), .ref (g 12), .ref (g 13), .ref (g 14), .ref (g 15), .ref (g 16), .ref (g 17), .ref (g 18), .ref (g 19), .ref (g 20), .ref (g 21), .int 0, .ref (g 23), .ref (g 24), .ref (g 25), .ref (g 26), .ref (g 27), .int 0, .int 0, .int 0, .int 0, .int 0, .int 0, .int 0, .int (-1), .int 0, .ref (g 37), .ref (g 38), .ref (g 39)]))])) (va_Qi (fun (r : Int32) (_ : Unit) => r = -1) (fun (_ : Unit) (_ : State) => True) (va_A [(mm, .inr (8, [.int hi, .int ri, .int li, .ref (g 3), .ref (g 4), .ref (g 5), .ref (g 6), .ref (g 7), .ref (g 8), .int 0, .ref (g 10), .ref (g 11), .ref (g 12), .ref (g 13), .ref (g 14), .ref (g 15), .ref (g 16), .ref (g 17), .ref (g 18), .ref (g 19), .ref (g 20), .ref (g 21), .int 0, .ref (g 23), .ref (g 24), .ref (g 25), .ref (g 26), .ref (g 27), .int 0, .int 0, .int 0, .int 0, .int 0, .int 0, .int 0, .int (-1), .int 0, .ref (g 37), .ref (g 38), .ref (g 39)]))] sz)) 0 0 (va_A [(mm, .inr (8, [.int hi, .int ri, .int li, .ref (g 3), .ref (g 4), .ref (g 5), .ref (g 6), .ref (g 7), .ref (g 8), .int 0, .ref (g 10), .ref (g 11), .ref (g 12), .ref (g 13), .ref (g 14), .ref (g 15), .ref (g 16), .ref (g 17), .ref (g 18), .ref (g 19), .ref (g 20), .ref (g 21), .int 0, .ref (g 23), .ref (g 24), .ref (g 25), .ref (g 26), .ref (g 27), .int 0, .int 0, .int 0, .int 0, .int 0, .int 0, .int 0, .int (-1), .int 0, .ref (g 37), .ref (g 38), .ref (g 39)]))] sz) := by
  refine Met.ofW (cc := cX8_leaf) (maxL := 2) (ret := (some .int)) (by decide) rfl ?_
  intro p e s m args below meth c s₁ B hml hv
  obtain ⟨rfl, hsz, hP, hK, hD0⟩ := hv
  have hx := B.exec
  have hb := B.bytes
  have hr := B.returns
  have hts := atoms_spec (ws := ww_X8_leaf) B.pre
  have hown : s.vm.findClass RX8 = some m.cls := findClass_of_methodNamed B.named
  have hlocks := B.notSynchronized
  subst hsz
  have hD := hD0.self (sz := s.heap.size)
  generalize hAe : va_A [(mm, .inr (8, [.int hi, .int ri, .int li, .ref (g 3), .ref (g 4), .ref (g 5), .ref (g 6), .ref (g 7), .ref (g 8), .int 0, .ref (g 10), .ref (g 11), .ref (g 12), .ref (g 13), .ref (g 14), .ref (g 15), .ref (g 16), .ref (g 17), .ref (g 18), .ref (g 19), .ref (g 20), .ref (g 21), .int 0, .ref (g 23), .ref (g 24), .ref (g 25), .ref (g 26), .ref (g 27), .int 0, .int 0, .int 0, .int 0, .int 0, .int 0, .int 0, .int (-1), .int 0, .ref (g 37), .ref (g 38), .ref (g 39)]))] s.heap.size = A at hD ⊢
  have hA : ∀ q : Nat, s.heap.size ≤ q → A q := fun q h => by rw [← hAe]; exact Or.inr h
  have hS : va_S A s.heap s.heap [] := va_S.rf
  have hP : va_P (dC, dI) classes [(mm, .inr (8, [.int hi, .int ri, .int li, .ref (g 3), .ref (g 4), .ref (g 5), .ref (g 6), .ref (g 7), .ref (g 8), .int 0, .ref (g 10), .ref (g 11), .ref (g 12), .ref (g 13), .ref (g 14), .ref (g 15), .ref (g 16), .ref (g 17), .ref (g 18), .ref (g 19), .ref (g 20), .ref (g 21), .int 0, .ref (g 23), .ref (g 24), .ref (g 25), .ref (g 26), .ref (g 27), .int 0, .int 0, .int 0, .int 0, .int 0, .int 0, .int 0, .int (-1), .int 0, .ref (g 37), .ref (g 38), .ref (g 39)]))] s.heap := hP
  have hl := lv_entry ([.ref mm, .int k]) (n := 2) (Nat.le_of_ble_eq_true rfl)
  rw [lg_entry_eq]
  generalize (lg_sl ([.ref mm, .int k]) ++ List.replicate (2 - (lg_sl ([.ref mm, .int k])).length) Slot.unset).toArray = ls at hl ⊢
  have hl : lv_has ls 2 [(0, .ref mm), (1, .int k)] := hl
  generalize hHe : s.heap = H at hP ⊢
  have hS : va_S A s.heap H [] := by rw [← hHe]; exact va_S.rf
  refine lv_aload_n hx hb dX8_leaf_0 rfl (lv_at hl 0 rfl) ?_
  refine va_get (D := (dC, dI)) (ci := 8) (v := .int 0) (C := RX8) (T := TX8) (N := 40) hx hb hts iX8_leaf_X8 hown hK hP 0 rfl rfl 22 (by decide) (hts (.fieldLink RX8 250 "LeafSignerModel" "hasKeys" "Z") (List.mem_of_getElem? (i := 1) rfl)) (fun _ h9 => h9) rfl dX8_leaf_1 ?_
  refine lv_if_eq (tgt := 21) hx hb dX8_leaf_4 (by decide) (fun c178 => ?_) (fun c178 => absurd (by decide) c178)
  refine lv_iconst (v := (-1)) hx hb dX8_leaf_21 (by decide) ?_
  refine W.widen (k := 0) (n := 0) (Nat.le_of_ble_eq_true rfl) (Nat.le_of_ble_eq_true rfl) ?_
  exact W.iret (v := (-1)) hx hb hr (fun t ht hW => ⟨⟨(-1), (), rfl, rfl, trivial⟩, hS.F ht⟩) hS.2.2 dX8_leaf_22
def ww_X8_node : List Cond := .code yX8_node cX8_node 4 (some .int) :: ([.fieldLink RX8 250 "LeafSignerModel" "hasKeys" "Z"] ++ (wsX80))
theorem iX8_node_X8 : ∀ w ∈ wsX80, w ∈ ww_X8_node := fun w h => List.mem_cons_of_mem _ (List.mem_append_right _ h)
set_option maxHeartbeats 4000000 in
set_option maxRecDepth 100000 in
theorem cm_node (l : Launch) (dC : Nat → ClassId) (dI : Nat → Nat → Nat) (sz : Nat) (mm : Nat) (k : Int32) (k2 : Int32) (k3 : Int32) (hi : Int32) (ri : Int32) (li : Int32) (g : (Nat → Nat)) : Met l yX8_node ww_X8_node ({ frames := 0, cells := 0, slots := 0, locals := 0 }) (va_Pc [.ref mm, .int k, .int k2, .int k3] (fun U => U.heap.size = sz ∧ va_P (dC, dI) classes [(mm, .inr (8, [.int hi, .int ri, .int li, .ref (g 3), .ref (g 4), .ref (g 5), .ref (g 6), .ref (g 7), .ref (g 8), .int 0, .ref (g 10), .ref (g 11), .ref (g 12), .ref (g 13), .ref (g 14), .ref (g 15), .ref (g 16), .ref (g 17), .ref (g 18), .ref (g 19), .ref (g 20), .ref (g 21), .int 0, .ref (g 23), .ref (g 24), .ref (g 25), .ref (g 26), .ref (g 27), .int 0, .int 0, .int 0, .int 0, .int 0, .int 0, .int 0, .int (-1), .int 0, .ref (g 37), .ref (g 38), .ref (g 39)]))] U.heap ∧ va_K (dC, dI) classes [] U ∧ va_D (fun _ => True) [(mm, .inr (8, [.int hi, .int ri, .int li, .ref (g 3), .ref (g 4), .ref (g 5), .ref (g 6), .ref (g 7), .ref (g 8), .int 0, .ref (g 10), .ref (g 11), .ref (g 12), .ref (g 13), .ref (g 14), .ref (g 15), .ref (g 16), .ref (g 17), .ref (g 18), .ref (g 19), .ref (g 20), .ref (g 21), .int 0, .ref (g 23), .ref (g 24), .ref (g 25), .ref (g 26), .ref (g 27), .int 0, .int 0, .int 0, .int 0, .int 0, .int 0, .int 0, .int (-1), .int 0, .ref (g 37), .ref (g 38), .ref (g 39)]))])) (va_Qi (fun (r : Int32) (_ : Unit) => r = -1) (fun (_ : Unit) (_ : State) => True) (va_A [(mm, .inr (8, [.int hi, .int ri, .int li, .ref (g 3), .ref (g 4), .ref (g 5), .ref (g 6), .ref (g 7), .ref (g 8), .int 0, .ref (g 10), .ref (g 11), .ref (g 12), .ref (g 13), .ref (g 14), .ref (g 15), .ref (g 16), .ref (g 17), .ref (g 18), .ref (g 19), .ref (g 20), .ref (g 21), .int 0, .ref (g 23), .ref (g 24), .ref (g 25), .ref (g 26), .ref (g 27), .int 0, .int 0, .int 0, .int 0, .int 0, .int 0, .int 0, .int (-1), .int 0, .ref (g 37), .ref (g 38), .ref (g 39)]))] sz)) 0 0 (va_A [(mm, .inr (8, [.int hi, .int ri, .int li, .ref (g 3), .ref (g 4), .ref (g 5), .ref (g 6), .ref (g 7), .ref (g 8), .int 0, .ref (g 10), .ref (g 11), .ref (g 12), .ref (g 13), .ref (g 14), .ref (g 15), .ref (g 16), .ref (g 17), .ref (g 18), .ref (g 19), .ref (g 20), .ref (g 21), .int 0, .ref (g 23), .ref (g 24), .ref (g 25), .ref (g 26), .ref (g 27), .int 0, .int 0, .int 0, .int 0, .int 0, .int 0, .int 0, .int (-1), .int 0, .ref (g 37), .ref (g 38), .ref (g 39)]))] sz) := by
  refine Met.ofW (cc := cX8_node) (maxL := 4) (ret := (some .int)) (by decide) rfl ?_
  intro p e s m args below meth c s₁ B hml hv
  obtain ⟨rfl, hsz, hP, hK, hD0⟩ := hv
  have hx := B.exec
  have hb := B.bytes
  have hr := B.returns
  have hts := atoms_spec (ws := ww_X8_node) B.pre
  have hown : s.vm.findClass RX8 = some m.cls := findClass_of_methodNamed B.named
  have hlocks := B.notSynchronized
  subst hsz
  have hD := hD0.self (sz := s.heap.size)
  generalize hAe : va_A [(mm, .inr (8, [.int hi, .int ri, .int li, .ref (g 3), .ref (g 4), .ref (g 5), .ref (g 6), .ref (g 7), .ref (g 8), .int 0, .ref (g 10), .ref (g 11), .ref (g 12), .ref (g 13), .ref (g 14), .ref (g 15), .ref (g 16), .ref (g 17), .ref (g 18), .ref (g 19), .ref (g 20), .ref (g 21), .int 0, .ref (g 23), .ref (g 24), .ref (g 25), .ref (g 26), .ref (g 27), .int 0, .int 0, .int 0, .int 0, .int 0, .int 0, .int 0, .int (-1), .int 0, .ref (g 37), .ref (g 38), .ref (g 39)]))] s.heap.size = A at hD ⊢
  have hA : ∀ q : Nat, s.heap.size ≤ q → A q := fun q h => by rw [← hAe]; exact Or.inr h
  have hS : va_S A s.heap s.heap [] := va_S.rf
  have hP : va_P (dC, dI) classes [(mm, .inr (8, [.int hi, .int ri, .int li, .ref (g 3), .ref (g 4), .ref (g 5), .ref (g 6), .ref (g 7), .ref (g 8), .int 0, .ref (g 10), .ref (g 11), .ref (g 12), .ref (g 13), .ref (g 14), .ref (g 15), .ref (g 16), .ref (g 17), .ref (g 18), .ref (g 19), .ref (g 20), .ref (g 21), .int 0, .ref (g 23), .ref (g 24), .ref (g 25), .ref (g 26), .ref (g 27), .int 0, .int 0, .int 0, .int 0, .int 0, .int 0, .int 0, .int (-1), .int 0, .ref (g 37), .ref (g 38), .ref (g 39)]))] s.heap := hP
  have hl := lv_entry ([.ref mm, .int k, .int k2, .int k3]) (n := 4) (Nat.le_of_ble_eq_true rfl)
  rw [lg_entry_eq]
  generalize (lg_sl ([.ref mm, .int k, .int k2, .int k3]) ++ List.replicate (4 - (lg_sl ([.ref mm, .int k, .int k2, .int k3])).length) Slot.unset).toArray = ls at hl ⊢
  have hl : lv_has ls 4 [(0, .ref mm), (1, .int k), (2, .int k2), (3, .int k3)] := hl
  generalize hHe : s.heap = H at hP ⊢
  have hS : va_S A s.heap H [] := by rw [← hHe]; exact va_S.rf
  refine lv_aload_n hx hb dX8_node_0 rfl (lv_at hl 0 rfl) ?_
  refine va_get (D := (dC, dI)) (ci := 8) (v := .int 0) (C := RX8) (T := TX8) (N := 40) hx hb hts iX8_node_X8 hown hK hP 0 rfl rfl 22 (by decide) (hts (.fieldLink RX8 250 "LeafSignerModel" "hasKeys" "Z") (List.mem_of_getElem? (i := 1) rfl)) (fun _ h9 => h9) rfl dX8_node_1 ?_
  refine lv_if_eq (tgt := 65) hx hb dX8_node_4 (by decide) (fun c179 => ?_) (fun c179 => absurd (by decide) c179)
  refine lv_iconst (v := (-1)) hx hb dX8_node_65 (by decide) ?_
  refine W.widen (k := 0) (n := 0) (Nat.le_of_ble_eq_true rfl) (Nat.le_of_ble_eq_true rfl) ?_
  exact W.iret (v := (-1)) hx hb hr (fun t ht hW => ⟨⟨(-1), (), rfl, rfl, trivial⟩, hS.F ht⟩) hS.2.2 dX8_node_66
def ww_X8_disk : List Cond := .code yX8_disk cX8_disk 2 (some .int) :: ([.methodLink RX8 279 yX8_in, .static yX8_in, .initialized RX8, .code yX8_in cX8_in 3 (some .boolean), .fieldLink RX8 140 "LeafSignerModel" "disk" "[B"] ++ (wsX80))
theorem iX8_disk_X8 : ∀ w ∈ wsX80, w ∈ ww_X8_disk := fun w h => List.mem_cons_of_mem _ (List.mem_append_right _ h)
set_option maxRecDepth 20000 in
theorem gX8_disk_X8_in_279 : GoodIn ww_X8_disk (va_wsS RX8 279 yX8_in ww_X8_in) := vx_good _ [1, 2, 3, 4] rfl (by decide +kernel)
set_option maxHeartbeats 4000000 in
set_option maxRecDepth 100000 in
theorem cm_disk (l : Launch) (dC : Nat → ClassId) (dI : Nat → Nat → Nat) (sz : Nat) (mm : Nat) (k : Int32) (hi : Int32) (ri : Int32) (li : Int32) (cMd : ClassId) (g : (Nat → Nat)) : Met l yX8_disk ww_X8_disk ({ frames := 1, cells := 0, slots := 0, locals := 22 }) (va_Pc [.ref mm, .int k] (fun U => U.heap.size = sz ∧ va_P (dC, dI) classes [(mm, .inr (8, [.int hi, .int ri, .int li, .ref (g 3), .ref (g 4), .ref (g 5), .ref (g 6), .ref (g 7), .ref (g 8), .int 0, .ref (g 10), .ref (g 11), .ref (g 12), .ref (g 13), .ref (g 14), .ref (g 15), .ref (g 16), .ref (g 17), .ref (g 18), .ref (g 19), .ref (g 20), .ref (g 21), .int 0, .ref (g 23), .ref (g 24), .ref (g 25), .ref (g 26), .ref (g 27), .int 0, .int 0, .int 0, .int 0, .int 0, .int 0, .int 0, .int (-1), .int 0, .ref (g 37), .ref (g 38), .ref (g 39)])), ((g 24), .inl (cMd, 24, .inl (fun _ => 0)))] U.heap ∧ va_K (dC, dI) classes [(cMd, .byte)] U ∧ va_D (fun _ => True) [(mm, .inr (8, [.int hi, .int ri, .int li, .ref (g 3), .ref (g 4), .ref (g 5), .ref (g 6), .ref (g 7), .ref (g 8), .int 0, .ref (g 10), .ref (g 11), .ref (g 12), .ref (g 13), .ref (g 14), .ref (g 15), .ref (g 16), .ref (g 17), .ref (g 18), .ref (g 19), .ref (g 20), .ref (g 21), .int 0, .ref (g 23), .ref (g 24), .ref (g 25), .ref (g 26), .ref (g 27), .int 0, .int 0, .int 0, .int 0, .int 0, .int 0, .int 0, .int (-1), .int 0, .ref (g 37), .ref (g 38), .ref (g 39)])), ((g 24), .inl (cMd, 24, .inl (fun _ => 0)))])) (va_Qi (fun (r : Int32) (_ : Unit) => r = fm_disk k) (fun (_ : Unit) (_ : State) => True) (va_A [(mm, .inr (8, [.int hi, .int ri, .int li, .ref (g 3), .ref (g 4), .ref (g 5), .ref (g 6), .ref (g 7), .ref (g 8), .int 0, .ref (g 10), .ref (g 11), .ref (g 12), .ref (g 13), .ref (g 14), .ref (g 15), .ref (g 16), .ref (g 17), .ref (g 18), .ref (g 19), .ref (g 20), .ref (g 21), .int 0, .ref (g 23), .ref (g 24), .ref (g 25), .ref (g 26), .ref (g 27), .int 0, .int 0, .int 0, .int 0, .int 0, .int 0, .int 0, .int (-1), .int 0, .ref (g 37), .ref (g 38), .ref (g 39)])), ((g 24), .inl (cMd, 24, .inl (fun _ => 0)))] sz)) 0 0 (va_A [(mm, .inr (8, [.int hi, .int ri, .int li, .ref (g 3), .ref (g 4), .ref (g 5), .ref (g 6), .ref (g 7), .ref (g 8), .int 0, .ref (g 10), .ref (g 11), .ref (g 12), .ref (g 13), .ref (g 14), .ref (g 15), .ref (g 16), .ref (g 17), .ref (g 18), .ref (g 19), .ref (g 20), .ref (g 21), .int 0, .ref (g 23), .ref (g 24), .ref (g 25), .ref (g 26), .ref (g 27), .int 0, .int 0, .int 0, .int 0, .int 0, .int 0, .int 0, .int (-1), .int 0, .ref (g 37), .ref (g 38), .ref (g 39)])), ((g 24), .inl (cMd, 24, .inl (fun _ => 0)))] sz) := by
  refine Met.ofW (cc := cX8_disk) (maxL := 2) (ret := (some .int)) (by decide) rfl ?_
  intro p e s m args below meth c s₁ B hml hv
  obtain ⟨rfl, hsz, hP, hK, hD0⟩ := hv
  have hx := B.exec
  have hb := B.bytes
  have hr := B.returns
  have hts := atoms_spec (ws := ww_X8_disk) B.pre
  have hown : s.vm.findClass RX8 = some m.cls := findClass_of_methodNamed B.named
  have hlocks := B.notSynchronized
  subst hsz
  have hD := hD0.self (sz := s.heap.size)
  generalize hAe : va_A [(mm, .inr (8, [.int hi, .int ri, .int li, .ref (g 3), .ref (g 4), .ref (g 5), .ref (g 6), .ref (g 7), .ref (g 8), .int 0, .ref (g 10), .ref (g 11), .ref (g 12), .ref (g 13), .ref (g 14), .ref (g 15), .ref (g 16), .ref (g 17), .ref (g 18), .ref (g 19), .ref (g 20), .ref (g 21), .int 0, .ref (g 23), .ref (g 24), .ref (g 25), .ref (g 26), .ref (g 27), .int 0, .int 0, .int 0, .int 0, .int 0, .int 0, .int 0, .int (-1), .int 0, .ref (g 37), .ref (g 38), .ref (g 39)])), ((g 24), .inl (cMd, 24, .inl (fun _ => 0)))] s.heap.size = A at hD ⊢
  have hA : ∀ q : Nat, s.heap.size ≤ q → A q := fun q h => by rw [← hAe]; exact Or.inr h
  have hS : va_S A s.heap s.heap [] := va_S.rf
  have hP : va_P (dC, dI) classes [(mm, .inr (8, [.int hi, .int ri, .int li, .ref (g 3), .ref (g 4), .ref (g 5), .ref (g 6), .ref (g 7), .ref (g 8), .int 0, .ref (g 10), .ref (g 11), .ref (g 12), .ref (g 13), .ref (g 14), .ref (g 15), .ref (g 16), .ref (g 17), .ref (g 18), .ref (g 19), .ref (g 20), .ref (g 21), .int 0, .ref (g 23), .ref (g 24), .ref (g 25), .ref (g 26), .ref (g 27), .int 0, .int 0, .int 0, .int 0, .int 0, .int 0, .int 0, .int (-1), .int 0, .ref (g 37), .ref (g 38), .ref (g 39)])), ((g 24), .inl (cMd, 24, .inl (fun _ => 0)))] s.heap := hP
  have hl := lv_entry ([.ref mm, .int k]) (n := 2) (Nat.le_of_ble_eq_true rfl)
  rw [lg_entry_eq]
  generalize (lg_sl ([.ref mm, .int k]) ++ List.replicate (2 - (lg_sl ([.ref mm, .int k])).length) Slot.unset).toArray = ls at hl ⊢
  have hl : lv_has ls 2 [(0, .ref mm), (1, .int k)] := hl
  generalize hHe : s.heap = H at hP ⊢
  have hS : va_S A s.heap H [] := by rw [← hHe]; exact va_S.rf
  refine lv_iload_n hx hb dX8_disk_0 rfl (lv_at hl 1 rfl) ?_
  refine lv_iconst (v := 0) hx hb dX8_disk_1 (by decide) ?_
  refine lv_bipush (v := 23) hx hb dX8_disk_2 (by decide) ?_
  have hPc := hP.sub (ws' := []) [] rfl
  have hDc := hD.sub (ws' := []) [] (by decide) rfl
  have hKc := hK.sub (tys' := []) [] rfl
  have hFc := va_free (wc := []) hD hS hA [] rfl
  refine va_calli (va_runS (As := [.int k, .int 0, .int 23]) (rest := []) ⟨hx, hb, hml, hown, hts⟩ (cm_in l dC dI H.size k 0 23) (va_cwS 3 hts gX8_disk_X8_in_279 rfl rfl rfl (by decide +kernel) ⟨(Nat.le_of_ble_eq_true rfl), (Nat.le_of_ble_eq_true rfl)⟩) ⟨fun a U g mk q => by obtain ⟨q0, q1, qP, qK, qD⟩ := q; exact ⟨q0, q1, qP, va_K.moved (u := U) (U := U.calling g mk a) (Vm.Alike.refl U.vm) qK, qD⟩, fun U hU hW => ⟨rfl, by rw [hU], by rw [hU]; exact hPc, va_K.moved hW.alike hKc, hDc.weaken (fun _ _ _ _ => trivial)⟩⟩ rfl rfl hl.1 rfl (lv_room (Nat.le_of_ble_eq_true rfl)) dX8_disk_4 ⟨(Nat.le_of_ble_eq_true rfl), (Nat.le_of_ble_eq_true rfl)⟩) hS (fun q _ h => hFc q h) hFc (fun r180 u t H1 locs ht hvm hw hB hz1 hk1 hS => ?_)
  have hP1 : va_P (dC, dI) classes [] H1 := vx_P0
  have hD1 : va_D (va_A [] H.size) [] := vx_D0
  obtain ⟨hP, hD⟩ := va_join (wr := [(mm, .inr (8, [.int hi, .int ri, .int li, .ref (g 3), .ref (g 4), .ref (g 5), .ref (g 6), .ref (g 7), .ref (g 8), .int 0, .ref (g 10), .ref (g 11), .ref (g 12), .ref (g 13), .ref (g 14), .ref (g 15), .ref (g 16), .ref (g 17), .ref (g 18), .ref (g 19), .ref (g 20), .ref (g 21), .int 0, .ref (g 23), .ref (g 24), .ref (g 25), .ref (g 26), .ref (g 27), .int 0, .int 0, .int 0, .int 0, .int 0, .int 0, .int 0, .int (-1), .int 0, .ref (g 37), .ref (g 38), .ref (g 39)])), ((g 24), .inl (cMd, 24, .inl (fun _ => 0)))]) (w1 := []) hP hD [] [0, 1] rfl rfl (by decide) (by decide) hk1 hFc hP1 hD1
  have hK := hK.sub (tys' := [(cMd, .byte)]) [0] rfl
  generalize H1 = H at hP hS ⊢
  have hP : va_P (dC, dI) classes [(mm, .inr (8, [.int hi, .int ri, .int li, .ref (g 3), .ref (g 4), .ref (g 5), .ref (g 6), .ref (g 7), .ref (g 8), .int 0, .ref (g 10), .ref (g 11), .ref (g 12), .ref (g 13), .ref (g 14), .ref (g 15), .ref (g 16), .ref (g 17), .ref (g 18), .ref (g 19), .ref (g 20), .ref (g 21), .int 0, .ref (g 23), .ref (g 24), .ref (g 25), .ref (g 26), .ref (g 27), .int 0, .int 0, .int 0, .int 0, .int 0, .int 0, .int 0, .int (-1), .int 0, .ref (g 37), .ref (g 38), .ref (g 39)])), ((g 24), .inl (cMd, 24, .inl (fun _ => 0)))] H := hP
  have hD : va_D A [(mm, .inr (8, [.int hi, .int ri, .int li, .ref (g 3), .ref (g 4), .ref (g 5), .ref (g 6), .ref (g 7), .ref (g 8), .int 0, .ref (g 10), .ref (g 11), .ref (g 12), .ref (g 13), .ref (g 14), .ref (g 15), .ref (g 16), .ref (g 17), .ref (g 18), .ref (g 19), .ref (g 20), .ref (g 21), .int 0, .ref (g 23), .ref (g 24), .ref (g 25), .ref (g 26), .ref (g 27), .int 0, .int 0, .int 0, .int 0, .int 0, .int 0, .int 0, .int (-1), .int 0, .ref (g 37), .ref (g 38), .ref (g 39)])), ((g 24), .inl (cMd, 24, .inl (fun _ => 0)))] := hD
  have hK : va_K (dC, dI) classes [(cMd, .byte)] s := hK
  refine W.widen (k := 0) (n := 0) (Nat.le_of_ble_eq_true rfl) (Nat.le_of_ble_eq_true rfl) ?_
  try dsimp only at hw
  subst hw
  refine lv_if_eq (tgt := 23) hx hb dX8_disk_7 (by decide) (fun c181 => ?_) (fun c181 => ?_)
  · refine lv_iconst (v := (-1)) hx hb dX8_disk_23 (by decide) ?_
    refine W.widen (k := 0) (n := 0) (Nat.le_of_ble_eq_true rfl) (Nat.le_of_ble_eq_true rfl) ?_
    exact W.iret (v := (-1)) hx hb hr (fun t ht hW => ⟨⟨(-1), (), rfl, (by unfold fm_disk; rw [if_pos c181]), trivial⟩, hS.F ht⟩) hS.2.2 dX8_disk_24
  · refine lv_aload_n hx hb dX8_disk_10 rfl (lv_at hl 0 rfl) ?_
    refine va_get (D := (dC, dI)) (ci := 8) (v := .ref (g 24)) (C := RX8) (T := TX8) (N := 40) hx hb hts iX8_disk_X8 hown hK hP 0 rfl rfl 24 (by decide) (hts (.fieldLink RX8 140 "LeafSignerModel" "disk" "[B") (List.mem_of_getElem? (i := 5) rfl)) (fun _ h9 => h9) rfl dX8_disk_11 ?_
    refine lv_iload_n hx hb dX8_disk_14 rfl (lv_at hl 1 rfl) ?_
    refine va_bald hx hb hK hP 1 0 rfl rfl (vx_in24 c181) dX8_disk_15 ?_
    refine vx_topk 0 rfl ?_
    refine lv_sipush (v := 255) hx hb dX8_disk_16 (by decide) ?_
    refine lv_iand hx hb dX8_disk_19 ?_
    refine vx_topk 0 (by decide) ?_
    refine lv_goto (tgt := 24) hx hb dX8_disk_20 (by decide) ?_
    refine W.widen (k := 0) (n := 0) (Nat.le_of_ble_eq_true rfl) (Nat.le_of_ble_eq_true rfl) ?_
    exact W.iret (v := 0) hx hb hr (fun t ht hW => ⟨⟨0, (), rfl, (by unfold fm_disk; rw [if_neg c181]), trivial⟩, hS.F ht⟩) hS.2.2 dX8_disk_24
