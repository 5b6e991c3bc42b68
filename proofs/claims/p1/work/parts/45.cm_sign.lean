def ww_X8_sign : List Cond := .code yX8_sign cX8_sign 5 (some .int) :: ([.fieldLink RX8 244 "LeafSignerModel" "taped" "I", .methodLink RX8 279 yX8_in, .static yX8_in, .initialized RX8, .code yX8_in cX8_in 3 (some .boolean), .fieldLink RX8 257 "LeafSignerModel" "state" "I"] ++ (wsX80))
theorem iX8_sign_X8 : ∀ w ∈ wsX80, w ∈ ww_X8_sign := fun w h => List.mem_cons_of_mem _ (List.mem_append_right _ h)
set_option maxRecDepth 20000 in
theorem gX8_sign_X8_in_279 : GoodIn ww_X8_sign (va_wsS RX8 279 yX8_in ww_X8_in) := vx_good _ [2, 3, 4, 5] rfl (by decide +kernel)
set_option maxHeartbeats 4000000 in
set_option maxRecDepth 100000 in
theorem cm_sign (l : Launch) (dC : Nat → ClassId) (dI : Nat → Nat → Nat) (sz : Nat) (mm : Nat) (k : Int32) (hi : Int32) (ri : Int32) (li : Int32) (g : (Nat → Nat)) : Met l yX8_sign ww_X8_sign ({ frames := 1, cells := 0, slots := 0, locals := 22 }) (va_Pc [.ref mm, .int k] (fun U => U.heap.size = sz ∧ va_P (dC, dI) classes [(mm, .inr (8, [.int hi, .int ri, .int li, .ref (g 3), .ref (g 4), .ref (g 5), .ref (g 6), .ref (g 7), .ref (g 8), .int 0, .ref (g 10), .ref (g 11), .ref (g 12), .ref (g 13), .ref (g 14), .ref (g 15), .ref (g 16), .ref (g 17), .ref (g 18), .ref (g 19), .ref (g 20), .ref (g 21), .int 0, .ref (g 23), .ref (g 24), .ref (g 25), .ref (g 26), .ref (g 27), .int 0, .int 0, .int 0, .int 0, .int 0, .int 0, .int 0, .int (-1), .int 0, .ref (g 37), .ref (g 38), .ref (g 39)]))] U.heap ∧ va_K (dC, dI) classes [] U ∧ va_D (fun _ => True) [(mm, .inr (8, [.int hi, .int ri, .int li, .ref (g 3), .ref (g 4), .ref (g 5), .ref (g 6), .ref (g 7), .ref (g 8), .int 0, .ref (g 10), .ref (g 11), .ref (g 12), .ref (g 13), .ref (g 14), .ref (g 15), .ref (g 16), .ref (g 17), .ref (g 18), .ref (g 19), .ref (g 20), .ref (g 21), .int 0, .ref (g 23), .ref (g 24), .ref (g 25), .ref (g 26), .ref (g 27), .int 0, .int 0, .int 0, .int 0, .int 0, .int 0, .int 0, .int (-1), .int 0, .ref (g 37), .ref (g 38), .ref (g 39)]))])) (va_Qi (fun (r : Int32) (_ : Unit) => r = fm_sign k) (fun (_ : Unit) (_ : State) => True) (va_A [(mm, .inr (8, [.int hi, .int ri, .int li, .ref (g 3), .ref (g 4), .ref (g 5), .ref (g 6), .ref (g 7), .ref (g 8), .int 0, .ref (g 10), .ref (g 11), .ref (g 12), .ref (g 13), .ref (g 14), .ref (g 15), .ref (g 16), .ref (g 17), .ref (g 18), .ref (g 19), .ref (g 20), .ref (g 21), .int 0, .ref (g 23), .ref (g 24), .ref (g 25), .ref (g 26), .ref (g 27), .int 0, .int 0, .int 0, .int 0, .int 0, .int 0, .int 0, .int (-1), .int 0, .ref (g 37), .ref (g 38), .ref (g 39)]))] sz)) 0 0 (va_A [(mm, .inr (8, [.int hi, .int ri, .int li, .ref (g 3), .ref (g 4), .ref (g 5), .ref (g 6), .ref (g 7), .ref (g 8), .int 0, .ref (g 10), .ref (g 11), .ref (g 12), .ref (g 13), .ref (g 14), .ref (g 15), .ref (g 16), .ref (g 17), .ref (g 18), .ref (g 19), .ref (g 20), .ref (g 21), .int 0, .ref (g 23), .ref (g 24), .ref (g 25), .ref (g 26), .ref (g 27), .int 0, .int 0, .int 0, .int 0, .int 0, .int 0, .int 0, .int (-1), .int 0, .ref (g 37), .ref (g 38), .ref (g 39)]))] sz) := by
  refine Met.ofW (cc := cX8_sign) (maxL := 5) (ret := (some .int)) (by decide) rfl ?_
  intro p e s m args below meth c s₁ B hml hv
  obtain ⟨rfl, hsz, hP, hK, hD0⟩ := hv
  have hx := B.exec
  have hb := B.bytes
  have hr := B.returns
  have hts := atoms_spec (ws := ww_X8_sign) B.pre
  have hown : s.vm.findClass RX8 = some m.cls := findClass_of_methodNamed B.named
  have hlocks := B.notSynchronized
  subst hsz
  have hD := hD0.self (sz := s.heap.size)
  generalize hAe : va_A [(mm, .inr (8, [.int hi, .int ri, .int li, .ref (g 3), .ref (g 4), .ref (g 5), .ref (g 6), .ref (g 7), .ref (g 8), .int 0, .ref (g 10), .ref (g 11), .ref (g 12), .ref (g 13), .ref (g 14), .ref (g 15), .ref (g 16), .ref (g 17), .ref (g 18), .ref (g 19), .ref (g 20), .ref (g 21), .int 0, .ref (g 23), .ref (g 24), .ref (g 25), .ref (g 26), .ref (g 27), .int 0, .int 0, .int 0, .int 0, .int 0, .int 0, .int 0, .int (-1), .int 0, .ref (g 37), .ref (g 38), .ref (g 39)]))] s.heap.size = A at hD ⊢
  have hA : ∀ q : Nat, s.heap.size ≤ q → A q := fun q h => by rw [← hAe]; exact Or.inr h
  have hS : va_S A s.heap s.heap [] := va_S.rf
  have hP : va_P (dC, dI) classes [(mm, .inr (8, [.int hi, .int ri, .int li, .ref (g 3), .ref (g 4), .ref (g 5), .ref (g 6), .ref (g 7), .ref (g 8), .int 0, .ref (g 10), .ref (g 11), .ref (g 12), .ref (g 13), .ref (g 14), .ref (g 15), .ref (g 16), .ref (g 17), .ref (g 18), .ref (g 19), .ref (g 20), .ref (g 21), .int 0, .ref (g 23), .ref (g 24), .ref (g 25), .ref (g 26), .ref (g 27), .int 0, .int 0, .int 0, .int 0, .int 0, .int 0, .int 0, .int (-1), .int 0, .ref (g 37), .ref (g 38), .ref (g 39)]))] s.heap := hP
  have hl := lv_entry ([.ref mm, .int k]) (n := 5) (Nat.le_of_ble_eq_true rfl)
  rw [lg_entry_eq]
  generalize (lg_sl ([.ref mm, .int k]) ++ List.replicate (5 - (lg_sl ([.ref mm, .int k])).length) Slot.unset).toArray = ls at hl ⊢
  have hl : lv_has ls 5 [(0, .ref mm), (1, .int k)] := hl
  generalize hHe : s.heap = H at hP ⊢
  have hS : va_S A s.heap H [] := by rw [← hHe]; exact va_S.rf
  refine lv_iload_n hx hb dX8_sign_0 rfl (lv_at hl 1 rfl) ?_
  refine lv_iconst (v := 0) hx hb dX8_sign_1 (by decide) ?_
  refine lv_aload_n hx hb dX8_sign_2 rfl (lv_at hl 0 rfl) ?_
  refine va_get (D := (dC, dI)) (ci := 8) (v := .int 0) (C := RX8) (T := TX8) (N := 40) hx hb hts iX8_sign_X8 hown hK hP 0 rfl rfl 28 (by decide) (hts (.fieldLink RX8 244 "LeafSignerModel" "taped" "I") (List.mem_of_getElem? (i := 1) rfl)) (fun _ h9 => h9) rfl dX8_sign_3 ?_
  have hPc := hP.sub (ws' := []) [] rfl
  have hDc := hD.sub (ws' := []) [] (by decide) rfl
  have hKc := hK.sub (tys' := []) [] rfl
  have hFc := va_free (wc := []) hD hS hA [] rfl
  refine va_calli (va_runS (As := [.int k, .int 0, .int 0]) (rest := []) ⟨hx, hb, hml, hown, hts⟩ (cm_in l dC dI H.size k 0 0) (va_cwS 3 hts gX8_sign_X8_in_279 rfl rfl rfl (by decide +kernel) ⟨(Nat.le_of_ble_eq_true rfl), (Nat.le_of_ble_eq_true rfl)⟩) ⟨fun a U g mk q => by obtain ⟨q0, q1, qP, qK, qD⟩ := q; exact ⟨q0, q1, qP, va_K.moved (u := U) (U := U.calling g mk a) (Vm.Alike.refl U.vm) qK, qD⟩, fun U hU hW => ⟨rfl, by rw [hU], by rw [hU]; exact hPc, va_K.moved hW.alike hKc, hDc.weaken (fun _ _ _ _ => trivial)⟩⟩ rfl rfl hl.1 rfl (lv_room (Nat.le_of_ble_eq_true rfl)) dX8_sign_6 ⟨(Nat.le_of_ble_eq_true rfl), (Nat.le_of_ble_eq_true rfl)⟩) hS (fun q _ h => hFc q h) hFc (fun r166 u t H1 locs ht hvm hw hB hz1 hk1 hS => ?_)
  have hP1 : va_P (dC, dI) classes [] H1 := vx_P0
  have hD1 : va_D (va_A [] H.size) [] := vx_D0
  obtain ⟨hP, hD⟩ := va_join (wr := [(mm, .inr (8, [.int hi, .int ri, .int li, .ref (g 3), .ref (g 4), .ref (g 5), .ref (g 6), .ref (g 7), .ref (g 8), .int 0, .ref (g 10), .ref (g 11), .ref (g 12), .ref (g 13), .ref (g 14), .ref (g 15), .ref (g 16), .ref (g 17), .ref (g 18), .ref (g 19), .ref (g 20), .ref (g 21), .int 0, .ref (g 23), .ref (g 24), .ref (g 25), .ref (g 26), .ref (g 27), .int 0, .int 0, .int 0, .int 0, .int 0, .int 0, .int 0, .int (-1), .int 0, .ref (g 37), .ref (g 38), .ref (g 39)]))]) (w1 := []) hP hD [] [0] rfl rfl (by decide) (by decide) hk1 hFc hP1 hD1
  have hK := hK.sub (tys' := []) [] rfl
  generalize H1 = H at hP hS ⊢
  have hP : va_P (dC, dI) classes [(mm, .inr (8, [.int hi, .int ri, .int li, .ref (g 3), .ref (g 4), .ref (g 5), .ref (g 6), .ref (g 7), .ref (g 8), .int 0, .ref (g 10), .ref (g 11), .ref (g 12), .ref (g 13), .ref (g 14), .ref (g 15), .ref (g 16), .ref (g 17), .ref (g 18), .ref (g 19), .ref (g 20), .ref (g 21), .int 0, .ref (g 23), .ref (g 24), .ref (g 25), .ref (g 26), .ref (g 27), .int 0, .int 0, .int 0, .int 0, .int 0, .int 0, .int 0, .int (-1), .int 0, .ref (g 37), .ref (g 38), .ref (g 39)]))] H := hP
  have hD : va_D A [(mm, .inr (8, [.int hi, .int ri, .int li, .ref (g 3), .ref (g 4), .ref (g 5), .ref (g 6), .ref (g 7), .ref (g 8), .int 0, .ref (g 10), .ref (g 11), .ref (g 12), .ref (g 13), .ref (g 14), .ref (g 15), .ref (g 16), .ref (g 17), .ref (g 18), .ref (g 19), .ref (g 20), .ref (g 21), .int 0, .ref (g 23), .ref (g 24), .ref (g 25), .ref (g 26), .ref (g 27), .int 0, .int 0, .int 0, .int 0, .int 0, .int 0, .int 0, .int (-1), .int 0, .ref (g 37), .ref (g 38), .ref (g 39)]))] := hD
  have hK : va_K (dC, dI) classes [] s := hK
  refine W.widen (k := 0) (n := 0) (Nat.le_of_ble_eq_true rfl) (Nat.le_of_ble_eq_true rfl) ?_
  try dsimp only at hw
  subst hw
  refine lv_if_ne (tgt := 15) hx hb dX8_sign_9 (by decide) (fun c167 => ?_) (fun c167 => ?_)
  · refine lv_aload_n hx hb dX8_sign_15 rfl (lv_at hl 0 rfl) ?_
    refine va_get (D := (dC, dI)) (ci := 8) (v := .int 0) (C := RX8) (T := TX8) (N := 40) hx hb hts iX8_sign_X8 hown hK hP 0 rfl rfl 31 (by decide) (hts (.fieldLink RX8 257 "LeafSignerModel" "state" "I") (List.mem_of_getElem? (i := 6) rfl)) (fun _ h9 => h9) rfl dX8_sign_16 ?_
    refine lv_iconst (v := 1) hx hb dX8_sign_19 (by decide) ?_
    refine lv_icmp_eq (tgt := 26) hx hb dX8_sign_20 (by decide) (fun c168 => absurd c168 (by decide)) (fun c168 => ?_)
    refine lv_bipush (v := (-3)) hx hb dX8_sign_23 (by decide) ?_
    refine W.widen (k := 0) (n := 0) (Nat.le_of_ble_eq_true rfl) (Nat.le_of_ble_eq_true rfl) ?_
    exact W.iret (v := (-3)) hx hb hr (fun t ht hW => ⟨⟨(-3), (), rfl, (by unfold fm_sign; rw [if_pos c167]), trivial⟩, hS.F ht⟩) hS.2.2 dX8_sign_25
  · refine lv_bipush (v := (-2)) hx hb dX8_sign_12 (by decide) ?_
    refine W.widen (k := 0) (n := 0) (Nat.le_of_ble_eq_true rfl) (Nat.le_of_ble_eq_true rfl) ?_
    exact W.iret (v := (-2)) hx hb hr (fun t ht hW => ⟨⟨(-2), (), rfl, (by unfold fm_sign; rw [if_neg (fun h9 => h9 c167)]), trivial⟩, hS.F ht⟩) hS.2.2 dX8_sign_14
