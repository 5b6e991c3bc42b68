def ww_X8_about : List Cond := .code yX8_about cX8_about 5 (some .int) :: ([.fieldLink RX8 156 "LeafSignerModel" "isReleased" "[Z", .fieldLink RX8 160 "LeafSignerModel" "isLost" "[Z", .fieldLink RX8 257 "LeafSignerModel" "state" "I", .fieldLink RX8 272 "LeafSignerModel" "written" "I", .fieldLink RX8 152 "LeafSignerModel" "fuse" "I", .fieldLink RX8 244 "LeafSignerModel" "taped" "I", .fieldLink RX8 290 "LeafSignerModel" "outs" "I", .fieldLink RX8 300 "LeafSignerModel" "keeps" "I", .fieldLink RX8 170 "LeafSignerModel" "high" "I", .fieldLink RX8 173 "LeafSignerModel" "reserve" "I"] ++ (wsX80))
theorem iX8_about_X8 : ∀ w ∈ wsX80, w ∈ ww_X8_about := fun w h => List.mem_cons_of_mem _ (List.mem_append_right _ h)
set_option maxHeartbeats 4000000 in
set_option maxRecDepth 100000 in
theorem cm_about (l : Launch) (dC : Nat → ClassId) (dI : Nat → Nat → Nat) (sz : Nat) (mm : Nat) (k : Int32) (hi : Int32) (ri : Int32) (li : Int32) (cMr : ClassId) (cMl : ClassId) (g : (Nat → Nat)) : Met l yX8_about ww_X8_about ({ frames := 0, cells := 0, slots := 0, locals := 0 }) (va_Pc [.ref mm, .int k] (fun U => U.heap.size = sz ∧ va_P (dC, dI) classes [(mm, .inr (8, [.int hi, .int ri, .int li, .ref (g 3), .ref (g 4), .ref (g 5), .ref (g 6), .ref (g 7), .ref (g 8), .int 0, .ref (g 10), .ref (g 11), .ref (g 12), .ref (g 13), .ref (g 14), .ref (g 15), .ref (g 16), .ref (g 17), .ref (g 18), .ref (g 19), .ref (g 20), .ref (g 21), .int 0, .ref (g 23), .ref (g 24), .ref (g 25), .ref (g 26), .ref (g 27), .int 0, .int 0, .int 0, .int 0, .int 0, .int 0, .int 0, .int (-1), .int 0, .ref (g 37), .ref (g 38), .ref (g 39)])), ((g 37), .inl (cMr, 16, .inl (fun _ => 0))), ((g 38), .inl (cMl, 16, .inl (fun _ => 0)))] U.heap ∧ va_K (dC, dI) classes [(cMr, .boolean), (cMl, .boolean)] U ∧ va_D (fun _ => True) [(mm, .inr (8, [.int hi, .int ri, .int li, .ref (g 3), .ref (g 4), .ref (g 5), .ref (g 6), .ref (g 7), .ref (g 8), .int 0, .ref (g 10), .ref (g 11), .ref (g 12), .ref (g 13), .ref (g 14), .ref (g 15), .ref (g 16), .ref (g 17), .ref (g 18), .ref (g 19), .ref (g 20), .ref (g 21), .int 0, .ref (g 23), .ref (g 24), .ref (g 25), .ref (g 26), .ref (g 27), .int 0, .int 0, .int 0, .int 0, .int 0, .int 0, .int 0, .int (-1), .int 0, .ref (g 37), .ref (g 38), .ref (g 39)])), ((g 37), .inl (cMr, 16, .inl (fun _ => 0))), ((g 38), .inl (cMl, 16, .inl (fun _ => 0)))])) (va_Qi (fun (r : Int32) (_ : Unit) => r = fk_about k hi ri) (fun (_ : Unit) (_ : State) => True) (va_A [(mm, .inr (8, [.int hi, .int ri, .int li, .ref (g 3), .ref (g 4), .ref (g 5), .ref (g 6), .ref (g 7), .ref (g 8), .int 0, .ref (g 10), .ref (g 11), .ref (g 12), .ref (g 13), .ref (g 14), .ref (g 15), .ref (g 16), .ref (g 17), .ref (g 18), .ref (g 19), .ref (g 20), .ref (g 21), .int 0, .ref (g 23), .ref (g 24), .ref (g 25), .ref (g 26), .ref (g 27), .int 0, .int 0, .int 0, .int 0, .int 0, .int 0, .int 0, .int (-1), .int 0, .ref (g 37), .ref (g 38), .ref (g 39)])), ((g 37), .inl (cMr, 16, .inl (fun _ => 0))), ((g 38), .inl (cMl, 16, .inl (fun _ => 0)))] sz)) 0 0 (va_A [(mm, .inr (8, [.int hi, .int ri, .int li, .ref (g 3), .ref (g 4), .ref (g 5), .ref (g 6), .ref (g 7), .ref (g 8), .int 0, .ref (g 10), .ref (g 11), .ref (g 12), .ref (g 13), .ref (g 14), .ref (g 15), .ref (g 16), .ref (g 17), .ref (g 18), .ref (g 19), .ref (g 20), .ref (g 21), .int 0, .ref (g 23), .ref (g 24), .ref (g 25), .ref (g 26), .ref (g 27), .int 0, .int 0, .int 0, .int 0, .int 0, .int 0, .int 0, .int (-1), .int 0, .ref (g 37), .ref (g 38), .ref (g 39)])), ((g 37), .inl (cMr, 16, .inl (fun _ => 0))), ((g 38), .inl (cMl, 16, .inl (fun _ => 0)))] sz) := by
  refine Met.ofW (cc := cX8_about) (maxL := 5) (ret := (some .int)) (by decide) rfl ?_
  intro p e s m args below meth c s₁ B hml hv
  obtain ⟨rfl, hsz, hP, hK, hD0⟩ := hv
  have hx := B.exec
  have hb := B.bytes
  have hr := B.returns
  have hts := atoms_spec (ws := ww_X8_about) B.pre
  have hown : s.vm.findClass RX8 = some m.cls := findClass_of_methodNamed B.named
  have hlocks := B.notSynchronized
  subst hsz
  have hD := hD0.self (sz := s.heap.size)
  generalize hAe : va_A [(mm, .inr (8, [.int hi, .int ri, .int li, .ref (g 3), .ref (g 4), .ref (g 5), .ref (g 6), .ref (g 7), .ref (g 8), .int 0, .ref (g 10), .ref (g 11), .ref (g 12), .ref (g 13), .ref (g 14), .ref (g 15), .ref (g 16), .ref (g 17), .ref (g 18), .ref (g 19), .ref (g 20), .ref (g 21), .int 0, .ref (g 23), .ref (g 24), .ref (g 25), .ref (g 26), .ref (g 27), .int 0, .int 0, .int 0, .int 0, .int 0, .int 0, .int 0, .int (-1), .int 0, .ref (g 37), .ref (g 38), .ref (g 39)])), ((g 37), .inl (cMr, 16, .inl (fun _ => 0))), ((g 38), .inl (cMl, 16, .inl (fun _ => 0)))] s.heap.size = A at hD ⊢
  have hA : ∀ q : Nat, s.heap.size ≤ q → A q := fun q h => by rw [← hAe]; exact Or.inr h
  have hS : va_S A s.heap s.heap [] := va_S.rf
  have hP : va_P (dC, dI) classes [(mm, .inr (8, [.int hi, .int ri, .int li, .ref (g 3), .ref (g 4), .ref (g 5), .ref (g 6), .ref (g 7), .ref (g 8), .int 0, .ref (g 10), .ref (g 11), .ref (g 12), .ref (g 13), .ref (g 14), .ref (g 15), .ref (g 16), .ref (g 17), .ref (g 18), .ref (g 19), .ref (g 20), .ref (g 21), .int 0, .ref (g 23), .ref (g 24), .ref (g 25), .ref (g 26), .ref (g 27), .int 0, .int 0, .int 0, .int 0, .int 0, .int 0, .int 0, .int (-1), .int 0, .ref (g 37), .ref (g 38), .ref (g 39)])), ((g 37), .inl (cMr, 16, .inl (fun _ => 0))), ((g 38), .inl (cMl, 16, .inl (fun _ => 0)))] s.heap := hP
  have hl := lv_entry ([.ref mm, .int k]) (n := 5) (Nat.le_of_ble_eq_true rfl)
  rw [lg_entry_eq]
  generalize (lg_sl ([.ref mm, .int k]) ++ List.replicate (5 - (lg_sl ([.ref mm, .int k])).length) Slot.unset).toArray = ls at hl ⊢
  have hl : lv_has ls 5 [(0, .ref mm), (1, .int k)] := hl
  generalize hHe : s.heap = H at hP ⊢
  have hS : va_S A s.heap H [] := by rw [← hHe]; exact va_S.rf
  refine lv_iconst (v := 0) hx hb dX8_about_0 (by decide) ?_
  refine lv_istore_n (lv' := [(2, .int 0), (0, .ref mm), (1, .int k)]) hx hb dX8_about_1 rfl hl (by decide) rfl (fun ls hl => ?_)
  refine lv_iconst (v := 0) hx hb dX8_about_2 (by decide) ?_
  refine lv_istore_n (lv' := [(3, .int 0), (2, .int 0), (0, .ref mm), (1, .int k)]) hx hb dX8_about_3 rfl hl (by decide) rfl (fun ls hl => ?_)
  refine lv_iconst (v := 0) hx hb dX8_about_4 (by decide) ?_
  refine lv_istore (lv' := [(4, .int 0), (3, .int 0), (2, .int 0), (0, .ref mm), (1, .int k)]) hx hb dX8_about_5 hl (by decide) rfl (fun ls hl => ?_)
  refine lv_iload hx hb dX8_about_7 (lv_at hl 0 rfl) ?_
  refine lv_bipush (v := 16) hx hb dX8_about_9 (by decide) ?_
  refine lv_icmp_ge (tgt := 56) hx hb dX8_about_11 (by decide) (fun c182 => absurd c182 (by decide)) (fun c182 => ?_)
  refine lv_iload_n hx hb dX8_about_14 rfl (lv_at hl 2 rfl) ?_
  refine lv_aload_n hx hb dX8_about_15 rfl (lv_at hl 3 rfl) ?_
  refine va_get (D := (dC, dI)) (ci := 8) (v := .ref (g 37)) (C := RX8) (T := TX8) (N := 40) hx hb hts iX8_about_X8 hown hK hP 0 rfl rfl 37 (by decide) (hts (.fieldLink RX8 156 "LeafSignerModel" "isReleased" "[Z") (List.mem_of_getElem? (i := 1) rfl)) (fun _ h9 => h9) rfl dX8_about_16 ?_
  refine lv_iload hx hb dX8_about_19 (lv_at hl 0 rfl) ?_
  refine va_zald hx hb hK hP 1 0 rfl rfl (vx_in (by decide)) dX8_about_21 ?_
  refine vx_topk 0 rfl ?_
  refine lv_if_eq (tgt := 29) hx hb dX8_about_22 (by decide) (fun c183 => ?_) (fun c183 => absurd (by decide) c183)
  refine lv_iconst (v := 0) hx hb dX8_about_29 (by decide) ?_
  refine lv_iadd hx hb dX8_about_30 ?_
  refine vx_topk 0 (by decide) ?_
  refine lv_istore_n (lv' := [(2, .int 0), (4, .int 0), (3, .int 0), (0, .ref mm), (1, .int k)]) hx hb dX8_about_31 rfl hl (by decide) rfl (fun ls hl => ?_)
  refine lv_iload_n hx hb dX8_about_32 rfl (lv_at hl 2 rfl) ?_
  refine lv_aload_n hx hb dX8_about_33 rfl (lv_at hl 3 rfl) ?_
  refine va_get (D := (dC, dI)) (ci := 8) (v := .ref (g 38)) (C := RX8) (T := TX8) (N := 40) hx hb hts iX8_about_X8 hown hK hP 0 rfl rfl 38 (by decide) (hts (.fieldLink RX8 160 "LeafSignerModel" "isLost" "[Z") (List.mem_of_getElem? (i := 2) rfl)) (fun _ h9 => h9) rfl dX8_about_34 ?_
  refine lv_iload hx hb dX8_about_37 (lv_at hl 1 rfl) ?_
  refine va_zald hx hb hK hP 2 1 rfl rfl (vx_in (by decide)) dX8_about_39 ?_
  refine vx_topk 0 rfl ?_
  refine lv_if_eq (tgt := 47) hx hb dX8_about_40 (by decide) (fun c184 => ?_) (fun c184 => absurd (by decide) c184)
  refine lv_iconst (v := 0) hx hb dX8_about_47 (by decide) ?_
  refine lv_iadd hx hb dX8_about_48 ?_
  refine vx_topk 0 (by decide) ?_
  refine lv_istore_n (lv' := [(3, .int 0), (2, .int 0), (4, .int 0), (0, .ref mm), (1, .int k)]) hx hb dX8_about_49 rfl hl (by decide) rfl (fun ls hl => ?_)
  refine lv_iinc (v := 1) (lv' := [(4, .int 1), (3, .int 0), (2, .int 0), (0, .ref mm), (1, .int k)]) hx hb dX8_about_50 hl (k := 2) rfl (by decide) (by decide) rfl (fun ls hl => ?_)
  refine lv_goto (tgt := 7) hx hb dX8_about_53 (by decide) ?_
  refine lv_iload hx hb dX8_about_7 (lv_at hl 0 rfl) ?_
  refine lv_bipush (v := 16) hx hb dX8_about_9 (by decide) ?_
  refine lv_icmp_ge (tgt := 56) hx hb dX8_about_11 (by decide) (fun c185 => absurd c185 (by decide)) (fun c185 => ?_)
  refine lv_iload_n hx hb dX8_about_14 rfl (lv_at hl 2 rfl) ?_
  refine lv_aload_n hx hb dX8_about_15 rfl (lv_at hl 3 rfl) ?_
  refine va_get (D := (dC, dI)) (ci := 8) (v := .ref (g 37)) (C := RX8) (T := TX8) (N := 40) hx hb hts iX8_about_X8 hown hK hP 0 rfl rfl 37 (by decide) (hts (.fieldLink RX8 156 "LeafSignerModel" "isReleased" "[Z") (List.mem_of_getElem? (i := 1) rfl)) (fun _ h9 => h9) rfl dX8_about_16 ?_
  refine lv_iload hx hb dX8_about_19 (lv_at hl 0 rfl) ?_
  refine va_zald hx hb hK hP 1 0 rfl rfl (vx_in (by decide)) dX8_about_21 ?_
  refine vx_topk 0 rfl ?_
  refine lv_if_eq (tgt := 29) hx hb dX8_about_22 (by decide) (fun c186 => ?_) (fun c186 => absurd (by decide) c186)
  refine lv_iconst (v := 0) hx hb dX8_about_29 (by decide) ?_
  refine lv_iadd hx hb dX8_about_30 ?_
  refine vx_topk 0 (by decide) ?_
  refine lv_istore_n (lv' := [(2, .int 0), (4, .int 1), (3, .int 0), (0, .ref mm), (1, .int k)]) hx hb dX8_about_31 rfl hl (by decide) rfl (fun ls hl => ?_)
  refine lv_iload_n hx hb dX8_about_32 rfl (lv_at hl 2 rfl) ?_
  refine lv_aload_n hx hb dX8_about_33 rfl (lv_at hl 3 rfl) ?_
  refine va_get (D := (dC, dI)) (ci := 8) (v := .ref (g 38)) (C := RX8) (T := TX8) (N := 40) hx hb hts iX8_about_X8 hown hK hP 0 rfl rfl 38 (by decide) (hts (.fieldLink RX8 160 "LeafSignerModel" "isLost" "[Z") (List.mem_of_getElem? (i := 2) rfl)) (fun _ h9 => h9) rfl dX8_about_34 ?_
  refine lv_iload hx hb dX8_about_37 (lv_at hl 1 rfl) ?_
  refine va_zald hx hb hK hP 2 1 rfl rfl (vx_in (by decide)) dX8_about_39 ?_
  refine vx_topk 0 rfl ?_
  refine lv_if_eq (tgt := 47) hx hb dX8_about_40 (by decide) (fun c187 => ?_) (fun c187 => absurd (by decide) c187)
  refine lv_iconst (v := 0) hx hb dX8_about_47 (by decide) ?_
  refine lv_iadd hx hb dX8_about_48 ?_
  refine vx_topk 0 (by decide) ?_
  refine lv_istore_n (lv' := [(3, .int 0), (2, .int 0), (4, .int 1), (0, .ref mm), (1, .int k)]) hx hb dX8_about_49 rfl hl (by decide) rfl (fun ls hl => ?_)
  refine lv_iinc (v := 2) (lv' := [(4, .int 2), (3, .int 0), (2, .int 0), (0, .ref mm), (1, .int k)]) hx hb dX8_about_50 hl (k := 2) rfl (by decide) (by decide) rfl (fun ls hl => ?_)
  refine lv_goto (tgt := 7) hx hb dX8_about_53 (by decide) ?_
  refine lv_iload hx hb dX8_about_7 (lv_at hl 0 rfl) ?_
  refine lv_bipush (v := 16) hx hb dX8_about_9 (by decide) ?_
  refine lv_icmp_ge (tgt := 56) hx hb dX8_about_11 (by decide) (fun c188 => absurd c188 (by decide)) (fun c188 => ?_)
  refine lv_iload_n hx hb dX8_about_14 rfl (lv_at hl 2 rfl) ?_
  refine lv_aload_n hx hb dX8_about_15 rfl (lv_at hl 3 rfl) ?_
  refine va_get (D := (dC, dI)) (ci := 8) (v := .ref (g 37)) (C := RX8) (T := TX8) (N := 40) hx hb hts iX8_about_X8 hown hK hP 0 rfl rfl 37 (by decide) (hts (.fieldLink RX8 156 "LeafSignerModel" "isReleased" "[Z") (List.mem_of_getElem? (i := 1) rfl)) (fun _ h9 => h9) rfl dX8_about_16 ?_
  refine lv_iload hx hb dX8_about_19 (lv_at hl 0 rfl) ?_
  refine va_zald hx hb hK hP 1 0 rfl rfl (vx_in (by decide)) dX8_about_21 ?_
  refine vx_topk 0 rfl ?_
  refine lv_if_eq (tgt := 29) hx hb dX8_about_22 (by decide) (fun c189 => ?_) (fun c189 => absurd (by decide) c189)
  refine lv_iconst (v := 0) hx hb dX8_about_29 (by decide) ?_
  refine lv_iadd hx hb dX8_about_30 ?_
  refine vx_topk 0 (by decide) ?_
  refine lv_istore_n (lv' := [(2, .int 0), (4, .int 2), (3, .int 0), (0, .ref mm), (1, .int k)]) hx hb dX8_about_31 rfl hl (by decide) rfl (fun ls hl => ?_)
  refine lv_iload_n hx hb dX8_about_32 rfl (lv_at hl 2 rfl) ?_
  refine lv_aload_n hx hb dX8_about_33 rfl (lv_at hl 3 rfl) ?_
  refine va_get (D := (dC, dI)) (ci := 8) (v := .ref (g 38)) (C := RX8) (T := TX8) (N := 40) hx hb hts iX8_about_X8 hown hK hP 0 rfl rfl 38 (by decide) (hts (.fieldLink RX8 160 "LeafSignerModel" "isLost" "[Z") (List.mem_of_getElem? (i := 2) rfl)) (fun _ h9 => h9) rfl dX8_about_34 ?_
  refine lv_iload hx hb dX8_about_37 (lv_at hl 1 rfl) ?_
  refine va_zald hx hb hK hP 2 1 rfl rfl (vx_in (by decide)) dX8_about_39 ?_
  refine vx_topk 0 rfl ?_
  refine lv_if_eq (tgt := 47) hx hb dX8_about_40 (by decide) (fun c190 => ?_) (fun c190 => absurd (by decide) c190)
  refine lv_iconst (v := 0) hx hb dX8_about_47 (by decide) ?_
  refine lv_iadd hx hb dX8_about_48 ?_
  refine vx_topk 0 (by decide) ?_
  refine lv_istore_n (lv' := [(3, .int 0), (2, .int 0), (4, .int 2), (0, .ref mm), (1, .int k)]) hx hb dX8_about_49 rfl hl (by decide) rfl (fun ls hl => ?_)
  refine lv_iinc (v := 3) (lv' := [(4, .int 3), (3, .int 0), (2, .int 0), (0, .ref mm), (1, .int k)]) hx hb dX8_about_50 hl (k := 2) rfl (by decide) (by decide) rfl (fun ls hl => ?_)
  refine lv_goto (tgt := 7) hx hb dX8_about_53 (by decide) ?_
  refine lv_iload hx hb dX8_about_7 (lv_at hl 0 rfl) ?_
  refine lv_bipush (v := 16) hx hb dX8_about_9 (by decide) ?_
  refine lv_icmp_ge (tgt := 56) hx hb dX8_about_11 (by decide) (fun c191 => absurd c191 (by decide)) (fun c191 => ?_)
  refine lv_iload_n hx hb dX8_about_14 rfl (lv_at hl 2 rfl) ?_
  refine lv_aload_n hx hb dX8_about_15 rfl (lv_at hl 3 rfl) ?_
  refine va_get (D := (dC, dI)) (ci := 8) (v := .ref (g 37)) (C := RX8) (T := TX8) (N := 40) hx hb hts iX8_about_X8 hown hK hP 0 rfl rfl 37 (by decide) (hts (.fieldLink RX8 156 "LeafSignerModel" "isReleased" "[Z") (List.mem_of_getElem? (i := 1) rfl)) (fun _ h9 => h9) rfl dX8_about_16 ?_
  refine lv_iload hx hb dX8_about_19 (lv_at hl 0 rfl) ?_
  refine va_zald hx hb hK hP 1 0 rfl rfl (vx_in (by decide)) dX8_about_21 ?_
  refine vx_topk 0 rfl ?_
  refine lv_if_eq (tgt := 29) hx hb dX8_about_22 (by decide) (fun c192 => ?_) (fun c192 => absurd (by decide) c192)
  refine lv_iconst (v := 0) hx hb dX8_about_29 (by decide) ?_
  refine lv_iadd hx hb dX8_about_30 ?_
  refine vx_topk 0 (by decide) ?_
  refine lv_istore_n (lv' := [(2, .int 0), (4, .int 3), (3, .int 0), (0, .ref mm), (1, .int k)]) hx hb dX8_about_31 rfl hl (by decide) rfl (fun ls hl => ?_)
  refine lv_iload_n hx hb dX8_about_32 rfl (lv_at hl 2 rfl) ?_
  refine lv_aload_n hx hb dX8_about_33 rfl (lv_at hl 3 rfl) ?_
  refine va_get (D := (dC, dI)) (ci := 8) (v := .ref (g 38)) (C := RX8) (T := TX8) (N := 40) hx hb hts iX8_about_X8 hown hK hP 0 rfl rfl 38 (by decide) (hts (.fieldLink RX8 160 "LeafSignerModel" "isLost" "[Z") (List.mem_of_getElem? (i := 2) rfl)) (fun _ h9 => h9) rfl dX8_about_34 ?_
  refine lv_iload hx hb dX8_about_37 (lv_at hl 1 rfl) ?_
  refine va_zald hx hb hK hP 2 1 rfl rfl (vx_in (by decide)) dX8_about_39 ?_
  refine vx_topk 0 rfl ?_
  refine lv_if_eq (tgt := 47) hx hb dX8_about_40 (by decide) (fun c193 => ?_) (fun c193 => absurd (by decide) c193)
  refine lv_iconst (v := 0) hx hb dX8_about_47 (by decide) ?_
  refine lv_iadd hx hb dX8_about_48 ?_
  refine vx_topk 0 (by decide) ?_
  refine lv_istore_n (lv' := [(3, .int 0), (2, .int 0), (4, .int 3), (0, .ref mm), (1, .int k)]) hx hb dX8_about_49 rfl hl (by decide) rfl (fun ls hl => ?_)
  refine lv_iinc (v := 4) (lv' := [(4, .int 4), (3, .int 0), (2, .int 0), (0, .ref mm), (1, .int k)]) hx hb dX8_about_50 hl (k := 2) rfl (by decide) (by decide) rfl (fun ls hl => ?_)
  refine lv_goto (tgt := 7) hx hb dX8_about_53 (by decide) ?_
  refine lv_iload hx hb dX8_about_7 (lv_at hl 0 rfl) ?_
  refine lv_bipush (v := 16) hx hb dX8_about_9 (by decide) ?_
  refine lv_icmp_ge (tgt := 56) hx hb dX8_about_11 (by decide) (fun c194 => absurd c194 (by decide)) (fun c194 => ?_)
  refine lv_iload_n hx hb dX8_about_14 rfl (lv_at hl 2 rfl) ?_
  refine lv_aload_n hx hb dX8_about_15 rfl (lv_at hl 3 rfl) ?_
  refine va_get (D := (dC, dI)) (ci := 8) (v := .ref (g 37)) (C := RX8) (T := TX8) (N := 40) hx hb hts iX8_about_X8 hown hK hP 0 rfl rfl 37 (by decide) (hts (.fieldLink RX8 156 "LeafSignerModel" "isReleased" "[Z") (List.mem_of_getElem? (i := 1) rfl)) (fun _ h9 => h9) rfl dX8_about_16 ?_
  refine lv_iload hx hb dX8_about_19 (lv_at hl 0 rfl) ?_
  refine va_zald hx hb hK hP 1 0 rfl rfl (vx_in (by decide)) dX8_about_21 ?_
  refine vx_topk 0 rfl ?_
  refine lv_if_eq (tgt := 29) hx hb dX8_about_22 (by decide) (fun c195 => ?_) (fun c195 => absurd (by decide) c195)
  refine lv_iconst (v := 0) hx hb dX8_about_29 (by decide) ?_
  refine lv_iadd hx hb dX8_about_30 ?_
  refine vx_topk 0 (by decide) ?_
  refine lv_istore_n (lv' := [(2, .int 0), (4, .int 4), (3, .int 0), (0, .ref mm), (1, .int k)]) hx hb dX8_about_31 rfl hl (by decide) rfl (fun ls hl => ?_)
  refine lv_iload_n hx hb dX8_about_32 rfl (lv_at hl 2 rfl) ?_
  refine lv_aload_n hx hb dX8_about_33 rfl (lv_at hl 3 rfl) ?_
  refine va_get (D := (dC, dI)) (ci := 8) (v := .ref (g 38)) (C := RX8) (T := TX8) (N := 40) hx hb hts iX8_about_X8 hown hK hP 0 rfl rfl 38 (by decide) (hts (.fieldLink RX8 160 "LeafSignerModel" "isLost" "[Z") (List.mem_of_getElem? (i := 2) rfl)) (fun _ h9 => h9) rfl dX8_about_34 ?_
  refine lv_iload hx hb dX8_about_37 (lv_at hl 1 rfl) ?_
  refine va_zald hx hb hK hP 2 1 rfl rfl (vx_in (by decide)) dX8_about_39 ?_
  refine vx_topk 0 rfl ?_
  refine lv_if_eq (tgt := 47) hx hb dX8_about_40 (by decide) (fun c196 => ?_) (fun c196 => absurd (by decide) c196)
  refine lv_iconst (v := 0) hx hb dX8_about_47 (by decide) ?_
  refine lv_iadd hx hb dX8_about_48 ?_
  refine vx_topk 0 (by decide) ?_
  refine lv_istore_n (lv' := [(3, .int 0), (2, .int 0), (4, .int 4), (0, .ref mm), (1, .int k)]) hx hb dX8_about_49 rfl hl (by decide) rfl (fun ls hl => ?_)
  refine lv_iinc (v := 5) (lv' := [(4, .int 5), (3, .int 0), (2, .int 0), (0, .ref mm), (1, .int k)]) hx hb dX8_about_50 hl (k := 2) rfl (by decide) (by decide) rfl (fun ls hl => ?_)
  refine lv_goto (tgt := 7) hx hb dX8_about_53 (by decide) ?_
  refine lv_iload hx hb dX8_about_7 (lv_at hl 0 rfl) ?_
  refine lv_bipush (v := 16) hx hb dX8_about_9 (by decide) ?_
  refine lv_icmp_ge (tgt := 56) hx hb dX8_about_11 (by decide) (fun c197 => absurd c197 (by decide)) (fun c197 => ?_)
  refine lv_iload_n hx hb dX8_about_14 rfl (lv_at hl 2 rfl) ?_
  refine lv_aload_n hx hb dX8_about_15 rfl (lv_at hl 3 rfl) ?_
  refine va_get (D := (dC, dI)) (ci := 8) (v := .ref (g 37)) (C := RX8) (T := TX8) (N := 40) hx hb hts iX8_about_X8 hown hK hP 0 rfl rfl 37 (by decide) (hts (.fieldLink RX8 156 "LeafSignerModel" "isReleased" "[Z") (List.mem_of_getElem? (i := 1) rfl)) (fun _ h9 => h9) rfl dX8_about_16 ?_
  refine lv_iload hx hb dX8_about_19 (lv_at hl 0 rfl) ?_
  refine va_zald hx hb hK hP 1 0 rfl rfl (vx_in (by decide)) dX8_about_21 ?_
  refine vx_topk 0 rfl ?_
  refine lv_if_eq (tgt := 29) hx hb dX8_about_22 (by decide) (fun c198 => ?_) (fun c198 => absurd (by decide) c198)
  refine lv_iconst (v := 0) hx hb dX8_about_29 (by decide) ?_
  refine lv_iadd hx hb dX8_about_30 ?_
  refine vx_topk 0 (by decide) ?_
  refine lv_istore_n (lv' := [(2, .int 0), (4, .int 5), (3, .int 0), (0, .ref mm), (1, .int k)]) hx hb dX8_about_31 rfl hl (by decide) rfl (fun ls hl => ?_)
  refine lv_iload_n hx hb dX8_about_32 rfl (lv_at hl 2 rfl) ?_
  refine lv_aload_n hx hb dX8_about_33 rfl (lv_at hl 3 rfl) ?_
  refine va_get (D := (dC, dI)) (ci := 8) (v := .ref (g 38)) (C := RX8) (T := TX8) (N := 40) hx hb hts iX8_about_X8 hown hK hP 0 rfl rfl 38 (by decide) (hts (.fieldLink RX8 160 "LeafSignerModel" "isLost" "[Z") (List.mem_of_getElem? (i := 2) rfl)) (fun _ h9 => h9) rfl dX8_about_34 ?_
  refine lv_iload hx hb dX8_about_37 (lv_at hl 1 rfl) ?_
  refine va_zald hx hb hK hP 2 1 rfl rfl (vx_in (by decide)) dX8_about_39 ?_
  refine vx_topk 0 rfl ?_
  refine lv_if_eq (tgt := 47) hx hb dX8_about_40 (by decide) (fun c199 => ?_) (fun c199 => absurd (by decide) c199)
  refine lv_iconst (v := 0) hx hb dX8_about_47 (by decide) ?_
  refine lv_iadd hx hb dX8_about_48 ?_
  refine vx_topk 0 (by decide) ?_
  refine lv_istore_n (lv' := [(3, .int 0), (2, .int 0), (4, .int 5), (0, .ref mm), (1, .int k)]) hx hb dX8_about_49 rfl hl (by decide) rfl (fun ls hl => ?_)
  refine lv_iinc (v := 6) (lv' := [(4, .int 6), (3, .int 0), (2, .int 0), (0, .ref mm), (1, .int k)]) hx hb dX8_about_50 hl (k := 2) rfl (by decide) (by decide) rfl (fun ls hl => ?_)
  refine lv_goto (tgt := 7) hx hb dX8_about_53 (by decide) ?_
  refine lv_iload hx hb dX8_about_7 (lv_at hl 0 rfl) ?_
  refine lv_bipush (v := 16) hx hb dX8_about_9 (by decide) ?_
  refine lv_icmp_ge (tgt := 56) hx hb dX8_about_11 (by decide) (fun c200 => absurd c200 (by decide)) (fun c200 => ?_)
  refine lv_iload_n hx hb dX8_about_14 rfl (lv_at hl 2 rfl) ?_
  refine lv_aload_n hx hb dX8_about_15 rfl (lv_at hl 3 rfl) ?_
  refine va_get (D := (dC, dI)) (ci := 8) (v := .ref (g 37)) (C := RX8) (T := TX8) (N := 40) hx hb hts iX8_about_X8 hown hK hP 0 rfl rfl 37 (by decide) (hts (.fieldLink RX8 156 "LeafSignerModel" "isReleased" "[Z") (List.mem_of_getElem? (i := 1) rfl)) (fun _ h9 => h9) rfl dX8_about_16 ?_
  refine lv_iload hx hb dX8_about_19 (lv_at hl 0 rfl) ?_
  refine va_zald hx hb hK hP 1 0 rfl rfl (vx_in (by decide)) dX8_about_21 ?_
  refine vx_topk 0 rfl ?_
  refine lv_if_eq (tgt := 29) hx hb dX8_about_22 (by decide) (fun c201 => ?_) (fun c201 => absurd (by decide) c201)
  refine lv_iconst (v := 0) hx hb dX8_about_29 (by decide) ?_
  refine lv_iadd hx hb dX8_about_30 ?_
  refine vx_topk 0 (by decide) ?_
  refine lv_istore_n (lv' := [(2, .int 0), (4, .int 6), (3, .int 0), (0, .ref mm), (1, .int k)]) hx hb dX8_about_31 rfl hl (by decide) rfl (fun ls hl => ?_)
  refine lv_iload_n hx hb dX8_about_32 rfl (lv_at hl 2 rfl) ?_
  refine lv_aload_n hx hb dX8_about_33 rfl (lv_at hl 3 rfl) ?_
  refine va_get (D := (dC, dI)) (ci := 8) (v := .ref (g 38)) (C := RX8) (T := TX8) (N := 40) hx hb hts iX8_about_X8 hown hK hP 0 rfl rfl 38 (by decide) (hts (.fieldLink RX8 160 "LeafSignerModel" "isLost" "[Z") (List.mem_of_getElem? (i := 2) rfl)) (fun _ h9 => h9) rfl dX8_about_34 ?_
  refine lv_iload hx hb dX8_about_37 (lv_at hl 1 rfl) ?_
  refine va_zald hx hb hK hP 2 1 rfl rfl (vx_in (by decide)) dX8_about_39 ?_
  refine vx_topk 0 rfl ?_
  refine lv_if_eq (tgt := 47) hx hb dX8_about_40 (by decide) (fun c202 => ?_) (fun c202 => absurd (by decide) c202)
  refine lv_iconst (v := 0) hx hb dX8_about_47 (by decide) ?_
  refine lv_iadd hx hb dX8_about_48 ?_
  refine vx_topk 0 (by decide) ?_
  refine lv_istore_n (lv' := [(3, .int 0), (2, .int 0), (4, .int 6), (0, .ref mm), (1, .int k)]) hx hb dX8_about_49 rfl hl (by decide) rfl (fun ls hl => ?_)
  refine lv_iinc (v := 7) (lv' := [(4, .int 7), (3, .int 0), (2, .int 0), (0, .ref mm), (1, .int k)]) hx hb dX8_about_50 hl (k := 2) rfl (by decide) (by decide) rfl (fun ls hl => ?_)
  refine lv_goto (tgt := 7) hx hb dX8_about_53 (by decide) ?_
  refine lv_iload hx hb dX8_about_7 (lv_at hl 0 rfl) ?_
  refine lv_bipush (v := 16) hx hb dX8_about_9 (by decide) ?_
  refine lv_icmp_ge (tgt := 56) hx hb dX8_about_11 (by decide) (fun c203 => absurd c203 (by decide)) (fun c203 => ?_)
  refine lv_iload_n hx hb dX8_about_14 rfl (lv_at hl 2 rfl) ?_
  refine lv_aload_n hx hb dX8_about_15 rfl (lv_at hl 3 rfl) ?_
  refine va_get (D := (dC, dI)) (ci := 8) (v := .ref (g 37)) (C := RX8) (T := TX8) (N := 40) hx hb hts iX8_about_X8 hown hK hP 0 rfl rfl 37 (by decide) (hts (.fieldLink RX8 156 "LeafSignerModel" "isReleased" "[Z") (List.mem_of_getElem? (i := 1) rfl)) (fun _ h9 => h9) rfl dX8_about_16 ?_
  refine lv_iload hx hb dX8_about_19 (lv_at hl 0 rfl) ?_
  refine va_zald hx hb hK hP 1 0 rfl rfl (vx_in (by decide)) dX8_about_21 ?_
  refine vx_topk 0 rfl ?_
  refine lv_if_eq (tgt := 29) hx hb dX8_about_22 (by decide) (fun c204 => ?_) (fun c204 => absurd (by decide) c204)
  refine lv_iconst (v := 0) hx hb dX8_about_29 (by decide) ?_
  refine lv_iadd hx hb dX8_about_30 ?_
  refine vx_topk 0 (by decide) ?_
  refine lv_istore_n (lv' := [(2, .int 0), (4, .int 7), (3, .int 0), (0, .ref mm), (1, .int k)]) hx hb dX8_about_31 rfl hl (by decide) rfl (fun ls hl => ?_)
  refine lv_iload_n hx hb dX8_about_32 rfl (lv_at hl 2 rfl) ?_
  refine lv_aload_n hx hb dX8_about_33 rfl (lv_at hl 3 rfl) ?_
  refine va_get (D := (dC, dI)) (ci := 8) (v := .ref (g 38)) (C := RX8) (T := TX8) (N := 40) hx hb hts iX8_about_X8 hown hK hP 0 rfl rfl 38 (by decide) (hts (.fieldLink RX8 160 "LeafSignerModel" "isLost" "[Z") (List.mem_of_getElem? (i := 2) rfl)) (fun _ h9 => h9) rfl dX8_about_34 ?_
  refine lv_iload hx hb dX8_about_37 (lv_at hl 1 rfl) ?_
  refine va_zald hx hb hK hP 2 1 rfl rfl (vx_in (by decide)) dX8_about_39 ?_
  refine vx_topk 0 rfl ?_
  refine lv_if_eq (tgt := 47) hx hb dX8_about_40 (by decide) (fun c205 => ?_) (fun c205 => absurd (by decide) c205)
  refine lv_iconst (v := 0) hx hb dX8_about_47 (by decide) ?_
  refine lv_iadd hx hb dX8_about_48 ?_
  refine vx_topk 0 (by decide) ?_
  refine lv_istore_n (lv' := [(3, .int 0), (2, .int 0), (4, .int 7), (0, .ref mm), (1, .int k)]) hx hb dX8_about_49 rfl hl (by decide) rfl (fun ls hl => ?_)
  refine lv_iinc (v := 8) (lv' := [(4, .int 8), (3, .int 0), (2, .int 0), (0, .ref mm), (1, .int k)]) hx hb dX8_about_50 hl (k := 2) rfl (by decide) (by decide) rfl (fun ls hl => ?_)
  refine lv_goto (tgt := 7) hx hb dX8_about_53 (by decide) ?_
  refine lv_iload hx hb dX8_about_7 (lv_at hl 0 rfl) ?_
  refine lv_bipush (v := 16) hx hb dX8_about_9 (by decide) ?_
  refine lv_icmp_ge (tgt := 56) hx hb dX8_about_11 (by decide) (fun c206 => absurd c206 (by decide)) (fun c206 => ?_)
  refine lv_iload_n hx hb dX8_about_14 rfl (lv_at hl 2 rfl) ?_
  refine lv_aload_n hx hb dX8_about_15 rfl (lv_at hl 3 rfl) ?_
  refine va_get (D := (dC, dI)) (ci := 8) (v := .ref (g 37)) (C := RX8) (T := TX8) (N := 40) hx hb hts iX8_about_X8 hown hK hP 0 rfl rfl 37 (by decide) (hts (.fieldLink RX8 156 "LeafSignerModel" "isReleased" "[Z") (List.mem_of_getElem? (i := 1) rfl)) (fun _ h9 => h9) rfl dX8_about_16 ?_
  refine lv_iload hx hb dX8_about_19 (lv_at hl 0 rfl) ?_
  refine va_zald hx hb hK hP 1 0 rfl rfl (vx_in (by decide)) dX8_about_21 ?_
  refine vx_topk 0 rfl ?_
  refine lv_if_eq (tgt := 29) hx hb dX8_about_22 (by decide) (fun c207 => ?_) (fun c207 => absurd (by decide) c207)
  refine lv_iconst (v := 0) hx hb dX8_about_29 (by decide) ?_
  refine lv_iadd hx hb dX8_about_30 ?_
  refine vx_topk 0 (by decide) ?_
  refine lv_istore_n (lv' := [(2, .int 0), (4, .int 8), (3, .int 0), (0, .ref mm), (1, .int k)]) hx hb dX8_about_31 rfl hl (by decide) rfl (fun ls hl => ?_)
  refine lv_iload_n hx hb dX8_about_32 rfl (lv_at hl 2 rfl) ?_
  refine lv_aload_n hx hb dX8_about_33 rfl (lv_at hl 3 rfl) ?_
  refine va_get (D := (dC, dI)) (ci := 8) (v := .ref (g 38)) (C := RX8) (T := TX8) (N := 40) hx hb hts iX8_about_X8 hown hK hP 0 rfl rfl 38 (by decide) (hts (.fieldLink RX8 160 "LeafSignerModel" "isLost" "[Z") (List.mem_of_getElem? (i := 2) rfl)) (fun _ h9 => h9) rfl dX8_about_34 ?_
  refine lv_iload hx hb dX8_about_37 (lv_at hl 1 rfl) ?_
  refine va_zald hx hb hK hP 2 1 rfl rfl (vx_in (by decide)) dX8_about_39 ?_
  refine vx_topk 0 rfl ?_
  refine lv_if_eq (tgt := 47) hx hb dX8_about_40 (by decide) (fun c208 => ?_) (fun c208 => absurd (by decide) c208)
  refine lv_iconst (v := 0) hx hb dX8_about_47 (by decide) ?_
  refine lv_iadd hx hb dX8_about_48 ?_
  refine vx_topk 0 (by decide) ?_
  refine lv_istore_n (lv' := [(3, .int 0), (2, .int 0), (4, .int 8), (0, .ref mm), (1, .int k)]) hx hb dX8_about_49 rfl hl (by decide) rfl (fun ls hl => ?_)
  refine lv_iinc (v := 9) (lv' := [(4, .int 9), (3, .int 0), (2, .int 0), (0, .ref mm), (1, .int k)]) hx hb dX8_about_50 hl (k := 2) rfl (by decide) (by decide) rfl (fun ls hl => ?_)
  refine lv_goto (tgt := 7) hx hb dX8_about_53 (by decide) ?_
  refine lv_iload hx hb dX8_about_7 (lv_at hl 0 rfl) ?_
  refine lv_bipush (v := 16) hx hb dX8_about_9 (by decide) ?_
  refine lv_icmp_ge (tgt := 56) hx hb dX8_about_11 (by decide) (fun c209 => absurd c209 (by decide)) (fun c209 => ?_)
  refine lv_iload_n hx hb dX8_about_14 rfl (lv_at hl 2 rfl) ?_
  refine lv_aload_n hx hb dX8_about_15 rfl (lv_at hl 3 rfl) ?_
  refine va_get (D := (dC, dI)) (ci := 8) (v := .ref (g 37)) (C := RX8) (T := TX8) (N := 40) hx hb hts iX8_about_X8 hown hK hP 0 rfl rfl 37 (by decide) (hts (.fieldLink RX8 156 "LeafSignerModel" "isReleased" "[Z") (List.mem_of_getElem? (i := 1) rfl)) (fun _ h9 => h9) rfl dX8_about_16 ?_
  refine lv_iload hx hb dX8_about_19 (lv_at hl 0 rfl) ?_
  refine va_zald hx hb hK hP 1 0 rfl rfl (vx_in (by decide)) dX8_about_21 ?_
  refine vx_topk 0 rfl ?_
  refine lv_if_eq (tgt := 29) hx hb dX8_about_22 (by decide) (fun c210 => ?_) (fun c210 => absurd (by decide) c210)
  refine lv_iconst (v := 0) hx hb dX8_about_29 (by decide) ?_
  refine lv_iadd hx hb dX8_about_30 ?_
  refine vx_topk 0 (by decide) ?_
  refine lv_istore_n (lv' := [(2, .int 0), (4, .int 9), (3, .int 0), (0, .ref mm), (1, .int k)]) hx hb dX8_about_31 rfl hl (by decide) rfl (fun ls hl => ?_)
  refine lv_iload_n hx hb dX8_about_32 rfl (lv_at hl 2 rfl) ?_
  refine lv_aload_n hx hb dX8_about_33 rfl (lv_at hl 3 rfl) ?_
  refine va_get (D := (dC, dI)) (ci := 8) (v := .ref (g 38)) (C := RX8) (T := TX8) (N := 40) hx hb hts iX8_about_X8 hown hK hP 0 rfl rfl 38 (by decide) (hts (.fieldLink RX8 160 "LeafSignerModel" "isLost" "[Z") (List.mem_of_getElem? (i := 2) rfl)) (fun _ h9 => h9) rfl dX8_about_34 ?_
  refine lv_iload hx hb dX8_about_37 (lv_at hl 1 rfl) ?_
  refine va_zald hx hb hK hP 2 1 rfl rfl (vx_in (by decide)) dX8_about_39 ?_
  refine vx_topk 0 rfl ?_
  refine lv_if_eq (tgt := 47) hx hb dX8_about_40 (by decide) (fun c211 => ?_) (fun c211 => absurd (by decide) c211)
  refine lv_iconst (v := 0) hx hb dX8_about_47 (by decide) ?_
  refine lv_iadd hx hb dX8_about_48 ?_
  refine vx_topk 0 (by decide) ?_
  refine lv_istore_n (lv' := [(3, .int 0), (2, .int 0), (4, .int 9), (0, .ref mm), (1, .int k)]) hx hb dX8_about_49 rfl hl (by decide) rfl (fun ls hl => ?_)
  refine lv_iinc (v := 10) (lv' := [(4, .int 10), (3, .int 0), (2, .int 0), (0, .ref mm), (1, .int k)]) hx hb dX8_about_50 hl (k := 2) rfl (by decide) (by decide) rfl (fun ls hl => ?_)
  refine lv_goto (tgt := 7) hx hb dX8_about_53 (by decide) ?_
  refine lv_iload hx hb dX8_about_7 (lv_at hl 0 rfl) ?_
  refine lv_bipush (v := 16) hx hb dX8_about_9 (by decide) ?_
  refine lv_icmp_ge (tgt := 56) hx hb dX8_about_11 (by decide) (fun c212 => absurd c212 (by decide)) (fun c212 => ?_)
  refine lv_iload_n hx hb dX8_about_14 rfl (lv_at hl 2 rfl) ?_
  refine lv_aload_n hx hb dX8_about_15 rfl (lv_at hl 3 rfl) ?_
  refine va_get (D := (dC, dI)) (ci := 8) (v := .ref (g 37)) (C := RX8) (T := TX8) (N := 40) hx hb hts iX8_about_X8 hown hK hP 0 rfl rfl 37 (by decide) (hts (.fieldLink RX8 156 "LeafSignerModel" "isReleased" "[Z") (List.mem_of_getElem? (i := 1) rfl)) (fun _ h9 => h9) rfl dX8_about_16 ?_
  refine lv_iload hx hb dX8_about_19 (lv_at hl 0 rfl) ?_
  refine va_zald hx hb hK hP 1 0 rfl rfl (vx_in (by decide)) dX8_about_21 ?_
  refine vx_topk 0 rfl ?_
  refine lv_if_eq (tgt := 29) hx hb dX8_about_22 (by decide) (fun c213 => ?_) (fun c213 => absurd (by decide) c213)
  refine lv_iconst (v := 0) hx hb dX8_about_29 (by decide) ?_
  refine lv_iadd hx hb dX8_about_30 ?_
  refine vx_topk 0 (by decide) ?_
  refine lv_istore_n (lv' := [(2, .int 0), (4, .int 10), (3, .int 0), (0, .ref mm), (1, .int k)]) hx hb dX8_about_31 rfl hl (by decide) rfl (fun ls hl => ?_)
  refine lv_iload_n hx hb dX8_about_32 rfl (lv_at hl 2 rfl) ?_
  refine lv_aload_n hx hb dX8_about_33 rfl (lv_at hl 3 rfl) ?_
  refine va_get (D := (dC, dI)) (ci := 8) (v := .ref (g 38)) (C := RX8) (T := TX8) (N := 40) hx hb hts iX8_about_X8 hown hK hP 0 rfl rfl 38 (by decide) (hts (.fieldLink RX8 160 "LeafSignerModel" "isLost" "[Z") (List.mem_of_getElem? (i := 2) rfl)) (fun _ h9 => h9) rfl dX8_about_34 ?_
  refine lv_iload hx hb dX8_about_37 (lv_at hl 1 rfl) ?_
  refine va_zald hx hb hK hP 2 1 rfl rfl (vx_in (by decide)) dX8_about_39 ?_
  refine vx_topk 0 rfl ?_
  refine lv_if_eq (tgt := 47) hx hb dX8_about_40 (by decide) (fun c214 => ?_) (fun c214 => absurd (by decide) c214)
  refine lv_iconst (v := 0) hx hb dX8_about_47 (by decide) ?_
  refine lv_iadd hx hb dX8_about_48 ?_
  refine vx_topk 0 (by decide) ?_
  refine lv_istore_n (lv' := [(3, .int 0), (2, .int 0), (4, .int 10), (0, .ref mm), (1, .int k)]) hx hb dX8_about_49 rfl hl (by decide) rfl (fun ls hl => ?_)
  refine lv_iinc (v := 11) (lv' := [(4, .int 11), (3, .int 0), (2, .int 0), (0, .ref mm), (1, .int k)]) hx hb dX8_about_50 hl (k := 2) rfl (by decide) (by decide) rfl (fun ls hl => ?_)
  refine lv_goto (tgt := 7) hx hb dX8_about_53 (by decide) ?_
  refine lv_iload hx hb dX8_about_7 (lv_at hl 0 rfl) ?_
  refine lv_bipush (v := 16) hx hb dX8_about_9 (by decide) ?_
  refine lv_icmp_ge (tgt := 56) hx hb dX8_about_11 (by decide) (fun c215 => absurd c215 (by decide)) (fun c215 => ?_)
  refine lv_iload_n hx hb dX8_about_14 rfl (lv_at hl 2 rfl) ?_
  refine lv_aload_n hx hb dX8_about_15 rfl (lv_at hl 3 rfl) ?_
  refine va_get (D := (dC, dI)) (ci := 8) (v := .ref (g 37)) (C := RX8) (T := TX8) (N := 40) hx hb hts iX8_about_X8 hown hK hP 0 rfl rfl 37 (by decide) (hts (.fieldLink RX8 156 "LeafSignerModel" "isReleased" "[Z") (List.mem_of_getElem? (i := 1) rfl)) (fun _ h9 => h9) rfl dX8_about_16 ?_
  refine lv_iload hx hb dX8_about_19 (lv_at hl 0 rfl) ?_
  refine va_zald hx hb hK hP 1 0 rfl rfl (vx_in (by decide)) dX8_about_21 ?_
  refine vx_topk 0 rfl ?_
  refine lv_if_eq (tgt := 29) hx hb dX8_about_22 (by decide) (fun c216 => ?_) (fun c216 => absurd (by decide) c216)
  refine lv_iconst (v := 0) hx hb dX8_about_29 (by decide) ?_
  refine lv_iadd hx hb dX8_about_30 ?_
  refine vx_topk 0 (by decide) ?_
  refine lv_istore_n (lv' := [(2, .int 0), (4, .int 11), (3, .int 0), (0, .ref mm), (1, .int k)]) hx hb dX8_about_31 rfl hl (by decide) rfl (fun ls hl => ?_)
  refine lv_iload_n hx hb dX8_about_32 rfl (lv_at hl 2 rfl) ?_
  refine lv_aload_n hx hb dX8_about_33 rfl (lv_at hl 3 rfl) ?_
  refine va_get (D := (dC, dI)) (ci := 8) (v := .ref (g 38)) (C := RX8) (T := TX8) (N := 40) hx hb hts iX8_about_X8 hown hK hP 0 rfl rfl 38 (by decide) (hts (.fieldLink RX8 160 "LeafSignerModel" "isLost" "[Z") (List.mem_of_getElem? (i := 2) rfl)) (fun _ h9 => h9) rfl dX8_about_34 ?_
  refine lv_iload hx hb dX8_about_37 (lv_at hl 1 rfl) ?_
  refine va_zald hx hb hK hP 2 1 rfl rfl (vx_in (by decide)) dX8_about_39 ?_
  refine vx_topk 0 rfl ?_
  refine lv_if_eq (tgt := 47) hx hb dX8_about_40 (by decide) (fun c217 => ?_) (fun c217 => absurd (by decide) c217)
  refine lv_iconst (v := 0) hx hb dX8_about_47 (by decide) ?_
  refine lv_iadd hx hb dX8_about_48 ?_
  refine vx_topk 0 (by decide) ?_
  refine lv_istore_n (lv' := [(3, .int 0), (2, .int 0), (4, .int 11), (0, .ref mm), (1, .int k)]) hx hb dX8_about_49 rfl hl (by decide) rfl (fun ls hl => ?_)
  refine lv_iinc (v := 12) (lv' := [(4, .int 12), (3, .int 0), (2, .int 0), (0, .ref mm), (1, .int k)]) hx hb dX8_about_50 hl (k := 2) rfl (by decide) (by decide) rfl (fun ls hl => ?_)
  refine lv_goto (tgt := 7) hx hb dX8_about_53 (by decide) ?_
  refine lv_iload hx hb dX8_about_7 (lv_at hl 0 rfl) ?_
  refine lv_bipush (v := 16) hx hb dX8_about_9 (by decide) ?_
  refine lv_icmp_ge (tgt := 56) hx hb dX8_about_11 (by decide) (fun c218 => absurd c218 (by decide)) (fun c218 => ?_)
  refine lv_iload_n hx hb dX8_about_14 rfl (lv_at hl 2 rfl) ?_
  refine lv_aload_n hx hb dX8_about_15 rfl (lv_at hl 3 rfl) ?_
  refine va_get (D := (dC, dI)) (ci := 8) (v := .ref (g 37)) (C := RX8) (T := TX8) (N := 40) hx hb hts iX8_about_X8 hown hK hP 0 rfl rfl 37 (by decide) (hts (.fieldLink RX8 156 "LeafSignerModel" "isReleased" "[Z") (List.mem_of_getElem? (i := 1) rfl)) (fun _ h9 => h9) rfl dX8_about_16 ?_
  refine lv_iload hx hb dX8_about_19 (lv_at hl 0 rfl) ?_
  refine va_zald hx hb hK hP 1 0 rfl rfl (vx_in (by decide)) dX8_about_21 ?_
  refine vx_topk 0 rfl ?_
  refine lv_if_eq (tgt := 29) hx hb dX8_about_22 (by decide) (fun c219 => ?_) (fun c219 => absurd (by decide) c219)
  refine lv_iconst (v := 0) hx hb dX8_about_29 (by decide) ?_
  refine lv_iadd hx hb dX8_about_30 ?_
  refine vx_topk 0 (by decide) ?_
  refine lv_istore_n (lv' := [(2, .int 0), (4, .int 12), (3, .int 0), (0, .ref mm), (1, .int k)]) hx hb dX8_about_31 rfl hl (by decide) rfl (fun ls hl => ?_)
  refine lv_iload_n hx hb dX8_about_32 rfl (lv_at hl 2 rfl) ?_
  refine lv_aload_n hx hb dX8_about_33 rfl (lv_at hl 3 rfl) ?_
  refine va_get (D := (dC, dI)) (ci := 8) (v := .ref (g 38)) (C := RX8) (T := TX8) (N := 40) hx hb hts iX8_about_X8 hown hK hP 0 rfl rfl 38 (by decide) (hts (.fieldLink RX8 160 "LeafSignerModel" "isLost" "[Z") (List.mem_of_getElem? (i := 2) rfl)) (fun _ h9 => h9) rfl dX8_about_34 ?_
  refine lv_iload hx hb dX8_about_37 (lv_at hl 1 rfl) ?_
  refine va_zald hx hb hK hP 2 1 rfl rfl (vx_in (by decide)) dX8_about_39 ?_
  refine vx_topk 0 rfl ?_
  refine lv_if_eq (tgt := 47) hx hb dX8_about_40 (by decide) (fun c220 => ?_) (fun c220 => absurd (by decide) c220)
  refine lv_iconst (v := 0) hx hb dX8_about_47 (by decide) ?_
  refine lv_iadd hx hb dX8_about_48 ?_
  refine vx_topk 0 (by decide) ?_
  refine lv_istore_n (lv' := [(3, .int 0), (2, .int 0), (4, .int 12), (0, .ref mm), (1, .int k)]) hx hb dX8_about_49 rfl hl (by decide) rfl (fun ls hl => ?_)
  refine lv_iinc (v := 13) (lv' := [(4, .int 13), (3, .int 0), (2, .int 0), (0, .ref mm), (1, .int k)]) hx hb dX8_about_50 hl (k := 2) rfl (by decide) (by decide) rfl (fun ls hl => ?_)
  refine lv_goto (tgt := 7) hx hb dX8_about_53 (by decide) ?_
  refine lv_iload hx hb dX8_about_7 (lv_at hl 0 rfl) ?_
  refine lv_bipush (v := 16) hx hb dX8_about_9 (by decide) ?_
  refine lv_icmp_ge (tgt := 56) hx hb dX8_about_11 (by decide) (fun c221 => absurd c221 (by decide)) (fun c221 => ?_)
  refine lv_iload_n hx hb dX8_about_14 rfl (lv_at hl 2 rfl) ?_
  refine lv_aload_n hx hb dX8_about_15 rfl (lv_at hl 3 rfl) ?_
  refine va_get (D := (dC, dI)) (ci := 8) (v := .ref (g 37)) (C := RX8) (T := TX8) (N := 40) hx hb hts iX8_about_X8 hown hK hP 0 rfl rfl 37 (by decide) (hts (.fieldLink RX8 156 "LeafSignerModel" "isReleased" "[Z") (List.mem_of_getElem? (i := 1) rfl)) (fun _ h9 => h9) rfl dX8_about_16 ?_
  refine lv_iload hx hb dX8_about_19 (lv_at hl 0 rfl) ?_
  refine va_zald hx hb hK hP 1 0 rfl rfl (vx_in (by decide)) dX8_about_21 ?_
  refine vx_topk 0 rfl ?_
  refine lv_if_eq (tgt := 29) hx hb dX8_about_22 (by decide) (fun c222 => ?_) (fun c222 => absurd (by decide) c222)
  refine lv_iconst (v := 0) hx hb dX8_about_29 (by decide) ?_
  refine lv_iadd hx hb dX8_about_30 ?_
  refine vx_topk 0 (by decide) ?_
  refine lv_istore_n (lv' := [(2, .int 0), (4, .int 13), (3, .int 0), (0, .ref mm), (1, .int k)]) hx hb dX8_about_31 rfl hl (by decide) rfl (fun ls hl => ?_)
  refine lv_iload_n hx hb dX8_about_32 rfl (lv_at hl 2 rfl) ?_
  refine lv_aload_n hx hb dX8_about_33 rfl (lv_at hl 3 rfl) ?_
  refine va_get (D := (dC, dI)) (ci := 8) (v := .ref (g 38)) (C := RX8) (T := TX8) (N := 40) hx hb hts iX8_about_X8 hown hK hP 0 rfl rfl 38 (by decide) (hts (.fieldLink RX8 160 "LeafSignerModel" "isLost" "[Z") (List.mem_of_getElem? (i := 2) rfl)) (fun _ h9 => h9) rfl dX8_about_34 ?_
  refine lv_iload hx hb dX8_about_37 (lv_at hl 1 rfl) ?_
  refine va_zald hx hb hK hP 2 1 rfl rfl (vx_in (by decide)) dX8_about_39 ?_
  refine vx_topk 0 rfl ?_
  refine lv_if_eq (tgt := 47) hx hb dX8_about_40 (by decide) (fun c223 => ?_) (fun c223 => absurd (by decide) c223)
  refine lv_iconst (v := 0) hx hb dX8_about_47 (by decide) ?_
  refine lv_iadd hx hb dX8_about_48 ?_
  refine vx_topk 0 (by decide) ?_
  refine lv_istore_n (lv' := [(3, .int 0), (2, .int 0), (4, .int 13), (0, .ref mm), (1, .int k)]) hx hb dX8_about_49 rfl hl (by decide) rfl (fun ls hl => ?_)
  refine lv_iinc (v := 14) (lv' := [(4, .int 14), (3, .int 0), (2, .int 0), (0, .ref mm), (1, .int k)]) hx hb dX8_about_50 hl (k := 2) rfl (by decide) (by decide) rfl (fun ls hl => ?_)
  refine lv_goto (tgt := 7) hx hb dX8_about_53 (by decide) ?_
  refine lv_iload hx hb dX8_about_7 (lv_at hl 0 rfl) ?_
  refine lv_bipush (v := 16) hx hb dX8_about_9 (by decide) ?_
  refine lv_icmp_ge (tgt := 56) hx hb dX8_about_11 (by decide) (fun c224 => absurd c224 (by decide)) (fun c224 => ?_)
  refine lv_iload_n hx hb dX8_about_14 rfl (lv_at hl 2 rfl) ?_
  refine lv_aload_n hx hb dX8_about_15 rfl (lv_at hl 3 rfl) ?_
  refine va_get (D := (dC, dI)) (ci := 8) (v := .ref (g 37)) (C := RX8) (T := TX8) (N := 40) hx hb hts iX8_about_X8 hown hK hP 0 rfl rfl 37 (by decide) (hts (.fieldLink RX8 156 "LeafSignerModel" "isReleased" "[Z") (List.mem_of_getElem? (i := 1) rfl)) (fun _ h9 => h9) rfl dX8_about_16 ?_
  refine lv_iload hx hb dX8_about_19 (lv_at hl 0 rfl) ?_
  refine va_zald hx hb hK hP 1 0 rfl rfl (vx_in (by decide)) dX8_about_21 ?_
  refine vx_topk 0 rfl ?_
  refine lv_if_eq (tgt := 29) hx hb dX8_about_22 (by decide) (fun c225 => ?_) (fun c225 => absurd (by decide) c225)
  refine lv_iconst (v := 0) hx hb dX8_about_29 (by decide) ?_
  refine lv_iadd hx hb dX8_about_30 ?_
  refine vx_topk 0 (by decide) ?_
  refine lv_istore_n (lv' := [(2, .int 0), (4, .int 14), (3, .int 0), (0, .ref mm), (1, .int k)]) hx hb dX8_about_31 rfl hl (by decide) rfl (fun ls hl => ?_)
  refine lv_iload_n hx hb dX8_about_32 rfl (lv_at hl 2 rfl) ?_
  refine lv_aload_n hx hb dX8_about_33 rfl (lv_at hl 3 rfl) ?_
  refine va_get (D := (dC, dI)) (ci := 8) (v := .ref (g 38)) (C := RX8) (T := TX8) (N := 40) hx hb hts iX8_about_X8 hown hK hP 0 rfl rfl 38 (by decide) (hts (.fieldLink RX8 160 "LeafSignerModel" "isLost" "[Z") (List.mem_of_getElem? (i := 2) rfl)) (fun _ h9 => h9) rfl dX8_about_34 ?_
  refine lv_iload hx hb dX8_about_37 (lv_at hl 1 rfl) ?_
  refine va_zald hx hb hK hP 2 1 rfl rfl (vx_in (by decide)) dX8_about_39 ?_
  refine vx_topk 0 rfl ?_
  refine lv_if_eq (tgt := 47) hx hb dX8_about_40 (by decide) (fun c226 => ?_) (fun c226 => absurd (by decide) c226)
  refine lv_iconst (v := 0) hx hb dX8_about_47 (by decide) ?_
  refine lv_iadd hx hb dX8_about_48 ?_
  refine vx_topk 0 (by decide) ?_
  refine lv_istore_n (lv' := [(3, .int 0), (2, .int 0), (4, .int 14), (0, .ref mm), (1, .int k)]) hx hb dX8_about_49 rfl hl (by decide) rfl (fun ls hl => ?_)
  refine lv_iinc (v := 15) (lv' := [(4, .int 15), (3, .int 0), (2, .int 0), (0, .ref mm), (1, .int k)]) hx hb dX8_about_50 hl (k := 2) rfl (by decide) (by decide) rfl (fun ls hl => ?_)
  refine lv_goto (tgt := 7) hx hb dX8_about_53 (by decide) ?_
  refine lv_iload hx hb dX8_about_7 (lv_at hl 0 rfl) ?_
  refine lv_bipush (v := 16) hx hb dX8_about_9 (by decide) ?_
  refine lv_icmp_ge (tgt := 56) hx hb dX8_about_11 (by decide) (fun c227 => absurd c227 (by decide)) (fun c227 => ?_)
  refine lv_iload_n hx hb dX8_about_14 rfl (lv_at hl 2 rfl) ?_
  refine lv_aload_n hx hb dX8_about_15 rfl (lv_at hl 3 rfl) ?_
  refine va_get (D := (dC, dI)) (ci := 8) (v := .ref (g 37)) (C := RX8) (T := TX8) (N := 40) hx hb hts iX8_about_X8 hown hK hP 0 rfl rfl 37 (by decide) (hts (.fieldLink RX8 156 "LeafSignerModel" "isReleased" "[Z") (List.mem_of_getElem? (i := 1) rfl)) (fun _ h9 => h9) rfl dX8_about_16 ?_
  refine lv_iload hx hb dX8_about_19 (lv_at hl 0 rfl) ?_
  refine va_zald hx hb hK hP 1 0 rfl rfl (vx_in (by decide)) dX8_about_21 ?_
  refine vx_topk 0 rfl ?_
  refine lv_if_eq (tgt := 29) hx hb dX8_about_22 (by decide) (fun c228 => ?_) (fun c228 => absurd (by decide) c228)
  refine lv_iconst (v := 0) hx hb dX8_about_29 (by decide) ?_
  refine lv_iadd hx hb dX8_about_30 ?_
  refine vx_topk 0 (by decide) ?_
  refine lv_istore_n (lv' := [(2, .int 0), (4, .int 15), (3, .int 0), (0, .ref mm), (1, .int k)]) hx hb dX8_about_31 rfl hl (by decide) rfl (fun ls hl => ?_)
  refine lv_iload_n hx hb dX8_about_32 rfl (lv_at hl 2 rfl) ?_
  refine lv_aload_n hx hb dX8_about_33 rfl (lv_at hl 3 rfl) ?_
  refine va_get (D := (dC, dI)) (ci := 8) (v := .ref (g 38)) (C := RX8) (T := TX8) (N := 40) hx hb hts iX8_about_X8 hown hK hP 0 rfl rfl 38 (by decide) (hts (.fieldLink RX8 160 "LeafSignerModel" "isLost" "[Z") (List.mem_of_getElem? (i := 2) rfl)) (fun _ h9 => h9) rfl dX8_about_34 ?_
  refine lv_iload hx hb dX8_about_37 (lv_at hl 1 rfl) ?_
  refine va_zald hx hb hK hP 2 1 rfl rfl (vx_in (by decide)) dX8_about_39 ?_
  refine vx_topk 0 rfl ?_
  refine lv_if_eq (tgt := 47) hx hb dX8_about_40 (by decide) (fun c229 => ?_) (fun c229 => absurd (by decide) c229)
  refine lv_iconst (v := 0) hx hb dX8_about_47 (by decide) ?_
  refine lv_iadd hx hb dX8_about_48 ?_
  refine vx_topk 0 (by decide) ?_
  refine lv_istore_n (lv' := [(3, .int 0), (2, .int 0), (4, .int 15), (0, .ref mm), (1, .int k)]) hx hb dX8_about_49 rfl hl (by decide) rfl (fun ls hl => ?_)
  refine lv_iinc (v := 16) (lv' := [(4, .int 16), (3, .int 0), (2, .int 0), (0, .ref mm), (1, .int k)]) hx hb dX8_about_50 hl (k := 2) rfl (by decide) (by decide) rfl (fun ls hl => ?_)
  refine lv_goto (tgt := 7) hx hb dX8_about_53 (by decide) ?_
  refine lv_iload hx hb dX8_about_7 (lv_at hl 0 rfl) ?_
  refine lv_bipush (v := 16) hx hb dX8_about_9 (by decide) ?_
  refine lv_icmp_ge (tgt := 56) hx hb dX8_about_11 (by decide) (fun c230 => ?_) (fun c230 => absurd (by decide) c230)
  refine lv_iload_n hx hb dX8_about_56 rfl (lv_at hl 4 rfl) ?_
  by_cases c231 : k = 0
  · subst c231
    have hl : lv_has ls 5 [(4, .int 16), (3, .int 0), (2, .int 0), (0, .ref mm), (1, .int 0)] := hl
    refine lv_tableIn (off := 63) (tgt := 120) hx hb dX8_about_57 (by decide) (by decide) (by decide) (by decide) ?_
    refine lv_aload_n hx hb dX8_about_120 rfl (lv_at hl 3 rfl) ?_
    refine va_get (D := (dC, dI)) (ci := 8) (v := .int 0) (C := RX8) (T := TX8) (N := 40) hx hb hts iX8_about_X8 hown hK hP 0 rfl rfl 31 (by decide) (hts (.fieldLink RX8 257 "LeafSignerModel" "state" "I") (List.mem_of_getElem? (i := 3) rfl)) (fun _ h9 => h9) rfl dX8_about_121 ?_
    refine W.widen (k := 0) (n := 0) (Nat.le_of_ble_eq_true rfl) (Nat.le_of_ble_eq_true rfl) ?_
    exact W.iret (v := 0) hx hb hr (fun t ht hW => ⟨⟨0, (), rfl, rfl, trivial⟩, hS.F ht⟩) hS.2.2 dX8_about_124
  · by_cases c232 : k = 1
    · subst c232
      have hl : lv_has ls 5 [(4, .int 16), (3, .int 0), (2, .int 0), (0, .ref mm), (1, .int 1)] := hl
      refine lv_tableIn (off := 68) (tgt := 125) hx hb dX8_about_57 (by decide) (by decide) (by decide) (by decide) ?_
      refine lv_aload_n hx hb dX8_about_125 rfl (lv_at hl 3 rfl) ?_
      refine va_get (D := (dC, dI)) (ci := 8) (v := .int 0) (C := RX8) (T := TX8) (N := 40) hx hb hts iX8_about_X8 hown hK hP 0 rfl rfl 31 (by decide) (hts (.fieldLink RX8 257 "LeafSignerModel" "state" "I") (List.mem_of_getElem? (i := 3) rfl)) (fun _ h9 => h9) rfl dX8_about_126 ?_
      refine lv_iconst (v := 1) hx hb dX8_about_129 (by decide) ?_
      refine lv_icmp_ne (tgt := 140) hx hb dX8_about_130 (by decide) (fun c233 => ?_) (fun c233 => absurd c233 (by decide))
      refine lv_iconst (v := (-1)) hx hb dX8_about_140 (by decide) ?_
      refine W.widen (k := 0) (n := 0) (Nat.le_of_ble_eq_true rfl) (Nat.le_of_ble_eq_true rfl) ?_
      exact W.iret (v := (-1)) hx hb hr (fun t ht hW => ⟨⟨(-1), (), rfl, rfl, trivial⟩, hS.F ht⟩) hS.2.2 dX8_about_141
    · by_cases c234 : k = 2
      · subst c234
        have hl : lv_has ls 5 [(4, .int 16), (3, .int 0), (2, .int 0), (0, .ref mm), (1, .int 2)] := hl
        refine lv_tableIn (off := 85) (tgt := 142) hx hb dX8_about_57 (by decide) (by decide) (by decide) (by decide) ?_
        refine lv_aload_n hx hb dX8_about_142 rfl (lv_at hl 3 rfl) ?_
        refine va_get (D := (dC, dI)) (ci := 8) (v := .int 0) (C := RX8) (T := TX8) (N := 40) hx hb hts iX8_about_X8 hown hK hP 0 rfl rfl 31 (by decide) (hts (.fieldLink RX8 257 "LeafSignerModel" "state" "I") (List.mem_of_getElem? (i := 3) rfl)) (fun _ h9 => h9) rfl dX8_about_143 ?_
        refine lv_iconst (v := 1) hx hb dX8_about_146 (by decide) ?_
        refine lv_icmp_ne (tgt := 157) hx hb dX8_about_147 (by decide) (fun c235 => ?_) (fun c235 => absurd c235 (by decide))
        refine lv_iconst (v := (-1)) hx hb dX8_about_157 (by decide) ?_
        refine W.widen (k := 0) (n := 0) (Nat.le_of_ble_eq_true rfl) (Nat.le_of_ble_eq_true rfl) ?_
        exact W.iret (v := (-1)) hx hb hr (fun t ht hW => ⟨⟨(-1), (), rfl, rfl, trivial⟩, hS.F ht⟩) hS.2.2 dX8_about_158
      · by_cases c236 : k = 3
        · subst c236
          have hl : lv_has ls 5 [(4, .int 16), (3, .int 0), (2, .int 0), (0, .ref mm), (1, .int 3)] := hl
          refine lv_tableIn (off := 102) (tgt := 159) hx hb dX8_about_57 (by decide) (by decide) (by decide) (by decide) ?_
          refine lv_iload_n hx hb dX8_about_159 rfl (lv_at hl 2 rfl) ?_
          refine W.widen (k := 0) (n := 0) (Nat.le_of_ble_eq_true rfl) (Nat.le_of_ble_eq_true rfl) ?_
          exact W.iret (v := 0) hx hb hr (fun t ht hW => ⟨⟨0, (), rfl, rfl, trivial⟩, hS.F ht⟩) hS.2.2 dX8_about_160
        · by_cases c237 : k = 4
          · subst c237
            have hl : lv_has ls 5 [(4, .int 16), (3, .int 0), (2, .int 0), (0, .ref mm), (1, .int 4)] := hl
            refine lv_tableIn (off := 104) (tgt := 161) hx hb dX8_about_57 (by decide) (by decide) (by decide) (by decide) ?_
            refine lv_iload_n hx hb dX8_about_161 rfl (lv_at hl 1 rfl) ?_
            refine W.widen (k := 0) (n := 0) (Nat.le_of_ble_eq_true rfl) (Nat.le_of_ble_eq_true rfl) ?_
            exact W.iret (v := 0) hx hb hr (fun t ht hW => ⟨⟨0, (), rfl, rfl, trivial⟩, hS.F ht⟩) hS.2.2 dX8_about_162
          · by_cases c238 : k = 5
            · subst c238
              have hl : lv_has ls 5 [(4, .int 16), (3, .int 0), (2, .int 0), (0, .ref mm), (1, .int 5)] := hl
              refine lv_tableIn (off := 106) (tgt := 163) hx hb dX8_about_57 (by decide) (by decide) (by decide) (by decide) ?_
              refine lv_aload_n hx hb dX8_about_163 rfl (lv_at hl 3 rfl) ?_
              refine va_get (D := (dC, dI)) (ci := 8) (v := .int 0) (C := RX8) (T := TX8) (N := 40) hx hb hts iX8_about_X8 hown hK hP 0 rfl rfl 36 (by decide) (hts (.fieldLink RX8 272 "LeafSignerModel" "written" "I") (List.mem_of_getElem? (i := 4) rfl)) (fun _ h9 => h9) rfl dX8_about_164 ?_
              refine W.widen (k := 0) (n := 0) (Nat.le_of_ble_eq_true rfl) (Nat.le_of_ble_eq_true rfl) ?_
              exact W.iret (v := 0) hx hb hr (fun t ht hW => ⟨⟨0, (), rfl, rfl, trivial⟩, hS.F ht⟩) hS.2.2 dX8_about_167
            · by_cases c239 : k = 6
              · subst c239
                have hl : lv_has ls 5 [(4, .int 16), (3, .int 0), (2, .int 0), (0, .ref mm), (1, .int 6)] := hl
                refine lv_tableIn (off := 111) (tgt := 168) hx hb dX8_about_57 (by decide) (by decide) (by decide) (by decide) ?_
                refine lv_aload_n hx hb dX8_about_168 rfl (lv_at hl 3 rfl) ?_
                refine va_get (D := (dC, dI)) (ci := 8) (v := .int (-1)) (C := RX8) (T := TX8) (N := 40) hx hb hts iX8_about_X8 hown hK hP 0 rfl rfl 35 (by decide) (hts (.fieldLink RX8 152 "LeafSignerModel" "fuse" "I") (List.mem_of_getElem? (i := 5) rfl)) (fun _ h9 => h9) rfl dX8_about_169 ?_
                refine W.widen (k := 0) (n := 0) (Nat.le_of_ble_eq_true rfl) (Nat.le_of_ble_eq_true rfl) ?_
                exact W.iret (v := (-1)) hx hb hr (fun t ht hW => ⟨⟨(-1), (), rfl, rfl, trivial⟩, hS.F ht⟩) hS.2.2 dX8_about_172
              · by_cases c240 : k = 7
                · subst c240
                  have hl : lv_has ls 5 [(4, .int 16), (3, .int 0), (2, .int 0), (0, .ref mm), (1, .int 7)] := hl
                  refine lv_tableIn (off := 116) (tgt := 173) hx hb dX8_about_57 (by decide) (by decide) (by decide) (by decide) ?_
                  refine lv_aload_n hx hb dX8_about_173 rfl (lv_at hl 3 rfl) ?_
                  refine va_get (D := (dC, dI)) (ci := 8) (v := .int 0) (C := RX8) (T := TX8) (N := 40) hx hb hts iX8_about_X8 hown hK hP 0 rfl rfl 28 (by decide) (hts (.fieldLink RX8 244 "LeafSignerModel" "taped" "I") (List.mem_of_getElem? (i := 6) rfl)) (fun _ h9 => h9) rfl dX8_about_174 ?_
                  refine W.widen (k := 0) (n := 0) (Nat.le_of_ble_eq_true rfl) (Nat.le_of_ble_eq_true rfl) ?_
                  exact W.iret (v := 0) hx hb hr (fun t ht hW => ⟨⟨0, (), rfl, rfl, trivial⟩, hS.F ht⟩) hS.2.2 dX8_about_177
                · by_cases c241 : k = 8
                  · subst c241
                    have hl : lv_has ls 5 [(4, .int 16), (3, .int 0), (2, .int 0), (0, .ref mm), (1, .int 8)] := hl
                    refine lv_tableIn (off := 121) (tgt := 178) hx hb dX8_about_57 (by decide) (by decide) (by decide) (by decide) ?_
                    refine lv_aload_n hx hb dX8_about_178 rfl (lv_at hl 3 rfl) ?_
                    refine va_get (D := (dC, dI)) (ci := 8) (v := .int 0) (C := RX8) (T := TX8) (N := 40) hx hb hts iX8_about_X8 hown hK hP 0 rfl rfl 29 (by decide) (hts (.fieldLink RX8 290 "LeafSignerModel" "outs" "I") (List.mem_of_getElem? (i := 7) rfl)) (fun _ h9 => h9) rfl dX8_about_179 ?_
                    refine W.widen (k := 0) (n := 0) (Nat.le_of_ble_eq_true rfl) (Nat.le_of_ble_eq_true rfl) ?_
                    exact W.iret (v := 0) hx hb hr (fun t ht hW => ⟨⟨0, (), rfl, rfl, trivial⟩, hS.F ht⟩) hS.2.2 dX8_about_182
                  · by_cases c242 : k = 9
                    · subst c242
                      have hl : lv_has ls 5 [(4, .int 16), (3, .int 0), (2, .int 0), (0, .ref mm), (1, .int 9)] := hl
                      refine lv_tableIn (off := 126) (tgt := 183) hx hb dX8_about_57 (by decide) (by decide) (by decide) (by decide) ?_
                      refine lv_aload_n hx hb dX8_about_183 rfl (lv_at hl 3 rfl) ?_
                      refine va_get (D := (dC, dI)) (ci := 8) (v := .int 0) (C := RX8) (T := TX8) (N := 40) hx hb hts iX8_about_X8 hown hK hP 0 rfl rfl 30 (by decide) (hts (.fieldLink RX8 300 "LeafSignerModel" "keeps" "I") (List.mem_of_getElem? (i := 8) rfl)) (fun _ h9 => h9) rfl dX8_about_184 ?_
                      refine W.widen (k := 0) (n := 0) (Nat.le_of_ble_eq_true rfl) (Nat.le_of_ble_eq_true rfl) ?_
                      exact W.iret (v := 0) hx hb hr (fun t ht hW => ⟨⟨0, (), rfl, rfl, trivial⟩, hS.F ht⟩) hS.2.2 dX8_about_187
                    · by_cases c243 : k = 10
                      · subst c243
                        have hl : lv_has ls 5 [(4, .int 16), (3, .int 0), (2, .int 0), (0, .ref mm), (1, .int 10)] := hl
                        refine lv_tableIn (off := 131) (tgt := 188) hx hb dX8_about_57 (by decide) (by decide) (by decide) (by decide) ?_
                        refine lv_aload_n hx hb dX8_about_188 rfl (lv_at hl 3 rfl) ?_
                        refine va_get (D := (dC, dI)) (ci := 8) (v := .int hi) (C := RX8) (T := TX8) (N := 40) hx hb hts iX8_about_X8 hown hK hP 0 rfl rfl 0 (by decide) (hts (.fieldLink RX8 170 "LeafSignerModel" "high" "I") (List.mem_of_getElem? (i := 9) rfl)) (fun _ h9 => h9) rfl dX8_about_189 ?_
                        refine W.widen (k := 0) (n := 0) (Nat.le_of_ble_eq_true rfl) (Nat.le_of_ble_eq_true rfl) ?_
                        exact W.iret (v := hi) hx hb hr (fun t ht hW => ⟨⟨hi, (), rfl, rfl, trivial⟩, hS.F ht⟩) hS.2.2 dX8_about_192
                      · by_cases c244 : k = 11
                        · subst c244
                          have hl : lv_has ls 5 [(4, .int 16), (3, .int 0), (2, .int 0), (0, .ref mm), (1, .int 11)] := hl
                          refine lv_tableIn (off := 136) (tgt := 193) hx hb dX8_about_57 (by decide) (by decide) (by decide) (by decide) ?_
                          refine lv_aload_n hx hb dX8_about_193 rfl (lv_at hl 3 rfl) ?_
                          refine va_get (D := (dC, dI)) (ci := 8) (v := .int ri) (C := RX8) (T := TX8) (N := 40) hx hb hts iX8_about_X8 hown hK hP 0 rfl rfl 1 (by decide) (hts (.fieldLink RX8 173 "LeafSignerModel" "reserve" "I") (List.mem_of_getElem? (i := 10) rfl)) (fun _ h9 => h9) rfl dX8_about_194 ?_
                          refine W.widen (k := 0) (n := 0) (Nat.le_of_ble_eq_true rfl) (Nat.le_of_ble_eq_true rfl) ?_
                          exact W.iret (v := ri) hx hb hr (fun t ht hW => ⟨⟨ri, (), rfl, rfl, trivial⟩, hS.F ht⟩) hS.2.2 dX8_about_197
                        · refine lv_tableOut (tgt := 198) hx hb dX8_about_57 (vx_out c231 c232 c234 c236 c237 c238 c239 c240 c241 c242 c243 c244) (by decide) ?_
                          refine lv_iconst (v := (-1)) hx hb dX8_about_198 (by decide) ?_
                          refine W.widen (k := 0) (n := 0) (Nat.le_of_ble_eq_true rfl) (Nat.le_of_ble_eq_true rfl) ?_
                          exact W.iret (v := (-1)) hx hb hr (fun t ht hW => ⟨⟨(-1), (), rfl, (by unfold fk_about; simp only [if_neg c231, if_neg c232, if_neg c234, if_neg c236, if_neg c237, if_neg c238, if_neg c239, if_neg c240, if_neg c241, if_neg c242, if_neg c243, if_neg c244]), trivial⟩, hS.F ht⟩) hS.2.2 dX8_about_199
