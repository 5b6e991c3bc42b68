def ww_X3_countOf : List Cond := .code yX3_countOf cX3_countOf 4 (some .int) :: ([.fieldLink RX3 7 "LeafSigner$Machine" "fates" "[I"] ++ (wsX30))
theorem iX3_countOf_X3 : ∀ w ∈ wsX30, w ∈ ww_X3_countOf := fun w h => List.mem_cons_of_mem _ (List.mem_append_right _ h)
set_option maxHeartbeats 4000000 in
set_option maxRecDepth 100000 in
/-- Machine.countOf's loop over a row of zeros, for what isn't 0 -/
theorem lp_count {p : Program} {l : Launch} {e : Env} {R : Room} {s : State} {m : MethodId} {args : Array Value} {below : List Frame} {meth : Method} {c : Code} {Q : State → Prop} {dC : Nat → ClassId} {dI : Nat → Nat → Nat} {h0 a : Nat} {cA : ClassId} {N : Nat} {v : Int32} {cells slots : Nat} {fs : List Value} {H : Heap} {locs : List Loc} (hx : p.tables.exec = Jvm.exec) (hb : c.code = cX3_countOf) (hts : ∀ w ∈ ww_X3_countOf, w.before args s = true) (hown : s.vm.findClass RX3 = some m.cls) (hK : va_K (dC, dI) classes [(cA, .int)] s) (hN : N < 2 ^ 31) (hv : ¬ (0 : Int32) = v)
    (hP : va_P (dC, dI) classes [(h0, .inr (3, .ref a :: fs)), (a, .inl (cA, N, .inl (fun _ => 0)))] H)
    (kend : ∀ (ls : Array Slot) (x : Int32), lv_has ls 4 [(3, .int x), (2, .int 0), (0, .ref h0), (1, .int v)] → W p l e R s m args below meth c H locs cells slots Q (F0 m 32 ls [])) :
    ∀ (n j : Nat) (x : Int32), j + n = N → x = nI j → ∀ (ls : Array Slot), lv_has ls 4 [(3, .int x), (2, .int 0), (0, .ref h0), (1, .int v)] → W p l e R s m args below meth c H locs cells slots Q (F0 m 4 ls []) := by
  intro n
  induction n with
  | zero =>
    intro j x hj ex ls hl
    refine lv_iload_n hx hb dX3_countOf_4 rfl (lv_at hl 0 rfl) ?_
    refine lv_aload_n hx hb dX3_countOf_5 rfl (lv_at hl 2 rfl) ?_
    refine va_get (D := (dC, dI)) (ci := 3) (v := .ref a) (C := RX3) (T := TX3) (N := 7) hx hb hts iX3_countOf_X3 hown hK hP 0 rfl rfl 0 (by decide) (hts (.fieldLink RX3 7 "LeafSigner$Machine" "fates" "[I") (List.mem_of_getElem? (i := 1) rfl)) (fun _ h9 => h9) rfl dX3_countOf_6 ?_
    refine va_alen (v := (Int32.ofNat N)) hx hb hK hP 1 0 rfl rfl rfl dX3_countOf_9 ?_
    refine lv_icmp_ge (tgt := 32) hx hb dX3_countOf_10 (by decide) (fun c1 => ?_) (fun c1 => absurd (by rw [ex]; exact nI_le (show N ≤ j by omega) (by omega)) c1)
    exact kend ls x hl
  | succ n ih =>
    intro j x hj ex ls hl
    refine lv_iload_n hx hb dX3_countOf_4 rfl (lv_at hl 0 rfl) ?_
    refine lv_aload_n hx hb dX3_countOf_5 rfl (lv_at hl 2 rfl) ?_
    refine va_get (D := (dC, dI)) (ci := 3) (v := .ref a) (C := RX3) (T := TX3) (N := 7) hx hb hts iX3_countOf_X3 hown hK hP 0 rfl rfl 0 (by decide) (hts (.fieldLink RX3 7 "LeafSigner$Machine" "fates" "[I") (List.mem_of_getElem? (i := 1) rfl)) (fun _ h9 => h9) rfl dX3_countOf_6 ?_
    refine va_alen (v := (Int32.ofNat N)) hx hb hK hP 1 0 rfl rfl rfl dX3_countOf_9 ?_
    refine lv_icmp_ge (tgt := 32) hx hb dX3_countOf_10 (by decide) (fun c1 => absurd c1 (by rw [ex]; exact nI_ge (show j < N by omega) hN)) (fun c1 => ?_)
    refine lv_aload_n hx hb dX3_countOf_13 rfl (lv_at hl 2 rfl) ?_
    refine va_get (D := (dC, dI)) (ci := 3) (v := .ref a) (C := RX3) (T := TX3) (N := 7) hx hb hts iX3_countOf_X3 hown hK hP 0 rfl rfl 0 (by decide) (hts (.fieldLink RX3 7 "LeafSigner$Machine" "fates" "[I") (List.mem_of_getElem? (i := 1) rfl)) (fun _ h9 => h9) rfl dX3_countOf_14 ?_
    refine lv_iload_n hx hb dX3_countOf_17 rfl (lv_at hl 0 rfl) ?_
    refine va_iald hx hb hK hP 1 0 rfl rfl (by rw [ex]; exact vp_in_nI (show j < N by omega) hN) dX3_countOf_18 ?_
    refine vx_topk 0 rfl ?_
    refine lv_iload_n hx hb dX3_countOf_19 rfl (lv_at hl 3 rfl) ?_
    refine lv_icmp_ne (tgt := 26) hx hb dX3_countOf_20 (by decide) (fun c2 => ?_) (fun c2 => absurd c2 hv)
    obtain ⟨x1, ex1⟩ : ∃ y : Int32, y = x + 1 := ⟨_, rfl⟩
    refine lv_iinc (v := x1) (lv' := [(3, .int x1), (2, .int 0), (0, .ref h0), (1, .int v)]) hx hb dX3_countOf_26 hl (k := 0) rfl (by rw [ex1]; rfl) (by decide) rfl (fun ls hl => ?_)
    refine lv_goto (tgt := 4) hx hb dX3_countOf_29 (by decide) ?_
    exact ih (j + 1) x1 (by omega) (by rw [ex1, ex]; exact nI_1 j) ls hl
set_option maxHeartbeats 4000000 in
set_option maxRecDepth 100000 in
theorem ct_countOf (l : Launch) (dC : Nat → ClassId) (dI : Nat → Nat → Nat) (sz : Nat) (xm : Nat) (k : Int32) (xf : Nat) (r : Int32) (xs : Nat) (cF : ClassId) (NF : Nat) (hN : NF < 2 ^ 31) (hv : ¬ (0 : Int32) = k) : Met l yX3_countOf ww_X3_countOf ({ frames := 0, cells := 0, slots := 0, locals := 0 }) (va_Pc [.ref xm, .int k] (fun U => U.heap.size = sz ∧ va_P (dC, dI) classes [(xm, .inr (3, [.ref xf, .int r, .ref xs, .int 0, .int 0, .int 0, .int 0])), (xf, .inl (cF, NF, .inl (fun _ => 0)))] U.heap ∧ va_K (dC, dI) classes [(cF, .int)] U ∧ va_D (fun _ => True) [(xm, .inr (3, [.ref xf, .int r, .ref xs, .int 0, .int 0, .int 0, .int 0])), (xf, .inl (cF, NF, .inl (fun _ => 0)))])) (va_Qi (fun (r : Int32) (_ : Unit) => r = 0) (fun (_ : Unit) (_ : State) => True) (va_A [(xm, .inr (3, [.ref xf, .int r, .ref xs, .int 0, .int 0, .int 0, .int 0])), (xf, .inl (cF, NF, .inl (fun _ => 0)))] sz)) 0 0 (va_A [(xm, .inr (3, [.ref xf, .int r, .ref xs, .int 0, .int 0, .int 0, .int 0])), (xf, .inl (cF, NF, .inl (fun _ => 0)))] sz) := by
  refine Met.ofW (cc := cX3_countOf) (maxL := 4) (ret := (some .int)) (by decide) rfl ?_
  intro p e s m args below meth c s₁ B hml hv
  obtain ⟨rfl, hsz, hP, hK, hD0⟩ := hv
  have hx := B.exec
  have hb := B.bytes
  have hr := B.returns
  have hts := atoms_spec (ws := ww_X3_countOf) B.pre
  have hown : s.vm.findClass RX3 = some m.cls := findClass_of_methodNamed B.named
  have hlocks := B.notSynchronized
  subst hsz
  have hD := hD0.self (sz := s.heap.size)
  generalize hAe : va_A [(xm, .inr (3, [.ref xf, .int r, .ref xs, .int 0, .int 0, .int 0, .int 0])), (xf, .inl (cF, NF, .inl (fun _ => 0)))] s.heap.size = A at hD ⊢
  have hA : ∀ q : Nat, s.heap.size ≤ q → A q := fun q h => by rw [← hAe]; exact Or.inr h
  have hS : va_S A s.heap s.heap [] := va_S.rf
  have hP : va_P (dC, dI) classes [(xm, .inr (3, [.ref xf, .int r, .ref xs, .int 0, .int 0, .int 0, .int 0])), (xf, .inl (cF, NF, .inl (fun _ => 0)))] s.heap := hP
  have hl := lv_entry ([.ref xm, .int k]) (n := 4) (Nat.le_of_ble_eq_true rfl)
  rw [lg_entry_eq]
  generalize (lg_sl ([.ref xm, .int k]) ++ List.replicate (4 - (lg_sl ([.ref xm, .int k])).length) Slot.unset).toArray = ls at hl ⊢
  have hl : lv_has ls 4 [(0, .ref xm), (1, .int k)] := hl
  generalize hHe : s.heap = H at hP ⊢
  have hS : va_S A s.heap H [] := by rw [← hHe]; exact va_S.rf
  refine lv_iconst (v := 0) hx hb dX3_countOf_0 (by decide) ?_
  refine lv_istore_n (lv' := [(2, .int 0), (0, .ref xm), (1, .int k)]) hx hb dX3_countOf_1 rfl hl (by decide) rfl (fun ls hl => ?_)
  refine lv_iconst (v := 0) hx hb dX3_countOf_2 (by decide) ?_
  refine lv_istore_n (lv' := [(3, .int 0), (2, .int 0), (0, .ref xm), (1, .int k)]) hx hb dX3_countOf_3 rfl hl (by decide) rfl (fun ls hl => ?_)
  refine lp_count (h0 := xm) (a := xf) (N := NF) hx hb hts hown hK hN hv hP (fun ls x hl => ?_) NF 0 0 (by omega) nI_0.symm ls hl
  refine lv_iload_n hx hb dX3_countOf_32 rfl (lv_at hl 1 rfl) ?_
  refine W.widen (k := 0) (n := 0) (Nat.le_of_ble_eq_true rfl) (Nat.le_of_ble_eq_true rfl) ?_
  exact W.iret (v := 0) hx hb hr (fun t ht hW => ⟨⟨0, (), rfl, rfl, trivial⟩, hS.F ht⟩) hS.2.2 dX3_countOf_33
