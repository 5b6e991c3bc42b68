set_option maxHeartbeats 8000000 in
set_option maxRecDepth 100000 in
theorem whole_start {p : Program} {e : Env} {s : State} {m : MethodId} {below : List Frame} {meth : Method} {c : Code} (l : Launch) {b L : Nat} {sx : Nat → Int32} (hL : L ≤ 8) (C0 : lw_At p s m meth c b L sx) : W p l e room_1 s m #[Value.ref b] below meth c s.heap [] 0 0 (lw_Z below #[Value.ref b] s) (entryFrame m ([Value.ref b] : List Value).toArray 4) := by
  obtain ⟨hx, hb, hr, hml, hown, hts0, hX, hbl, hlocks, hgv⟩ := id C0
  obtain ⟨A, hAe⟩ : ∃ A : Nat → Prop, A = fun q => s.heap.size ≤ q := ⟨_, rfl⟩
  have hA : ∀ q : Nat, s.heap.size ≤ q → A q := fun q h => by rw [hAe]; exact h
  have hAf : ∀ q : Nat, A q → s.heap.size ≤ q := fun q h => by rw [hAe] at h; exact h
  have hbA : ¬ A b := fun h => absurd (hAf b h) (Nat.not_le.mpr hbl)
  have hown : s.vm.findClass RL = some m.cls := hown
  have hb : c.code = cL_law := hb
  have hts : ∀ w ∈ ww_L_law, w.before #[Value.ref b] s = true := fun w h => hts0 w (ww_law_in w h)
  obtain ⟨k0, j0, hKn0⟩ := u_known (C := RX0) (T := TX0) (N := 2) (n := 2) hts iL_law_X0 (hts (.instantiable RX0 2) (List.mem_of_getElem? (i := 22) rfl))
  obtain ⟨k1, j1, hKn1⟩ := u_known (C := RX1) (T := TX1) (N := 3) (n := 3) hts iL_law_X1 (hts (.instantiable RX1 3) (List.mem_of_getElem? (i := 35) rfl))
  obtain ⟨k2, j2, hKn2⟩ := u_known (C := RX2) (T := TX2) (N := 6) (n := 6) hts iL_law_X2 (hts (.instantiable RX2 6) (List.mem_of_getElem? (i := 78) rfl))
  obtain ⟨k3, j3, hKn3⟩ := u_known (C := RX3) (T := TX3) (N := 7) (n := 7) hts iL_law_X3 (hts (.instantiable RX3 7) (List.mem_of_getElem? (i := 52) rfl))
  obtain ⟨k4, j4, hKn4⟩ := u_known (C := RX4) (T := TX4) (N := 5) (n := 5) hts iL_law_X4 (hts (.instantiable RX4 5) (List.mem_of_getElem? (i := 101) rfl))
  obtain ⟨k5, j5, hKn5⟩ := u_known (C := RX5) (T := TX5) (N := 2) (n := 2) hts iL_law_X5 (hts (.instantiable RX5 2) (List.mem_of_getElem? (i := 83) rfl))
  obtain ⟨k6, j6, hKn6⟩ := u_known (C := RX6) (T := TX6) (N := 11) (n := 11) hts iL_law_X6 (hts (.instantiable RX6 11) (List.mem_of_getElem? (i := 67) rfl))
  obtain ⟨k7, j7, hKn7⟩ := u_known (C := RX7) (T := TX7) (N := 8) (n := 8) hts iL_law_X7 (hts (.instantiable RX7 8) (List.mem_of_getElem? (i := 2) rfl))
  obtain ⟨k8, j8, hKn8⟩ := u_known (C := RX8) (T := TX8) (N := 40) (n := 40) hts iL_law_X8 (hts (.instantiable RX8 40) (List.mem_of_getElem? (i := 129) rfl))
  obtain ⟨dC, dI, hKc⟩ : ∃ (dC : Nat → ClassId) (dI : Nat → Nat → Nat), ∀ (k : Nat) (q : vw_C), classes[k]? = some q → u_Kn s q.1 q.2.1 q.2.2 (dC k) (dI k) := by
    refine ⟨fun k => if k = 0 then k0 else if k = 1 then k1 else if k = 2 then k2 else if k = 3 then k3 else if k = 4 then k4 else if k = 5 then k5 else if k = 6 then k6 else if k = 7 then k7 else k8, fun k => if k = 0 then j0 else if k = 1 then j1 else if k = 2 then j2 else if k = 3 then j3 else if k = 4 then j4 else if k = 5 then j5 else if k = 6 then j6 else if k = 7 then j7 else j8, ?_⟩
    intro k q hq
    match k, hq with
    | 0, hq => cases hq; exact hKn0
    | 1, hq => cases hq; exact hKn1
    | 2, hq => cases hq; exact hKn2
    | 3, hq => cases hq; exact hKn3
    | 4, hq => cases hq; exact hKn4
    | 5, hq => cases hq; exact hKn5
    | 6, hq => cases hq; exact hKn6
    | 7, hq => cases hq; exact hKn7
    | 8, hq => cases hq; exact hKn8
    | k + 9, hq => simp [classes] at hq
  have hK : va_K (dC, dI) classes [] s := ⟨hKc, fun k q h => by simp at h⟩
  have hP : va_P (dC, dI) classes [] s.heap := fun k q h => by simp at h
  have hD : va_D A [] := ⟨fun i j p q h => by simp at h, fun k q h => by simp at h⟩
  have hl := lv_entry ([.ref b]) (n := 4) (Nat.le_of_ble_eq_true rfl)
  rw [lg_entry_eq]
  generalize (lg_sl ([.ref b]) ++ List.replicate (4 - (lg_sl ([.ref b])).length) Slot.unset).toArray = ls at hl ⊢
  have hl : lv_has ls 4 [(0, .ref b)] := hl
  have hNN := (vx_n (vx_h4 (lw_cell L sx 0))).2
  have hNF : ch_L (ch_h (lw_cell L sx 0)) < 2 ^ 31 := Nat.lt_of_le_of_lt (vx_L (vx_h4 (lw_cell L sx 0))).2 (by decide)
  have hH : ∃ H, H = s.heap := ⟨_, rfl⟩
  obtain ⟨H, hHe⟩ := hH
  have hS : va_S A s.heap H [] := by rw [hHe]; exact va_S.rf
  rw [← hHe] at hP
  have hW0 : W p l e room_1 s m #[Value.ref b] below meth c H [] 0 0 (lw_Z below #[Value.ref b] s) (F0 m 0 ls []) := by
    refine va_new (ci := 7) (fs := [.int 0, .int 0, .null, .null, .null, .null, .null, .null]) (C := RX7) (T := TX7) (N := 8) hx hb hts iL_law_X7 tyX7 tyX7_ok hown (hts (.classLink RL 7 RX7) (List.mem_of_getElem? (i := 1) rfl)) (hts (.instantiable RX7 8) (List.mem_of_getElem? (i := 2) rfl)) (hts (.initialized RX7) (List.mem_of_getElem? (i := 3) rfl)) hK hP hD hS hA rfl (by decide) (Nat.le_of_ble_eq_true rfl) (Nat.le_of_ble_eq_true rfl) dL_law_0 (fun q372 H hP hD hS => ?_)
    have hP : va_P (dC, dI) classes [(q372, .inr (7, [.int 0, .int 0, .null, .null, .null, .null, .null, .null]))] H := hP
    have hD : va_D A [(q372, .inr (7, [.int 0, .int 0, .null, .null, .null, .null, .null, .null]))] := hD
    refine W.widen (k := 1) (n := 8) (Nat.le_of_ble_eq_true rfl) (Nat.le_of_ble_eq_true rfl) ?_
    refine lv_dup hx hb dL_law_3 rfl ?_
    refine lv_aload_n hx hb dL_law_4 rfl (lv_at hl 0 rfl) ?_
    refine lv_iconst (v := 0) hx hb dL_law_5 (by decide) ?_
    have hPc := hP.sub (ws' := []) [] rfl
    have hDc := hD.sub (ws' := []) [] (by decide) rfl
    have hKc := hK.sub (tys' := []) [] rfl
    have hFc := va_free (wc := []) hD hS hA [] rfl
    refine va_calli (va_runS (As := [.ref b, .int 0]) (rest := [.ref q372, .ref q372]) ⟨hx, hb, hml, hown, hts⟩ (ct_cell l dC dI H.size b 0 L sx (by decide) hL) (va_cwS 2 hts gL_law_L_cell_9 rfl rfl rfl (by decide +kernel) ⟨(Nat.le_of_ble_eq_true rfl), (Nat.le_of_ble_eq_true rfl)⟩) ⟨fun a U g mk q => by obtain ⟨q0, q1, qP, qK, qD, qX, qb⟩ := q; exact ⟨q0, q1, qP, va_K.moved (u := U) (U := U.calling g mk a) (Vm.Alike.refl U.vm) qK, qD, va_X.moved (u := U) (U := U.calling g mk a) (Vm.Alike.refl U.vm) qX, qb⟩, fun U hU hW => ⟨rfl, by rw [hU], by rw [hU]; exact hPc, va_K.moved hW.alike hKc, hDc.weaken (fun _ _ _ _ => trivial), va_X.moved hW.alike (by rw [hU]; exact hX.kept (hS.2.1 b hbl hbA)), by rw [hU]; exact Nat.lt_of_lt_of_le hbl hS.1⟩⟩ rfl rfl hl.1 rfl (lv_room (Nat.le_of_ble_eq_true rfl)) dL_law_6 ⟨(Nat.le_of_ble_eq_true rfl), (Nat.le_of_ble_eq_true rfl)⟩) hS (fun q _ h => hFc q h) hFc (fun r373 u t H1 locs ht hvm hw hB hz1 hk1 hS => ?_)
    have hP1 : va_P (dC, dI) classes [] H1 := vx_P0
    have hD1 : va_D (va_A [] H.size) [] := vx_D0
    obtain ⟨hP, hD⟩ := va_join (wr := [(q372, .inr (7, [.int 0, .int 0, .null, .null, .null, .null, .null, .null]))]) (w1 := []) hP hD [] [0] rfl rfl (by decide) (by decide) hk1 hFc hP1 hD1
    have hK := hK.sub (tys' := []) [] rfl
    generalize H1 = H at hP hS ⊢
    have hP : va_P (dC, dI) classes [(q372, .inr (7, [.int 0, .int 0, .null, .null, .null, .null, .null, .null]))] H := hP
    have hD : va_D A [(q372, .inr (7, [.int 0, .int 0, .null, .null, .null, .null, .null, .null]))] := hD
    have hK : va_K (dC, dI) classes [] s := hK
    refine W.widen (k := 1) (n := 8) (Nat.le_of_ble_eq_true rfl) (Nat.le_of_ble_eq_true rfl) ?_
    try dsimp only at hw
    subst hw
    refine lv_aload_n hx hb dL_law_9 rfl (lv_at hl 0 rfl) ?_
    refine lv_iconst (v := 1) hx hb dL_law_10 (by decide) ?_
    have hPc := hP.sub (ws' := []) [] rfl
    have hDc := hD.sub (ws' := []) [] (by decide) rfl
    have hKc := hK.sub (tys' := []) [] rfl
    have hFc := va_free (wc := []) hD hS hA [] rfl
    refine va_calli (va_runS (As := [.ref b, .int 1]) (rest := [.int (lw_cell L sx 0), .ref q372, .ref q372]) ⟨hx, hb, hml, hown, hts⟩ (ct_cell l dC dI H.size b 1 L sx (by decide) hL) (va_cwS 2 hts gL_law_L_cell_9 rfl rfl rfl (by decide +kernel) ⟨(Nat.le_of_ble_eq_true rfl), (Nat.le_of_ble_eq_true rfl)⟩) ⟨fun a U g mk q => by obtain ⟨q0, q1, qP, qK, qD, qX, qb⟩ := q; exact ⟨q0, q1, qP, va_K.moved (u := U) (U := U.calling g mk a) (Vm.Alike.refl U.vm) qK, qD, va_X.moved (u := U) (U := U.calling g mk a) (Vm.Alike.refl U.vm) qX, qb⟩, fun U hU hW => ⟨rfl, by rw [hU], by rw [hU]; exact hPc, va_K.moved hW.alike hKc, hDc.weaken (fun _ _ _ _ => trivial), va_X.moved hW.alike (by rw [hU]; exact hX.kept (hS.2.1 b hbl hbA)), by rw [hU]; exact Nat.lt_of_lt_of_le hbl hS.1⟩⟩ rfl rfl hl.1 rfl (lv_room (Nat.le_of_ble_eq_true rfl)) dL_law_11 ⟨(Nat.le_of_ble_eq_true rfl), (Nat.le_of_ble_eq_true rfl)⟩) hS (fun q _ h => hFc q h) hFc (fun r374 u t H1 locs ht hvm hw hB hz1 hk1 hS => ?_)
    have hP1 : va_P (dC, dI) classes [] H1 := vx_P0
    have hD1 : va_D (va_A [] H.size) [] := vx_D0
    obtain ⟨hP, hD⟩ := va_join (wr := [(q372, .inr (7, [.int 0, .int 0, .null, .null, .null, .null, .null, .null]))]) (w1 := []) hP hD [] [0] rfl rfl (by decide) (by decide) hk1 hFc hP1 hD1
    have hK := hK.sub (tys' := []) [] rfl
    generalize H1 = H at hP hS ⊢
    have hP : va_P (dC, dI) classes [(q372, .inr (7, [.int 0, .int 0, .null, .null, .null, .null, .null, .null]))] H := hP
    have hD : va_D A [(q372, .inr (7, [.int 0, .int 0, .null, .null, .null, .null, .null, .null]))] := hD
    have hK : va_K (dC, dI) classes [] s := hK
    refine W.widen (k := 1) (n := 8) (Nat.le_of_ble_eq_true rfl) (Nat.le_of_ble_eq_true rfl) ?_
    try dsimp only at hw
    subst hw
    have hPc := hP.sub (ws' := [(q372, .inr (7, [.int 0, .int 0, .null, .null, .null, .null, .null, .null]))]) [0] rfl
    have hDc := hD.sub (ws' := [(q372, .inr (7, [.int 0, .int 0, .null, .null, .null, .null, .null, .null]))]) [0] (by decide) rfl
    have hKc := hK.sub (tys' := []) [] rfl
    have hFc := va_free (wc := [(q372, .inr (7, [.int 0, .int 0, .null, .null, .null, .null, .null, .null]))]) hD hS hA [0] rfl
    refine va_callv (va_runI (As := [.int (lw_cell L sx 0), .int (lw_cell L sx 1)]) (rest := [.ref q372]) ⟨hx, hb, hml, hown, hts⟩ (ct_Signer l dC dI H.size q372 (lw_cell L sx 0) (lw_cell L sx 1)) (cwI 2 hts gL_law_X7_init_15 rfl rfl rfl (hts (.initialized RX7) (List.mem_of_getElem? (i := 3) rfl)) (hts (.methodLink RL 15 yX7_init) (List.mem_of_getElem? (i := 126) rfl)) (hts (.instanceMethod yX7_init) (List.mem_of_getElem? (i := 127) rfl)) rfl (by decide +kernel) ⟨(Nat.le_of_ble_eq_true rfl), (Nat.le_of_ble_eq_true rfl)⟩) ⟨fun a U g mk q => by obtain ⟨q0, q1, qP, qK, qD⟩ := q; exact ⟨q0, q1, qP, va_K.moved (u := U) (U := U.calling g mk a) (Vm.Alike.refl U.vm) qK, qD⟩, fun U hU hW => ⟨rfl, by rw [hU], by rw [hU]; exact hPc, va_K.moved hW.alike hKc, hDc.weaken (fun _ _ _ _ => trivial)⟩⟩ rfl rfl hl.1 rfl (lv_room (Nat.le_of_ble_eq_true rfl)) dL_law_14 ⟨(Nat.le_of_ble_eq_true rfl), (Nat.le_of_ble_eq_true rfl)⟩) hS (fun q _ h => hFc q h) hFc (fun u t H1 locs ht hvm hw hB hz1 hk1 hS => ?_)
    obtain ⟨xt_376, xo_377, xh_378, xs_379, xm_380, xq_381, xtw_382, xow_383, xhw_384, xb_385, xbw_386, xf_387, cT_388, cO_389, cH_390, cB_391, cF_392, hP1, hK1, hD1⟩ := hB
    rw [ht] at hP1
    have hK1 := va_K.moved hvm.symm hK1
    obtain ⟨hP, hD⟩ := va_join (wr := []) (w1 := [(q372, .inr (7, [.int (ch_h (lw_cell L sx 0)), .int (ch_r (lw_cell L sx 1)), .ref xt_376, .ref xo_377, .ref xh_378, .ref xs_379, .ref xm_380, .ref xq_381])), (xt_376, .inr (0, [.ref xtw_382, .int 0])), (xtw_382, .inl (cT_388, 50, .inl (fun _ => 0))), (xo_377, .inr (0, [.ref xow_383, .int 0])), (xow_383, .inl (cO_389, (ch_N (ch_h (lw_cell L sx 0))), .inl (fun _ => 0))), (xh_378, .inr (0, [.ref xhw_384, .int 0])), (xhw_384, .inl (cH_390, (ch_N (ch_h (lw_cell L sx 0))), .inl (fun _ => 0))), (xs_379, .inr (1, [.ref xb_385, .int 0, .int (-1)])), (xb_385, .inr (0, [.ref xbw_386, .int 24])), (xbw_386, .inl (cB_391, 6, .inl (fun _ => 0))), (xm_380, .inr (3, [.ref xf_387, .int (ch_r (lw_cell L sx 1)), .ref xs_379, .int 0, .int 0, .int 0, .int 0])), (xf_387, .inl (cF_392, (ch_L (ch_h (lw_cell L sx 0))), .inl (fun _ => 0)))]) hP hD [0] [] rfl rfl (by decide) (by decide) hk1 hFc hP1 hD1
    have hK := hK.sub (tys' := []) [] rfl
    have hK := hK.app hK1
    generalize H1 = H at hP hS ⊢
    have hP : va_P (dC, dI) classes [(q372, .inr (7, [.int (ch_h (lw_cell L sx 0)), .int (ch_r (lw_cell L sx 1)), .ref xt_376, .ref xo_377, .ref xh_378, .ref xs_379, .ref xm_380, .ref xq_381])), (xt_376, .inr (0, [.ref xtw_382, .int 0])), (xtw_382, .inl (cT_388, 50, .inl (fun _ => 0))), (xo_377, .inr (0, [.ref xow_383, .int 0])), (xow_383, .inl (cO_389, (ch_N (ch_h (lw_cell L sx 0))), .inl (fun _ => 0))), (xh_378, .inr (0, [.ref xhw_384, .int 0])), (xhw_384, .inl (cH_390, (ch_N (ch_h (lw_cell L sx 0))), .inl (fun _ => 0))), (xs_379, .inr (1, [.ref xb_385, .int 0, .int (-1)])), (xb_385, .inr (0, [.ref xbw_386, .int 24])), (xbw_386, .inl (cB_391, 6, .inl (fun _ => 0))), (xm_380, .inr (3, [.ref xf_387, .int (ch_r (lw_cell L sx 1)), .ref xs_379, .int 0, .int 0, .int 0, .int 0])), (xf_387, .inl (cF_392, (ch_L (ch_h (lw_cell L sx 0))), .inl (fun _ => 0)))] H := hP
    have hD : va_D A [(q372, .inr (7, [.int (ch_h (lw_cell L sx 0)), .int (ch_r (lw_cell L sx 1)), .ref xt_376, .ref xo_377, .ref xh_378, .ref xs_379, .ref xm_380, .ref xq_381])), (xt_376, .inr (0, [.ref xtw_382, .int 0])), (xtw_382, .inl (cT_388, 50, .inl (fun _ => 0))), (xo_377, .inr (0, [.ref xow_383, .int 0])), (xow_383, .inl (cO_389, (ch_N (ch_h (lw_cell L sx 0))), .inl (fun _ => 0))), (xh_378, .inr (0, [.ref xhw_384, .int 0])), (xhw_384, .inl (cH_390, (ch_N (ch_h (lw_cell L sx 0))), .inl (fun _ => 0))), (xs_379, .inr (1, [.ref xb_385, .int 0, .int (-1)])), (xb_385, .inr (0, [.ref xbw_386, .int 24])), (xbw_386, .inl (cB_391, 6, .inl (fun _ => 0))), (xm_380, .inr (3, [.ref xf_387, .int (ch_r (lw_cell L sx 1)), .ref xs_379, .int 0, .int 0, .int 0, .int 0])), (xf_387, .inl (cF_392, (ch_L (ch_h (lw_cell L sx 0))), .inl (fun _ => 0)))] := hD
    have hK : va_K (dC, dI) classes [(cT_388, .int), (cO_389, .int), (cH_390, .int), (cB_391, .int), (cF_392, .int)] s := hK
    refine W.widen (k := 34) (n := 2431) (Nat.le_of_ble_eq_true rfl) (Nat.le_of_ble_eq_true rfl) ?_
    refine lv_astore_n (lv' := [(1, .ref q372), (0, .ref b)]) hx hb dL_law_17 rfl hl (by decide) rfl (fun ls hl => ?_)
    refine va_new (ci := 8) (fs := [.int 0, .int 0, .int 0, .null, .null, .null, .null, .null, .null, .int 0, .null, .null, .null, .null, .null, .null, .null, .null, .null, .null, .null, .null, .int 0, .null, .null, .null, .null, .null, .int 0, .int 0, .int 0, .int 0, .int 0, .int 0, .int 0, .int 0, .int 0, .null, .null, .null]) (C := RX8) (T := TX8) (N := 40) hx hb hts iL_law_X8 tyX8 tyX8_ok hown (hts (.classLink RL 18 RX8) (List.mem_of_getElem? (i := 128) rfl)) (hts (.instantiable RX8 40) (List.mem_of_getElem? (i := 129) rfl)) (hts (.initialized RX8) (List.mem_of_getElem? (i := 130) rfl)) hK hP hD hS hA rfl (by decide) (Nat.le_of_ble_eq_true rfl) (Nat.le_of_ble_eq_true rfl) dL_law_18 (fun q393 H hP hD hS => ?_)
    have hP : va_P (dC, dI) classes [(q372, .inr (7, [.int (ch_h (lw_cell L sx 0)), .int (ch_r (lw_cell L sx 1)), .ref xt_376, .ref xo_377, .ref xh_378, .ref xs_379, .ref xm_380, .ref xq_381])), (xt_376, .inr (0, [.ref xtw_382, .int 0])), (xtw_382, .inl (cT_388, 50, .inl (fun _ => 0))), (xo_377, .inr (0, [.ref xow_383, .int 0])), (xow_383, .inl (cO_389, (ch_N (ch_h (lw_cell L sx 0))), .inl (fun _ => 0))), (xh_378, .inr (0, [.ref xhw_384, .int 0])), (xhw_384, .inl (cH_390, (ch_N (ch_h (lw_cell L sx 0))), .inl (fun _ => 0))), (xs_379, .inr (1, [.ref xb_385, .int 0, .int (-1)])), (xb_385, .inr (0, [.ref xbw_386, .int 24])), (xbw_386, .inl (cB_391, 6, .inl (fun _ => 0))), (xm_380, .inr (3, [.ref xf_387, .int (ch_r (lw_cell L sx 1)), .ref xs_379, .int 0, .int 0, .int 0, .int 0])), (xf_387, .inl (cF_392, (ch_L (ch_h (lw_cell L sx 0))), .inl (fun _ => 0))), (q393, .inr (8, [.int 0, .int 0, .int 0, .null, .null, .null, .null, .null, .null, .int 0, .null, .null, .null, .null, .null, .null, .null, .null, .null, .null, .null, .null, .int 0, .null, .null, .null, .null, .null, .int 0, .int 0, .int 0, .int 0, .int 0, .int 0, .int 0, .int 0, .int 0, .null, .null, .null]))] H := hP
    have hD : va_D A [(q372, .inr (7, [.int (ch_h (lw_cell L sx 0)), .int (ch_r (lw_cell L sx 1)), .ref xt_376, .ref xo_377, .ref xh_378, .ref xs_379, .ref xm_380, .ref xq_381])), (xt_376, .inr (0, [.ref xtw_382, .int 0])), (xtw_382, .inl (cT_388, 50, .inl (fun _ => 0))), (xo_377, .inr (0, [.ref xow_383, .int 0])), (xow_383, .inl (cO_389, (ch_N (ch_h (lw_cell L sx 0))), .inl (fun _ => 0))), (xh_378, .inr (0, [.ref xhw_384, .int 0])), (xhw_384, .inl (cH_390, (ch_N (ch_h (lw_cell L sx 0))), .inl (fun _ => 0))), (xs_379, .inr (1, [.ref xb_385, .int 0, .int (-1)])), (xb_385, .inr (0, [.ref xbw_386, .int 24])), (xbw_386, .inl (cB_391, 6, .inl (fun _ => 0))), (xm_380, .inr (3, [.ref xf_387, .int (ch_r (lw_cell L sx 1)), .ref xs_379, .int 0, .int 0, .int 0, .int 0])), (xf_387, .inl (cF_392, (ch_L (ch_h (lw_cell L sx 0))), .inl (fun _ => 0))), (q393, .inr (8, [.int 0, .int 0, .int 0, .null, .null, .null, .null, .null, .null, .int 0, .null, .null, .null, .null, .null, .null, .null, .null, .null, .null, .null, .null, .int 0, .null, .null, .null, .null, .null, .int 0, .int 0, .int 0, .int 0, .int 0, .int 0, .int 0, .int 0, .int 0, .null, .null, .null]))] := hD
    refine W.widen (k := 35) (n := 2471) (Nat.le_of_ble_eq_true rfl) (Nat.le_of_ble_eq_true rfl) ?_
    refine lv_dup hx hb dL_law_21 rfl ?_
    refine lv_aload_n hx hb dL_law_22 rfl (lv_at hl 1 rfl) ?_
    refine lv_iconst (v := 0) hx hb dL_law_23 (by decide) ?_
    have hPc := hP.sub (ws' := []) [] rfl
    have hDc := hD.sub (ws' := []) [] (by decide) rfl
    have hKc := hK.sub (tys' := []) [] rfl
    have hFc := va_free (wc := []) hD hS hA [] rfl
    refine va_calli (va_runS (As := [.ref b, .int 0]) (rest := [.ref q393, .ref q393]) ⟨hx, hb, hml, hown, hts⟩ (ct_cell l dC dI H.size b 0 L sx (by decide) hL) (va_cwS 2 hts gL_law_L_cell_9 rfl rfl rfl (by decide +kernel) ⟨(Nat.le_of_ble_eq_true rfl), (Nat.le_of_ble_eq_true rfl)⟩) ⟨fun a U g mk q => by obtain ⟨q0, q1, qP, qK, qD, qX, qb⟩ := q; exact ⟨q0, q1, qP, va_K.moved (u := U) (U := U.calling g mk a) (Vm.Alike.refl U.vm) qK, qD, va_X.moved (u := U) (U := U.calling g mk a) (Vm.Alike.refl U.vm) qX, qb⟩, fun U hU hW => ⟨rfl, by rw [hU], by rw [hU]; exact hPc, va_K.moved hW.alike hKc, hDc.weaken (fun _ _ _ _ => trivial), va_X.moved hW.alike (by rw [hU]; exact hX.kept (hS.2.1 b hbl hbA)), by rw [hU]; exact Nat.lt_of_lt_of_le hbl hS.1⟩⟩ rfl rfl hl.1 rfl (lv_room (Nat.le_of_ble_eq_true rfl)) dL_law_24 ⟨(Nat.le_of_ble_eq_true rfl), (Nat.le_of_ble_eq_true rfl)⟩) hS (fun q _ h => hFc q h) hFc (fun r394 u t H1 locs ht hvm hw hB hz1 hk1 hS => ?_)
    have hP1 : va_P (dC, dI) classes [] H1 := vx_P0
    have hD1 : va_D (va_A [] H.size) [] := vx_D0
    obtain ⟨hP, hD⟩ := va_join (wr := [(q372, .inr (7, [.int (ch_h (lw_cell L sx 0)), .int (ch_r (lw_cell L sx 1)), .ref xt_376, .ref xo_377, .ref xh_378, .ref xs_379, .ref xm_380, .ref xq_381])), (xt_376, .inr (0, [.ref xtw_382, .int 0])), (xtw_382, .inl (cT_388, 50, .inl (fun _ => 0))), (xo_377, .inr (0, [.ref xow_383, .int 0])), (xow_383, .inl (cO_389, (ch_N (ch_h (lw_cell L sx 0))), .inl (fun _ => 0))), (xh_378, .inr (0, [.ref xhw_384, .int 0])), (xhw_384, .inl (cH_390, (ch_N (ch_h (lw_cell L sx 0))), .inl (fun _ => 0))), (xs_379, .inr (1, [.ref xb_385, .int 0, .int (-1)])), (xb_385, .inr (0, [.ref xbw_386, .int 24])), (xbw_386, .inl (cB_391, 6, .inl (fun _ => 0))), (xm_380, .inr (3, [.ref xf_387, .int (ch_r (lw_cell L sx 1)), .ref xs_379, .int 0, .int 0, .int 0, .int 0])), (xf_387, .inl (cF_392, (ch_L (ch_h (lw_cell L sx 0))), .inl (fun _ => 0))), (q393, .inr (8, [.int 0, .int 0, .int 0, .null, .null, .null, .null, .null, .null, .int 0, .null, .null, .null, .null, .null, .null, .null, .null, .null, .null, .null, .null, .int 0, .null, .null, .null, .null, .null, .int 0, .int 0, .int 0, .int 0, .int 0, .int 0, .int 0, .int 0, .int 0, .null, .null, .null]))]) (w1 := []) hP hD [] [0, 1, 2, 3, 4, 5, 6, 7, 8, 9, 10, 11, 12] rfl rfl (by decide) (by decide) hk1 hFc hP1 hD1
    have hK := hK.sub (tys' := [(cT_388, .int), (cO_389, .int), (cH_390, .int), (cB_391, .int), (cF_392, .int)]) [0, 1, 2, 3, 4] rfl
    generalize H1 = H at hP hS ⊢
    have hP : va_P (dC, dI) classes [(q372, .inr (7, [.int (ch_h (lw_cell L sx 0)), .int (ch_r (lw_cell L sx 1)), .ref xt_376, .ref xo_377, .ref xh_378, .ref xs_379, .ref xm_380, .ref xq_381])), (xt_376, .inr (0, [.ref xtw_382, .int 0])), (xtw_382, .inl (cT_388, 50, .inl (fun _ => 0))), (xo_377, .inr (0, [.ref xow_383, .int 0])), (xow_383, .inl (cO_389, (ch_N (ch_h (lw_cell L sx 0))), .inl (fun _ => 0))), (xh_378, .inr (0, [.ref xhw_384, .int 0])), (xhw_384, .inl (cH_390, (ch_N (ch_h (lw_cell L sx 0))), .inl (fun _ => 0))), (xs_379, .inr (1, [.ref xb_385, .int 0, .int (-1)])), (xb_385, .inr (0, [.ref xbw_386, .int 24])), (xbw_386, .inl (cB_391, 6, .inl (fun _ => 0))), (xm_380, .inr (3, [.ref xf_387, .int (ch_r (lw_cell L sx 1)), .ref xs_379, .int 0, .int 0, .int 0, .int 0])), (xf_387, .inl (cF_392, (ch_L (ch_h (lw_cell L sx 0))), .inl (fun _ => 0))), (q393, .inr (8, [.int 0, .int 0, .int 0, .null, .null, .null, .null, .null, .null, .int 0, .null, .null, .null, .null, .null, .null, .null, .null, .null, .null, .null, .null, .int 0, .null, .null, .null, .null, .null, .int 0, .int 0, .int 0, .int 0, .int 0, .int 0, .int 0, .int 0, .int 0, .null, .null, .null]))] H := hP
    have hD : va_D A [(q372, .inr (7, [.int (ch_h (lw_cell L sx 0)), .int (ch_r (lw_cell L sx 1)), .ref xt_376, .ref xo_377, .ref xh_378, .ref xs_379, .ref xm_380, .ref xq_381])), (xt_376, .inr (0, [.ref xtw_382, .int 0])), (xtw_382, .inl (cT_388, 50, .inl (fun _ => 0))), (xo_377, .inr (0, [.ref xow_383, .int 0])), (xow_383, .inl (cO_389, (ch_N (ch_h (lw_cell L sx 0))), .inl (fun _ => 0))), (xh_378, .inr (0, [.ref xhw_384, .int 0])), (xhw_384, .inl (cH_390, (ch_N (ch_h (lw_cell L sx 0))), .inl (fun _ => 0))), (xs_379, .inr (1, [.ref xb_385, .int 0, .int (-1)])), (xb_385, .inr (0, [.ref xbw_386, .int 24])), (xbw_386, .inl (cB_391, 6, .inl (fun _ => 0))), (xm_380, .inr (3, [.ref xf_387, .int (ch_r (lw_cell L sx 1)), .ref xs_379, .int 0, .int 0, .int 0, .int 0])), (xf_387, .inl (cF_392, (ch_L (ch_h (lw_cell L sx 0))), .inl (fun _ => 0))), (q393, .inr (8, [.int 0, .int 0, .int 0, .null, .null, .null, .null, .null, .null, .int 0, .null, .null, .null, .null, .null, .null, .null, .null, .null, .null, .null, .null, .int 0, .null, .null, .null, .null, .null, .int 0, .int 0, .int 0, .int 0, .int 0, .int 0, .int 0, .int 0, .int 0, .null, .null, .null]))] := hD
    have hK : va_K (dC, dI) classes [(cT_388, .int), (cO_389, .int), (cH_390, .int), (cB_391, .int), (cF_392, .int)] s := hK
    refine W.widen (k := 35) (n := 2471) (Nat.le_of_ble_eq_true rfl) (Nat.le_of_ble_eq_true rfl) ?_
    try dsimp only at hw
    subst hw
    refine lv_aload_n hx hb dL_law_27 rfl (lv_at hl 1 rfl) ?_
    refine lv_iconst (v := 1) hx hb dL_law_28 (by decide) ?_
    have hPc := hP.sub (ws' := []) [] rfl
    have hDc := hD.sub (ws' := []) [] (by decide) rfl
    have hKc := hK.sub (tys' := []) [] rfl
    have hFc := va_free (wc := []) hD hS hA [] rfl
    refine va_calli (va_runS (As := [.ref b, .int 1]) (rest := [.int (lw_cell L sx 0), .ref q393, .ref q393]) ⟨hx, hb, hml, hown, hts⟩ (ct_cell l dC dI H.size b 1 L sx (by decide) hL) (va_cwS 2 hts gL_law_L_cell_9 rfl rfl rfl (by decide +kernel) ⟨(Nat.le_of_ble_eq_true rfl), (Nat.le_of_ble_eq_true rfl)⟩) ⟨fun a U g mk q => by obtain ⟨q0, q1, qP, qK, qD, qX, qb⟩ := q; exact ⟨q0, q1, qP, va_K.moved (u := U) (U := U.calling g mk a) (Vm.Alike.refl U.vm) qK, qD, va_X.moved (u := U) (U := U.calling g mk a) (Vm.Alike.refl U.vm) qX, qb⟩, fun U hU hW => ⟨rfl, by rw [hU], by rw [hU]; exact hPc, va_K.moved hW.alike hKc, hDc.weaken (fun _ _ _ _ => trivial), va_X.moved hW.alike (by rw [hU]; exact hX.kept (hS.2.1 b hbl hbA)), by rw [hU]; exact Nat.lt_of_lt_of_le hbl hS.1⟩⟩ rfl rfl hl.1 rfl (lv_room (Nat.le_of_ble_eq_true rfl)) dL_law_29 ⟨(Nat.le_of_ble_eq_true rfl), (Nat.le_of_ble_eq_true rfl)⟩) hS (fun q _ h => hFc q h) hFc (fun r395 u t H1 locs ht hvm hw hB hz1 hk1 hS => ?_)
    have hP1 : va_P (dC, dI) classes [] H1 := vx_P0
    have hD1 : va_D (va_A [] H.size) [] := vx_D0
    obtain ⟨hP, hD⟩ := va_join (wr := [(q372, .inr (7, [.int (ch_h (lw_cell L sx 0)), .int (ch_r (lw_cell L sx 1)), .ref xt_376, .ref xo_377, .ref xh_378, .ref xs_379, .ref xm_380, .ref xq_381])), (xt_376, .inr (0, [.ref xtw_382, .int 0])), (xtw_382, .inl (cT_388, 50, .inl (fun _ => 0))), (xo_377, .inr (0, [.ref xow_383, .int 0])), (xow_383, .inl (cO_389, (ch_N (ch_h (lw_cell L sx 0))), .inl (fun _ => 0))), (xh_378, .inr (0, [.ref xhw_384, .int 0])), (xhw_384, .inl (cH_390, (ch_N (ch_h (lw_cell L sx 0))), .inl (fun _ => 0))), (xs_379, .inr (1, [.ref xb_385, .int 0, .int (-1)])), (xb_385, .inr (0, [.ref xbw_386, .int 24])), (xbw_386, .inl (cB_391, 6, .inl (fun _ => 0))), (xm_380, .inr (3, [.ref xf_387, .int (ch_r (lw_cell L sx 1)), .ref xs_379, .int 0, .int 0, .int 0, .int 0])), (xf_387, .inl (cF_392, (ch_L (ch_h (lw_cell L sx 0))), .inl (fun _ => 0))), (q393, .inr (8, [.int 0, .int 0, .int 0, .null, .null, .null, .null, .null, .null, .int 0, .null, .null, .null, .null, .null, .null, .null, .null, .null, .null, .null, .null, .int 0, .null, .null, .null, .null, .null, .int 0, .int 0, .int 0, .int 0, .int 0, .int 0, .int 0, .int 0, .int 0, .null, .null, .null]))]) (w1 := []) hP hD [] [0, 1, 2, 3, 4, 5, 6, 7, 8, 9, 10, 11, 12] rfl rfl (by decide) (by decide) hk1 hFc hP1 hD1
    have hK := hK.sub (tys' := [(cT_388, .int), (cO_389, .int), (cH_390, .int), (cB_391, .int), (cF_392, .int)]) [0, 1, 2, 3, 4] rfl
    generalize H1 = H at hP hS ⊢
    have hP : va_P (dC, dI) classes [(q372, .inr (7, [.int (ch_h (lw_cell L sx 0)), .int (ch_r (lw_cell L sx 1)), .ref xt_376, .ref xo_377, .ref xh_378, .ref xs_379, .ref xm_380, .ref xq_381])), (xt_376, .inr (0, [.ref xtw_382, .int 0])), (xtw_382, .inl (cT_388, 50, .inl (fun _ => 0))), (xo_377, .inr (0, [.ref xow_383, .int 0])), (xow_383, .inl (cO_389, (ch_N (ch_h (lw_cell L sx 0))), .inl (fun _ => 0))), (xh_378, .inr (0, [.ref xhw_384, .int 0])), (xhw_384, .inl (cH_390, (ch_N (ch_h (lw_cell L sx 0))), .inl (fun _ => 0))), (xs_379, .inr (1, [.ref xb_385, .int 0, .int (-1)])), (xb_385, .inr (0, [.ref xbw_386, .int 24])), (xbw_386, .inl (cB_391, 6, .inl (fun _ => 0))), (xm_380, .inr (3, [.ref xf_387, .int (ch_r (lw_cell L sx 1)), .ref xs_379, .int 0, .int 0, .int 0, .int 0])), (xf_387, .inl (cF_392, (ch_L (ch_h (lw_cell L sx 0))), .inl (fun _ => 0))), (q393, .inr (8, [.int 0, .int 0, .int 0, .null, .null, .null, .null, .null, .null, .int 0, .null, .null, .null, .null, .null, .null, .null, .null, .null, .null, .null, .null, .int 0, .null, .null, .null, .null, .null, .int 0, .int 0, .int 0, .int 0, .int 0, .int 0, .int 0, .int 0, .int 0, .null, .null, .null]))] H := hP
    have hD : va_D A [(q372, .inr (7, [.int (ch_h (lw_cell L sx 0)), .int (ch_r (lw_cell L sx 1)), .ref xt_376, .ref xo_377, .ref xh_378, .ref xs_379, .ref xm_380, .ref xq_381])), (xt_376, .inr (0, [.ref xtw_382, .int 0])), (xtw_382, .inl (cT_388, 50, .inl (fun _ => 0))), (xo_377, .inr (0, [.ref xow_383, .int 0])), (xow_383, .inl (cO_389, (ch_N (ch_h (lw_cell L sx 0))), .inl (fun _ => 0))), (xh_378, .inr (0, [.ref xhw_384, .int 0])), (xhw_384, .inl (cH_390, (ch_N (ch_h (lw_cell L sx 0))), .inl (fun _ => 0))), (xs_379, .inr (1, [.ref xb_385, .int 0, .int (-1)])), (xb_385, .inr (0, [.ref xbw_386, .int 24])), (xbw_386, .inl (cB_391, 6, .inl (fun _ => 0))), (xm_380, .inr (3, [.ref xf_387, .int (ch_r (lw_cell L sx 1)), .ref xs_379, .int 0, .int 0, .int 0, .int 0])), (xf_387, .inl (cF_392, (ch_L (ch_h (lw_cell L sx 0))), .inl (fun _ => 0))), (q393, .inr (8, [.int 0, .int 0, .int 0, .null, .null, .null, .null, .null, .null, .int 0, .null, .null, .null, .null, .null, .null, .null, .null, .null, .null, .null, .null, .int 0, .null, .null, .null, .null, .null, .int 0, .int 0, .int 0, .int 0, .int 0, .int 0, .int 0, .int 0, .int 0, .null, .null, .null]))] := hD
    have hK : va_K (dC, dI) classes [(cT_388, .int), (cO_389, .int), (cH_390, .int), (cB_391, .int), (cF_392, .int)] s := hK
    refine W.widen (k := 35) (n := 2471) (Nat.le_of_ble_eq_true rfl) (Nat.le_of_ble_eq_true rfl) ?_
    try dsimp only at hw
    subst hw
    have hPc := hP.sub (ws' := [(q393, .inr (8, [.int 0, .int 0, .int 0, .null, .null, .null, .null, .null, .null, .int 0, .null, .null, .null, .null, .null, .null, .null, .null, .null, .null, .null, .null, .int 0, .null, .null, .null, .null, .null, .int 0, .int 0, .int 0, .int 0, .int 0, .int 0, .int 0, .int 0, .int 0, .null, .null, .null]))]) [12] rfl
    have hDc := hD.sub (ws' := [(q393, .inr (8, [.int 0, .int 0, .int 0, .null, .null, .null, .null, .null, .null, .int 0, .null, .null, .null, .null, .null, .null, .null, .null, .null, .null, .null, .null, .int 0, .null, .null, .null, .null, .null, .int 0, .int 0, .int 0, .int 0, .int 0, .int 0, .int 0, .int 0, .int 0, .null, .null, .null]))]) [12] (by decide) rfl
    have hKc := hK.sub (tys' := []) [] rfl
    have hFc := va_free (wc := [(q393, .inr (8, [.int 0, .int 0, .int 0, .null, .null, .null, .null, .null, .null, .int 0, .null, .null, .null, .null, .null, .null, .null, .null, .null, .null, .null, .null, .int 0, .null, .null, .null, .null, .null, .int 0, .int 0, .int 0, .int 0, .int 0, .int 0, .int 0, .int 0, .int 0, .null, .null, .null]))]) hD hS hA [12] rfl
    refine va_callv (va_runI (As := [.int (lw_cell L sx 0), .int (lw_cell L sx 1)]) (rest := [.ref q393]) ⟨hx, hb, hml, hown, hts⟩ (cm_Model l dC dI H.size q393 (lw_cell L sx 0) (lw_cell L sx 1)) (cwI 2 hts gL_law_X8_init_20 rfl rfl rfl (hts (.initialized RX8) (List.mem_of_getElem? (i := 130) rfl)) (hts (.methodLink RL 20 yX8_init) (List.mem_of_getElem? (i := 240) rfl)) (hts (.instanceMethod yX8_init) (List.mem_of_getElem? (i := 241) rfl)) rfl (by decide +kernel) ⟨(Nat.le_of_ble_eq_true rfl), (Nat.le_of_ble_eq_true rfl)⟩) ⟨fun a U g mk q => by obtain ⟨q0, q1, qP, qK, qD⟩ := q; exact ⟨q0, q1, qP, va_K.moved (u := U) (U := U.calling g mk a) (Vm.Alike.refl U.vm) qK, qD⟩, fun U hU hW => ⟨rfl, by rw [hU], by rw [hU]; exact hPc, va_K.moved hW.alike hKc, hDc.weaken (fun _ _ _ _ => trivial)⟩⟩ rfl rfl hl.1 rfl (lv_room (Nat.le_of_ble_eq_true rfl)) dL_law_32 ⟨(Nat.le_of_ble_eq_true rfl), (Nat.le_of_ble_eq_true rfl)⟩) hS (fun q _ h => hFc q h) hFc (fun u t H1 locs ht hvm hw hB hz1 hk1 hS => ?_)
    obtain ⟨g_397, cMt_398, cMd_399, cMr_400, cMl_401, hP1, hK1, hD1⟩ := hB
    rw [ht] at hP1
    have hK1 := va_K.moved hvm.symm hK1
    obtain ⟨hP, hD⟩ := va_join (wr := [(q372, .inr (7, [.int (ch_h (lw_cell L sx 0)), .int (ch_r (lw_cell L sx 1)), .ref xt_376, .ref xo_377, .ref xh_378, .ref xs_379, .ref xm_380, .ref xq_381])), (xt_376, .inr (0, [.ref xtw_382, .int 0])), (xtw_382, .inl (cT_388, 50, .inl (fun _ => 0))), (xo_377, .inr (0, [.ref xow_383, .int 0])), (xow_383, .inl (cO_389, (ch_N (ch_h (lw_cell L sx 0))), .inl (fun _ => 0))), (xh_378, .inr (0, [.ref xhw_384, .int 0])), (xhw_384, .inl (cH_390, (ch_N (ch_h (lw_cell L sx 0))), .inl (fun _ => 0))), (xs_379, .inr (1, [.ref xb_385, .int 0, .int (-1)])), (xb_385, .inr (0, [.ref xbw_386, .int 24])), (xbw_386, .inl (cB_391, 6, .inl (fun _ => 0))), (xm_380, .inr (3, [.ref xf_387, .int (ch_r (lw_cell L sx 1)), .ref xs_379, .int 0, .int 0, .int 0, .int 0])), (xf_387, .inl (cF_392, (ch_L (ch_h (lw_cell L sx 0))), .inl (fun _ => 0)))]) (w1 := [(q393, .inr (8, [.int (fk_held (lw_cell L sx 0) 1 4), .int (fk_held (lw_cell L sx 1) 1 8), .int ((1 : Int32) <<< ((fk_held (lw_cell L sx 0) 1 4) &&& 31)), .ref (g_397 3), .ref (g_397 4), .ref (g_397 5), .ref (g_397 6), .ref (g_397 7), .ref (g_397 8), .int 0, .ref (g_397 10), .ref (g_397 11), .ref (g_397 12), .ref (g_397 13), .ref (g_397 14), .ref (g_397 15), .ref (g_397 16), .ref (g_397 17), .ref (g_397 18), .ref (g_397 19), .ref (g_397 20), .ref (g_397 21), .int 0, .ref (g_397 23), .ref (g_397 24), .ref (g_397 25), .ref (g_397 26), .ref (g_397 27), .int 0, .int 0, .int 0, .int 0, .int 0, .int 0, .int 0, .int (-1), .int 0, .ref (g_397 37), .ref (g_397 38), .ref (g_397 39)])), ((g_397 23), .inl (cMt_398, 200, .inl (fun _ => 0))), ((g_397 24), .inl (cMd_399, 24, .inl (fun _ => 0))), ((g_397 37), .inl (cMr_400, 16, .inl (fun _ => 0))), ((g_397 38), .inl (cMl_401, 16, .inl (fun _ => 0)))]) hP hD [12] [0, 1, 2, 3, 4, 5, 6, 7, 8, 9, 10, 11] rfl rfl (by decide) (by decide) hk1 hFc hP1 hD1
    have hK := hK.sub (tys' := [(cT_388, .int), (cO_389, .int), (cH_390, .int), (cB_391, .int), (cF_392, .int)]) [0, 1, 2, 3, 4] rfl
    have hK := hK.app hK1
    generalize H1 = H at hP hS ⊢
    have hP : va_P (dC, dI) classes [(q372, .inr (7, [.int (ch_h (lw_cell L sx 0)), .int (ch_r (lw_cell L sx 1)), .ref xt_376, .ref xo_377, .ref xh_378, .ref xs_379, .ref xm_380, .ref xq_381])), (xt_376, .inr (0, [.ref xtw_382, .int 0])), (xtw_382, .inl (cT_388, 50, .inl (fun _ => 0))), (xo_377, .inr (0, [.ref xow_383, .int 0])), (xow_383, .inl (cO_389, (ch_N (ch_h (lw_cell L sx 0))), .inl (fun _ => 0))), (xh_378, .inr (0, [.ref xhw_384, .int 0])), (xhw_384, .inl (cH_390, (ch_N (ch_h (lw_cell L sx 0))), .inl (fun _ => 0))), (xs_379, .inr (1, [.ref xb_385, .int 0, .int (-1)])), (xb_385, .inr (0, [.ref xbw_386, .int 24])), (xbw_386, .inl (cB_391, 6, .inl (fun _ => 0))), (xm_380, .inr (3, [.ref xf_387, .int (ch_r (lw_cell L sx 1)), .ref xs_379, .int 0, .int 0, .int 0, .int 0])), (xf_387, .inl (cF_392, (ch_L (ch_h (lw_cell L sx 0))), .inl (fun _ => 0))), (q393, .inr (8, [.int (fk_held (lw_cell L sx 0) 1 4), .int (fk_held (lw_cell L sx 1) 1 8), .int ((1 : Int32) <<< ((fk_held (lw_cell L sx 0) 1 4) &&& 31)), .ref (g_397 3), .ref (g_397 4), .ref (g_397 5), .ref (g_397 6), .ref (g_397 7), .ref (g_397 8), .int 0, .ref (g_397 10), .ref (g_397 11), .ref (g_397 12), .ref (g_397 13), .ref (g_397 14), .ref (g_397 15), .ref (g_397 16), .ref (g_397 17), .ref (g_397 18), .ref (g_397 19), .ref (g_397 20), .ref (g_397 21), .int 0, .ref (g_397 23), .ref (g_397 24), .ref (g_397 25), .ref (g_397 26), .ref (g_397 27), .int 0, .int 0, .int 0, .int 0, .int 0, .int 0, .int 0, .int (-1), .int 0, .ref (g_397 37), .ref (g_397 38), .ref (g_397 39)])), ((g_397 23), .inl (cMt_398, 200, .inl (fun _ => 0))), ((g_397 24), .inl (cMd_399, 24, .inl (fun _ => 0))), ((g_397 37), .inl (cMr_400, 16, .inl (fun _ => 0))), ((g_397 38), .inl (cMl_401, 16, .inl (fun _ => 0)))] H := hP
    have hD : va_D A [(q372, .inr (7, [.int (ch_h (lw_cell L sx 0)), .int (ch_r (lw_cell L sx 1)), .ref xt_376, .ref xo_377, .ref xh_378, .ref xs_379, .ref xm_380, .ref xq_381])), (xt_376, .inr (0, [.ref xtw_382, .int 0])), (xtw_382, .inl (cT_388, 50, .inl (fun _ => 0))), (xo_377, .inr (0, [.ref xow_383, .int 0])), (xow_383, .inl (cO_389, (ch_N (ch_h (lw_cell L sx 0))), .inl (fun _ => 0))), (xh_378, .inr (0, [.ref xhw_384, .int 0])), (xhw_384, .inl (cH_390, (ch_N (ch_h (lw_cell L sx 0))), .inl (fun _ => 0))), (xs_379, .inr (1, [.ref xb_385, .int 0, .int (-1)])), (xb_385, .inr (0, [.ref xbw_386, .int 24])), (xbw_386, .inl (cB_391, 6, .inl (fun _ => 0))), (xm_380, .inr (3, [.ref xf_387, .int (ch_r (lw_cell L sx 1)), .ref xs_379, .int 0, .int 0, .int 0, .int 0])), (xf_387, .inl (cF_392, (ch_L (ch_h (lw_cell L sx 0))), .inl (fun _ => 0))), (q393, .inr (8, [.int (fk_held (lw_cell L sx 0) 1 4), .int (fk_held (lw_cell L sx 1) 1 8), .int ((1 : Int32) <<< ((fk_held (lw_cell L sx 0) 1 4) &&& 31)), .ref (g_397 3), .ref (g_397 4), .ref (g_397 5), .ref (g_397 6), .ref (g_397 7), .ref (g_397 8), .int 0, .ref (g_397 10), .ref (g_397 11), .ref (g_397 12), .ref (g_397 13), .ref (g_397 14), .ref (g_397 15), .ref (g_397 16), .ref (g_397 17), .ref (g_397 18), .ref (g_397 19), .ref (g_397 20), .ref (g_397 21), .int 0, .ref (g_397 23), .ref (g_397 24), .ref (g_397 25), .ref (g_397 26), .ref (g_397 27), .int 0, .int 0, .int 0, .int 0, .int 0, .int 0, .int 0, .int (-1), .int 0, .ref (g_397 37), .ref (g_397 38), .ref (g_397 39)])), ((g_397 23), .inl (cMt_398, 200, .inl (fun _ => 0))), ((g_397 24), .inl (cMd_399, 24, .inl (fun _ => 0))), ((g_397 37), .inl (cMr_400, 16, .inl (fun _ => 0))), ((g_397 38), .inl (cMl_401, 16, .inl (fun _ => 0)))] := hD
    have hK : va_K (dC, dI) classes [(cT_388, .int), (cO_389, .int), (cH_390, .int), (cB_391, .int), (cF_392, .int), (cMt_398, .byte), (cMd_399, .byte), (cMr_400, .boolean), (cMl_401, .boolean)] s := hK
    refine W.widen (k := 61) (n := 13870) (Nat.le_of_ble_eq_true rfl) (Nat.le_of_ble_eq_true rfl) ?_
    refine lv_astore_n (lv' := [(2, .ref q393), (1, .ref q372), (0, .ref b)]) hx hb dL_law_35 rfl hl (by decide) rfl (fun ls hl => ?_)
    refine lv_iconst (v := 2) hx hb dL_law_36 (by decide) ?_
    refine lv_istore_n (lv' := [(3, .int 2), (2, .ref q393), (1, .ref q372), (0, .ref b)]) hx hb dL_law_37 rfl hl (by decide) rfl (fun ls hl => ?_)
    refine lv_iload_n hx hb dL_law_38 rfl (lv_at hl 0 rfl) ?_
    refine lv_aload_n hx hb dL_law_39 rfl (lv_at hl 3 rfl) ?_
    refine va_slen hx hb hX hbl hbA hS dL_law_40 ?_
    refine lv_bipush (v := 6) hx hb dL_law_41 (by decide) ?_
    refine lv_isub hx hb dL_law_43 ?_
    refine lv_icmp_gt (tgt := 482) hx hb dL_law_44 (by decide) (fun c445 => ?_) (fun c445 => ?_)
    · exact law_tail (sx := sx) l hx hb hr hlocks hAf hS
    · have hL8 : L = 8 := vx_L8 hL c445
      have hX : va_X b 8 sx s s.heap := by rw [← hL8]; exact hX
      refine lv_aload_n hx hb dL_law_47 rfl (lv_at hl 3 rfl) ?_
      refine lv_iload_n hx hb dL_law_48 rfl (lv_at hl 0 rfl) ?_
      refine va_sld hx hb hX hbl hbA hS (vx_in (by decide)) dL_law_49 ?_
      refine lv_bipush (v := 15) hx hb dL_law_50 (by decide) ?_
      refine lv_iand hx hb dL_law_52 ?_
      refine lv_topi (fun z ez => ?_)
      by_cases c446 : z = 0
      · rw [c446]
        refine lv_tableIn (off := 71) (tgt := 124) hx hb dL_law_53 (by decide) (by decide) (by decide) (by decide) ?_
        exact law_feed l dC dI q372 (ch_h (lw_cell L sx 0)) (ch_r (lw_cell L sx 1)) xt_376 xo_377 xh_378 xs_379 xm_380 xq_381 xtw_382 cT_388 xow_383 cO_389 (ch_N (ch_h (lw_cell L sx 0))) xhw_384 cH_390 xb_385 xbw_386 cB_391 xf_387 cF_392 (ch_L (ch_h (lw_cell L sx 0))) q393 (fk_held (lw_cell L sx 0) 1 4) (fk_held (lw_cell L sx 1) 1 8) ((1 : Int32) <<< ((fk_held (lw_cell L sx 0) 1 4) &&& 31)) cMt_398 cMd_399 cMr_400 cMl_401 g_397 hx hb hr hml hlocks hX hbl hbA hAf hown hts hA hNN hNF (vx_hh _) (vx_hr _) hK hP hD hS hl
      · by_cases c447 : z = 1
        · rw [c447]
          refine lv_tableIn (off := 134) (tgt := 187) hx hb dL_law_53 (by decide) (by decide) (by decide) (by decide) ?_
          exact law_keys l dC dI q372 (ch_h (lw_cell L sx 0)) (ch_r (lw_cell L sx 1)) xt_376 xo_377 xh_378 xs_379 xm_380 xq_381 xtw_382 cT_388 xow_383 cO_389 (ch_N (ch_h (lw_cell L sx 0))) xhw_384 cH_390 xb_385 xbw_386 cB_391 xf_387 cF_392 (ch_L (ch_h (lw_cell L sx 0))) q393 (fk_held (lw_cell L sx 0) 1 4) (fk_held (lw_cell L sx 1) 1 8) ((1 : Int32) <<< ((fk_held (lw_cell L sx 0) 1 4) &&& 31)) cMt_398 cMd_399 cMr_400 cMl_401 g_397 hx hb hr hml hlocks hX hbl hbA hAf hown hts hA hNN hNF (vx_hh _) (vx_hr _) hK hP hD hS hl
        · by_cases c448 : z = 2
          · rw [c448]
            refine lv_tableIn (off := 147) (tgt := 200) hx hb dL_law_53 (by decide) (by decide) (by decide) (by decide) ?_
            exact law_sign l dC dI q372 (ch_h (lw_cell L sx 0)) (ch_r (lw_cell L sx 1)) xt_376 xo_377 xh_378 xs_379 xm_380 xq_381 xtw_382 cT_388 xow_383 cO_389 (ch_N (ch_h (lw_cell L sx 0))) xhw_384 cH_390 xb_385 xbw_386 cB_391 xf_387 cF_392 (ch_L (ch_h (lw_cell L sx 0))) q393 (fk_held (lw_cell L sx 0) 1 4) (fk_held (lw_cell L sx 1) 1 8) ((1 : Int32) <<< ((fk_held (lw_cell L sx 0) 1 4) &&& 31)) cMt_398 cMd_399 cMr_400 cMl_401 g_397 hx hb hr hml hlocks hX hbl hbA hAf hown hts hA hNN hNF (vx_hh _) (vx_hr _) hK hP hD hS hl
          · by_cases c449 : z = 3
            · rw [c449]
              refine lv_tableIn (off := 170) (tgt := 223) hx hb dL_law_53 (by decide) (by decide) (by decide) (by decide) ?_
              exact law_fuse l dC dI q372 (ch_h (lw_cell L sx 0)) (ch_r (lw_cell L sx 1)) xt_376 xo_377 xh_378 xs_379 xm_380 xq_381 xtw_382 cT_388 xow_383 cO_389 (ch_N (ch_h (lw_cell L sx 0))) xhw_384 cH_390 xb_385 xbw_386 cB_391 xf_387 cF_392 (ch_L (ch_h (lw_cell L sx 0))) q393 (fk_held (lw_cell L sx 0) 1 4) (fk_held (lw_cell L sx 1) 1 8) ((1 : Int32) <<< ((fk_held (lw_cell L sx 0) 1 4) &&& 31)) cMt_398 cMd_399 cMr_400 cMl_401 g_397 hx hb hr hml hlocks hX hbl hbA hAf hown hts hA hNN hNF (vx_hh _) (vx_hr _) hK hP hD hS hl
            · by_cases c450 : z = 4
              · rw [c450]
                refine lv_tableIn (off := 193) (tgt := 246) hx hb dL_law_53 (by decide) (by decide) (by decide) (by decide) ?_
                exact law_fall l dC dI q372 (ch_h (lw_cell L sx 0)) (ch_r (lw_cell L sx 1)) xt_376 xo_377 xh_378 xs_379 xm_380 xq_381 xtw_382 cT_388 xow_383 cO_389 (ch_N (ch_h (lw_cell L sx 0))) xhw_384 cH_390 xb_385 xbw_386 cB_391 xf_387 cF_392 (ch_L (ch_h (lw_cell L sx 0))) q393 (fk_held (lw_cell L sx 0) 1 4) (fk_held (lw_cell L sx 1) 1 8) ((1 : Int32) <<< ((fk_held (lw_cell L sx 0) 1 4) &&& 31)) cMt_398 cMd_399 cMr_400 cMl_401 g_397 hx hb hr hml hlocks hX hbl hbA hAf hown hts hA hNN hNF (vx_hh _) (vx_hr _) hK hP hD hS hl
              · by_cases c451 : z = 5
                · rw [c451]
                  refine lv_tableIn (off := 206) (tgt := 259) hx hb dL_law_53 (by decide) (by decide) (by decide) (by decide) ?_
                  exact law_rise l dC dI q372 (ch_h (lw_cell L sx 0)) (ch_r (lw_cell L sx 1)) xt_376 xo_377 xh_378 xs_379 xm_380 xq_381 xtw_382 cT_388 xow_383 cO_389 (ch_N (ch_h (lw_cell L sx 0))) xhw_384 cH_390 xb_385 xbw_386 cB_391 xf_387 cF_392 (ch_L (ch_h (lw_cell L sx 0))) q393 (fk_held (lw_cell L sx 0) 1 4) (fk_held (lw_cell L sx 1) 1 8) ((1 : Int32) <<< ((fk_held (lw_cell L sx 0) 1 4) &&& 31)) cMt_398 cMd_399 cMr_400 cMl_401 g_397 hx hb hr hml hlocks hX hbl hbA hAf hown hts hA hNN hNF (vx_hh _) (vx_hr _) hK hP hD hS hl
                · by_cases c452 : z = 6
                  · rw [c452]
                    refine lv_tableIn (off := 219) (tgt := 272) hx hb dL_law_53 (by decide) (by decide) (by decide) (by decide) ?_
                    exact law_hold l dC dI q372 (ch_h (lw_cell L sx 0)) (ch_r (lw_cell L sx 1)) xt_376 xo_377 xh_378 xs_379 xm_380 xq_381 xtw_382 cT_388 xow_383 cO_389 (ch_N (ch_h (lw_cell L sx 0))) xhw_384 cH_390 xb_385 xbw_386 cB_391 xf_387 cF_392 (ch_L (ch_h (lw_cell L sx 0))) q393 (fk_held (lw_cell L sx 0) 1 4) (fk_held (lw_cell L sx 1) 1 8) ((1 : Int32) <<< ((fk_held (lw_cell L sx 0) 1 4) &&& 31)) cMt_398 cMd_399 cMr_400 cMl_401 g_397 hx hb hr hml hlocks hX hbl hbA hAf hown hts hA hNN hNF (vx_hh _) (vx_hr _) hK hP hD hS hl
                  · by_cases c453 : z = 7
                    · rw [c453]
                      refine lv_tableIn (off := 232) (tgt := 285) hx hb dL_law_53 (by decide) (by decide) (by decide) (by decide) ?_
                      exact law_alter l dC dI q372 (ch_h (lw_cell L sx 0)) (ch_r (lw_cell L sx 1)) xt_376 xo_377 xh_378 xs_379 xm_380 xq_381 xtw_382 cT_388 xow_383 cO_389 (ch_N (ch_h (lw_cell L sx 0))) xhw_384 cH_390 xb_385 xbw_386 cB_391 xf_387 cF_392 (ch_L (ch_h (lw_cell L sx 0))) q393 (fk_held (lw_cell L sx 0) 1 4) (fk_held (lw_cell L sx 1) 1 8) ((1 : Int32) <<< ((fk_held (lw_cell L sx 0) 1 4) &&& 31)) cMt_398 cMd_399 cMr_400 cMl_401 g_397 hx hb hr hml hlocks hX hbl hbA hAf hown hts hA hNN hNF (vx_hh _) (vx_hr _) hK hP hD hS hl
                    · by_cases c454 : z = 8
                      · rw [c454]
                        refine lv_tableIn (off := 265) (tgt := 318) hx hb dL_law_53 (by decide) (by decide) (by decide) (by decide) ?_
                        exact law_verify l dC dI q372 (ch_h (lw_cell L sx 0)) (ch_r (lw_cell L sx 1)) xt_376 xo_377 xh_378 xs_379 xm_380 xq_381 xtw_382 cT_388 xow_383 cO_389 (ch_N (ch_h (lw_cell L sx 0))) xhw_384 cH_390 xb_385 xbw_386 cB_391 xf_387 cF_392 (ch_L (ch_h (lw_cell L sx 0))) q393 (fk_held (lw_cell L sx 0) 1 4) (fk_held (lw_cell L sx 1) 1 8) ((1 : Int32) <<< ((fk_held (lw_cell L sx 0) 1 4) &&& 31)) cMt_398 cMd_399 cMr_400 cMl_401 g_397 hx hb hr hml hlocks hX hbl hbA hAf hown hts hA hNN hNF (vx_hh _) (vx_hr _) hK hP hD hS hl
                      · by_cases c455 : z = 9
                        · rw [c455]
                          refine lv_tableIn (off := 288) (tgt := 341) hx hb dL_law_53 (by decide) (by decide) (by decide) (by decide) ?_
                          exact law_leaf l dC dI q372 (ch_h (lw_cell L sx 0)) (ch_r (lw_cell L sx 1)) xt_376 xo_377 xh_378 xs_379 xm_380 xq_381 xtw_382 cT_388 xow_383 cO_389 (ch_N (ch_h (lw_cell L sx 0))) xhw_384 cH_390 xb_385 xbw_386 cB_391 xf_387 cF_392 (ch_L (ch_h (lw_cell L sx 0))) q393 (fk_held (lw_cell L sx 0) 1 4) (fk_held (lw_cell L sx 1) 1 8) ((1 : Int32) <<< ((fk_held (lw_cell L sx 0) 1 4) &&& 31)) cMt_398 cMd_399 cMr_400 cMl_401 g_397 hx hb hr hml hlocks hX hbl hbA hAf hown hts hA hNN hNF (vx_hh _) (vx_hr _) hK hP hD hS hl
                        · by_cases c456 : z = 10
                          · rw [c456]
                            refine lv_tableIn (off := 311) (tgt := 364) hx hb dL_law_53 (by decide) (by decide) (by decide) (by decide) ?_
                            exact law_about l dC dI q372 (ch_h (lw_cell L sx 0)) (ch_r (lw_cell L sx 1)) xt_376 xo_377 xh_378 xs_379 xm_380 xq_381 xtw_382 cT_388 xow_383 cO_389 (ch_N (ch_h (lw_cell L sx 0))) xhw_384 cH_390 xb_385 xbw_386 cB_391 xf_387 cF_392 (ch_L (ch_h (lw_cell L sx 0))) q393 (fk_held (lw_cell L sx 0) 1 4) (fk_held (lw_cell L sx 1) 1 8) ((1 : Int32) <<< ((fk_held (lw_cell L sx 0) 1 4) &&& 31)) cMt_398 cMd_399 cMr_400 cMl_401 g_397 hx hb hr hml hlocks hX hbl hbA hAf hown hts hA hNN hNF (vx_hh _) (vx_hr _) hK hP hD hS hl
                          · by_cases c457 : z = 11
                            · rw [c457]
                              refine lv_tableIn (off := 334) (tgt := 387) hx hb dL_law_53 (by decide) (by decide) (by decide) (by decide) ?_
                              exact law_disk l dC dI q372 (ch_h (lw_cell L sx 0)) (ch_r (lw_cell L sx 1)) xt_376 xo_377 xh_378 xs_379 xm_380 xq_381 xtw_382 cT_388 xow_383 cO_389 (ch_N (ch_h (lw_cell L sx 0))) xhw_384 cH_390 xb_385 xbw_386 cB_391 xf_387 cF_392 (ch_L (ch_h (lw_cell L sx 0))) q393 (fk_held (lw_cell L sx 0) 1 4) (fk_held (lw_cell L sx 1) 1 8) ((1 : Int32) <<< ((fk_held (lw_cell L sx 0) 1 4) &&& 31)) cMt_398 cMd_399 cMr_400 cMl_401 g_397 hx hb hr hml hlocks hX hbl hbA hAf hown hts hA hNN hNF (vx_hh _) (vx_hr _) hK hP hD hS hl
                            · by_cases c458 : z = 12
                              · rw [c458]
                                refine lv_tableIn (off := 357) (tgt := 410) hx hb dL_law_53 (by decide) (by decide) (by decide) (by decide) ?_
                                exact law_node l dC dI q372 (ch_h (lw_cell L sx 0)) (ch_r (lw_cell L sx 1)) xt_376 xo_377 xh_378 xs_379 xm_380 xq_381 xtw_382 cT_388 xow_383 cO_389 (ch_N (ch_h (lw_cell L sx 0))) xhw_384 cH_390 xb_385 xbw_386 cB_391 xf_387 cF_392 (ch_L (ch_h (lw_cell L sx 0))) q393 (fk_held (lw_cell L sx 0) 1 4) (fk_held (lw_cell L sx 1) 1 8) ((1 : Int32) <<< ((fk_held (lw_cell L sx 0) 1 4) &&& 31)) cMt_398 cMd_399 cMr_400 cMl_401 g_397 hx hb hr hml hlocks hX hbl hbA hAf hown hts hA hNN hNF (vx_hh _) (vx_hr _) hK hP hD hS hl
                              · by_cases c459 : z = 13
                                · rw [c459]
                                  refine lv_tableIn (off := 400) (tgt := 453) hx hb dL_law_53 (by decide) (by decide) (by decide) (by decide) ?_
                                  exact law_out l dC dI q372 (ch_h (lw_cell L sx 0)) (ch_r (lw_cell L sx 1)) xt_376 xo_377 xh_378 xs_379 xm_380 xq_381 xtw_382 cT_388 xow_383 cO_389 (ch_N (ch_h (lw_cell L sx 0))) xhw_384 cH_390 xb_385 xbw_386 cB_391 xf_387 cF_392 (ch_L (ch_h (lw_cell L sx 0))) q393 (fk_held (lw_cell L sx 0) 1 4) (fk_held (lw_cell L sx 1) 1 8) ((1 : Int32) <<< ((fk_held (lw_cell L sx 0) 1 4) &&& 31)) cMt_398 cMd_399 cMr_400 cMl_401 g_397 hx hb hr hml hlocks hX hbl hbA hAf hown hts hA hNN hNF (vx_hh _) (vx_hr _) hK hP hD hS hl
                                · refine lv_tableOut (tgt := 476) hx hb dL_law_53 (vx_out14 c446 c447 c448 c449 c450 c451 c452 c453 c454 c455 c456 c457 c458 c459) (by decide) ?_
                                  exact law_next l hx hb hr hml hlocks hX hbl hbA hAf hS hl
  rw [hHe] at hW0
  exact hW0
