section VX
variable {p : Program} {l : Launch} {e : Env} {R : Room} {s : State} {m : MethodId} {args : Array Value} {below : List Frame} {meth : Method} {c : Code} {H : Heap} {locs : List Loc} {cells slots : Nat} {Q : State → Prop}
variable {cc : ByteArray} {pc : Nat} {ls : Array Slot} {rest : List Value} {D : va_G} {cl : List vw_C} {tys : List (ClassId × FieldType)} {ws : va_W} {A : Nat → Prop} {H0 : Heap} {a : Nat}
theorem vx_topk {x : Int32} (v : Int32) (hv : x = v) (k : W p l e R s m args below meth c H locs cells slots Q (F0 m pc ls (.int v :: rest))) : W p l e R s m args below meth c H locs cells slots Q (F0 m pc ls (.int x :: rest)) := by
  subst hv; exact k
theorem vx_iast (hexec : p.tables.exec = Jvm.exec) (hb : c.code = cc) (hK : va_K D cl tys s) (hP : va_P D cl ws H) (hD : va_D A ws) (hS : va_S A H0 H locs) (q0 t0 : Nat) {cA : ClassId} {n : Nat} {f : Nat → Int32} (ha : ws[q0]? = some (a, .inl (cA, n, .inl f))) (ht : tys[t0]? = some (cA, .int)) {i : Int32} {x : Int32} (hin : vp_in i n) (hdg : decode cc pc = .ok (.iastore, 1))
    (kk : ∀ (H1 : Heap) (locs1 : List Loc) (f1 : Nat → Int32), va_P D cl (ws.set q0 (a, .inl (cA, n, .inl f1))) H1 → va_D A (ws.set q0 (a, .inl (cA, n, .inl f1))) → va_S A H0 H1 locs1 → W p l e R s m args below meth c H1 locs1 cells slots Q (F0 m (pc + 1) ls rest)) : W p l e R s m args below meth c H locs cells slots Q (F0 m pc ls (.int x :: .int i :: .ref a :: rest)) :=
  va_iast hexec hb hK hP hD hS q0 t0 ha ht hin hdg (fun H1 l1 h1 h2 h3 => kk H1 l1 _ h1 h2 h3)
theorem vx_bast (hexec : p.tables.exec = Jvm.exec) (hb : c.code = cc) (hK : va_K D cl tys s) (hP : va_P D cl ws H) (hD : va_D A ws) (hS : va_S A H0 H locs) (q0 t0 : Nat) {cA : ClassId} {n : Nat} {f : Nat → Int32} (ha : ws[q0]? = some (a, .inl (cA, n, .inl f))) (ht : tys[t0]? = some (cA, .byte)) {i : Int32} {x : Int32} (hin : vp_in i n) (hdg : decode cc pc = .ok (.bastore, 1))
    (kk : ∀ (H1 : Heap) (locs1 : List Loc) (f1 : Nat → Int32), va_P D cl (ws.set q0 (a, .inl (cA, n, .inl f1))) H1 → va_D A (ws.set q0 (a, .inl (cA, n, .inl f1))) → va_S A H0 H1 locs1 → W p l e R s m args below meth c H1 locs1 cells slots Q (F0 m (pc + 1) ls rest)) : W p l e R s m args below meth c H locs cells slots Q (F0 m pc ls (.int x :: .int i :: .ref a :: rest)) :=
  va_bast hexec hb hK hP hD hS q0 t0 ha ht hin hdg (fun H1 l1 h1 h2 h3 => kk H1 l1 _ h1 h2 h3)
theorem vx_P0 : va_P D cl [] H := fun k q h => by simp at h
theorem vx_D0 : va_D A [] := ⟨fun i j p q h => by simp at h, fun k q h => by simp at h⟩
end VX
theorem vx_in {i : Int32} {n : Nat} (h : ¬ (i < 0 ∨ n ≤ i.toNatClampNeg)) : vp_in i n := h
theorem vx_good {big : List Cond} (ws : List Cond) (ps : List Nat) (hp : ws = ps.filterMap (fun i => big[i]?)) (h : ws.all goodWord = true) : GoodIn big ws := by
  intro w hw
  have h1 := List.all_eq_true.mp h w hw
  rw [hp] at hw
  obtain ⟨i, -, hi⟩ := List.mem_filterMap.mp hw
  exact ⟨List.mem_of_getElem? hi, good_of_word h1⟩
-- the answers of a fresh object, as the class's and as the reference's code puts them
def ch_h (v : Int32) : Int32 := if 1 < (if v < 4 then v else 4) then (if v < 4 then v else 4) else 1
def ch_r (v : Int32) : Int32 := if 1 < (if v < 8 then v else 8) then (if v < 8 then v else 8) else 1
def ch_n (h : Int32) : Int32 := 545 + h * 8
def ch_N (h : Int32) : Nat := (ch_n h).toNatClampNeg
def ch_L (h : Int32) : Nat := ((1 : Int32) <<< (h &&& 31)).toNatClampNeg
def fk_held (v a b : Int32) : Int32 := if a ≤ v then (if v ≤ b then v else b) else a
def fk_in (v a b : Int32) : Int32 := if v < a then 0 else if b < v then 0 else 1
def fk_wrong (n : Int32) : Int32 := if n < 0 then 1 else if n ≤ 0 then 0 else 1
def fk_sign (n : Int32) : Int32 := if fk_wrong n = 0 then -3 else -2
def fm_sign (n : Int32) : Int32 := if ¬ fk_in n 0 0 = 0 then -3 else -2
def fk_fuse (k : Int32) : Int32 := if k < -1 then 0 else if k ≤ 1000 then 1 else 0
def fm_fuse (k : Int32) : Int32 := if ¬ fk_in k (-1) 1000 = 0 then 1 else 0
def fk_disk (k : Int32) : Int32 := if k < 0 then -1 else if k < 24 then 0 else -1
def fm_disk (k : Int32) : Int32 := if fk_in k 0 23 = 0 then -1 else 0
def fk_about (w h r : Int32) : Int32 := if w = 0 then 0 else if w = 1 then -1 else if w = 2 then -1 else if w = 3 then 0 else if w = 4 then 0 else if w = 5 then 0 else if w = 6 then -1 else if w = 7 then 0 else if w = 8 then 0 else if w = 9 then 0 else if w = 10 then h else if w = 11 then r else -1
theorem vx_toI (a b : Int32) : a < b ↔ a.toInt < b.toInt := Int32.lt_iff_toInt_lt
theorem vx_toL (a b : Int32) : a ≤ b ↔ a.toInt ≤ b.toInt := Int32.le_iff_toInt_le
theorem vx_of (a : Int32) (n : Int32) (h : a.toInt = n.toInt) : a = n := Int32.toInt_inj.mp h
theorem vx_l0 : (0 : Int32).toInt = 0 := by decide
theorem vx_l1 : (1 : Int32).toInt = 1 := by decide
theorem vx_l4 : (4 : Int32).toInt = 4 := by decide
theorem vx_l8 : (8 : Int32).toInt = 8 := by decide
theorem vx_l23 : (23 : Int32).toInt = 23 := by decide
theorem vx_l24 : (24 : Int32).toInt = 24 := by decide
theorem vx_l1000 : (1000 : Int32).toInt = 1000 := by decide
theorem vx_lm1 : (-1 : Int32).toInt = -1 := by decide
theorem vx_h4 (v : Int32) : ch_h v = 1 ∨ ch_h v = 2 ∨ ch_h v = 3 ∨ ch_h v = 4 := by
  have k : 1 ≤ (ch_h v).toInt ∧ (ch_h v).toInt ≤ 4 := by
    unfold ch_h
    have h1 := vx_l1; have h4 := vx_l4
    split
    · rename_i q
      rw [vx_toI, h4] at q
      split
      · rename_i z; rw [vx_toI, h1] at z; omega
      · rw [h1]; omega
    · decide
  rcases (show (ch_h v).toInt = 1 ∨ (ch_h v).toInt = 2 ∨ (ch_h v).toInt = 3 ∨ (ch_h v).toInt = 4 by omega) with q | q | q | q
  · exact Or.inl (vx_of _ 1 q)
  · exact Or.inr (Or.inl (vx_of _ 2 q))
  · exact Or.inr (Or.inr (Or.inl (vx_of _ 3 q)))
  · exact Or.inr (Or.inr (Or.inr (vx_of _ 4 q)))
theorem vx_n {h : Int32} (hh : h = 1 ∨ h = 2 ∨ h = 3 ∨ h = 4) : ¬ ch_n h < 0 ∧ (ch_N h = 553 ∨ ch_N h = 561 ∨ ch_N h = 569 ∨ ch_N h = 577) := by
  rcases hh with rfl | rfl | rfl | rfl <;> decide
theorem vx_nN {h : Int32} (hh : h = 1 ∨ h = 2 ∨ h = 3 ∨ h = 4) : ch_N h ≤ 577 := by
  have := (vx_n hh).2; omega
theorem vx_L {h : Int32} (hh : h = 1 ∨ h = 2 ∨ h = 3 ∨ h = 4) : ¬ ((1 : Int32) <<< (h &&& 31)) < 0 ∧ ch_L h ≤ 16 := by
  rcases hh with rfl | rfl | rfl | rfl <;> decide
theorem vx_T {h : Int32} (hh : h = 1 ∨ h = 2 ∨ h = 3 ∨ h = 4) : ¬ ((2 * ((1 : Int32) <<< (h &&& 31))) * 8) < 0 ∧ ((2 * ((1 : Int32) <<< (h &&& 31))) * 8).toNatClampNeg ≤ 256 := by
  rcases hh with rfl | rfl | rfl | rfl <;> decide
theorem vx_N3 {N : Nat} (h : N = 553 ∨ N = 561 ∨ N = 569 ∨ N = 577) : ¬ Int32.ofNat N < 0 ∧ (0 : Int32).toNatClampNeg + (Int32.ofNat N).toNatClampNeg ≤ N ∧ (if 0 < Int32.ofNat N * 4 then (0 : Int32) else Int32.ofNat N * 4) = 0 := by
  rcases h with rfl | rfl | rfl | rfl <;> decide
theorem vx_mm (x : Int32) : (if x < x then x else x) = x := by split <;> rfl
theorem vx_shr0 (y : UInt32) : ((0 : Int32).toUInt32 >>> y).toInt32 = 0 := by
  have : (0 : Int32).toUInt32 = 0 := by decide
  rw [this, UInt32.zero_shiftRight]; decide
theorem vx_d24 : ∀ j : Fin 24, ¬ ((nI j.val >>> (2 &&& 31)) < 0 ∨ 6 ≤ (nI j.val >>> (2 &&& 31)).toNatClampNeg) := by decide
theorem vx_disk {k : Int32} (h0 : ¬ k < 0) (h : k < 24) : vp_in (k >>> (2 &&& 31)) 6 := by
  obtain ⟨j, hj, rfl⟩ := vp_in_of (x := k) (n := 24) (vp_in_iff.mpr ⟨by rw [vx_toI, vx_l0] at h0; omega, by rw [vx_toI, vx_l24] at h; omega⟩) (by decide)
  exact vx_d24 ⟨j, hj⟩
theorem vx_in24 {k : Int32} (h : ¬ fk_in k 0 23 = 0) : vp_in k 24 := by
  unfold fk_in at h
  by_cases c1 : k < 0
  · rw [if_pos c1] at h; exact absurd rfl h
  · by_cases c2 : 23 < k
    · rw [if_neg c1, if_pos c2] at h; exact absurd rfl h
    · rw [vx_toI, vx_l0] at c1; rw [vx_toI, vx_l23] at c2
      exact vp_in_iff.mpr ⟨by omega, by omega⟩
theorem vx_in0 (k : Int32) : fk_in k 0 (-1) = 0 := by
  unfold fk_in
  split
  · rfl
  · rename_i c1
    split
    · rfl
    · rename_i c2
      rw [vx_toI, vx_l0] at c1; rw [vx_toI, vx_lm1] at c2
      omega
theorem vx_sign (n : Int32) : fk_sign n = fm_sign n := by
  unfold fk_sign fm_sign fk_wrong fk_in
  by_cases c1 : n < 0
  · simp [c1]
  · by_cases c2 : n ≤ 0
    · have c3 : ¬ 0 < n := Int32.not_lt.mpr c2
      simp [c1, c2, c3]
    · have c3 : 0 < n := Int32.not_le.mp c2
      simp [c1, c2, c3]
theorem vx_fuse (n : Int32) : fk_fuse n = fm_fuse n := by
  unfold fk_fuse fm_fuse fk_in
  by_cases c1 : n < -1
  · simp [c1]
  · by_cases c2 : n ≤ 1000
    · have c3 : ¬ 1000 < n := Int32.not_lt.mpr c2
      simp [c1, c2, c3]
    · have c3 : 1000 < n := Int32.not_le.mp c2
      simp [c1, c2, c3]
theorem vx_dk (n : Int32) : fk_disk n = fm_disk n := by
  unfold fk_disk fm_disk fk_in
  by_cases c1 : n < 0
  · simp [c1]
  · by_cases c2 : n < 24
    · have c3 : ¬ 23 < n := by rw [vx_toI, vx_l23]; rw [vx_toI, vx_l24] at c2; omega
      simp [c1, c2, c3]
    · have c3 : 23 < n := by rw [vx_toI, vx_l23]; rw [vx_toI, vx_l24] at c2; omega
      simp [c1, c2, c3]
theorem vx_hh (v : Int32) : ch_h v = fk_held v 1 4 := by
  unfold ch_h fk_held
  have h1 := vx_l1; have h4 := vx_l4
  by_cases c1 : v < 4
  · by_cases c2 : 1 ≤ v
    · have c3 : v ≤ 4 := by rw [vx_toI] at c1; rw [vx_toL]; omega
      simp only [if_pos c1, if_pos c2, if_pos c3]
      split
      · rfl
      · rename_i c4; rw [vx_toI] at c4; rw [vx_toL] at c2; exact (vx_of v 1 (by omega)).symm
    · have c3 : ¬ 1 < v := by rw [vx_toL] at c2; rw [vx_toI]; omega
      simp only [if_pos c1, if_neg c2, if_neg c3]
  · have c2 : 1 ≤ v := by rw [vx_toI] at c1; rw [vx_toL]; omega
    have c5 : (1 : Int32) < 4 := by decide
    simp only [if_neg c1, if_pos c2, if_pos c5]
    split
    · rename_i c4; rw [vx_toI] at c1; rw [vx_toL] at c4; exact (vx_of v 4 (by omega)).symm
    · rfl
theorem vx_hr (v : Int32) : ch_r v = fk_held v 1 8 := by
  unfold ch_r fk_held
  have h1 := vx_l1; have h4 := vx_l8
  by_cases c1 : v < 8
  · by_cases c2 : 1 ≤ v
    · have c3 : v ≤ 8 := by rw [vx_toI] at c1; rw [vx_toL]; omega
      simp only [if_pos c1, if_pos c2, if_pos c3]
      split
      · rfl
      · rename_i c4; rw [vx_toI] at c4; rw [vx_toL] at c2; exact (vx_of v 1 (by omega)).symm
    · have c3 : ¬ 1 < v := by rw [vx_toL] at c2; rw [vx_toI]; omega
      simp only [if_pos c1, if_neg c2, if_neg c3]
  · have c2 : 1 ≤ v := by rw [vx_toI] at c1; rw [vx_toL]; omega
    have c5 : (1 : Int32) < 8 := by decide
    simp only [if_neg c1, if_pos c2, if_pos c5]
    split
    · rename_i c4; rw [vx_toI] at c1; rw [vx_toL] at c4; exact (vx_of v 8 (by omega)).symm
    · rfl
theorem vx_out {w : Int32} (c0 : ¬ w = 0) (c1 : ¬ w = 1) (c2 : ¬ w = 2) (c3 : ¬ w = 3) (c4 : ¬ w = 4) (c5 : ¬ w = 5) (c6 : ¬ w = 6) (c7 : ¬ w = 7) (c8 : ¬ w = 8) (c9 : ¬ w = 9) (c10 : ¬ w = 10) (c11 : ¬ w = 11) : w.toInt < 0 ∨ 11 < w.toInt := by
  have h0 := lv_neT c0 (a := 0) (by decide); have h1 := lv_neT c1 (a := 1) (by decide); have h2 := lv_neT c2 (a := 2) (by decide)
  have h3 := lv_neT c3 (a := 3) (by decide); have h4 := lv_neT c4 (a := 4) (by decide); have h5 := lv_neT c5 (a := 5) (by decide)
  have h6 := lv_neT c6 (a := 6) (by decide); have h7 := lv_neT c7 (a := 7) (by decide); have h8 := lv_neT c8 (a := 8) (by decide)
  have h9 := lv_neT c9 (a := 9) (by decide); have h10 := lv_neT c10 (a := 10) (by decide); have h11 := lv_neT c11 (a := 11) (by decide)
  omega
theorem vx_out14 {w : Int32} (c0 : ¬ w = 0) (c1 : ¬ w = 1) (c2 : ¬ w = 2) (c3 : ¬ w = 3) (c4 : ¬ w = 4) (c5 : ¬ w = 5) (c6 : ¬ w = 6) (c7 : ¬ w = 7) (c8 : ¬ w = 8) (c9 : ¬ w = 9) (c10 : ¬ w = 10) (c11 : ¬ w = 11) (c12 : ¬ w = 12) (c13 : ¬ w = 13) : w.toInt < 0 ∨ 13 < w.toInt := by
  have h0 := lv_neT c0 (a := 0) (by decide); have h1 := lv_neT c1 (a := 1) (by decide); have h2 := lv_neT c2 (a := 2) (by decide)
  have h3 := lv_neT c3 (a := 3) (by decide); have h4 := lv_neT c4 (a := 4) (by decide); have h5 := lv_neT c5 (a := 5) (by decide)
  have h6 := lv_neT c6 (a := 6) (by decide); have h7 := lv_neT c7 (a := 7) (by decide); have h8 := lv_neT c8 (a := 8) (by decide)
  have h9 := lv_neT c9 (a := 9) (by decide); have h10 := lv_neT c10 (a := 10) (by decide); have h11 := lv_neT c11 (a := 11) (by decide)
  have h12 := lv_neT c12 (a := 12) (by decide); have h13 := lv_neT c13 (a := 13) (by decide)
  omega
