set_option maxRecDepth 100000 in
set_option maxHeartbeats 4000000 in
theorem c_G_isBelow (l : Launch) (dC : Nat → ClassId) (dI : Nat → Nat → Nat) (a : Nat → Nat) (k : Nat → ClassId) (X : zX) (x : Int32) (y : Int32) : MetI l y_G_isBelow w_G_isBelow (rmN (0)) dC dI (yX k) (wX a k) [.int x, .int y] X (fun z9 u9 => (p_bel x y = true ∧ z9 = 1 ∨ p_bel x y = false ∧ z9 = 0) ∧ u9 = X) := by
  refine metI_of (cc := b_G_isBelow) (maxL := 2) (ret := (some .boolean)) (by decide) rfl (Nat.le_of_ble_eq_true rfl) ?_
  intro p e9 s9 m args below meth c A ls hx hb hr hts hown hlocks hml hA hP hK hD hS hN hl
  have ht : ∀ w ∈ lw_g, w.before args s9 = true := fun w h => hts w (List.mem_cons_of_mem _ h)
  have hl : lv_has ls 2 [(0, .int x), (1, .int y)] := hl
  refine lv_iload_n hx hb d_G_isBelow_0 rfl (lv_at hl 0 rfl) ?_
  refine lv_if_lt (tgt := 13) hx hb d_G_isBelow_1 (by decide) (fun c1 => ?_) (fun c1 => ?_)
  · have c1 : x < 0 := c1
    refine lv_iconst (v := 0) hx hb d_G_isBelow_13 (by decide) ?_
    exact ret_z hx hb hr hlocks hP hK hD hS d_G_isBelow_14 rfl ⟨Or.inr ⟨by simp only [p_bel, c1, if_true, if_false, Bool.false_eq_true, reduceIte], rfl⟩, rfl⟩
  · have c1 : ¬ x < 0 := c1
    refine lv_iload_n hx hb d_G_isBelow_4 rfl (lv_at hl 0 rfl) ?_
    refine lv_iload_n hx hb d_G_isBelow_5 rfl (lv_at hl 1 rfl) ?_
    refine lv_icmp_ge (tgt := 13) hx hb d_G_isBelow_6 (by decide) (fun c2 => ?_) (fun c2 => ?_)
    · have c2 : ¬ x < y := Int32.not_lt.mpr c2
      refine lv_iconst (v := 0) hx hb d_G_isBelow_13 (by decide) ?_
      exact ret_z hx hb hr hlocks hP hK hD hS d_G_isBelow_14 rfl ⟨Or.inr ⟨by simp only [p_bel, c1, c2, if_true, if_false, Bool.false_eq_true, reduceIte], rfl⟩, rfl⟩
    · have c2 : x < y := Int32.not_le.mp c2
      refine lv_iconst (v := 1) hx hb d_G_isBelow_9 (by decide) ?_
      refine lv_goto (tgt := 14) hx hb d_G_isBelow_10 (by decide) ?_
      exact ret_z hx hb hr hlocks hP hK hD hS d_G_isBelow_14 rfl ⟨Or.inl ⟨by simp only [p_bel, c1, c2, if_true, if_false, Bool.false_eq_true, reduceIte], rfl⟩, rfl⟩
set_option maxRecDepth 100000 in
set_option maxHeartbeats 4000000 in
theorem c_F_has (l : Launch) (dC : Nat → ClassId) (dI : Nat → Nat → Nat) (a : Nat → Nat) (k : Nat → ClassId) (X : zX) (x : Int32) : MetI l y_F_has w_F_has (rmN (1)) dC dI (yX k) (wX a k) [.ref (a 2), .int x] X (fun z9 u9 => (p_bel x (x_n X) = true ∧ z9 = 1 ∨ p_bel x (x_n X) = false ∧ z9 = 0) ∧ u9 = X) := by
  refine metI_of (cc := b_F_has) (maxL := 2) (ret := (some .boolean)) (by decide) rfl (Nat.le_of_ble_eq_true rfl) ?_
  intro p e9 s9 m args below meth c A ls hx hb hr hts hown hlocks hml hA hP hK hD hS hN hl
  have ht : ∀ w ∈ lw_g, w.before args s9 = true := fun w h => hts w (List.mem_cons_of_mem _ h)
  have hl : lv_has ls 2 [(0, .ref (a 2)), (1, .int x)] := hl
  refine lv_iload_n hx hb d_F_has_0 rfl (lv_at hl 1 rfl) ?_
  refine lv_aload_n hx hb d_F_has_1 rfl (lv_at hl 0 rfl) ?_
  refine va_get (D := (dC, dI)) (ci := 0) (v := .int (x_n X)) (C := R_F) (T := T_F) (N := 8) hx hb ht in_F hown hK hP 2 rfl rfl 7 (by decide) (ht _ k_40) (fun _ h => h) rfl d_F_has_2 ?_
  refine call_n (As := [.int x, .int (x_n X)]) (rest := []) (c_G_isBelow l dC dI a k X x (x_n X)) hN.2.2 k_117 k_1 k_118 ⟨pc_G_isBelow.1, pc_G_isBelow.2, pd_G_isBelow⟩ rfl rfl (rm_le (by omega) (by decide)) (Nat.le_of_ble_eq_true rfl) rfl hx hb hml hown ht hl.1 hP hK hD hS hA hN d_F_has_5 (fun r1 u2 H locs q3 hP hD hS => ?_)
  obtain ⟨⟨b4, rfl⟩ | ⟨b4, rfl⟩, q3⟩ := q3
  · rw [q3] at hP hD
    have hP : va_P (dC, dI) vwCl (wX a k X) H := hP
    have hD : va_D A (wX a k X) := hD
    exact ret_z hx hb hr hlocks hP hK hD hS d_F_has_8 rfl ⟨Or.inl ⟨by exact b4, rfl⟩, rfl⟩
  · rw [q3] at hP hD
    have hP : va_P (dC, dI) vwCl (wX a k X) H := hP
    have hD : va_D A (wX a k X) := hD
    exact ret_z hx hb hr hlocks hP hK hD hS d_F_has_8 rfl ⟨Or.inr ⟨by exact b4, rfl⟩, rfl⟩
set_option maxRecDepth 100000 in
set_option maxHeartbeats 4000000 in
theorem c_F_isFull (l : Launch) (dC : Nat → ClassId) (dI : Nat → Nat → Nat) (a : Nat → Nat) (k : Nat → ClassId) (X : zX) : MetI l y_F_isFull w_F_isFull (rmN (0)) dC dI (yX k) (wX a k) [.ref (a 2)] X (fun z9 u9 => (p_full X = true ∧ z9 = 1 ∨ p_full X = false ∧ z9 = 0) ∧ u9 = X) := by
  refine metI_of (cc := b_F_isFull) (maxL := 1) (ret := (some .boolean)) (by decide) rfl (Nat.le_of_ble_eq_true rfl) ?_
  intro p e9 s9 m args below meth c A ls hx hb hr hts hown hlocks hml hA hP hK hD hS hN hl
  have ht : ∀ w ∈ lw_g, w.before args s9 = true := fun w h => hts w (List.mem_cons_of_mem _ h)
  have hl : lv_has ls 1 [(0, .ref (a 2))] := hl
  refine lv_aload_n hx hb d_F_isFull_0 rfl (lv_at hl 0 rfl) ?_
  refine va_get (D := (dC, dI)) (ci := 0) (v := .int (x_n X)) (C := R_F) (T := T_F) (N := 8) hx hb ht in_F hown hK hP 2 rfl rfl 7 (by decide) (ht _ k_40) (fun _ h => h) rfl d_F_isFull_1 ?_
  refine lv_bipush (v := 60) hx hb d_F_isFull_4 (by decide) ?_
  refine lv_icmp_lt (tgt := 13) hx hb d_F_isFull_6 (by decide) (fun c1 => ?_) (fun c1 => ?_)
  · have c1 : x_n X < 60 := c1
    refine lv_iconst (v := 0) hx hb d_F_isFull_13 (by decide) ?_
    exact ret_z hx hb hr hlocks hP hK hD hS d_F_isFull_14 rfl ⟨Or.inr ⟨by simp only [p_full, c1, if_true, if_false, Bool.false_eq_true, reduceIte], rfl⟩, rfl⟩
  · have c1 : ¬ x_n X < 60 := c1
    refine lv_iconst (v := 1) hx hb d_F_isFull_9 (by decide) ?_
    refine lv_goto (tgt := 14) hx hb d_F_isFull_10 (by decide) ?_
    exact ret_z hx hb hr hlocks hP hK hD hS d_F_isFull_14 rfl ⟨Or.inl ⟨by simp only [p_full, c1, if_true, if_false, Bool.false_eq_true, reduceIte], rfl⟩, rfl⟩
set_option maxRecDepth 100000 in
set_option maxHeartbeats 4000000 in
theorem c_F_depthOver (l : Launch) (dC : Nat → ClassId) (dI : Nat → Nat → Nat) (a : Nat → Nat) (k : Nat → ClassId) (X : zX) (x : Int32) (y : Int32) (z : Int32) (jx : vp_in x 60) (jy : vp_in y 60) (jz : vp_in z 60) : MetI l y_F_depthOver w_F_depthOver (rmN (1)) dC dI (yX k) (wX a k) [.ref (a 2), .int x, .int y, .int z] X (fun z9 u9 => z9 = p_over X x y z ∧ u9 = X) := by
  refine metI_of (cc := b_F_depthOver) (maxL := 4) (ret := (some .int)) (by decide) rfl (Nat.le_of_ble_eq_true rfl) ?_
  intro p e9 s9 m args below meth c A ls hx hb hr hts hown hlocks hml hA hP hK hD hS hN hl
  have ht : ∀ w ∈ lw_g, w.before args s9 = true := fun w h => hts w (List.mem_cons_of_mem _ h)
  have hl : lv_has ls 4 [(0, .ref (a 2)), (1, .int x), (2, .int y), (3, .int z)] := hl
  refine lv_iconst (v := 1) hx hb d_F_depthOver_0 (by decide) ?_
  refine lv_aload_n hx hb d_F_depthOver_1 rfl (lv_at hl 0 rfl) ?_
  refine va_get (D := (dC, dI)) (ci := 0) (v := .ref (a 8)) (C := R_F) (T := T_F) (N := 8) hx hb ht in_F hown hK hP 2 rfl rfl 5 (by decide) (ht _ k_36) (fun _ h => h) rfl d_F_depthOver_2 ?_
  refine lv_iload_n hx hb d_F_depthOver_5 rfl (lv_at hl 1 rfl) ?_
  refine va_iald hx hb hK hP 8 5 rfl rfl jx d_F_depthOver_6 ?_
  refine lv_aload_n hx hb d_F_depthOver_7 rfl (lv_at hl 0 rfl) ?_
  refine va_get (D := (dC, dI)) (ci := 0) (v := .ref (a 8)) (C := R_F) (T := T_F) (N := 8) hx hb ht in_F hown hK hP 2 rfl rfl 5 (by decide) (ht _ k_36) (fun _ h => h) rfl d_F_depthOver_8 ?_
  refine lv_iload_n hx hb d_F_depthOver_11 rfl (lv_at hl 2 rfl) ?_
  refine va_iald hx hb hK hP 8 5 rfl rfl jy d_F_depthOver_12 ?_
  refine lv_aload_n hx hb d_F_depthOver_13 rfl (lv_at hl 0 rfl) ?_
  refine va_get (D := (dC, dI)) (ci := 0) (v := .ref (a 8)) (C := R_F) (T := T_F) (N := 8) hx hb ht in_F hown hK hP 2 rfl rfl 5 (by decide) (ht _ k_36) (fun _ h => h) rfl d_F_depthOver_14 ?_
  refine lv_iload_n hx hb d_F_depthOver_17 rfl (lv_at hl 3 rfl) ?_
  refine va_iald hx hb hK hP 8 5 rfl rfl jz d_F_depthOver_18 ?_
  refine va_mmax hx hb (hml.trans hl.1.symm) hown (ht _ k_144) (ht _ k_145) (ht _ k_5) (ht _ k_146) (Nat.le_of_ble_eq_true rfl) (Nat.le_of_ble_eq_true rfl) (Nat.zero_le _) (Nat.zero_le _) d_F_depthOver_19 ?_
  refine va_mmax hx hb (hml.trans hl.1.symm) hown (ht _ k_144) (ht _ k_145) (ht _ k_5) (ht _ k_146) (Nat.le_of_ble_eq_true rfl) (Nat.le_of_ble_eq_true rfl) (Nat.zero_le _) (Nat.zero_le _) d_F_depthOver_22 ?_
  refine lv_iadd hx hb d_F_depthOver_25 ?_
  exact ret_i (v := (1 + (mx (x_d X (ix x)) (mx (x_d X (ix y)) (x_d X (ix z)))))) hx hb hr hlocks hP hK hD hS d_F_depthOver_26 ⟨by rfl, rfl⟩
set_option maxRecDepth 100000 in
set_option maxHeartbeats 4000000 in
theorem c_F_addLeaf (l : Launch) (dC : Nat → ClassId) (dI : Nat → Nat → Nat) (a : Nat → Nat) (k : Nat → ClassId) (X : zX) (kd : Int32) (v : Int32) (jn : vp_in (x_n X) 60) : MetI l y_F_addLeaf w_F_addLeaf (rmN (0)) dC dI (yX k) (wX a k) [.ref (a 2), .int kd, .int v] X (fun z9 u9 => p_leafX X kd v = (z9, u9)) := by
  refine metI_of (cc := b_F_addLeaf) (maxL := 4) (ret := (some .int)) (by decide) rfl (Nat.le_of_ble_eq_true rfl) ?_
  intro p e9 s9 m args below meth c A ls hx hb hr hts hown hlocks hml hA hP hK hD hS hN hl
  have ht : ∀ w ∈ lw_g, w.before args s9 = true := fun w h => hts w (List.mem_cons_of_mem _ h)
  have hl : lv_has ls 4 [(0, .ref (a 2)), (1, .int kd), (2, .int v)] := hl
  refine lv_aload_n hx hb d_F_addLeaf_0 rfl (lv_at hl 0 rfl) ?_
  refine va_get (D := (dC, dI)) (ci := 0) (v := .int (x_n X)) (C := R_F) (T := T_F) (N := 8) hx hb ht in_F hown hK hP 2 rfl rfl 7 (by decide) (ht _ k_40) (fun _ h => h) rfl d_F_addLeaf_1 ?_
  refine lv_istore_n hx hb d_F_addLeaf_4 rfl hl (by decide) (lv' := [(3, .int (x_n X)), (0, .ref (a 2)), (1, .int kd), (2, .int v)]) rfl (fun ls hl => ?_)
  refine lv_aload_n hx hb d_F_addLeaf_5 rfl (lv_at hl 1 rfl) ?_
  refine va_get (D := (dC, dI)) (ci := 0) (v := .ref (a 3)) (C := R_F) (T := T_F) (N := 8) hx hb ht in_F hown hK hP 2 rfl rfl 0 (by decide) (ht _ k_26) (fun _ h => h) rfl d_F_addLeaf_6 ?_
  refine lv_iload_n hx hb d_F_addLeaf_9 rfl (lv_at hl 0 rfl) ?_
  refine lv_iload_n hx hb d_F_addLeaf_10 rfl (lv_at hl 2 rfl) ?_
  refine va_iast hx hb hK hP hD hS 3 0 rfl rfl jn d_F_addLeaf_11 (fun H locs hP hD hS => ?_)
  have hP : va_P (dC, dI) vwCl (wX a k (X_k X (x_n X) kd)) H := cP_X_k hP
  have hD : va_D A (wX a k (X_k X (x_n X) kd)) := cD_X_k hD
  refine lv_aload_n hx hb d_F_addLeaf_12 rfl (lv_at hl 1 rfl) ?_
  refine va_get (D := (dC, dI)) (ci := 0) (v := .ref (a 4)) (C := R_F) (T := T_F) (N := 8) hx hb ht in_F hown hK hP 2 rfl rfl 1 (by decide) (ht _ k_28) (fun _ h => h) rfl d_F_addLeaf_13 ?_
  refine lv_iload_n hx hb d_F_addLeaf_16 rfl (lv_at hl 0 rfl) ?_
  refine lv_iload_n hx hb d_F_addLeaf_17 rfl (lv_at hl 3 rfl) ?_
  refine va_iast hx hb hK hP hD hS 4 1 rfl rfl jn d_F_addLeaf_18 (fun H locs hP hD hS => ?_)
  have hP : va_P (dC, dI) vwCl (wX a k (X_m (X_k X (x_n X) kd) (x_n X) v)) H := cP_X_m hP
  have hD : va_D A (wX a k (X_m (X_k X (x_n X) kd) (x_n X) v)) := cD_X_m hD
  refine lv_aload_n hx hb d_F_addLeaf_19 rfl (lv_at hl 1 rfl) ?_
  refine va_get (D := (dC, dI)) (ci := 0) (v := .ref (a 8)) (C := R_F) (T := T_F) (N := 8) hx hb ht in_F hown hK hP 2 rfl rfl 5 (by decide) (ht _ k_36) (fun _ h => h) rfl d_F_addLeaf_20 ?_
  refine lv_iload_n hx hb d_F_addLeaf_23 rfl (lv_at hl 0 rfl) ?_
  refine lv_iconst (v := 1) hx hb d_F_addLeaf_24 (by decide) ?_
  refine va_iast hx hb hK hP hD hS 8 5 rfl rfl jn d_F_addLeaf_25 (fun H locs hP hD hS => ?_)
  have hP : va_P (dC, dI) vwCl (wX a k (X_d (X_m (X_k X (x_n X) kd) (x_n X) v) (x_n X) 1)) H := cP_X_d hP
  have hD : va_D A (wX a k (X_d (X_m (X_k X (x_n X) kd) (x_n X) v) (x_n X) 1)) := cD_X_d hD
  refine lv_aload_n hx hb d_F_addLeaf_26 rfl (lv_at hl 1 rfl) ?_
  refine va_get (D := (dC, dI)) (ci := 0) (v := .ref (a 9)) (C := R_F) (T := T_F) (N := 8) hx hb ht in_F hown hK hP 2 rfl rfl 6 (by decide) (ht _ k_38) (fun _ h => h) rfl d_F_addLeaf_27 ?_
  refine lv_iload_n hx hb d_F_addLeaf_30 rfl (lv_at hl 0 rfl) ?_
  refine lv_iconst (v := 1) hx hb d_F_addLeaf_31 (by decide) ?_
  refine va_zast hx hb hK hP hD hS 9 6 rfl rfl jn d_F_addLeaf_32 (fun H locs hP hD hS => ?_)
  have hP : va_P (dC, dI) vwCl (wX a k (X_f (X_d (X_m (X_k X (x_n X) kd) (x_n X) v) (x_n X) 1) (x_n X) 1)) H := cP_X_f hP
  have hD : va_D A (wX a k (X_f (X_d (X_m (X_k X (x_n X) kd) (x_n X) v) (x_n X) 1) (x_n X) 1)) := cD_X_f hD
  refine lv_aload_n hx hb d_F_addLeaf_33 rfl (lv_at hl 1 rfl) ?_
  refine lv_dup hx hb d_F_addLeaf_34 rfl ?_
  refine va_get (D := (dC, dI)) (ci := 0) (v := .int (x_n (X_f (X_d (X_m (X_k X (x_n X) kd) (x_n X) v) (x_n X) 1) (x_n X) 1))) (C := R_F) (T := T_F) (N := 8) hx hb ht in_F hown hK hP 2 rfl rfl 7 (by decide) (ht _ k_40) (fun _ h => h) rfl d_F_addLeaf_35 ?_
  refine lv_iconst (v := 1) hx hb d_F_addLeaf_38 (by decide) ?_
  refine lv_iadd hx hb d_F_addLeaf_39 ?_
  refine va_put (D := (dC, dI)) (ci := 0) (v := .int (x_n (X_f (X_d (X_m (X_k X (x_n X) kd) (x_n X) v) (x_n X) 1) (x_n X) 1) + 1)) (ty := .int) (C := R_F) (T := T_F) (N := 8) hx hb ht in_F t_F t_F_ok n_F hown hK hP hD hS 2 rfl rfl 7 (by decide) (ht _ k_40) (fun _ h => h) rfl (by decide +kernel) rfl rfl (Nat.le_of_ble_eq_true rfl) d_F_addLeaf_40 (fun H locs hP hD hS => ?_)
  have hP : va_P (dC, dI) vwCl (wX a k (X_n (X_f (X_d (X_m (X_k X (x_n X) kd) (x_n X) v) (x_n X) 1) (x_n X) 1) (x_n (X_f (X_d (X_m (X_k X (x_n X) kd) (x_n X) v) (x_n X) 1) (x_n X) 1) + 1))) H := cP_X_n hP
  have hD : va_D A (wX a k (X_n (X_f (X_d (X_m (X_k X (x_n X) kd) (x_n X) v) (x_n X) 1) (x_n X) 1) (x_n (X_f (X_d (X_m (X_k X (x_n X) kd) (x_n X) v) (x_n X) 1) (x_n X) 1) + 1))) := cD_X_n hD
  refine lv_iload_n hx hb d_F_addLeaf_43 rfl (lv_at hl 0 rfl) ?_
  exact ret_i (v := x_n X) hx hb hr hlocks hP hK hD hS d_F_addLeaf_44 (by rfl)
set_option maxRecDepth 100000 in
set_option maxHeartbeats 4000000 in
theorem c_F_addOver (l : Launch) (dC : Nat → ClassId) (dI : Nat → Nat → Nat) (a : Nat → Nat) (k : Nat → ClassId) (X : zX) (kd : Int32) (v : Int32) (x : Int32) (y : Int32) (z : Int32) (jn : vp_in (x_n X) 60) (jx : vp_in x 60) (jy : vp_in y 60) (jz : vp_in z 60) : MetI l y_F_addOver w_F_addOver (rmN (2)) dC dI (yX k) (wX a k) [.ref (a 2), .int kd, .int v, .int x, .int y, .int z] X (fun z9 u9 => p_overX X kd v x y z = (z9, u9)) := by
  refine metI_of (cc := b_F_addOver) (maxL := 7) (ret := (some .int)) (by decide) rfl (Nat.le_of_ble_eq_true rfl) ?_
  intro p e9 s9 m args below meth c A ls hx hb hr hts hown hlocks hml hA hP hK hD hS hN hl
  have ht : ∀ w ∈ lw_g, w.before args s9 = true := fun w h => hts w (List.mem_cons_of_mem _ h)
  have hl : lv_has ls 7 [(0, .ref (a 2)), (1, .int kd), (2, .int v), (3, .int x), (4, .int y), (5, .int z)] := hl
  refine lv_aload_n hx hb d_F_addOver_0 rfl (lv_at hl 0 rfl) ?_
  refine lv_iload_n hx hb d_F_addOver_1 rfl (lv_at hl 1 rfl) ?_
  refine lv_iload_n hx hb d_F_addOver_2 rfl (lv_at hl 2 rfl) ?_
  refine call_i (As := [.int kd, .int v]) (rest := []) (ci := 0) (q0 := 2) (c_F_addLeaf l dC dI a k X kd v jn) k_151 k_124 k_125 k_3 k_126 ⟨rfl, pc_F_addLeaf.1, pc_F_addLeaf.2, pd_F_addLeaf⟩ rfl rfl rfl rfl rfl (rm_le (by omega) (by decide)) (Nat.le_of_ble_eq_true rfl) rfl hx hb hml hown ht hl.1 hP hK hD hS hA hN d_F_addOver_3 (fun r1 u2 H locs q3 hP hD hS => ?_)
  have hP : va_P (dC, dI) vwCl (wX a k u2) H := hP
  have hD : va_D A (wX a k u2) := hD
  refine lv_istore hx hb d_F_addOver_6 hl (by decide) (lv' := [(6, .int r1), (0, .ref (a 2)), (1, .int kd), (2, .int v), (3, .int x), (4, .int y), (5, .int z)]) rfl (fun ls hl => ?_)
  refine lv_aload_n hx hb d_F_addOver_8 rfl (lv_at hl 1 rfl) ?_
  refine va_get (D := (dC, dI)) (ci := 0) (v := .ref (a 5)) (C := R_F) (T := T_F) (N := 8) hx hb ht in_F hown hK hP 2 rfl rfl 2 (by decide) (ht _ k_30) (fun _ h => h) rfl d_F_addOver_9 ?_
  refine lv_iload hx hb d_F_addOver_12 (lv_at hl 0 rfl) ?_
  refine lv_iload_n hx hb d_F_addOver_14 rfl (lv_at hl 4 rfl) ?_
  refine va_iast hx hb hK hP hD hS 5 2 rfl rfl (lf_in q3 jn) d_F_addOver_15 (fun H locs hP hD hS => ?_)
  have hP : va_P (dC, dI) vwCl (wX a k (X_x u2 r1 x)) H := cP_X_x hP
  have hD : va_D A (wX a k (X_x u2 r1 x)) := cD_X_x hD
  refine lv_aload_n hx hb d_F_addOver_16 rfl (lv_at hl 1 rfl) ?_
  refine va_get (D := (dC, dI)) (ci := 0) (v := .ref (a 6)) (C := R_F) (T := T_F) (N := 8) hx hb ht in_F hown hK hP 2 rfl rfl 3 (by decide) (ht _ k_32) (fun _ h => h) rfl d_F_addOver_17 ?_
  refine lv_iload hx hb d_F_addOver_20 (lv_at hl 0 rfl) ?_
  refine lv_iload hx hb d_F_addOver_22 (lv_at hl 5 rfl) ?_
  refine va_iast hx hb hK hP hD hS 6 3 rfl rfl (lf_in q3 jn) d_F_addOver_24 (fun H locs hP hD hS => ?_)
  have hP : va_P (dC, dI) vwCl (wX a k (X_y (X_x u2 r1 x) r1 y)) H := cP_X_y hP
  have hD : va_D A (wX a k (X_y (X_x u2 r1 x) r1 y)) := cD_X_y hD
  refine lv_aload_n hx hb d_F_addOver_25 rfl (lv_at hl 1 rfl) ?_
  refine va_get (D := (dC, dI)) (ci := 0) (v := .ref (a 7)) (C := R_F) (T := T_F) (N := 8) hx hb ht in_F hown hK hP 2 rfl rfl 4 (by decide) (ht _ k_34) (fun _ h => h) rfl d_F_addOver_26 ?_
  refine lv_iload hx hb d_F_addOver_29 (lv_at hl 0 rfl) ?_
  refine lv_iload hx hb d_F_addOver_31 (lv_at hl 6 rfl) ?_
  refine va_iast hx hb hK hP hD hS 7 4 rfl rfl (lf_in q3 jn) d_F_addOver_33 (fun H locs hP hD hS => ?_)
  have hP : va_P (dC, dI) vwCl (wX a k (X_z (X_y (X_x u2 r1 x) r1 y) r1 z)) H := cP_X_z hP
  have hD : va_D A (wX a k (X_z (X_y (X_x u2 r1 x) r1 y) r1 z)) := cD_X_z hD
  refine lv_aload_n hx hb d_F_addOver_34 rfl (lv_at hl 1 rfl) ?_
  refine va_get (D := (dC, dI)) (ci := 0) (v := .ref (a 8)) (C := R_F) (T := T_F) (N := 8) hx hb ht in_F hown hK hP 2 rfl rfl 5 (by decide) (ht _ k_36) (fun _ h => h) rfl d_F_addOver_35 ?_
  refine lv_iload hx hb d_F_addOver_38 (lv_at hl 0 rfl) ?_
  refine lv_aload_n hx hb d_F_addOver_40 rfl (lv_at hl 1 rfl) ?_
  refine lv_iload_n hx hb d_F_addOver_41 rfl (lv_at hl 4 rfl) ?_
  refine lv_iload hx hb d_F_addOver_42 (lv_at hl 5 rfl) ?_
  refine lv_iload hx hb d_F_addOver_44 (lv_at hl 6 rfl) ?_
  refine call_i (As := [.int x, .int y, .int z]) (rest := [.int r1, .ref (a 8)]) (ci := 0) (q0 := 2) (c_F_depthOver l dC dI a k (X_z (X_y (X_x u2 r1 x) r1 y) r1 z) x y z jx jy jz) k_152 k_141 k_142 k_3 k_143 ⟨rfl, pc_F_depthOver.1, pc_F_depthOver.2, pd_F_depthOver⟩ rfl rfl rfl rfl rfl (rm_le (by omega) (by decide)) (Nat.le_of_ble_eq_true rfl) rfl hx hb hml hown ht hl.1 hP hK hD hS hA hN d_F_addOver_46 (fun r4 u5 H locs q6 hP hD hS => ?_)
  obtain ⟨rfl, q6⟩ := q6
  rw [q6] at hP hD
  have hP : va_P (dC, dI) vwCl (wX a k (X_z (X_y (X_x u2 r1 x) r1 y) r1 z)) H := hP
  have hD : va_D A (wX a k (X_z (X_y (X_x u2 r1 x) r1 y) r1 z)) := hD
  refine va_iast hx hb hK hP hD hS 8 5 rfl rfl (lf_in q3 jn) d_F_addOver_49 (fun H locs hP hD hS => ?_)
  have hP : va_P (dC, dI) vwCl (wX a k (X_d (X_z (X_y (X_x u2 r1 x) r1 y) r1 z) r1 (p_over (X_z (X_y (X_x u2 r1 x) r1 y) r1 z) x y z))) H := cP_X_d hP
  have hD : va_D A (wX a k (X_d (X_z (X_y (X_x u2 r1 x) r1 y) r1 z) r1 (p_over (X_z (X_y (X_x u2 r1 x) r1 y) r1 z) x y z))) := cD_X_d hD
  refine lv_aload_n hx hb d_F_addOver_50 rfl (lv_at hl 1 rfl) ?_
  refine va_get (D := (dC, dI)) (ci := 0) (v := .ref (a 9)) (C := R_F) (T := T_F) (N := 8) hx hb ht in_F hown hK hP 2 rfl rfl 6 (by decide) (ht _ k_38) (fun _ h => h) rfl d_F_addOver_51 ?_
  refine lv_iload_n hx hb d_F_addOver_54 rfl (lv_at hl 4 rfl) ?_
  refine lv_iconst (v := 0) hx hb d_F_addOver_55 (by decide) ?_
  refine va_zast hx hb hK hP hD hS 9 6 rfl rfl jx d_F_addOver_56 (fun H locs hP hD hS => ?_)
  have hP : va_P (dC, dI) vwCl (wX a k (X_f (X_d (X_z (X_y (X_x u2 r1 x) r1 y) r1 z) r1 (p_over (X_z (X_y (X_x u2 r1 x) r1 y) r1 z) x y z)) x 0)) H := cP_X_f hP
  have hD : va_D A (wX a k (X_f (X_d (X_z (X_y (X_x u2 r1 x) r1 y) r1 z) r1 (p_over (X_z (X_y (X_x u2 r1 x) r1 y) r1 z) x y z)) x 0)) := cD_X_f hD
  refine lv_aload_n hx hb d_F_addOver_57 rfl (lv_at hl 1 rfl) ?_
  refine va_get (D := (dC, dI)) (ci := 0) (v := .ref (a 9)) (C := R_F) (T := T_F) (N := 8) hx hb ht in_F hown hK hP 2 rfl rfl 6 (by decide) (ht _ k_38) (fun _ h => h) rfl d_F_addOver_58 ?_
  refine lv_iload hx hb d_F_addOver_61 (lv_at hl 5 rfl) ?_
  refine lv_iconst (v := 0) hx hb d_F_addOver_63 (by decide) ?_
  refine va_zast hx hb hK hP hD hS 9 6 rfl rfl jy d_F_addOver_64 (fun H locs hP hD hS => ?_)
  have hP : va_P (dC, dI) vwCl (wX a k (X_f (X_f (X_d (X_z (X_y (X_x u2 r1 x) r1 y) r1 z) r1 (p_over (X_z (X_y (X_x u2 r1 x) r1 y) r1 z) x y z)) x 0) y 0)) H := cP_X_f hP
  have hD : va_D A (wX a k (X_f (X_f (X_d (X_z (X_y (X_x u2 r1 x) r1 y) r1 z) r1 (p_over (X_z (X_y (X_x u2 r1 x) r1 y) r1 z) x y z)) x 0) y 0)) := cD_X_f hD
  refine lv_aload_n hx hb d_F_addOver_65 rfl (lv_at hl 1 rfl) ?_
  refine va_get (D := (dC, dI)) (ci := 0) (v := .ref (a 9)) (C := R_F) (T := T_F) (N := 8) hx hb ht in_F hown hK hP 2 rfl rfl 6 (by decide) (ht _ k_38) (fun _ h => h) rfl d_F_addOver_66 ?_
  refine lv_iload hx hb d_F_addOver_69 (lv_at hl 6 rfl) ?_
  refine lv_iconst (v := 0) hx hb d_F_addOver_71 (by decide) ?_
  refine va_zast hx hb hK hP hD hS 9 6 rfl rfl jz d_F_addOver_72 (fun H locs hP hD hS => ?_)
  have hP : va_P (dC, dI) vwCl (wX a k (X_f (X_f (X_f (X_d (X_z (X_y (X_x u2 r1 x) r1 y) r1 z) r1 (p_over (X_z (X_y (X_x u2 r1 x) r1 y) r1 z) x y z)) x 0) y 0) z 0)) H := cP_X_f hP
  have hD : va_D A (wX a k (X_f (X_f (X_f (X_d (X_z (X_y (X_x u2 r1 x) r1 y) r1 z) r1 (p_over (X_z (X_y (X_x u2 r1 x) r1 y) r1 z) x y z)) x 0) y 0) z 0)) := cD_X_f hD
  refine lv_iload hx hb d_F_addOver_73 (lv_at hl 0 rfl) ?_
  exact ret_i (v := r1) hx hb hr hlocks hP hK hD hS d_F_addOver_75 (by unfold p_overX; rw [q3])
set_option maxRecDepth 100000 in
set_option maxHeartbeats 4000000 in
theorem c_G_leaf (l : Launch) (dC : Nat → ClassId) (dI : Nat → Nat → Nat) (a : Nat → Nat) (k : Nat → ClassId) (X : zX) (kd : Int32) (v : Int32) (hV : VX X) : MetI l y_G_leaf w_G_leaf (rmN (3)) dC dI (yX k) (wX a k) [.ref (a 0), .int kd, .int v] X (fun z9 u9 => p_gleaf X kd v = (z9, u9)) := by
  refine metI_of (cc := b_G_leaf) (maxL := 4) (ret := (some .int)) (by decide) rfl (Nat.le_of_ble_eq_true rfl) ?_
  intro p e9 s9 m args below meth c A ls hx hb hr hts hown hlocks hml hA hP hK hD hS hN hl
  have ht : ∀ w ∈ lw_g, w.before args s9 = true := fun w h => hts w (List.mem_cons_of_mem _ h)
  have hl : lv_has ls 4 [(0, .ref (a 0)), (1, .int kd), (2, .int v)] := hl
  refine lv_iload_n hx hb d_G_leaf_0 rfl (lv_at hl 1 rfl) ?_
  refine lv_iconst (v := 2) hx hb d_G_leaf_1 (by decide) ?_
  refine call_s (As := [.int kd, .int 2]) (rest := []) (c_G_isBelow l dC dI a k X kd 2) k_116 k_117 k_1 k_118 ⟨rfl, pc_G_isBelow.1, pc_G_isBelow.2, pd_G_isBelow⟩ rfl rfl (rm_le (by omega) (by decide)) (Nat.le_of_ble_eq_true rfl) rfl hx hb hml hown ht hl.1 hP hK hD hS hA hN d_G_leaf_2 (fun r1 u2 H locs q3 hP hD hS => ?_)
  obtain ⟨⟨b4, rfl⟩ | ⟨b4, rfl⟩, q3⟩ := q3
  · rw [q3] at hP hD
    have hP : va_P (dC, dI) vwCl (wX a k X) H := hP
    have hD : va_D A (wX a k X) := hD
    refine lv_if_ne (tgt := 10) hx hb d_G_leaf_5 (by decide) (fun c5 => ?_) (fun c5 => ?_)
    · have c5 : ¬ (1 : Int32) = 0 := c5
      refine lv_iconst (v := 0) hx hb d_G_leaf_10 (by decide) ?_
      refine lv_iload_n hx hb d_G_leaf_11 rfl (lv_at hl 1 rfl) ?_
      refine lv_iadd hx hb d_G_leaf_12 ?_
      refine lv_istore_n hx hb d_G_leaf_13 rfl hl (by decide) (lv' := [(3, .int (0 + kd)), (0, .ref (a 0)), (1, .int kd), (2, .int v)]) rfl (fun ls hl => ?_)
      refine lv_iload_n hx hb d_G_leaf_14 rfl (lv_at hl 0 rfl) ?_
      refine lv_iconst (v := 1) hx hb d_G_leaf_15 (by decide) ?_
      refine lv_icmp_ne (tgt := 30) hx hb d_G_leaf_16 (by decide) (fun c6 => ?_) (fun c6 => ?_)
      · have c6 : ¬ (0 + kd) = 1 := c6
        refine lv_aload_n hx hb d_G_leaf_30 rfl (lv_at hl 1 rfl) ?_
        refine va_get (D := (dC, dI)) (ci := 2) (v := .ref (a 2)) (C := R_G) (T := T_G) (N := 2) hx hb ht in_G hown hK hP 0 rfl rfl 1 (by decide) (ht _ k_106) (fun _ h => h) rfl d_G_leaf_31 ?_
        refine call_i (As := []) (rest := []) (ci := 0) (q0 := 2) (c_F_isFull l dC dI a k X) k_119 k_120 k_121 k_3 k_122 ⟨rfl, pc_F_isFull.1, pc_F_isFull.2, pd_F_isFull⟩ rfl rfl rfl rfl rfl (rm_le (by omega) (by decide)) (Nat.le_of_ble_eq_true rfl) rfl hx hb hml hown ht hl.1 hP hK hD hS hA hN d_G_leaf_34 (fun r7 u8 H locs q9 hP hD hS => ?_)
        obtain ⟨⟨b10, rfl⟩ | ⟨b10, rfl⟩, q9⟩ := q9
        · rw [q9] at hP hD
          have hP : va_P (dC, dI) vwCl (wX a k X) H := hP
          have hD : va_D A (wX a k X) := hD
          refine lv_if_eq (tgt := 43) hx hb d_G_leaf_37 (by decide) (fun c11 => ?_) (fun c11 => ?_)
          · have c11 : (1 : Int32) = 0 := c11
            exact absurd c11 (by decide)
          · have c11 : ¬ (1 : Int32) = 0 := c11
            refine lv_bipush (v := (-4)) hx hb d_G_leaf_40 (by decide) ?_
            exact ret_i (v := (-4)) hx hb hr hlocks hP hK hD hS d_G_leaf_42 (by simp only [p_gleaf, b4, c6, b10, if_true, if_false, Bool.false_eq_true, reduceIte])
        · rw [q9] at hP hD
          have hP : va_P (dC, dI) vwCl (wX a k X) H := hP
          have hD : va_D A (wX a k X) := hD
          refine lv_if_eq (tgt := 43) hx hb d_G_leaf_37 (by decide) (fun c12 => ?_) (fun c12 => ?_)
          · have c12 : (0 : Int32) = 0 := c12
            refine lv_aload_n hx hb d_G_leaf_43 rfl (lv_at hl 1 rfl) ?_
            refine va_get (D := (dC, dI)) (ci := 2) (v := .ref (a 2)) (C := R_G) (T := T_G) (N := 2) hx hb ht in_G hown hK hP 0 rfl rfl 1 (by decide) (ht _ k_106) (fun _ h => h) rfl d_G_leaf_44 ?_
            refine lv_iload_n hx hb d_G_leaf_47 rfl (lv_at hl 0 rfl) ?_
            refine lv_iload_n hx hb d_G_leaf_48 rfl (lv_at hl 3 rfl) ?_
            refine call_i (As := [.int (0 + kd), .int v]) (rest := []) (ci := 0) (q0 := 2) (c_F_addLeaf l dC dI a k X (0 + kd) v (full_n hV.1 b10)) k_123 k_124 k_125 k_3 k_126 ⟨rfl, pc_F_addLeaf.1, pc_F_addLeaf.2, pd_F_addLeaf⟩ rfl rfl rfl rfl rfl (rm_le (by omega) (by decide)) (Nat.le_of_ble_eq_true rfl) rfl hx hb hml hown ht hl.1 hP hK hD hS hA hN d_G_leaf_49 (fun r13 u14 H locs q15 hP hD hS => ?_)
            have hP : va_P (dC, dI) vwCl (wX a k u14) H := hP
            have hD : va_D A (wX a k u14) := hD
            exact ret_i (v := r13) hx hb hr hlocks hP hK hD hS d_G_leaf_52 (by simp only [p_gleaf, b4, c6, b10, q15, if_true, if_false, Bool.false_eq_true, reduceIte])
          · have c12 : ¬ (0 : Int32) = 0 := c12
            exact absurd c12 (by decide)
      · have c6 : (0 + kd) = 1 := c6
        refine lv_iload_n hx hb d_G_leaf_19 rfl (lv_at hl 3 rfl) ?_
        refine lv_bipush (v := 8) hx hb d_G_leaf_20 (by decide) ?_
        refine call_s (As := [.int v, .int 8]) (rest := []) (c_G_isBelow l dC dI a k X v 8) k_116 k_117 k_1 k_118 ⟨rfl, pc_G_isBelow.1, pc_G_isBelow.2, pd_G_isBelow⟩ rfl rfl (rm_le (by omega) (by decide)) (Nat.le_of_ble_eq_true rfl) rfl hx hb hml hown ht hl.1 hP hK hD hS hA hN d_G_leaf_22 (fun r16 u17 H locs q18 hP hD hS => ?_)
        obtain ⟨⟨b19, rfl⟩ | ⟨b19, rfl⟩, q18⟩ := q18
        · rw [q18] at hP hD
          have hP : va_P (dC, dI) vwCl (wX a k X) H := hP
          have hD : va_D A (wX a k X) := hD
          refine lv_if_ne (tgt := 30) hx hb d_G_leaf_25 (by decide) (fun c20 => ?_) (fun c20 => ?_)
          · have c20 : ¬ (1 : Int32) = 0 := c20
            refine lv_aload_n hx hb d_G_leaf_30 rfl (lv_at hl 1 rfl) ?_
            refine va_get (D := (dC, dI)) (ci := 2) (v := .ref (a 2)) (C := R_G) (T := T_G) (N := 2) hx hb ht in_G hown hK hP 0 rfl rfl 1 (by decide) (ht _ k_106) (fun _ h => h) rfl d_G_leaf_31 ?_
            refine call_i (As := []) (rest := []) (ci := 0) (q0 := 2) (c_F_isFull l dC dI a k X) k_119 k_120 k_121 k_3 k_122 ⟨rfl, pc_F_isFull.1, pc_F_isFull.2, pd_F_isFull⟩ rfl rfl rfl rfl rfl (rm_le (by omega) (by decide)) (Nat.le_of_ble_eq_true rfl) rfl hx hb hml hown ht hl.1 hP hK hD hS hA hN d_G_leaf_34 (fun r21 u22 H locs q23 hP hD hS => ?_)
            obtain ⟨⟨b24, rfl⟩ | ⟨b24, rfl⟩, q23⟩ := q23
            · rw [q23] at hP hD
              have hP : va_P (dC, dI) vwCl (wX a k X) H := hP
              have hD : va_D A (wX a k X) := hD
              refine lv_if_eq (tgt := 43) hx hb d_G_leaf_37 (by decide) (fun c25 => ?_) (fun c25 => ?_)
              · have c25 : (1 : Int32) = 0 := c25
                exact absurd c25 (by decide)
              · have c25 : ¬ (1 : Int32) = 0 := c25
                refine lv_bipush (v := (-4)) hx hb d_G_leaf_40 (by decide) ?_
                exact ret_i (v := (-4)) hx hb hr hlocks hP hK hD hS d_G_leaf_42 (by simp only [p_gleaf, b4, eq_true c6, b19, b24, if_true, if_false, Bool.false_eq_true, reduceIte])
            · rw [q23] at hP hD
              have hP : va_P (dC, dI) vwCl (wX a k X) H := hP
              have hD : va_D A (wX a k X) := hD
              refine lv_if_eq (tgt := 43) hx hb d_G_leaf_37 (by decide) (fun c26 => ?_) (fun c26 => ?_)
              · have c26 : (0 : Int32) = 0 := c26
                refine lv_aload_n hx hb d_G_leaf_43 rfl (lv_at hl 1 rfl) ?_
                refine va_get (D := (dC, dI)) (ci := 2) (v := .ref (a 2)) (C := R_G) (T := T_G) (N := 2) hx hb ht in_G hown hK hP 0 rfl rfl 1 (by decide) (ht _ k_106) (fun _ h => h) rfl d_G_leaf_44 ?_
                refine lv_iload_n hx hb d_G_leaf_47 rfl (lv_at hl 0 rfl) ?_
                refine lv_iload_n hx hb d_G_leaf_48 rfl (lv_at hl 3 rfl) ?_
                refine call_i (As := [.int (0 + kd), .int v]) (rest := []) (ci := 0) (q0 := 2) (c_F_addLeaf l dC dI a k X (0 + kd) v (full_n hV.1 b24)) k_123 k_124 k_125 k_3 k_126 ⟨rfl, pc_F_addLeaf.1, pc_F_addLeaf.2, pd_F_addLeaf⟩ rfl rfl rfl rfl rfl (rm_le (by omega) (by decide)) (Nat.le_of_ble_eq_true rfl) rfl hx hb hml hown ht hl.1 hP hK hD hS hA hN d_G_leaf_49 (fun r27 u28 H locs q29 hP hD hS => ?_)
                have hP : va_P (dC, dI) vwCl (wX a k u28) H := hP
                have hD : va_D A (wX a k u28) := hD
                exact ret_i (v := r27) hx hb hr hlocks hP hK hD hS d_G_leaf_52 (by simp only [p_gleaf, b4, eq_true c6, b19, b24, q29, if_true, if_false, Bool.false_eq_true, reduceIte])
              · have c26 : ¬ (0 : Int32) = 0 := c26
                exact absurd c26 (by decide)
          · have c20 : (1 : Int32) = 0 := c20
            exact absurd c20 (by decide)
        · rw [q18] at hP hD
          have hP : va_P (dC, dI) vwCl (wX a k X) H := hP
          have hD : va_D A (wX a k X) := hD
          refine lv_if_ne (tgt := 30) hx hb d_G_leaf_25 (by decide) (fun c30 => ?_) (fun c30 => ?_)
          · have c30 : ¬ (0 : Int32) = 0 := c30
            exact absurd c30 (by decide)
          · have c30 : (0 : Int32) = 0 := c30
            refine lv_iconst (v := (-1)) hx hb d_G_leaf_28 (by decide) ?_
            exact ret_i (v := (-1)) hx hb hr hlocks hP hK hD hS d_G_leaf_29 (by simp only [p_gleaf, b4, eq_true c6, b19, if_true, if_false, Bool.false_eq_true, reduceIte])
    · have c5 : (1 : Int32) = 0 := c5
      exact absurd c5 (by decide)
  · rw [q3] at hP hD
    have hP : va_P (dC, dI) vwCl (wX a k X) H := hP
    have hD : va_D A (wX a k X) := hD
    refine lv_if_ne (tgt := 10) hx hb d_G_leaf_5 (by decide) (fun c31 => ?_) (fun c31 => ?_)
    · have c31 : ¬ (0 : Int32) = 0 := c31
      exact absurd c31 (by decide)
    · have c31 : (0 : Int32) = 0 := c31
      refine lv_iconst (v := (-1)) hx hb d_G_leaf_8 (by decide) ?_
      exact ret_i (v := (-1)) hx hb hr hlocks hP hK hD hS d_G_leaf_9 (by simp only [p_gleaf, b4, if_true, if_false, Bool.false_eq_true, reduceIte])
set_option maxRecDepth 100000 in
set_option maxHeartbeats 4000000 in
theorem c_G_join (l : Launch) (dC : Nat → ClassId) (dI : Nat → Nat → Nat) (a : Nat → Nat) (k : Nat → ClassId) (X : zX) (kd : Int32) (v : Int32) (x : Int32) (y : Int32) (z : Int32) (tw : Int32) (hV : VX X) : MetI l y_G_join w_G_join (rmN (3)) dC dI (yX k) (wX a k) [.ref (a 0), .int kd, .int v, .int x, .int y, .int z, .int tw] X (fun z9 u9 => p_join X kd v x y z tw = (z9, u9)) := by
  refine metI_of (cc := b_G_join) (maxL := 7) (ret := (some .int)) (by decide) rfl (Nat.le_of_ble_eq_true rfl) ?_
  intro p e9 s9 m args below meth c A ls hx hb hr hts hown hlocks hml hA hP hK hD hS hN hl
  have ht : ∀ w ∈ lw_g, w.before args s9 = true := fun w h => hts w (List.mem_cons_of_mem _ h)
  have hl : lv_has ls 7 [(0, .ref (a 0)), (1, .int kd), (2, .int v), (3, .int x), (4, .int y), (5, .int z), (6, .int tw)] := hl
  refine lv_aload_n hx hb d_G_join_0 rfl (lv_at hl 0 rfl) ?_
  refine va_get (D := (dC, dI)) (ci := 2) (v := .ref (a 2)) (C := R_G) (T := T_G) (N := 2) hx hb ht in_G hown hK hP 0 rfl rfl 1 (by decide) (ht _ k_106) (fun _ h => h) rfl d_G_join_1 ?_
  refine lv_iload_n hx hb d_G_join_4 rfl (lv_at hl 3 rfl) ?_
  refine call_i (As := [.int x]) (rest := []) (ci := 0) (q0 := 2) (c_F_has l dC dI a k X x) k_135 k_136 k_137 k_3 k_138 ⟨rfl, pc_F_has.1, pc_F_has.2, pd_F_has⟩ rfl rfl rfl rfl rfl (rm_le (by omega) (by decide)) (Nat.le_of_ble_eq_true rfl) rfl hx hb hml hown ht hl.1 hP hK hD hS hA hN d_G_join_5 (fun r1 u2 H locs q3 hP hD hS => ?_)
  obtain ⟨⟨b4, rfl⟩ | ⟨b4, rfl⟩, q3⟩ := q3
  · rw [q3] at hP hD
    have hP : va_P (dC, dI) vwCl (wX a k X) H := hP
    have hD : va_D A (wX a k X) := hD
    refine lv_if_eq (tgt := 35) hx hb d_G_join_8 (by decide) (fun c5 => ?_) (fun c5 => ?_)
    · have c5 : (1 : Int32) = 0 := c5
      exact absurd c5 (by decide)
    · have c5 : ¬ (1 : Int32) = 0 := c5
      refine lv_aload_n hx hb d_G_join_11 rfl (lv_at hl 0 rfl) ?_
      refine va_get (D := (dC, dI)) (ci := 2) (v := .ref (a 2)) (C := R_G) (T := T_G) (N := 2) hx hb ht in_G hown hK hP 0 rfl rfl 1 (by decide) (ht _ k_106) (fun _ h => h) rfl d_G_join_12 ?_
      refine lv_iload hx hb d_G_join_15 (lv_at hl 4 rfl) ?_
      refine call_i (As := [.int y]) (rest := []) (ci := 0) (q0 := 2) (c_F_has l dC dI a k X y) k_135 k_136 k_137 k_3 k_138 ⟨rfl, pc_F_has.1, pc_F_has.2, pd_F_has⟩ rfl rfl rfl rfl rfl (rm_le (by omega) (by decide)) (Nat.le_of_ble_eq_true rfl) rfl hx hb hml hown ht hl.1 hP hK hD hS hA hN d_G_join_17 (fun r6 u7 H locs q8 hP hD hS => ?_)
      obtain ⟨⟨b9, rfl⟩ | ⟨b9, rfl⟩, q8⟩ := q8
      · rw [q8] at hP hD
        have hP : va_P (dC, dI) vwCl (wX a k X) H := hP
        have hD : va_D A (wX a k X) := hD
        refine lv_if_eq (tgt := 35) hx hb d_G_join_20 (by decide) (fun c10 => ?_) (fun c10 => ?_)
        · have c10 : (1 : Int32) = 0 := c10
          exact absurd c10 (by decide)
        · have c10 : ¬ (1 : Int32) = 0 := c10
          refine lv_aload_n hx hb d_G_join_23 rfl (lv_at hl 0 rfl) ?_
          refine va_get (D := (dC, dI)) (ci := 2) (v := .ref (a 2)) (C := R_G) (T := T_G) (N := 2) hx hb ht in_G hown hK hP 0 rfl rfl 1 (by decide) (ht _ k_106) (fun _ h => h) rfl d_G_join_24 ?_
          refine lv_iload hx hb d_G_join_27 (lv_at hl 5 rfl) ?_
          refine call_i (As := [.int z]) (rest := []) (ci := 0) (q0 := 2) (c_F_has l dC dI a k X z) k_135 k_136 k_137 k_3 k_138 ⟨rfl, pc_F_has.1, pc_F_has.2, pd_F_has⟩ rfl rfl rfl rfl rfl (rm_le (by omega) (by decide)) (Nat.le_of_ble_eq_true rfl) rfl hx hb hml hown ht hl.1 hP hK hD hS hA hN d_G_join_29 (fun r11 u12 H locs q13 hP hD hS => ?_)
          obtain ⟨⟨b14, rfl⟩ | ⟨b14, rfl⟩, q13⟩ := q13
          · rw [q13] at hP hD
            have hP : va_P (dC, dI) vwCl (wX a k X) H := hP
            have hD : va_D A (wX a k X) := hD
            refine lv_if_ne (tgt := 38) hx hb d_G_join_32 (by decide) (fun c15 => ?_) (fun c15 => ?_)
            · have c15 : ¬ (1 : Int32) = 0 := c15
              refine lv_iload hx hb d_G_join_38 (lv_at hl 6 rfl) ?_
              refine lv_if_ne (tgt := 81) hx hb d_G_join_40 (by decide) (fun c16 => ?_) (fun c16 => ?_)
              · have c16 : ¬ tw = 0 := c16
                refine lv_bipush (v := (-3)) hx hb d_G_join_81 (by decide) ?_
                exact ret_i (v := (-3)) hx hb hr hlocks hP hK hD hS d_G_join_83 (by simp only [p_join, b4, b9, b14, c16, if_true, if_false, Bool.false_eq_true, reduceIte])
              · have c16 : tw = 0 := c16
                refine lv_aload_n hx hb d_G_join_43 rfl (lv_at hl 0 rfl) ?_
                refine va_get (D := (dC, dI)) (ci := 2) (v := .ref (a 2)) (C := R_G) (T := T_G) (N := 2) hx hb ht in_G hown hK hP 0 rfl rfl 1 (by decide) (ht _ k_106) (fun _ h => h) rfl d_G_join_44 ?_
                refine va_get (D := (dC, dI)) (ci := 0) (v := .ref (a 9)) (C := R_F) (T := T_F) (N := 8) hx hb ht in_F hown hK hP 2 rfl rfl 6 (by decide) (ht _ k_39) (fun _ h => h) rfl d_G_join_47 ?_
                refine lv_iload_n hx hb d_G_join_50 rfl (lv_at hl 3 rfl) ?_
                refine va_zald hx hb hK hP 9 6 rfl rfl (bel_n hV.1 b4) d_G_join_51 ?_
                refine lv_if_eq (tgt := 81) hx hb d_G_join_52 (by decide) (fun c17 => ?_) (fun c17 => ?_)
                · have c17 : x_f X (ix x) = 0 := c17
                  refine lv_bipush (v := (-3)) hx hb d_G_join_81 (by decide) ?_
                  exact ret_i (v := (-3)) hx hb hr hlocks hP hK hD hS d_G_join_83 (by simp only [p_join, b4, b9, b14, eq_true c16, eq_true c17, if_true, if_false, Bool.false_eq_true, reduceIte])
                · have c17 : ¬ x_f X (ix x) = 0 := c17
                  refine lv_aload_n hx hb d_G_join_55 rfl (lv_at hl 0 rfl) ?_
                  refine va_get (D := (dC, dI)) (ci := 2) (v := .ref (a 2)) (C := R_G) (T := T_G) (N := 2) hx hb ht in_G hown hK hP 0 rfl rfl 1 (by decide) (ht _ k_106) (fun _ h => h) rfl d_G_join_56 ?_
                  refine va_get (D := (dC, dI)) (ci := 0) (v := .ref (a 9)) (C := R_F) (T := T_F) (N := 8) hx hb ht in_F hown hK hP 2 rfl rfl 6 (by decide) (ht _ k_39) (fun _ h => h) rfl d_G_join_59 ?_
                  refine lv_iload hx hb d_G_join_62 (lv_at hl 4 rfl) ?_
                  refine va_zald hx hb hK hP 9 6 rfl rfl (bel_n hV.1 b9) d_G_join_64 ?_
                  refine lv_if_eq (tgt := 81) hx hb d_G_join_65 (by decide) (fun c18 => ?_) (fun c18 => ?_)
                  · have c18 : x_f X (ix y) = 0 := c18
                    refine lv_bipush (v := (-3)) hx hb d_G_join_81 (by decide) ?_
                    exact ret_i (v := (-3)) hx hb hr hlocks hP hK hD hS d_G_join_83 (by simp only [p_join, b4, b9, b14, eq_true c16, c17, eq_true c18, if_true, if_false, Bool.false_eq_true, reduceIte])
                  · have c18 : ¬ x_f X (ix y) = 0 := c18
                    refine lv_aload_n hx hb d_G_join_68 rfl (lv_at hl 0 rfl) ?_
                    refine va_get (D := (dC, dI)) (ci := 2) (v := .ref (a 2)) (C := R_G) (T := T_G) (N := 2) hx hb ht in_G hown hK hP 0 rfl rfl 1 (by decide) (ht _ k_106) (fun _ h => h) rfl d_G_join_69 ?_
                    refine va_get (D := (dC, dI)) (ci := 0) (v := .ref (a 9)) (C := R_F) (T := T_F) (N := 8) hx hb ht in_F hown hK hP 2 rfl rfl 6 (by decide) (ht _ k_39) (fun _ h => h) rfl d_G_join_72 ?_
                    refine lv_iload hx hb d_G_join_75 (lv_at hl 5 rfl) ?_
                    refine va_zald hx hb hK hP 9 6 rfl rfl (bel_n hV.1 b14) d_G_join_77 ?_
                    refine lv_if_ne (tgt := 84) hx hb d_G_join_78 (by decide) (fun c19 => ?_) (fun c19 => ?_)
                    · have c19 : ¬ x_f X (ix z) = 0 := c19
                      refine lv_aload_n hx hb d_G_join_84 rfl (lv_at hl 0 rfl) ?_
                      refine va_get (D := (dC, dI)) (ci := 2) (v := .ref (a 2)) (C := R_G) (T := T_G) (N := 2) hx hb ht in_G hown hK hP 0 rfl rfl 1 (by decide) (ht _ k_106) (fun _ h => h) rfl d_G_join_85 ?_
                      refine call_i (As := []) (rest := []) (ci := 0) (q0 := 2) (c_F_isFull l dC dI a k X) k_119 k_120 k_121 k_3 k_122 ⟨rfl, pc_F_isFull.1, pc_F_isFull.2, pd_F_isFull⟩ rfl rfl rfl rfl rfl (rm_le (by omega) (by decide)) (Nat.le_of_ble_eq_true rfl) rfl hx hb hml hown ht hl.1 hP hK hD hS hA hN d_G_join_88 (fun r20 u21 H locs q22 hP hD hS => ?_)
                      obtain ⟨⟨b23, rfl⟩ | ⟨b23, rfl⟩, q22⟩ := q22
                      · rw [q22] at hP hD
                        have hP : va_P (dC, dI) vwCl (wX a k X) H := hP
                        have hD : va_D A (wX a k X) := hD
                        refine lv_if_eq (tgt := 97) hx hb d_G_join_91 (by decide) (fun c24 => ?_) (fun c24 => ?_)
                        · have c24 : (1 : Int32) = 0 := c24
                          exact absurd c24 (by decide)
                        · have c24 : ¬ (1 : Int32) = 0 := c24
                          refine lv_bipush (v := (-4)) hx hb d_G_join_94 (by decide) ?_
                          exact ret_i (v := (-4)) hx hb hr hlocks hP hK hD hS d_G_join_96 (by simp only [p_join, b4, b9, b14, eq_true c16, c17, c18, c19, b23, if_true, if_false, Bool.false_eq_true, reduceIte])
                      · rw [q22] at hP hD
                        have hP : va_P (dC, dI) vwCl (wX a k X) H := hP
                        have hD : va_D A (wX a k X) := hD
                        refine lv_if_eq (tgt := 97) hx hb d_G_join_91 (by decide) (fun c25 => ?_) (fun c25 => ?_)
                        · have c25 : (0 : Int32) = 0 := c25
                          refine lv_aload_n hx hb d_G_join_97 rfl (lv_at hl 0 rfl) ?_
                          refine va_get (D := (dC, dI)) (ci := 2) (v := .ref (a 2)) (C := R_G) (T := T_G) (N := 2) hx hb ht in_G hown hK hP 0 rfl rfl 1 (by decide) (ht _ k_106) (fun _ h => h) rfl d_G_join_98 ?_
                          refine lv_iload_n hx hb d_G_join_101 rfl (lv_at hl 3 rfl) ?_
                          refine lv_iload hx hb d_G_join_102 (lv_at hl 4 rfl) ?_
                          refine lv_iload hx hb d_G_join_104 (lv_at hl 5 rfl) ?_
                          refine call_i (As := [.int x, .int y, .int z]) (rest := []) (ci := 0) (q0 := 2) (c_F_depthOver l dC dI a k X x y z (bel_n hV.1 b4) (bel_n hV.1 b9) (bel_n hV.1 b14)) k_140 k_141 k_142 k_3 k_143 ⟨rfl, pc_F_depthOver.1, pc_F_depthOver.2, pd_F_depthOver⟩ rfl rfl rfl rfl rfl (rm_le (by omega) (by decide)) (Nat.le_of_ble_eq_true rfl) rfl hx hb hml hown ht hl.1 hP hK hD hS hA hN d_G_join_106 (fun r26 u27 H locs q28 hP hD hS => ?_)
                          obtain ⟨rfl, q28⟩ := q28
                          rw [q28] at hP hD
                          have hP : va_P (dC, dI) vwCl (wX a k X) H := hP
                          have hD : va_D A (wX a k X) := hD
                          refine lv_bipush (v := 12) hx hb d_G_join_109 (by decide) ?_
                          refine lv_icmp_le (tgt := 117) hx hb d_G_join_111 (by decide) (fun c29 => ?_) (fun c29 => ?_)
                          · have c29 : ¬ (12 : Int32) < p_over X x y z := Int32.not_lt.mpr c29
                            refine lv_aload_n hx hb d_G_join_117 rfl (lv_at hl 0 rfl) ?_
                            refine va_get (D := (dC, dI)) (ci := 2) (v := .ref (a 2)) (C := R_G) (T := T_G) (N := 2) hx hb ht in_G hown hK hP 0 rfl rfl 1 (by decide) (ht _ k_106) (fun _ h => h) rfl d_G_join_118 ?_
                            refine lv_iload_n hx hb d_G_join_121 rfl (lv_at hl 1 rfl) ?_
                            refine lv_iload_n hx hb d_G_join_122 rfl (lv_at hl 2 rfl) ?_
                            refine lv_iload_n hx hb d_G_join_123 rfl (lv_at hl 3 rfl) ?_
                            refine lv_iload hx hb d_G_join_124 (lv_at hl 4 rfl) ?_
                            refine lv_iload hx hb d_G_join_126 (lv_at hl 5 rfl) ?_
                            refine call_i (As := [.int kd, .int v, .int x, .int y, .int z]) (rest := []) (ci := 0) (q0 := 2) (c_F_addOver l dC dI a k X kd v x y z (full_n hV.1 b23) (bel_n hV.1 b4) (bel_n hV.1 b9) (bel_n hV.1 b14)) k_147 k_148 k_149 k_3 k_150 ⟨rfl, pc_F_addOver.1, pc_F_addOver.2, pd_F_addOver⟩ rfl rfl rfl rfl rfl (rm_le (by omega) (by decide)) (Nat.le_of_ble_eq_true rfl) rfl hx hb hml hown ht hl.1 hP hK hD hS hA hN d_G_join_128 (fun r30 u31 H locs q32 hP hD hS => ?_)
                            have hP : va_P (dC, dI) vwCl (wX a k u31) H := hP
                            have hD : va_D A (wX a k u31) := hD
                            exact ret_i (v := r30) hx hb hr hlocks hP hK hD hS d_G_join_131 (by simp only [p_join, b4, b9, b14, eq_true c16, c17, c18, c19, b23, c29, q32, if_true, if_false, Bool.false_eq_true, reduceIte])
                          · have c29 : (12 : Int32) < p_over X x y z := Int32.not_le.mp c29
                            refine lv_bipush (v := (-5)) hx hb d_G_join_114 (by decide) ?_
                            exact ret_i (v := (-5)) hx hb hr hlocks hP hK hD hS d_G_join_116 (by simp only [p_join, b4, b9, b14, eq_true c16, c17, c18, c19, b23, c29, if_true, if_false, Bool.false_eq_true, reduceIte])
                        · have c25 : ¬ (0 : Int32) = 0 := c25
                          exact absurd c25 (by decide)
                    · have c19 : x_f X (ix z) = 0 := c19
                      refine lv_bipush (v := (-3)) hx hb d_G_join_81 (by decide) ?_
                      exact ret_i (v := (-3)) hx hb hr hlocks hP hK hD hS d_G_join_83 (by simp only [p_join, b4, b9, b14, eq_true c16, c17, c18, eq_true c19, if_true, if_false, Bool.false_eq_true, reduceIte])
            · have c15 : (1 : Int32) = 0 := c15
              exact absurd c15 (by decide)
          · rw [q13] at hP hD
            have hP : va_P (dC, dI) vwCl (wX a k X) H := hP
            have hD : va_D A (wX a k X) := hD
            refine lv_if_ne (tgt := 38) hx hb d_G_join_32 (by decide) (fun c33 => ?_) (fun c33 => ?_)
            · have c33 : ¬ (0 : Int32) = 0 := c33
              exact absurd c33 (by decide)
            · have c33 : (0 : Int32) = 0 := c33
              refine lv_bipush (v := (-2)) hx hb d_G_join_35 (by decide) ?_
              exact ret_i (v := (-2)) hx hb hr hlocks hP hK hD hS d_G_join_37 (by simp only [p_join, b4, b9, b14, if_true, if_false, Bool.false_eq_true, reduceIte])
      · rw [q8] at hP hD
        have hP : va_P (dC, dI) vwCl (wX a k X) H := hP
        have hD : va_D A (wX a k X) := hD
        refine lv_if_eq (tgt := 35) hx hb d_G_join_20 (by decide) (fun c34 => ?_) (fun c34 => ?_)
        · have c34 : (0 : Int32) = 0 := c34
          refine lv_bipush (v := (-2)) hx hb d_G_join_35 (by decide) ?_
          exact ret_i (v := (-2)) hx hb hr hlocks hP hK hD hS d_G_join_37 (by simp only [p_join, b4, b9, if_true, if_false, Bool.false_eq_true, reduceIte])
        · have c34 : ¬ (0 : Int32) = 0 := c34
          exact absurd c34 (by decide)
  · rw [q3] at hP hD
    have hP : va_P (dC, dI) vwCl (wX a k X) H := hP
    have hD : va_D A (wX a k X) := hD
    refine lv_if_eq (tgt := 35) hx hb d_G_join_8 (by decide) (fun c35 => ?_) (fun c35 => ?_)
    · have c35 : (0 : Int32) = 0 := c35
      refine lv_bipush (v := (-2)) hx hb d_G_join_35 (by decide) ?_
      exact ret_i (v := (-2)) hx hb hr hlocks hP hK hD hS d_G_join_37 (by simp only [p_join, b4, if_true, if_false, Bool.false_eq_true, reduceIte])
    · have c35 : ¬ (0 : Int32) = 0 := c35
      exact absurd c35 (by decide)
set_option maxRecDepth 100000 in
set_option maxHeartbeats 4000000 in
theorem c_G_unary (l : Launch) (dC : Nat → ClassId) (dI : Nat → Nat → Nat) (a : Nat → Nat) (k : Nat → ClassId) (X : zX) (kd : Int32) (v : Int32) (x : Int32) (hV : VX X) : MetI l y_G_unary w_G_unary (rmN (4)) dC dI (yX k) (wX a k) [.ref (a 0), .int kd, .int v, .int x] X (fun z9 u9 => p_gun X kd v x = (z9, u9)) := by
  refine metI_of (cc := b_G_unary) (maxL := 5) (ret := (some .int)) (by decide) rfl (Nat.le_of_ble_eq_true rfl) ?_
  intro p e9 s9 m args below meth c A ls hx hb hr hts hown hlocks hml hA hP hK hD hS hN hl
  have ht : ∀ w ∈ lw_g, w.before args s9 = true := fun w h => hts w (List.mem_cons_of_mem _ h)
  have hl : lv_has ls 5 [(0, .ref (a 0)), (1, .int kd), (2, .int v), (3, .int x)] := hl
  refine lv_iload_n hx hb d_G_unary_0 rfl (lv_at hl 1 rfl) ?_
  refine lv_iconst (v := 4) hx hb d_G_unary_1 (by decide) ?_
  refine call_s (As := [.int kd, .int 4]) (rest := []) (c_G_isBelow l dC dI a k X kd 4) k_116 k_117 k_1 k_118 ⟨rfl, pc_G_isBelow.1, pc_G_isBelow.2, pd_G_isBelow⟩ rfl rfl (rm_le (by omega) (by decide)) (Nat.le_of_ble_eq_true rfl) rfl hx hb hml hown ht hl.1 hP hK hD hS hA hN d_G_unary_2 (fun r1 u2 H locs q3 hP hD hS => ?_)
  obtain ⟨⟨b4, rfl⟩ | ⟨b4, rfl⟩, q3⟩ := q3
  · rw [q3] at hP hD
    have hP : va_P (dC, dI) vwCl (wX a k X) H := hP
    have hD : va_D A (wX a k X) := hD
    refine lv_if_ne (tgt := 10) hx hb d_G_unary_5 (by decide) (fun c5 => ?_) (fun c5 => ?_)
    · have c5 : ¬ (1 : Int32) = 0 := c5
      refine lv_iconst (v := 2) hx hb d_G_unary_10 (by decide) ?_
      refine lv_iload_n hx hb d_G_unary_11 rfl (lv_at hl 1 rfl) ?_
      refine lv_iadd hx hb d_G_unary_12 ?_
      refine lv_istore hx hb d_G_unary_13 hl (by decide) (lv' := [(4, .int (2 + kd)), (0, .ref (a 0)), (1, .int kd), (2, .int v), (3, .int x)]) rfl (fun ls hl => ?_)
      refine lv_iload hx hb d_G_unary_15 (lv_at hl 0 rfl) ?_
      refine lv_iconst (v := 2) hx hb d_G_unary_17 (by decide) ?_
      refine lv_icmp_ne (tgt := 32) hx hb d_G_unary_18 (by decide) (fun c6 => ?_) (fun c6 => ?_)
      · have c6 : ¬ (2 + kd) = 2 := c6
        refine lv_aload_n hx hb d_G_unary_32 rfl (lv_at hl 1 rfl) ?_
        refine lv_iload hx hb d_G_unary_33 (lv_at hl 0 rfl) ?_
        refine lv_iload_n hx hb d_G_unary_35 rfl (lv_at hl 3 rfl) ?_
        refine lv_iload_n hx hb d_G_unary_36 rfl (lv_at hl 4 rfl) ?_
        refine lv_iload_n hx hb d_G_unary_37 rfl (lv_at hl 4 rfl) ?_
        refine lv_iload_n hx hb d_G_unary_38 rfl (lv_at hl 4 rfl) ?_
        refine lv_iconst (v := 0) hx hb d_G_unary_39 (by decide) ?_
        refine call_i (As := [.int (2 + kd), .int v, .int x, .int x, .int x, .int 0]) (rest := []) (ci := 2) (q0 := 0) (c_G_join l dC dI a k X (2 + kd) v x x x 0  hV) k_131 k_133 s_G_join k_1 k_134 ⟨rfl, pc_G_join.1, pc_G_join.2, pd_G_join⟩ rfl rfl rfl rfl rfl (rm_le (by omega) (by decide)) (Nat.le_of_ble_eq_true rfl) rfl hx hb hml hown ht hl.1 hP hK hD hS hA hN d_G_unary_40 (fun r7 u8 H locs q9 hP hD hS => ?_)
        have hP : va_P (dC, dI) vwCl (wX a k u8) H := hP
        have hD : va_D A (wX a k u8) := hD
        exact ret_i (v := r7) hx hb hr hlocks hP hK hD hS d_G_unary_43 (by simp only [p_gun, b4, c6, q9, if_true, if_false, Bool.false_eq_true, reduceIte])
      · have c6 : (2 + kd) = 2 := c6
        refine lv_iload_n hx hb d_G_unary_21 rfl (lv_at hl 3 rfl) ?_
        refine lv_bipush (v := 8) hx hb d_G_unary_22 (by decide) ?_
        refine call_s (As := [.int v, .int 8]) (rest := []) (c_G_isBelow l dC dI a k X v 8) k_116 k_117 k_1 k_118 ⟨rfl, pc_G_isBelow.1, pc_G_isBelow.2, pd_G_isBelow⟩ rfl rfl (rm_le (by omega) (by decide)) (Nat.le_of_ble_eq_true rfl) rfl hx hb hml hown ht hl.1 hP hK hD hS hA hN d_G_unary_24 (fun r10 u11 H locs q12 hP hD hS => ?_)
        obtain ⟨⟨b13, rfl⟩ | ⟨b13, rfl⟩, q12⟩ := q12
        · rw [q12] at hP hD
          have hP : va_P (dC, dI) vwCl (wX a k X) H := hP
          have hD : va_D A (wX a k X) := hD
          refine lv_if_ne (tgt := 32) hx hb d_G_unary_27 (by decide) (fun c14 => ?_) (fun c14 => ?_)
          · have c14 : ¬ (1 : Int32) = 0 := c14
            refine lv_aload_n hx hb d_G_unary_32 rfl (lv_at hl 1 rfl) ?_
            refine lv_iload hx hb d_G_unary_33 (lv_at hl 0 rfl) ?_
            refine lv_iload_n hx hb d_G_unary_35 rfl (lv_at hl 3 rfl) ?_
            refine lv_iload_n hx hb d_G_unary_36 rfl (lv_at hl 4 rfl) ?_
            refine lv_iload_n hx hb d_G_unary_37 rfl (lv_at hl 4 rfl) ?_
            refine lv_iload_n hx hb d_G_unary_38 rfl (lv_at hl 4 rfl) ?_
            refine lv_iconst (v := 0) hx hb d_G_unary_39 (by decide) ?_
            refine call_i (As := [.int (2 + kd), .int v, .int x, .int x, .int x, .int 0]) (rest := []) (ci := 2) (q0 := 0) (c_G_join l dC dI a k X (2 + kd) v x x x 0  hV) k_131 k_133 s_G_join k_1 k_134 ⟨rfl, pc_G_join.1, pc_G_join.2, pd_G_join⟩ rfl rfl rfl rfl rfl (rm_le (by omega) (by decide)) (Nat.le_of_ble_eq_true rfl) rfl hx hb hml hown ht hl.1 hP hK hD hS hA hN d_G_unary_40 (fun r15 u16 H locs q17 hP hD hS => ?_)
            have hP : va_P (dC, dI) vwCl (wX a k u16) H := hP
            have hD : va_D A (wX a k u16) := hD
            exact ret_i (v := r15) hx hb hr hlocks hP hK hD hS d_G_unary_43 (by simp only [p_gun, b4, eq_true c6, b13, q17, if_true, if_false, Bool.false_eq_true, reduceIte])
          · have c14 : (1 : Int32) = 0 := c14
            exact absurd c14 (by decide)
        · rw [q12] at hP hD
          have hP : va_P (dC, dI) vwCl (wX a k X) H := hP
          have hD : va_D A (wX a k X) := hD
          refine lv_if_ne (tgt := 32) hx hb d_G_unary_27 (by decide) (fun c18 => ?_) (fun c18 => ?_)
          · have c18 : ¬ (0 : Int32) = 0 := c18
            exact absurd c18 (by decide)
          · have c18 : (0 : Int32) = 0 := c18
            refine lv_iconst (v := (-1)) hx hb d_G_unary_30 (by decide) ?_
            exact ret_i (v := (-1)) hx hb hr hlocks hP hK hD hS d_G_unary_31 (by simp only [p_gun, b4, eq_true c6, b13, if_true, if_false, Bool.false_eq_true, reduceIte])
    · have c5 : (1 : Int32) = 0 := c5
      exact absurd c5 (by decide)
  · rw [q3] at hP hD
    have hP : va_P (dC, dI) vwCl (wX a k X) H := hP
    have hD : va_D A (wX a k X) := hD
    refine lv_if_ne (tgt := 10) hx hb d_G_unary_5 (by decide) (fun c19 => ?_) (fun c19 => ?_)
    · have c19 : ¬ (0 : Int32) = 0 := c19
      exact absurd c19 (by decide)
    · have c19 : (0 : Int32) = 0 := c19
      refine lv_iconst (v := (-1)) hx hb d_G_unary_8 (by decide) ?_
      exact ret_i (v := (-1)) hx hb hr hlocks hP hK hD hS d_G_unary_9 (by simp only [p_gun, b4, if_true, if_false, Bool.false_eq_true, reduceIte])
set_option maxRecDepth 100000 in
set_option maxHeartbeats 4000000 in
theorem c_G_binary (l : Launch) (dC : Nat → ClassId) (dI : Nat → Nat → Nat) (a : Nat → Nat) (k : Nat → ClassId) (X : zX) (kd : Int32) (x : Int32) (y : Int32) (hV : VX X) : MetI l y_G_binary w_G_binary (rmN (4)) dC dI (yX k) (wX a k) [.ref (a 0), .int kd, .int x, .int y] X (fun z9 u9 => p_gbin X kd x y = (z9, u9)) := by
  refine metI_of (cc := b_G_binary) (maxL := 4) (ret := (some .int)) (by decide) rfl (Nat.le_of_ble_eq_true rfl) ?_
  intro p e9 s9 m args below meth c A ls hx hb hr hts hown hlocks hml hA hP hK hD hS hN hl
  have ht : ∀ w ∈ lw_g, w.before args s9 = true := fun w h => hts w (List.mem_cons_of_mem _ h)
  have hl : lv_has ls 4 [(0, .ref (a 0)), (1, .int kd), (2, .int x), (3, .int y)] := hl
  refine lv_iload_n hx hb d_G_binary_0 rfl (lv_at hl 1 rfl) ?_
  refine lv_bipush (v := 12) hx hb d_G_binary_1 (by decide) ?_
  refine call_s (As := [.int kd, .int 12]) (rest := []) (c_G_isBelow l dC dI a k X kd 12) k_116 k_117 k_1 k_118 ⟨rfl, pc_G_isBelow.1, pc_G_isBelow.2, pd_G_isBelow⟩ rfl rfl (rm_le (by omega) (by decide)) (Nat.le_of_ble_eq_true rfl) rfl hx hb hml hown ht hl.1 hP hK hD hS hA hN d_G_binary_3 (fun r1 u2 H locs q3 hP hD hS => ?_)
  obtain ⟨⟨b4, rfl⟩ | ⟨b4, rfl⟩, q3⟩ := q3
  · rw [q3] at hP hD
    have hP : va_P (dC, dI) vwCl (wX a k X) H := hP
    have hD : va_D A (wX a k X) := hD
    refine lv_if_ne (tgt := 11) hx hb d_G_binary_6 (by decide) (fun c5 => ?_) (fun c5 => ?_)
    · have c5 : ¬ (1 : Int32) = 0 := c5
      refine lv_aload_n hx hb d_G_binary_11 rfl (lv_at hl 0 rfl) ?_
      refine lv_bipush (v := 6) hx hb d_G_binary_12 (by decide) ?_
      refine lv_iload_n hx hb d_G_binary_14 rfl (lv_at hl 1 rfl) ?_
      refine lv_iadd hx hb d_G_binary_15 ?_
      refine lv_iconst (v := 0) hx hb d_G_binary_16 (by decide) ?_
      refine lv_iload_n hx hb d_G_binary_17 rfl (lv_at hl 2 rfl) ?_
      refine lv_iload_n hx hb d_G_binary_18 rfl (lv_at hl 3 rfl) ?_
      refine lv_iload_n hx hb d_G_binary_19 rfl (lv_at hl 3 rfl) ?_
      refine lv_iload_n hx hb d_G_binary_20 rfl (lv_at hl 2 rfl) ?_
      refine lv_iload_n hx hb d_G_binary_21 rfl (lv_at hl 3 rfl) ?_
      refine lv_icmp_ne (tgt := 29) hx hb d_G_binary_22 (by decide) (fun c6 => ?_) (fun c6 => ?_)
      · have c6 : ¬ x = y := c6
        refine lv_iconst (v := 0) hx hb d_G_binary_29 (by decide) ?_
        refine call_i (As := [.int (6 + kd), .int 0, .int x, .int y, .int y, .int 0]) (rest := []) (ci := 2) (q0 := 0) (c_G_join l dC dI a k X (6 + kd) 0 x y y 0  hV) k_131 k_133 s_G_join k_1 k_134 ⟨rfl, pc_G_join.1, pc_G_join.2, pd_G_join⟩ rfl rfl rfl rfl rfl (rm_le (by omega) (by decide)) (Nat.le_of_ble_eq_true rfl) rfl hx hb hml hown ht hl.1 hP hK hD hS hA hN d_G_binary_30 (fun r7 u8 H locs q9 hP hD hS => ?_)
        have hP : va_P (dC, dI) vwCl (wX a k u8) H := hP
        have hD : va_D A (wX a k u8) := hD
        exact ret_i (v := r7) hx hb hr hlocks hP hK hD hS d_G_binary_33 (by simp only [p_gbin, b4, c6, q9, if_true, if_false, Bool.false_eq_true, reduceIte])
      · have c6 : x = y := c6
        refine lv_iconst (v := 1) hx hb d_G_binary_25 (by decide) ?_
        refine lv_goto (tgt := 30) hx hb d_G_binary_26 (by decide) ?_
        refine call_i (As := [.int (6 + kd), .int 0, .int x, .int y, .int y, .int 1]) (rest := []) (ci := 2) (q0 := 0) (c_G_join l dC dI a k X (6 + kd) 0 x y y 1  hV) k_131 k_133 s_G_join k_1 k_134 ⟨rfl, pc_G_join.1, pc_G_join.2, pd_G_join⟩ rfl rfl rfl rfl rfl (rm_le (by omega) (by decide)) (Nat.le_of_ble_eq_true rfl) rfl hx hb hml hown ht hl.1 hP hK hD hS hA hN d_G_binary_30 (fun r10 u11 H locs q12 hP hD hS => ?_)
        have hP : va_P (dC, dI) vwCl (wX a k u11) H := hP
        have hD : va_D A (wX a k u11) := hD
        exact ret_i (v := r10) hx hb hr hlocks hP hK hD hS d_G_binary_33 (by simp only [p_gbin, b4, eq_true c6, q12, if_true, if_false, Bool.false_eq_true, reduceIte])
    · have c5 : (1 : Int32) = 0 := c5
      exact absurd c5 (by decide)
  · rw [q3] at hP hD
    have hP : va_P (dC, dI) vwCl (wX a k X) H := hP
    have hD : va_D A (wX a k X) := hD
    refine lv_if_ne (tgt := 11) hx hb d_G_binary_6 (by decide) (fun c13 => ?_) (fun c13 => ?_)
    · have c13 : ¬ (0 : Int32) = 0 := c13
      exact absurd c13 (by decide)
    · have c13 : (0 : Int32) = 0 := c13
      refine lv_iconst (v := (-1)) hx hb d_G_binary_9 (by decide) ?_
      exact ret_i (v := (-1)) hx hb hr hlocks hP hK hD hS d_G_binary_10 (by simp only [p_gbin, b4, if_true, if_false, Bool.false_eq_true, reduceIte])
set_option maxRecDepth 100000 in
set_option maxHeartbeats 4000000 in
theorem c_G_ternary (l : Launch) (dC : Nat → ClassId) (dI : Nat → Nat → Nat) (a : Nat → Nat) (k : Nat → ClassId) (X : zX) (kd : Int32) (x : Int32) (y : Int32) (z : Int32) (hV : VX X) : MetI l y_G_ternary w_G_ternary (rmN (4)) dC dI (yX k) (wX a k) [.ref (a 0), .int kd, .int x, .int y, .int z] X (fun z9 u9 => p_gter X kd x y z = (z9, u9)) := by
  refine metI_of (cc := b_G_ternary) (maxL := 5) (ret := (some .int)) (by decide) rfl (Nat.le_of_ble_eq_true rfl) ?_
  intro p e9 s9 m args below meth c A ls hx hb hr hts hown hlocks hml hA hP hK hD hS hN hl
  have ht : ∀ w ∈ lw_g, w.before args s9 = true := fun w h => hts w (List.mem_cons_of_mem _ h)
  have hl : lv_has ls 5 [(0, .ref (a 0)), (1, .int kd), (2, .int x), (3, .int y), (4, .int z)] := hl
  refine lv_iload_n hx hb d_G_ternary_0 rfl (lv_at hl 1 rfl) ?_
  refine lv_iconst (v := 2) hx hb d_G_ternary_1 (by decide) ?_
  refine call_s (As := [.int kd, .int 2]) (rest := []) (c_G_isBelow l dC dI a k X kd 2) k_116 k_117 k_1 k_118 ⟨rfl, pc_G_isBelow.1, pc_G_isBelow.2, pd_G_isBelow⟩ rfl rfl (rm_le (by omega) (by decide)) (Nat.le_of_ble_eq_true rfl) rfl hx hb hml hown ht hl.1 hP hK hD hS hA hN d_G_ternary_2 (fun r1 u2 H locs q3 hP hD hS => ?_)
  obtain ⟨⟨b4, rfl⟩ | ⟨b4, rfl⟩, q3⟩ := q3
  · rw [q3] at hP hD
    have hP : va_P (dC, dI) vwCl (wX a k X) H := hP
    have hD : va_D A (wX a k X) := hD
    refine lv_if_ne (tgt := 10) hx hb d_G_ternary_5 (by decide) (fun c5 => ?_) (fun c5 => ?_)
    · have c5 : ¬ (1 : Int32) = 0 := c5
      refine lv_aload_n hx hb d_G_ternary_10 rfl (lv_at hl 0 rfl) ?_
      refine lv_bipush (v := 18) hx hb d_G_ternary_11 (by decide) ?_
      refine lv_iload_n hx hb d_G_ternary_13 rfl (lv_at hl 1 rfl) ?_
      refine lv_iadd hx hb d_G_ternary_14 ?_
      refine lv_iconst (v := 0) hx hb d_G_ternary_15 (by decide) ?_
      refine lv_iload_n hx hb d_G_ternary_16 rfl (lv_at hl 2 rfl) ?_
      refine lv_iload_n hx hb d_G_ternary_17 rfl (lv_at hl 3 rfl) ?_
      refine lv_iload hx hb d_G_ternary_18 (lv_at hl 4 rfl) ?_
      refine lv_iload_n hx hb d_G_ternary_20 rfl (lv_at hl 2 rfl) ?_
      refine lv_iload_n hx hb d_G_ternary_21 rfl (lv_at hl 3 rfl) ?_
      refine lv_icmp_eq (tgt := 37) hx hb d_G_ternary_22 (by decide) (fun c6 => ?_) (fun c6 => ?_)
      · have c6 : x = y := c6
        refine lv_iconst (v := 1) hx hb d_G_ternary_37 (by decide) ?_
        refine lv_goto (tgt := 42) hx hb d_G_ternary_38 (by decide) ?_
        refine call_i (As := [.int (18 + kd), .int 0, .int x, .int y, .int z, .int 1]) (rest := []) (ci := 2) (q0 := 0) (c_G_join l dC dI a k X (18 + kd) 0 x y z 1  hV) k_131 k_133 s_G_join k_1 k_134 ⟨rfl, pc_G_join.1, pc_G_join.2, pd_G_join⟩ rfl rfl rfl rfl rfl (rm_le (by omega) (by decide)) (Nat.le_of_ble_eq_true rfl) rfl hx hb hml hown ht hl.1 hP hK hD hS hA hN d_G_ternary_42 (fun r7 u8 H locs q9 hP hD hS => ?_)
        have hP : va_P (dC, dI) vwCl (wX a k u8) H := hP
        have hD : va_D A (wX a k u8) := hD
        exact ret_i (v := r7) hx hb hr hlocks hP hK hD hS d_G_ternary_45 (by simp only [p_gter, b4, eq_true c6, q9, if_true, if_false, Bool.false_eq_true, reduceIte])
      · have c6 : ¬ x = y := c6
        refine lv_iload_n hx hb d_G_ternary_25 rfl (lv_at hl 3 rfl) ?_
        refine lv_iload hx hb d_G_ternary_26 (lv_at hl 4 rfl) ?_
        refine lv_icmp_eq (tgt := 37) hx hb d_G_ternary_28 (by decide) (fun c10 => ?_) (fun c10 => ?_)
        · have c10 : y = z := c10
          refine lv_iconst (v := 1) hx hb d_G_ternary_37 (by decide) ?_
          refine lv_goto (tgt := 42) hx hb d_G_ternary_38 (by decide) ?_
          refine call_i (As := [.int (18 + kd), .int 0, .int x, .int y, .int z, .int 1]) (rest := []) (ci := 2) (q0 := 0) (c_G_join l dC dI a k X (18 + kd) 0 x y z 1  hV) k_131 k_133 s_G_join k_1 k_134 ⟨rfl, pc_G_join.1, pc_G_join.2, pd_G_join⟩ rfl rfl rfl rfl rfl (rm_le (by omega) (by decide)) (Nat.le_of_ble_eq_true rfl) rfl hx hb hml hown ht hl.1 hP hK hD hS hA hN d_G_ternary_42 (fun r11 u12 H locs q13 hP hD hS => ?_)
          have hP : va_P (dC, dI) vwCl (wX a k u12) H := hP
          have hD : va_D A (wX a k u12) := hD
          exact ret_i (v := r11) hx hb hr hlocks hP hK hD hS d_G_ternary_45 (by simp only [p_gter, b4, c6, eq_true c10, q13, if_true, if_false, Bool.false_eq_true, reduceIte])
        · have c10 : ¬ y = z := c10
          refine lv_iload_n hx hb d_G_ternary_31 rfl (lv_at hl 2 rfl) ?_
          refine lv_iload hx hb d_G_ternary_32 (lv_at hl 4 rfl) ?_
          refine lv_icmp_ne (tgt := 41) hx hb d_G_ternary_34 (by decide) (fun c14 => ?_) (fun c14 => ?_)
          · have c14 : ¬ x = z := c14
            refine lv_iconst (v := 0) hx hb d_G_ternary_41 (by decide) ?_
            refine call_i (As := [.int (18 + kd), .int 0, .int x, .int y, .int z, .int 0]) (rest := []) (ci := 2) (q0 := 0) (c_G_join l dC dI a k X (18 + kd) 0 x y z 0  hV) k_131 k_133 s_G_join k_1 k_134 ⟨rfl, pc_G_join.1, pc_G_join.2, pd_G_join⟩ rfl rfl rfl rfl rfl (rm_le (by omega) (by decide)) (Nat.le_of_ble_eq_true rfl) rfl hx hb hml hown ht hl.1 hP hK hD hS hA hN d_G_ternary_42 (fun r15 u16 H locs q17 hP hD hS => ?_)
            have hP : va_P (dC, dI) vwCl (wX a k u16) H := hP
            have hD : va_D A (wX a k u16) := hD
            exact ret_i (v := r15) hx hb hr hlocks hP hK hD hS d_G_ternary_45 (by simp only [p_gter, b4, c6, c10, c14, q17, if_true, if_false, Bool.false_eq_true, reduceIte])
          · have c14 : x = z := c14
            refine lv_iconst (v := 1) hx hb d_G_ternary_37 (by decide) ?_
            refine lv_goto (tgt := 42) hx hb d_G_ternary_38 (by decide) ?_
            refine call_i (As := [.int (18 + kd), .int 0, .int x, .int y, .int z, .int 1]) (rest := []) (ci := 2) (q0 := 0) (c_G_join l dC dI a k X (18 + kd) 0 x y z 1  hV) k_131 k_133 s_G_join k_1 k_134 ⟨rfl, pc_G_join.1, pc_G_join.2, pd_G_join⟩ rfl rfl rfl rfl rfl (rm_le (by omega) (by decide)) (Nat.le_of_ble_eq_true rfl) rfl hx hb hml hown ht hl.1 hP hK hD hS hA hN d_G_ternary_42 (fun r18 u19 H locs q20 hP hD hS => ?_)
            have hP : va_P (dC, dI) vwCl (wX a k u19) H := hP
            have hD : va_D A (wX a k u19) := hD
            exact ret_i (v := r18) hx hb hr hlocks hP hK hD hS d_G_ternary_45 (by simp only [p_gter, b4, c6, c10, eq_true c14, q20, if_true, if_false, Bool.false_eq_true, reduceIte])
    · have c5 : (1 : Int32) = 0 := c5
      exact absurd c5 (by decide)
  · rw [q3] at hP hD
    have hP : va_P (dC, dI) vwCl (wX a k X) H := hP
    have hD : va_D A (wX a k X) := hD
    refine lv_if_ne (tgt := 10) hx hb d_G_ternary_5 (by decide) (fun c21 => ?_) (fun c21 => ?_)
    · have c21 : ¬ (0 : Int32) = 0 := c21
      exact absurd c21 (by decide)
    · have c21 : (0 : Int32) = 0 := c21
      refine lv_iconst (v := (-1)) hx hb d_G_ternary_8 (by decide) ?_
      exact ret_i (v := (-1)) hx hb hr hlocks hP hK hD hS d_G_ternary_9 (by simp only [p_gter, b4, if_true, if_false, Bool.false_eq_true, reduceIte])
set_option maxRecDepth 100000 in
set_option maxHeartbeats 4000000 in
theorem c_G_expressions (l : Launch) (dC : Nat → ClassId) (dI : Nat → Nat → Nat) (a : Nat → Nat) (k : Nat → ClassId) (X : zX) : MetI l y_G_expressions w_G_expressions (rmN (0)) dC dI (yX k) (wX a k) [.ref (a 0)] X (fun z9 u9 => z9 = x_n X ∧ u9 = X) := by
  refine metI_of (cc := b_G_expressions) (maxL := 1) (ret := (some .int)) (by decide) rfl (Nat.le_of_ble_eq_true rfl) ?_
  intro p e9 s9 m args below meth c A ls hx hb hr hts hown hlocks hml hA hP hK hD hS hN hl
  have ht : ∀ w ∈ lw_g, w.before args s9 = true := fun w h => hts w (List.mem_cons_of_mem _ h)
  have hl : lv_has ls 1 [(0, .ref (a 0))] := hl
  refine lv_aload_n hx hb d_G_expressions_0 rfl (lv_at hl 0 rfl) ?_
  refine va_get (D := (dC, dI)) (ci := 2) (v := .ref (a 2)) (C := R_G) (T := T_G) (N := 2) hx hb ht in_G hown hK hP 0 rfl rfl 1 (by decide) (ht _ k_106) (fun _ h => h) rfl d_G_expressions_1 ?_
  refine va_get (D := (dC, dI)) (ci := 0) (v := .int (x_n X)) (C := R_F) (T := T_F) (N := 8) hx hb ht in_F hown hK hP 2 rfl rfl 7 (by decide) (ht _ k_41) (fun _ h => h) rfl d_G_expressions_4 ?_
  exact ret_i (v := x_n X) hx hb hr hlocks hP hK hD hS d_G_expressions_7 ⟨by rfl, rfl⟩
set_option maxRecDepth 100000 in
set_option maxHeartbeats 4000000 in
theorem c_G_about (l : Launch) (dC : Nat → ClassId) (dI : Nat → Nat → Nat) (a : Nat → Nat) (k : Nat → ClassId) (X : zX) (x : Int32) (hV : VX X) : MetI l y_G_about w_G_about (rmN (3)) dC dI (yX k) (wX a k) [.ref (a 0), .int x] X (fun z9 u9 => z9 = p_about X x ∧ u9 = X) := by
  refine metI_of (cc := b_G_about) (maxL := 2) (ret := (some .int)) (by decide) rfl (Nat.le_of_ble_eq_true rfl) ?_
  intro p e9 s9 m args below meth c A ls hx hb hr hts hown hlocks hml hA hP hK hD hS hN hl
  have ht : ∀ w ∈ lw_g, w.before args s9 = true := fun w h => hts w (List.mem_cons_of_mem _ h)
  have hl : lv_has ls 2 [(0, .ref (a 0)), (1, .int x)] := hl
  refine lv_aload_n hx hb d_G_about_0 rfl (lv_at hl 0 rfl) ?_
  refine va_get (D := (dC, dI)) (ci := 2) (v := .ref (a 2)) (C := R_G) (T := T_G) (N := 2) hx hb ht in_G hown hK hP 0 rfl rfl 1 (by decide) (ht _ k_106) (fun _ h => h) rfl d_G_about_1 ?_
  refine lv_iload_n hx hb d_G_about_4 rfl (lv_at hl 1 rfl) ?_
  refine call_i (As := [.int x]) (rest := []) (ci := 0) (q0 := 2) (c_F_has l dC dI a k X x) k_135 k_136 k_137 k_3 k_138 ⟨rfl, pc_F_has.1, pc_F_has.2, pd_F_has⟩ rfl rfl rfl rfl rfl (rm_le (by omega) (by decide)) (Nat.le_of_ble_eq_true rfl) rfl hx hb hml hown ht hl.1 hP hK hD hS hA hN d_G_about_5 (fun r1 u2 H locs q3 hP hD hS => ?_)
  obtain ⟨⟨b4, rfl⟩ | ⟨b4, rfl⟩, q3⟩ := q3
  · rw [q3] at hP hD
    have hP : va_P (dC, dI) vwCl (wX a k X) H := hP
    have hD : va_D A (wX a k X) := hD
    refine lv_if_ne (tgt := 14) hx hb d_G_about_8 (by decide) (fun c5 => ?_) (fun c5 => ?_)
    · have c5 : ¬ (1 : Int32) = 0 := c5
      refine lv_aload_n hx hb d_G_about_14 rfl (lv_at hl 0 rfl) ?_
      refine va_get (D := (dC, dI)) (ci := 2) (v := .ref (a 2)) (C := R_G) (T := T_G) (N := 2) hx hb ht in_G hown hK hP 0 rfl rfl 1 (by decide) (ht _ k_106) (fun _ h => h) rfl d_G_about_15 ?_
      refine va_get (D := (dC, dI)) (ci := 0) (v := .ref (a 8)) (C := R_F) (T := T_F) (N := 8) hx hb ht in_F hown hK hP 2 rfl rfl 5 (by decide) (ht _ k_37) (fun _ h => h) rfl d_G_about_18 ?_
      refine lv_iload_n hx hb d_G_about_21 rfl (lv_at hl 1 rfl) ?_
      refine va_iald hx hb hK hP 8 5 rfl rfl (bel_n hV.1 b4) d_G_about_22 ?_
      refine lv_aload_n hx hb d_G_about_23 rfl (lv_at hl 0 rfl) ?_
      refine va_get (D := (dC, dI)) (ci := 2) (v := .ref (a 2)) (C := R_G) (T := T_G) (N := 2) hx hb ht in_G hown hK hP 0 rfl rfl 1 (by decide) (ht _ k_106) (fun _ h => h) rfl d_G_about_24 ?_
      refine va_get (D := (dC, dI)) (ci := 0) (v := .ref (a 9)) (C := R_F) (T := T_F) (N := 8) hx hb ht in_F hown hK hP 2 rfl rfl 6 (by decide) (ht _ k_39) (fun _ h => h) rfl d_G_about_27 ?_
      refine lv_iload_n hx hb d_G_about_30 rfl (lv_at hl 1 rfl) ?_
      refine va_zald hx hb hK hP 9 6 rfl rfl (bel_n hV.1 b4) d_G_about_31 ?_
      refine lv_if_eq (tgt := 40) hx hb d_G_about_32 (by decide) (fun c6 => ?_) (fun c6 => ?_)
      · have c6 : x_f X (ix x) = 0 := c6
        refine lv_iconst (v := 0) hx hb d_G_about_40 (by decide) ?_
        refine lv_iadd hx hb d_G_about_41 ?_
        exact ret_i (v := (x_d X (ix x) + 0)) hx hb hr hlocks hP hK hD hS d_G_about_42 ⟨by simp only [p_about, b4, eq_true c6, if_true, if_false, Bool.false_eq_true, reduceIte], rfl⟩
      · have c6 : ¬ x_f X (ix x) = 0 := c6
        refine lv_bipush (v := 32) hx hb d_G_about_35 (by decide) ?_
        refine lv_goto (tgt := 41) hx hb d_G_about_37 (by decide) ?_
        refine lv_iadd hx hb d_G_about_41 ?_
        exact ret_i (v := (x_d X (ix x) + 32)) hx hb hr hlocks hP hK hD hS d_G_about_42 ⟨by simp only [p_about, b4, c6, if_true, if_false, Bool.false_eq_true, reduceIte], rfl⟩
    · have c5 : (1 : Int32) = 0 := c5
      exact absurd c5 (by decide)
  · rw [q3] at hP hD
    have hP : va_P (dC, dI) vwCl (wX a k X) H := hP
    have hD : va_D A (wX a k X) := hD
    refine lv_if_ne (tgt := 14) hx hb d_G_about_8 (by decide) (fun c7 => ?_) (fun c7 => ?_)
    · have c7 : ¬ (0 : Int32) = 0 := c7
      exact absurd c7 (by decide)
    · have c7 : (0 : Int32) = 0 := c7
      refine lv_bipush (v := (-2)) hx hb d_G_about_11 (by decide) ?_
      exact ret_i (v := (-2)) hx hb hr hlocks hP hK hD hS d_G_about_13 ⟨by simp only [p_about, b4, if_true, if_false, Bool.false_eq_true, reduceIte], rfl⟩
set_option maxRecDepth 100000 in
set_option maxHeartbeats 4000000 in
theorem c_G_set (l : Launch) (dC : Nat → ClassId) (dI : Nat → Nat → Nat) (a : Nat → Nat) (k : Nat → ClassId) (X : zX) (x : Int32) (v : Int32) : MetI l y_G_set w_G_set (rmN (3)) dC dI (yX k) (wX a k) [.ref (a 0), .int x, .int v] X (fun z9 u9 => p_set X x v = (z9, u9)) := by
  refine metI_of (cc := b_G_set) (maxL := 4) (ret := (some .int)) (by decide) rfl (Nat.le_of_ble_eq_true rfl) ?_
  intro p e9 s9 m args below meth c A ls hx hb hr hts hown hlocks hml hA hP hK hD hS hN hl
  have ht : ∀ w ∈ lw_g, w.before args s9 = true := fun w h => hts w (List.mem_cons_of_mem _ h)
  have hl : lv_has ls 4 [(0, .ref (a 0)), (1, .int x), (2, .int v)] := hl
  refine lv_iload_n hx hb d_G_set_0 rfl (lv_at hl 1 rfl) ?_
  refine lv_bipush (v := 8) hx hb d_G_set_1 (by decide) ?_
  refine call_s (As := [.int x, .int 8]) (rest := []) (c_G_isBelow l dC dI a k X x 8) k_116 k_117 k_1 k_118 ⟨rfl, pc_G_isBelow.1, pc_G_isBelow.2, pd_G_isBelow⟩ rfl rfl (rm_le (by omega) (by decide)) (Nat.le_of_ble_eq_true rfl) rfl hx hb hml hown ht hl.1 hP hK hD hS hA hN d_G_set_3 (fun r1 u2 H locs q3 hP hD hS => ?_)
  obtain ⟨⟨b4, rfl⟩ | ⟨b4, rfl⟩, q3⟩ := q3
  · rw [q3] at hP hD
    have hP : va_P (dC, dI) vwCl (wX a k X) H := hP
    have hD : va_D A (wX a k X) := hD
    refine lv_if_ne (tgt := 11) hx hb d_G_set_6 (by decide) (fun c5 => ?_) (fun c5 => ?_)
    · have c5 : ¬ (1 : Int32) = 0 := c5
      refine lv_aload_n hx hb d_G_set_11 rfl (lv_at hl 0 rfl) ?_
      refine va_get (D := (dC, dI)) (ci := 2) (v := .ref (a 1)) (C := R_G) (T := T_G) (N := 2) hx hb ht in_G hown hK hP 0 rfl rfl 0 (by decide) (ht _ k_105) (fun _ h => h) rfl d_G_set_12 ?_
      refine va_get (D := (dC, dI)) (ci := 1) (v := .ref (a 13)) (C := R_S) (T := T_S) (N := 12) hx hb ht in_S hown hK hP 1 rfl rfl 4 (by decide) (ht _ k_67) (fun _ h => h) rfl d_G_set_15 ?_
      refine lv_iload_n hx hb d_G_set_18 rfl (lv_at hl 1 rfl) ?_
      refine va_iald hx hb hK hP 13 10 rfl rfl (bel_8 b4) d_G_set_19 ?_
      refine lv_istore_n hx hb d_G_set_20 rfl hl (by decide) (lv' := [(3, .int (g_va (c_g (x_c X)) (ix x))), (0, .ref (a 0)), (1, .int x), (2, .int v)]) rfl (fun ls hl => ?_)
      refine lv_aload_n hx hb d_G_set_21 rfl (lv_at hl 1 rfl) ?_
      refine va_get (D := (dC, dI)) (ci := 2) (v := .ref (a 1)) (C := R_G) (T := T_G) (N := 2) hx hb ht in_G hown hK hP 0 rfl rfl 0 (by decide) (ht _ k_105) (fun _ h => h) rfl d_G_set_22 ?_
      refine va_get (D := (dC, dI)) (ci := 1) (v := .ref (a 13)) (C := R_S) (T := T_S) (N := 12) hx hb ht in_S hown hK hP 1 rfl rfl 4 (by decide) (ht _ k_67) (fun _ h => h) rfl d_G_set_25 ?_
      refine lv_iload_n hx hb d_G_set_28 rfl (lv_at hl 2 rfl) ?_
      refine lv_iload_n hx hb d_G_set_29 rfl (lv_at hl 3 rfl) ?_
      refine va_iast hx hb hK hP hD hS 13 10 rfl rfl (bel_8 b4) d_G_set_30 (fun H locs hP hD hS => ?_)
      have hP : va_P (dC, dI) vwCl (wX a k (X_q X (fun s => s_g s (h_va (c_g s) x v)))) H := cP_X_va hP
      have hD : va_D A (wX a k (X_q X (fun s => s_g s (h_va (c_g s) x v)))) := cD_X_va hD
      refine lv_iload_n hx hb d_G_set_31 rfl (lv_at hl 0 rfl) ?_
      exact ret_i (v := g_va (c_g (x_c X)) (ix x)) hx hb hr hlocks hP hK hD hS d_G_set_32 (by simp only [p_set, b4, if_true, if_false, Bool.false_eq_true, reduceIte])
    · have c5 : (1 : Int32) = 0 := c5
      exact absurd c5 (by decide)
  · rw [q3] at hP hD
    have hP : va_P (dC, dI) vwCl (wX a k X) H := hP
    have hD : va_D A (wX a k X) := hD
    refine lv_if_ne (tgt := 11) hx hb d_G_set_6 (by decide) (fun c6 => ?_) (fun c6 => ?_)
    · have c6 : ¬ (0 : Int32) = 0 := c6
      exact absurd c6 (by decide)
    · have c6 : (0 : Int32) = 0 := c6
      refine lv_iconst (v := 0) hx hb d_G_set_9 (by decide) ?_
      exact ret_i (v := 0) hx hb hr hlocks hP hK hD hS d_G_set_10 (by simp only [p_set, b4, if_true, if_false, Bool.false_eq_true, reduceIte])
set_option maxRecDepth 100000 in
set_option maxHeartbeats 4000000 in
theorem c_G_variable (l : Launch) (dC : Nat → ClassId) (dI : Nat → Nat → Nat) (a : Nat → Nat) (k : Nat → ClassId) (X : zX) (x : Int32) : MetI l y_G_variable w_G_variable (rmN (3)) dC dI (yX k) (wX a k) [.ref (a 0), .int x] X (fun z9 u9 => z9 = p_var X x ∧ u9 = X) := by
  refine metI_of (cc := b_G_variable) (maxL := 2) (ret := (some .int)) (by decide) rfl (Nat.le_of_ble_eq_true rfl) ?_
  intro p e9 s9 m args below meth c A ls hx hb hr hts hown hlocks hml hA hP hK hD hS hN hl
  have ht : ∀ w ∈ lw_g, w.before args s9 = true := fun w h => hts w (List.mem_cons_of_mem _ h)
  have hl : lv_has ls 2 [(0, .ref (a 0)), (1, .int x)] := hl
  refine lv_iload_n hx hb d_G_variable_0 rfl (lv_at hl 1 rfl) ?_
  refine lv_bipush (v := 8) hx hb d_G_variable_1 (by decide) ?_
  refine call_s (As := [.int x, .int 8]) (rest := []) (c_G_isBelow l dC dI a k X x 8) k_116 k_117 k_1 k_118 ⟨rfl, pc_G_isBelow.1, pc_G_isBelow.2, pd_G_isBelow⟩ rfl rfl (rm_le (by omega) (by decide)) (Nat.le_of_ble_eq_true rfl) rfl hx hb hml hown ht hl.1 hP hK hD hS hA hN d_G_variable_3 (fun r1 u2 H locs q3 hP hD hS => ?_)
  obtain ⟨⟨b4, rfl⟩ | ⟨b4, rfl⟩, q3⟩ := q3
  · rw [q3] at hP hD
    have hP : va_P (dC, dI) vwCl (wX a k X) H := hP
    have hD : va_D A (wX a k X) := hD
    refine lv_if_eq (tgt := 21) hx hb d_G_variable_6 (by decide) (fun c5 => ?_) (fun c5 => ?_)
    · have c5 : (1 : Int32) = 0 := c5
      exact absurd c5 (by decide)
    · have c5 : ¬ (1 : Int32) = 0 := c5
      refine lv_aload_n hx hb d_G_variable_9 rfl (lv_at hl 0 rfl) ?_
      refine va_get (D := (dC, dI)) (ci := 2) (v := .ref (a 1)) (C := R_G) (T := T_G) (N := 2) hx hb ht in_G hown hK hP 0 rfl rfl 0 (by decide) (ht _ k_105) (fun _ h => h) rfl d_G_variable_10 ?_
      refine va_get (D := (dC, dI)) (ci := 1) (v := .ref (a 13)) (C := R_S) (T := T_S) (N := 12) hx hb ht in_S hown hK hP 1 rfl rfl 4 (by decide) (ht _ k_67) (fun _ h => h) rfl d_G_variable_13 ?_
      refine lv_iload_n hx hb d_G_variable_16 rfl (lv_at hl 1 rfl) ?_
      refine va_iald hx hb hK hP 13 10 rfl rfl (bel_8 b4) d_G_variable_17 ?_
      refine lv_goto (tgt := 22) hx hb d_G_variable_18 (by decide) ?_
      exact ret_i (v := g_va (c_g (x_c X)) (ix x)) hx hb hr hlocks hP hK hD hS d_G_variable_22 ⟨by simp only [p_var, b4, if_true, if_false, Bool.false_eq_true, reduceIte], rfl⟩
  · rw [q3] at hP hD
    have hP : va_P (dC, dI) vwCl (wX a k X) H := hP
    have hD : va_D A (wX a k X) := hD
    refine lv_if_eq (tgt := 21) hx hb d_G_variable_6 (by decide) (fun c6 => ?_) (fun c6 => ?_)
    · have c6 : (0 : Int32) = 0 := c6
      refine lv_iconst (v := 0) hx hb d_G_variable_21 (by decide) ?_
      exact ret_i (v := 0) hx hb hr hlocks hP hK hD hS d_G_variable_22 ⟨by simp only [p_var, b4, if_true, if_false, Bool.false_eq_true, reduceIte], rfl⟩
    · have c6 : ¬ (0 : Int32) = 0 := c6
      exact absurd c6 (by decide)
set_option maxRecDepth 100000 in
set_option maxHeartbeats 4000000 in
theorem c_S_open (l : Launch) (dC : Nat → ClassId) (dI : Nat → Nat → Nat) (a : Nat → Nat) (k : Nat → ClassId) (X : zX) (x : Int32) (v : Int32) (jx : vp_in x 60) (hV : VX X) : MetV l y_S_open w_S_open (rmN (1)) dC dI (yX k) (wX a k) [.ref (a 1), .int x, .int v] X (fun u9 => u9 = p_open X x v) := by
  refine metV_of (cc := b_S_open) (maxL := 3) (ret := none) (by decide) rfl (Nat.le_of_ble_eq_true rfl) ?_
  intro p e9 s9 m args below meth c A ls hx hb hr hts hown hlocks hml hA hP hK hD hS hN hl
  have ht : ∀ w ∈ lw_g, w.before args s9 = true := fun w h => hts w (List.mem_cons_of_mem _ h)
  have hl : lv_has ls 3 [(0, .ref (a 1)), (1, .int x), (2, .int v)] := hl
  refine lv_aload_n hx hb d_S_open_0 rfl (lv_at hl 0 rfl) ?_
  refine lv_iload_n hx hb d_S_open_1 rfl (lv_at hl 1 rfl) ?_
  refine call_v (As := [.int x]) (rest := []) (ci := 1) (q0 := 1) (c_S_start l dC dI a k X (x_c X) x jx hV.2) k_185 k_187 s_S_start k_2 k_188 ⟨rfl, pc_S_start.1, pc_S_start.2, pd_S_start⟩ rfl rfl rfl rfl rfl (rm_le (by omega) (by decide)) (Nat.le_of_ble_eq_true rfl) rfl hx hb hml hown ht hl.1 hP hK hD hS hA hN d_S_open_2 (fun u2 H locs q3 hP hD hS => ?_)
  obtain ⟨rfl, _⟩ := q3
  have hP : va_P (dC, dI) vwCl (wX a k (X_c X (s_st (x_c X) x 0))) H := hP
  have hD : va_D A (wX a k (X_c X (s_st (x_c X) x 0))) := hD
  refine lv_aload_n hx hb d_S_open_5 rfl (lv_at hl 0 rfl) ?_
  refine lv_iload_n hx hb d_S_open_6 rfl (lv_at hl 1 rfl) ?_
  refine va_put (D := (dC, dI)) (ci := 1) (v := .int x) (ty := .int) (C := R_S) (T := T_S) (N := 12) hx hb ht in_S t_S t_S_ok n_S hown hK hP hD hS 1 rfl rfl 10 (by decide) (ht _ k_77) (fun _ h => h) rfl (by decide +kernel) rfl rfl (Nat.le_of_ble_eq_true rfl) d_S_open_7 (fun H locs hP hD hS => ?_)
  have hP : va_P (dC, dI) vwCl (wX a k (X_b (X_c X (s_st (x_c X) x 0)) x)) H := cP_X_b hP
  have hD : va_D A (wX a k (X_b (X_c X (s_st (x_c X) x 0)) x)) := cD_X_b hD
  refine lv_aload_n hx hb d_S_open_10 rfl (lv_at hl 0 rfl) ?_
  refine lv_iload_n hx hb d_S_open_11 rfl (lv_at hl 2 rfl) ?_
  refine va_put (D := (dC, dI)) (ci := 1) (v := .int v) (ty := .int) (C := R_S) (T := T_S) (N := 12) hx hb ht in_S t_S t_S_ok n_S hown hK hP hD hS 1 rfl rfl 9 (by decide) (ht _ k_76) (fun _ h => h) rfl (by decide +kernel) rfl rfl (Nat.le_of_ble_eq_true rfl) d_S_open_12 (fun H locs hP hD hS => ?_)
  have hP : va_P (dC, dI) vwCl (wX a k (X_u (X_b (X_c X (s_st (x_c X) x 0)) x) v)) H := cP_X_u hP
  have hD : va_D A (wX a k (X_u (X_b (X_c X (s_st (x_c X) x 0)) x) v)) := cD_X_u hD
  refine lv_aload_n hx hb d_S_open_15 rfl (lv_at hl 0 rfl) ?_
  refine lv_iconst (v := 0) hx hb d_S_open_16 (by decide) ?_
  refine va_put (D := (dC, dI)) (ci := 1) (v := .int 0) (ty := .int) (C := R_S) (T := T_S) (N := 12) hx hb ht in_S t_S t_S_ok n_S hown hK hP hD hS 1 rfl rfl 7 (by decide) (ht _ k_72) (fun _ h => h) rfl (by decide +kernel) rfl rfl (Nat.le_of_ble_eq_true rfl) d_S_open_17 (fun H locs hP hD hS => ?_)
  have hP : va_P (dC, dI) vwCl (wX a k (X_q (X_u (X_b (X_c X (s_st (x_c X) x 0)) x) v) (fun s => s_g s (h_c (c_g s) 0)))) H := cP_X_sp hP
  have hD : va_D A (wX a k (X_q (X_u (X_b (X_c X (s_st (x_c X) x 0)) x) v) (fun s => s_g s (h_c (c_g s) 0)))) := cD_X_sp hD
  refine lv_aload_n hx hb d_S_open_20 rfl (lv_at hl 0 rfl) ?_
  refine lv_iconst (v := 0) hx hb d_S_open_21 (by decide) ?_
  refine va_put (D := (dC, dI)) (ci := 1) (v := .int 0) (ty := .int) (C := R_S) (T := T_S) (N := 12) hx hb ht in_S t_S t_S_ok n_S hown hK hP hD hS 1 rfl rfl 6 (by decide) (ht _ k_70) (fun _ h => h) rfl (by decide +kernel) rfl rfl (Nat.le_of_ble_eq_true rfl) d_S_open_22 (fun H locs hP hD hS => ?_)
  have hP : va_P (dC, dI) vwCl (wX a k (X_q (X_q (X_u (X_b (X_c X (s_st (x_c X) x 0)) x) v) (fun s => s_g s (h_c (c_g s) 0))) (fun s => s_g s (h_wc (c_g s) 0)))) H := cP_X_wc hP
  have hD : va_D A (wX a k (X_q (X_q (X_u (X_b (X_c X (s_st (x_c X) x 0)) x) v) (fun s => s_g s (h_c (c_g s) 0))) (fun s => s_g s (h_wc (c_g s) 0)))) := cD_X_wc hD
  refine lv_aload_n hx hb d_S_open_25 rfl (lv_at hl 0 rfl) ?_
  refine lv_iconst (v := 0) hx hb d_S_open_26 (by decide) ?_
  refine va_put (D := (dC, dI)) (ci := 1) (v := .int 0) (ty := .int) (C := R_S) (T := T_S) (N := 12) hx hb ht in_S t_S t_S_ok n_S hown hK hP hD hS 1 rfl rfl 8 (by decide) (ht _ k_74) (fun _ h => h) rfl (by decide +kernel) rfl rfl (Nat.le_of_ble_eq_true rfl) d_S_open_27 (fun H locs hP hD hS => ?_)
  have hP : va_P (dC, dI) vwCl (wX a k (X_l (X_q (X_q (X_u (X_b (X_c X (s_st (x_c X) x 0)) x) v) (fun s => s_g s (h_c (c_g s) 0))) (fun s => s_g s (h_wc (c_g s) 0))) 0)) H := cP_X_l hP
  have hD : va_D A (wX a k (X_l (X_q (X_q (X_u (X_b (X_c X (s_st (x_c X) x 0)) x) v) (fun s => s_g s (h_c (c_g s) 0))) (fun s => s_g s (h_wc (c_g s) 0))) 0)) := cD_X_l hD
  refine lv_aload_n hx hb d_S_open_30 rfl (lv_at hl 0 rfl) ?_
  refine lv_iconst (v := 1) hx hb d_S_open_31 (by decide) ?_
  refine va_put (D := (dC, dI)) (ci := 1) (v := .int 1) (ty := .int) (C := R_S) (T := T_S) (N := 12) hx hb ht in_S t_S t_S_ok n_S hown hK hP hD hS 1 rfl rfl 11 (by decide) (ht _ k_78) (fun _ h => h) rfl (by decide +kernel) rfl rfl (Nat.le_of_ble_eq_true rfl) d_S_open_32 (fun H locs hP hD hS => ?_)
  have hP : va_P (dC, dI) vwCl (wX a k (X_a (X_l (X_q (X_q (X_u (X_b (X_c X (s_st (x_c X) x 0)) x) v) (fun s => s_g s (h_c (c_g s) 0))) (fun s => s_g s (h_wc (c_g s) 0))) 0) 1)) H := cP_X_a hP
  have hD : va_D A (wX a k (X_a (X_l (X_q (X_q (X_u (X_b (X_c X (s_st (x_c X) x 0)) x) v) (fun s => s_g s (h_c (c_g s) 0))) (fun s => s_g s (h_wc (c_g s) 0))) 0) 1)) := cD_X_a hD
  exact ret_v hx hb hr hlocks hP hK hD hS d_S_open_35 rfl
set_option maxRecDepth 100000 in
set_option maxHeartbeats 4000000 in
theorem c_G_begin (l : Launch) (dC : Nat → ClassId) (dI : Nat → Nat → Nat) (a : Nat → Nat) (k : Nat → ClassId) (X : zX) (x : Int32) (v : Int32) (hV : VX X) : MetI l y_G_begin w_G_begin (rmN (3)) dC dI (yX k) (wX a k) [.ref (a 0), .int x, .int v] X (fun z9 u9 => p_begin X x v = (z9, u9)) := by
  refine metI_of (cc := b_G_begin) (maxL := 3) (ret := (some .int)) (by decide) rfl (Nat.le_of_ble_eq_true rfl) ?_
  intro p e9 s9 m args below meth c A ls hx hb hr hts hown hlocks hml hA hP hK hD hS hN hl
  have ht : ∀ w ∈ lw_g, w.before args s9 = true := fun w h => hts w (List.mem_cons_of_mem _ h)
  have hl : lv_has ls 3 [(0, .ref (a 0)), (1, .int x), (2, .int v)] := hl
  refine lv_aload_n hx hb d_G_begin_0 rfl (lv_at hl 0 rfl) ?_
  refine va_get (D := (dC, dI)) (ci := 2) (v := .ref (a 2)) (C := R_G) (T := T_G) (N := 2) hx hb ht in_G hown hK hP 0 rfl rfl 1 (by decide) (ht _ k_106) (fun _ h => h) rfl d_G_begin_1 ?_
  refine lv_iload_n hx hb d_G_begin_4 rfl (lv_at hl 1 rfl) ?_
  refine call_i (As := [.int x]) (rest := []) (ci := 0) (q0 := 2) (c_F_has l dC dI a k X x) k_135 k_136 k_137 k_3 k_138 ⟨rfl, pc_F_has.1, pc_F_has.2, pd_F_has⟩ rfl rfl rfl rfl rfl (rm_le (by omega) (by decide)) (Nat.le_of_ble_eq_true rfl) rfl hx hb hml hown ht hl.1 hP hK hD hS hA hN d_G_begin_5 (fun r1 u2 H locs q3 hP hD hS => ?_)
  obtain ⟨⟨b4, rfl⟩ | ⟨b4, rfl⟩, q3⟩ := q3
  · rw [q3] at hP hD
    have hP : va_P (dC, dI) vwCl (wX a k X) H := hP
    have hD : va_D A (wX a k X) := hD
    refine lv_if_ne (tgt := 14) hx hb d_G_begin_8 (by decide) (fun c5 => ?_) (fun c5 => ?_)
    · have c5 : ¬ (1 : Int32) = 0 := c5
      refine lv_aload_n hx hb d_G_begin_14 rfl (lv_at hl 0 rfl) ?_
      refine va_get (D := (dC, dI)) (ci := 2) (v := .ref (a 2)) (C := R_G) (T := T_G) (N := 2) hx hb ht in_G hown hK hP 0 rfl rfl 1 (by decide) (ht _ k_106) (fun _ h => h) rfl d_G_begin_15 ?_
      refine va_get (D := (dC, dI)) (ci := 0) (v := .ref (a 9)) (C := R_F) (T := T_F) (N := 8) hx hb ht in_F hown hK hP 2 rfl rfl 6 (by decide) (ht _ k_39) (fun _ h => h) rfl d_G_begin_18 ?_
      refine lv_iload_n hx hb d_G_begin_21 rfl (lv_at hl 1 rfl) ?_
      refine va_zald hx hb hK hP 9 6 rfl rfl (bel_n hV.1 b4) d_G_begin_22 ?_
      refine lv_if_ne (tgt := 29) hx hb d_G_begin_23 (by decide) (fun c6 => ?_) (fun c6 => ?_)
      · have c6 : ¬ x_f X (ix x) = 0 := c6
        refine lv_iload_n hx hb d_G_begin_29 rfl (lv_at hl 2 rfl) ?_
        refine lv_sipush (v := 2001) hx hb d_G_begin_30 (by decide) ?_
        refine call_s (As := [.int v, .int 2001]) (rest := []) (c_G_isBelow l dC dI a k X v 2001) k_116 k_117 k_1 k_118 ⟨rfl, pc_G_isBelow.1, pc_G_isBelow.2, pd_G_isBelow⟩ rfl rfl (rm_le (by omega) (by decide)) (Nat.le_of_ble_eq_true rfl) rfl hx hb hml hown ht hl.1 hP hK hD hS hA hN d_G_begin_33 (fun r7 u8 H locs q9 hP hD hS => ?_)
        obtain ⟨⟨b10, rfl⟩ | ⟨b10, rfl⟩, q9⟩ := q9
        · rw [q9] at hP hD
          have hP : va_P (dC, dI) vwCl (wX a k X) H := hP
          have hD : va_D A (wX a k X) := hD
          refine lv_if_ne (tgt := 41) hx hb d_G_begin_36 (by decide) (fun c11 => ?_) (fun c11 => ?_)
          · have c11 : ¬ (1 : Int32) = 0 := c11
            refine lv_aload_n hx hb d_G_begin_41 rfl (lv_at hl 0 rfl) ?_
            refine va_get (D := (dC, dI)) (ci := 2) (v := .ref (a 1)) (C := R_G) (T := T_G) (N := 2) hx hb ht in_G hown hK hP 0 rfl rfl 0 (by decide) (ht _ k_105) (fun _ h => h) rfl d_G_begin_42 ?_
            refine lv_iload_n hx hb d_G_begin_45 rfl (lv_at hl 1 rfl) ?_
            refine lv_iload_n hx hb d_G_begin_46 rfl (lv_at hl 2 rfl) ?_
            refine call_v (As := [.int x, .int v]) (rest := []) (ci := 1) (q0 := 1) (c_S_open l dC dI a k X x v (bel_n hV.1 b4) hV) k_181 k_182 k_183 k_2 k_184 ⟨rfl, pc_S_open.1, pc_S_open.2, pd_S_open⟩ rfl rfl rfl rfl rfl (rm_le (by omega) (by decide)) (Nat.le_of_ble_eq_true rfl) rfl hx hb hml hown ht hl.1 hP hK hD hS hA hN d_G_begin_47 (fun u13 H locs q14 hP hD hS => ?_)
            cases q14
            have hP : va_P (dC, dI) vwCl (wX a k (p_open X x v)) H := hP
            have hD : va_D A (wX a k (p_open X x v)) := hD
            refine lv_iconst (v := 0) hx hb d_G_begin_50 (by decide) ?_
            exact ret_i (v := 0) hx hb hr hlocks hP hK hD hS d_G_begin_51 (by simp only [p_begin, b4, c6, b10, if_true, if_false, Bool.false_eq_true, reduceIte])
          · have c11 : (1 : Int32) = 0 := c11
            exact absurd c11 (by decide)
        · rw [q9] at hP hD
          have hP : va_P (dC, dI) vwCl (wX a k X) H := hP
          have hD : va_D A (wX a k X) := hD
          refine lv_if_ne (tgt := 41) hx hb d_G_begin_36 (by decide) (fun c15 => ?_) (fun c15 => ?_)
          · have c15 : ¬ (0 : Int32) = 0 := c15
            exact absurd c15 (by decide)
          · have c15 : (0 : Int32) = 0 := c15
            refine lv_iconst (v := (-1)) hx hb d_G_begin_39 (by decide) ?_
            exact ret_i (v := (-1)) hx hb hr hlocks hP hK hD hS d_G_begin_40 (by simp only [p_begin, b4, c6, b10, if_true, if_false, Bool.false_eq_true, reduceIte])
      · have c6 : x_f X (ix x) = 0 := c6
        refine lv_bipush (v := (-3)) hx hb d_G_begin_26 (by decide) ?_
        exact ret_i (v := (-3)) hx hb hr hlocks hP hK hD hS d_G_begin_28 (by simp only [p_begin, b4, eq_true c6, if_true, if_false, Bool.false_eq_true, reduceIte])
    · have c5 : (1 : Int32) = 0 := c5
      exact absurd c5 (by decide)
  · rw [q3] at hP hD
    have hP : va_P (dC, dI) vwCl (wX a k X) H := hP
    have hD : va_D A (wX a k X) := hD
    refine lv_if_ne (tgt := 14) hx hb d_G_begin_8 (by decide) (fun c16 => ?_) (fun c16 => ?_)
    · have c16 : ¬ (0 : Int32) = 0 := c16
      exact absurd c16 (by decide)
    · have c16 : (0 : Int32) = 0 := c16
      refine lv_bipush (v := (-2)) hx hb d_G_begin_11 (by decide) ?_
      exact ret_i (v := (-2)) hx hb hr hlocks hP hK hD hS d_G_begin_13 (by simp only [p_begin, b4, if_true, if_false, Bool.false_eq_true, reduceIte])
set_option maxRecDepth 100000 in
set_option maxHeartbeats 4000000 in
theorem c_S_proceed (l : Launch) (dC : Nat → ClassId) (dI : Nat → Nat → Nat) (a : Nat → Nat) (k : Nat → ClassId) (T : zT) (M : Nat) (hM : M = 1000000) (X : zX) (hV : VT T X) : MetI l y_S_proceed w_S_proceed (rmN (5 * 12 + 4)) dC dI (yX k) (wX a k) [.ref (a 1)] X (fun z9 u9 => p_proc M X = (z9, u9)) := by
  refine metI_of (cc := b_S_proceed) (maxL := 1) (ret := (some .int)) (by decide) rfl (Nat.le_of_ble_eq_true rfl) ?_
  intro p e9 s9 m args below meth c A ls hx hb hr hts hown hlocks hml hA hP hK hD hS hN hl
  have ht : ∀ w ∈ lw_g, w.before args s9 = true := fun w h => hts w (List.mem_cons_of_mem _ h)
  have hl : lv_has ls 1 [(0, .ref (a 1))] := hl
  refine lv_aload_n hx hb d_S_proceed_0 rfl (lv_at hl 0 rfl) ?_
  refine va_get (D := (dC, dI)) (ci := 1) (v := .int (x_a X)) (C := R_S) (T := T_S) (N := 12) hx hb ht in_S hown hK hP 1 rfl rfl 11 (by decide) (ht _ k_78) (fun _ h => h) rfl d_S_proceed_1 ?_
  refine lv_iconst (v := 1) hx hb d_S_proceed_4 (by decide) ?_
  refine lv_icmp_eq (tgt := 13) hx hb d_S_proceed_5 (by decide) (fun c1 => ?_) (fun c1 => ?_)
  · have c1 : x_a X = 1 := c1
    refine lv_aload_n hx hb d_S_proceed_13 rfl (lv_at hl 0 rfl) ?_
    refine lv_aload_n hx hb d_S_proceed_14 rfl (lv_at hl 0 rfl) ?_
    refine lv_aload_n hx hb d_S_proceed_15 rfl (lv_at hl 0 rfl) ?_
    refine va_get (D := (dC, dI)) (ci := 1) (v := .int (x_b X)) (C := R_S) (T := T_S) (N := 12) hx hb ht in_S hown hK hP 1 rfl rfl 10 (by decide) (ht _ k_77) (fun _ h => h) rfl d_S_proceed_16 ?_
    refine call_i (As := [.int (x_b X)]) (rest := [.ref (a 1)]) (ci := 1) (q0 := 1) (ask_all l dC dI a k X T M hM 12 (x_b X) (x_c X) (hV.2.2 c1) hV.2.1) k_197 k_199 s_S_ask k_2 k_200 ⟨rfl, pc_S_ask.1, pc_S_ask.2, pd_S_ask⟩ rfl rfl rfl rfl rfl (rm_le (by omega) (by decide)) (Nat.le_of_ble_eq_true rfl) rfl hx hb hml hown ht hl.1 hP hK hD hS hA hN d_S_proceed_19 (fun r2 u3 H locs q4 hP hD hS => ?_)
    obtain ⟨q4, hW4⟩ := q4
    have hP : va_P (dC, dI) vwCl (wX a k (X_c X u3)) H := hP
    have hD : va_D A (wX a k (X_c X u3)) := hD
    refine va_put (D := (dC, dI)) (ci := 1) (v := .int r2) (ty := .int) (C := R_S) (T := T_S) (N := 12) hx hb ht in_S t_S t_S_ok n_S hown hK hP hD hS 1 rfl rfl 11 (by decide) (ht _ k_78) (fun _ h => h) rfl (by decide +kernel) rfl rfl (Nat.le_of_ble_eq_true rfl) d_S_proceed_22 (fun H locs hP hD hS => ?_)
    have hP : va_P (dC, dI) vwCl (wX a k (X_a (X_c X u3) r2)) H := cP_X_a hP
    have hD : va_D A (wX a k (X_a (X_c X u3) r2)) := cD_X_a hD
    refine lv_aload_n hx hb d_S_proceed_25 rfl (lv_at hl 0 rfl) ?_
    refine va_get (D := (dC, dI)) (ci := 1) (v := .int r2) (C := R_S) (T := T_S) (N := 12) hx hb ht in_S hown hK hP 1 rfl rfl 11 (by decide) (ht _ k_78) (fun _ h => h) rfl d_S_proceed_26 ?_
    refine lv_iconst (v := 1) hx hb d_S_proceed_29 (by decide) ?_
    refine lv_icmp_ne (tgt := 46) hx hb d_S_proceed_30 (by decide) (fun c5 => ?_) (fun c5 => ?_)
    · have c5 : ¬ r2 = 1 := c5
      refine lv_aload_n hx hb d_S_proceed_46 rfl (lv_at hl 0 rfl) ?_
      refine va_get (D := (dC, dI)) (ci := 1) (v := .int r2) (C := R_S) (T := T_S) (N := 12) hx hb ht in_S hown hK hP 1 rfl rfl 11 (by decide) (ht _ k_78) (fun _ h => h) rfl d_S_proceed_47 ?_
      exact ret_i (v := r2) hx hb hr hlocks hP hK hD hS d_S_proceed_50 (by simp only [p_proc, eq_true c1, c5, q4, if_true, if_false, Bool.false_eq_true, reduceIte] <;> rfl)
    · have c5 : r2 = 1 := c5
      refine lv_aload_n hx hb d_S_proceed_33 rfl (lv_at hl 0 rfl) ?_
      refine lv_aload_n hx hb d_S_proceed_34 rfl (lv_at hl 0 rfl) ?_
      refine va_get (D := (dC, dI)) (ci := 1) (v := .ref (a 11)) (C := R_S) (T := T_S) (N := 12) hx hb ht in_S hown hK hP 1 rfl rfl 2 (by decide) (ht _ k_64) (fun _ h => h) rfl d_S_proceed_35 ?_
      refine lv_aload_n hx hb d_S_proceed_38 rfl (lv_at hl 0 rfl) ?_
      refine va_get (D := (dC, dI)) (ci := 1) (v := .int (x_b (X_a (X_c X u3) r2))) (C := R_S) (T := T_S) (N := 12) hx hb ht in_S hown hK hP 1 rfl rfl 10 (by decide) (ht _ k_77) (fun _ h => h) rfl d_S_proceed_39 ?_
      refine va_iald hx hb hK hP 11 8 rfl rfl (Tr_in (hV.2.2 c1)) d_S_proceed_42 ?_
      refine va_put (D := (dC, dI)) (ci := 1) (v := .int (c_rs (x_c (X_a (X_c X u3) r2)) (ix (x_b (X_a (X_c X u3) r2))))) (ty := .int) (C := R_S) (T := T_S) (N := 12) hx hb ht in_S t_S t_S_ok n_S hown hK hP hD hS 1 rfl rfl 8 (by decide) (ht _ k_74) (fun _ h => h) rfl (by decide +kernel) rfl rfl (Nat.le_of_ble_eq_true rfl) d_S_proceed_43 (fun H locs hP hD hS => ?_)
      have hP : va_P (dC, dI) vwCl (wX a k (X_l (X_a (X_c X u3) r2) (c_rs (x_c (X_a (X_c X u3) r2)) (ix (x_b (X_a (X_c X u3) r2)))))) H := cP_X_l hP
      have hD : va_D A (wX a k (X_l (X_a (X_c X u3) r2) (c_rs (x_c (X_a (X_c X u3) r2)) (ix (x_b (X_a (X_c X u3) r2)))))) := cD_X_l hD
      refine lv_aload_n hx hb d_S_proceed_46 rfl (lv_at hl 0 rfl) ?_
      refine va_get (D := (dC, dI)) (ci := 1) (v := .int r2) (C := R_S) (T := T_S) (N := 12) hx hb ht in_S hown hK hP 1 rfl rfl 11 (by decide) (ht _ k_78) (fun _ h => h) rfl d_S_proceed_47 ?_
      exact ret_i (v := r2) hx hb hr hlocks hP hK hD hS d_S_proceed_50 (by simp only [p_proc, eq_true c1, eq_true c5, q4, if_true, if_false, Bool.false_eq_true, reduceIte] <;> rfl)
  · have c1 : ¬ x_a X = 1 := c1
    refine lv_aload_n hx hb d_S_proceed_8 rfl (lv_at hl 0 rfl) ?_
    refine va_get (D := (dC, dI)) (ci := 1) (v := .int (x_a X)) (C := R_S) (T := T_S) (N := 12) hx hb ht in_S hown hK hP 1 rfl rfl 11 (by decide) (ht _ k_78) (fun _ h => h) rfl d_S_proceed_9 ?_
    exact ret_i (v := x_a X) hx hb hr hlocks hP hK hD hS d_S_proceed_12 (by simp only [p_proc, c1, if_true, if_false, Bool.false_eq_true, reduceIte] <;> rfl)
set_option maxRecDepth 100000 in
set_option maxHeartbeats 4000000 in
theorem c_G_next (l : Launch) (dC : Nat → ClassId) (dI : Nat → Nat → Nat) (a : Nat → Nat) (k : Nat → ClassId) (T : zT) (M : Nat) (hM : M = 1000000) (X : zX) (hV : VT T X) : MetI l y_G_next w_G_next (rmN (5 * 12 + 5)) dC dI (yX k) (wX a k) [.ref (a 0)] X (fun z9 u9 => p_proc M X = (z9, u9)) := by
  refine metI_of (cc := b_G_next) (maxL := 1) (ret := (some .int)) (by decide) rfl (Nat.le_of_ble_eq_true rfl) ?_
  intro p e9 s9 m args below meth c A ls hx hb hr hts hown hlocks hml hA hP hK hD hS hN hl
  have ht : ∀ w ∈ lw_g, w.before args s9 = true := fun w h => hts w (List.mem_cons_of_mem _ h)
  have hl : lv_has ls 1 [(0, .ref (a 0))] := hl
  refine lv_aload_n hx hb d_G_next_0 rfl (lv_at hl 0 rfl) ?_
  refine va_get (D := (dC, dI)) (ci := 2) (v := .ref (a 1)) (C := R_G) (T := T_G) (N := 2) hx hb ht in_G hown hK hP 0 rfl rfl 0 (by decide) (ht _ k_105) (fun _ h => h) rfl d_G_next_1 ?_
  refine call_i (As := []) (rest := []) (ci := 1) (q0 := 1) (c_S_proceed l dC dI a k T M hM X hV) k_193 k_194 k_195 k_2 k_196 ⟨rfl, pc_S_proceed.1, pc_S_proceed.2, pd_S_proceed⟩ rfl rfl rfl rfl rfl (rm_le (by omega) (by decide)) (Nat.le_of_ble_eq_true rfl) rfl hx hb hml hown ht hl.1 hP hK hD hS hA hN d_G_next_4 (fun r1 u2 H locs q3 hP hD hS => ?_)
  have hP : va_P (dC, dI) vwCl (wX a k u2) H := hP
  have hD : va_D A (wX a k u2) := hD
  exact ret_i (v := r1) hx hb hr hlocks hP hK hD hS d_G_next_7 (by simp only [q3, if_true, if_false, Bool.false_eq_true, reduceIte])
set_option maxRecDepth 100000 in
set_option maxHeartbeats 4000000 in
theorem c_G_value (l : Launch) (dC : Nat → ClassId) (dI : Nat → Nat → Nat) (a : Nat → Nat) (k : Nat → ClassId) (X : zX) : MetI l y_G_value w_G_value (rmN (0)) dC dI (yX k) (wX a k) [.ref (a 0)] X (fun z9 u9 => z9 = x_l X ∧ u9 = X) := by
  refine metI_of (cc := b_G_value) (maxL := 1) (ret := (some .int)) (by decide) rfl (Nat.le_of_ble_eq_true rfl) ?_
  intro p e9 s9 m args below meth c A ls hx hb hr hts hown hlocks hml hA hP hK hD hS hN hl
  have ht : ∀ w ∈ lw_g, w.before args s9 = true := fun w h => hts w (List.mem_cons_of_mem _ h)
  have hl : lv_has ls 1 [(0, .ref (a 0))] := hl
  refine lv_aload_n hx hb d_G_value_0 rfl (lv_at hl 0 rfl) ?_
  refine va_get (D := (dC, dI)) (ci := 2) (v := .ref (a 1)) (C := R_G) (T := T_G) (N := 2) hx hb ht in_G hown hK hP 0 rfl rfl 0 (by decide) (ht _ k_105) (fun _ h => h) rfl d_G_value_1 ?_
  refine va_get (D := (dC, dI)) (ci := 1) (v := .int (x_l X)) (C := R_S) (T := T_S) (N := 12) hx hb ht in_S hown hK hP 1 rfl rfl 8 (by decide) (ht _ k_75) (fun _ h => h) rfl d_G_value_4 ?_
  exact ret_i (v := x_l X) hx hb hr hlocks hP hK hD hS d_G_value_7 ⟨by rfl, rfl⟩
set_option maxRecDepth 100000 in
set_option maxHeartbeats 4000000 in
theorem c_G_writes (l : Launch) (dC : Nat → ClassId) (dI : Nat → Nat → Nat) (a : Nat → Nat) (k : Nat → ClassId) (X : zX) : MetI l y_G_writes w_G_writes (rmN (0)) dC dI (yX k) (wX a k) [.ref (a 0)] X (fun z9 u9 => z9 = g_wc (c_g (x_c X)) ∧ u9 = X) := by
  refine metI_of (cc := b_G_writes) (maxL := 1) (ret := (some .int)) (by decide) rfl (Nat.le_of_ble_eq_true rfl) ?_
  intro p e9 s9 m args below meth c A ls hx hb hr hts hown hlocks hml hA hP hK hD hS hN hl
  have ht : ∀ w ∈ lw_g, w.before args s9 = true := fun w h => hts w (List.mem_cons_of_mem _ h)
  have hl : lv_has ls 1 [(0, .ref (a 0))] := hl
  refine lv_aload_n hx hb d_G_writes_0 rfl (lv_at hl 0 rfl) ?_
  refine va_get (D := (dC, dI)) (ci := 2) (v := .ref (a 1)) (C := R_G) (T := T_G) (N := 2) hx hb ht in_G hown hK hP 0 rfl rfl 0 (by decide) (ht _ k_105) (fun _ h => h) rfl d_G_writes_1 ?_
  refine va_get (D := (dC, dI)) (ci := 1) (v := .int (g_wc (c_g (x_c X)))) (C := R_S) (T := T_S) (N := 12) hx hb ht in_S hown hK hP 1 rfl rfl 6 (by decide) (ht _ k_71) (fun _ h => h) rfl d_G_writes_4 ?_
  exact ret_i (v := g_wc (c_g (x_c X))) hx hb hr hlocks hP hK hD hS d_G_writes_7 ⟨by rfl, rfl⟩
set_option maxRecDepth 100000 in
set_option maxHeartbeats 4000000 in
theorem c_G_written (l : Launch) (dC : Nat → ClassId) (dI : Nat → Nat → Nat) (a : Nat → Nat) (k : Nat → ClassId) (X : zX) (x : Int32) (hV : VX X) : MetJ l y_G_written w_G_written (rmN (3)) dC dI (yX k) (wX a k) [.ref (a 0), .int x] X (fun z9 u9 => z9 = p_written X x ∧ u9 = X) := by
  refine metJ_of (cc := b_G_written) (maxL := 2) (ret := (some .long)) (by decide) rfl (Nat.le_of_ble_eq_true rfl) ?_
  intro p e9 s9 m args below meth c A ls hx hb hr hts hown hlocks hml hA hP hK hD hS hN hl
  have ht : ∀ w ∈ lw_g, w.before args s9 = true := fun w h => hts w (List.mem_cons_of_mem _ h)
  have hl : lv_has ls 2 [(0, .ref (a 0)), (1, .int x)] := hl
  refine lv_iload_n hx hb d_G_written_0 rfl (lv_at hl 1 rfl) ?_
  refine lv_aload_n hx hb d_G_written_1 rfl (lv_at hl 0 rfl) ?_
  refine va_get (D := (dC, dI)) (ci := 2) (v := .ref (a 1)) (C := R_G) (T := T_G) (N := 2) hx hb ht in_G hown hK hP 0 rfl rfl 0 (by decide) (ht _ k_105) (fun _ h => h) rfl d_G_written_2 ?_
  refine va_get (D := (dC, dI)) (ci := 1) (v := .int (g_wc (c_g (x_c X)))) (C := R_S) (T := T_S) (N := 12) hx hb ht in_S hown hK hP 1 rfl rfl 6 (by decide) (ht _ k_71) (fun _ h => h) rfl d_G_written_5 ?_
  refine call_s (As := [.int x, .int (g_wc (c_g (x_c X)))]) (rest := []) (c_G_isBelow l dC dI a k X x (g_wc (c_g (x_c X)))) k_116 k_117 k_1 k_118 ⟨rfl, pc_G_isBelow.1, pc_G_isBelow.2, pd_G_isBelow⟩ rfl rfl (rm_le (by omega) (by decide)) (Nat.le_of_ble_eq_true rfl) rfl hx hb hml hown ht hl.1 hP hK hD hS hA hN d_G_written_8 (fun r1 u2 H locs q3 hP hD hS => ?_)
  obtain ⟨⟨b4, rfl⟩ | ⟨b4, rfl⟩, q3⟩ := q3
  · rw [q3] at hP hD
    have hP : va_P (dC, dI) vwCl (wX a k X) H := hP
    have hD : va_D A (wX a k X) := hD
    refine lv_if_eq (tgt := 27) hx hb d_G_written_11 (by decide) (fun c5 => ?_) (fun c5 => ?_)
    · have c5 : (1 : Int32) = 0 := c5
      exact absurd c5 (by decide)
    · have c5 : ¬ (1 : Int32) = 0 := c5
      refine lv_aload_n hx hb d_G_written_14 rfl (lv_at hl 0 rfl) ?_
      refine va_get (D := (dC, dI)) (ci := 2) (v := .ref (a 1)) (C := R_G) (T := T_G) (N := 2) hx hb ht in_G hown hK hP 0 rfl rfl 0 (by decide) (ht _ k_105) (fun _ h => h) rfl d_G_written_15 ?_
      refine va_get (D := (dC, dI)) (ci := 1) (v := .ref (a 14)) (C := R_S) (T := T_S) (N := 12) hx hb ht in_S hown hK hP 1 rfl rfl 5 (by decide) (ht _ k_69) (fun _ h => h) rfl d_G_written_18 ?_
      refine lv_iload_n hx hb d_G_written_21 rfl (lv_at hl 1 rfl) ?_
      refine va_iald hx hb hK hP 14 11 rfl rfl (bel_w hV.2 b4) d_G_written_22 ?_
      refine lv_i2l hx hb d_G_written_23 rfl ?_
      refine lv_goto (tgt := 30) hx hb d_G_written_24 (by decide) ?_
      exact ret_l (v := (g_wr (c_g (x_c X)) (ix x)).toInt64) hx hb hr hlocks hP hK hD hS d_G_written_30 ⟨by simp only [p_written, b4, if_true, if_false, Bool.false_eq_true, reduceIte], rfl⟩
  · rw [q3] at hP hD
    have hP : va_P (dC, dI) vwCl (wX a k X) H := hP
    have hD : va_D A (wX a k X) := hD
    refine lv_if_eq (tgt := 27) hx hb d_G_written_11 (by decide) (fun c6 => ?_) (fun c6 => ?_)
    · have c6 : (0 : Int32) = 0 := c6
      refine lv_ldc2 (v := 4294967296) hx hb hown (ht _ k_316) d_G_written_27 ?_
      exact ret_l (v := 4294967296) hx hb hr hlocks hP hK hD hS d_G_written_30 ⟨by simp only [p_written, b4, if_true, if_false, Bool.false_eq_true, reduceIte], rfl⟩
    · have c6 : ¬ (0 : Int32) = 0 := c6
      exact absurd c6 (by decide)
set_option maxRecDepth 100000 in
set_option maxHeartbeats 4000000 in
theorem c_G_cost (l : Launch) (dC : Nat → ClassId) (dI : Nat → Nat → Nat) (a : Nat → Nat) (k : Nat → ClassId) (X : zX) : MetI l y_G_cost w_G_cost (rmN (0)) dC dI (yX k) (wX a k) [.ref (a 0)] X (fun z9 u9 => z9 = g_sp (c_g (x_c X)) ∧ u9 = X) := by
  refine metI_of (cc := b_G_cost) (maxL := 1) (ret := (some .int)) (by decide) rfl (Nat.le_of_ble_eq_true rfl) ?_
  intro p e9 s9 m args below meth c A ls hx hb hr hts hown hlocks hml hA hP hK hD hS hN hl
  have ht : ∀ w ∈ lw_g, w.before args s9 = true := fun w h => hts w (List.mem_cons_of_mem _ h)
  have hl : lv_has ls 1 [(0, .ref (a 0))] := hl
  refine lv_aload_n hx hb d_G_cost_0 rfl (lv_at hl 0 rfl) ?_
  refine va_get (D := (dC, dI)) (ci := 2) (v := .ref (a 1)) (C := R_G) (T := T_G) (N := 2) hx hb ht in_G hown hK hP 0 rfl rfl 0 (by decide) (ht _ k_105) (fun _ h => h) rfl d_G_cost_1 ?_
  refine va_get (D := (dC, dI)) (ci := 1) (v := .int (g_sp (c_g (x_c X)))) (C := R_S) (T := T_S) (N := 12) hx hb ht in_S hown hK hP 1 rfl rfl 7 (by decide) (ht _ k_73) (fun _ h => h) rfl d_G_cost_4 ?_
  exact ret_i (v := g_sp (c_g (x_c X))) hx hb hr hlocks hP hK hD hS d_G_cost_7 ⟨by rfl, rfl⟩
