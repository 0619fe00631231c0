set_option maxRecDepth 100000 in
set_option maxHeartbeats 4000000 in
theorem c_S_askArithmetic (l : Launch) (dC : Nat → ClassId) (dI : Nat → Nat → Nat) (a : Nat → Nat) (k : Nat → ClassId) (X : zX) (T : zT) (M d : Nat) (hAsk : AskOK l dC dI a k X T M d) (hM : M = 1000000) (s : zC) (e : Int32) (he : vp_in e 60) (tx : Tr (x_F X) T d (f_x (x_F X) (ix e))) (ty : Tr (x_F X) T d (f_y (x_F X) (ix e))) (hW : Wk s) : MetI l y_S_askArithmetic w_S_askArithmetic (rmN (5 * d + 6)) dC dI (yX k) (wS a k X) [.ref (a 1), .int e] s (fun r u => p_arith (x_F X) (p_all (x_F X) M d) M e s = (r, u) ∧ Wk u) := by
  refine metI_of (cc := b_S_askArithmetic) (maxL := 5) (ret := (some .int)) (by decide) rfl (Nat.le_of_ble_eq_true rfl) ?_
  intro p e9 s9 m args below meth c A ls hx hb hr hts hown hlocks hml hA hP hK hD hS hN hl
  have ht : ∀ w ∈ lw_g, w.before args s9 = true := fun w h => hts w (List.mem_cons_of_mem _ h)
  have hl : lv_has ls 5 [(0, .ref (a 1)), (1, .int e)] := hl
  refine lv_aload_n hx hb d_S_askArithmetic_0 rfl (lv_at hl 0 rfl) ?_
  refine lv_iload_n hx hb d_S_askArithmetic_1 rfl (lv_at hl 1 rfl) ?_
  refine call_i (As := [.int e]) (rest := []) (ci := 1) (q0 := 1) (c_S_askPair l dC dI a k X T M d hAsk hM s e he tx ty hW) k_245 k_247 s_S_askPair k_2 k_248 ⟨rfl, pc_S_askPair.1, pc_S_askPair.2, pd_S_askPair⟩ rfl rfl rfl rfl rfl (rm_le (by omega) (by decide)) (Nat.le_of_ble_eq_true rfl) rfl hx hb hml hown ht hl.1 hP hK hD hS hA hN d_S_askArithmetic_2 (fun r1 u2 H locs q3 hP hD hS => ?_)
  obtain ⟨q3, hW3⟩ := q3
  have hP : va_P (dC, dI) vwCl (wS a k X u2) H := hP
  have hD : va_D A (wS a k X u2) := hD
  refine lv_istore_n hx hb d_S_askArithmetic_5 rfl hl (by decide) (lv' := [(2, .int r1), (0, .ref (a 1)), (1, .int e)]) rfl (fun ls hl => ?_)
  refine lv_iload_n hx hb d_S_askArithmetic_6 rfl (lv_at hl 0 rfl) ?_
  refine lv_iconst (v := 1) hx hb d_S_askArithmetic_7 (by decide) ?_
  refine lv_icmp_eq (tgt := 13) hx hb d_S_askArithmetic_8 (by decide) (fun c4 => ?_) (fun c4 => ?_)
  · have c4 : r1 = 1 := c4
    refine lv_aload_n hx hb d_S_askArithmetic_13 rfl (lv_at hl 1 rfl) ?_
    refine va_get (D := (dC, dI)) (ci := 1) (v := .ref (a 2)) (C := R_S) (T := T_S) (N := 12) hx hb ht in_S hown hK hP 1 rfl rfl 0 (by decide) (ht _ k_61) (fun _ h => h) rfl d_S_askArithmetic_14 ?_
    refine va_get (D := (dC, dI)) (ci := 0) (v := .ref (a 3)) (C := R_F) (T := T_F) (N := 8) hx hb ht in_F hown hK hP 2 rfl rfl 0 (by decide) (ht _ k_27) (fun _ h => h) rfl d_S_askArithmetic_17 ?_
    refine lv_iload_n hx hb d_S_askArithmetic_20 rfl (lv_at hl 2 rfl) ?_
    refine va_iald hx hb hK hP 3 0 rfl rfl he d_S_askArithmetic_21 ?_
    refine lv_aload_n hx hb d_S_askArithmetic_22 rfl (lv_at hl 1 rfl) ?_
    refine va_get (D := (dC, dI)) (ci := 1) (v := .ref (a 11)) (C := R_S) (T := T_S) (N := 12) hx hb ht in_S hown hK hP 1 rfl rfl 2 (by decide) (ht _ k_64) (fun _ h => h) rfl d_S_askArithmetic_23 ?_
    refine lv_aload_n hx hb d_S_askArithmetic_26 rfl (lv_at hl 1 rfl) ?_
    refine va_get (D := (dC, dI)) (ci := 1) (v := .ref (a 2)) (C := R_S) (T := T_S) (N := 12) hx hb ht in_S hown hK hP 1 rfl rfl 0 (by decide) (ht _ k_61) (fun _ h => h) rfl d_S_askArithmetic_27 ?_
    refine va_get (D := (dC, dI)) (ci := 0) (v := .ref (a 5)) (C := R_F) (T := T_F) (N := 8) hx hb ht in_F hown hK hP 2 rfl rfl 2 (by decide) (ht _ k_31) (fun _ h => h) rfl d_S_askArithmetic_30 ?_
    refine lv_iload_n hx hb d_S_askArithmetic_33 rfl (lv_at hl 2 rfl) ?_
    refine va_iald hx hb hK hP 5 2 rfl rfl he d_S_askArithmetic_34 ?_
    refine va_iald hx hb hK hP 11 8 rfl rfl (Tr_in tx) d_S_askArithmetic_35 ?_
    refine lv_i2l hx hb d_S_askArithmetic_36 rfl ?_
    refine lv_aload_n hx hb d_S_askArithmetic_37 rfl (lv_at hl 1 rfl) ?_
    refine va_get (D := (dC, dI)) (ci := 1) (v := .ref (a 11)) (C := R_S) (T := T_S) (N := 12) hx hb ht in_S hown hK hP 1 rfl rfl 2 (by decide) (ht _ k_64) (fun _ h => h) rfl d_S_askArithmetic_38 ?_
    refine lv_aload_n hx hb d_S_askArithmetic_41 rfl (lv_at hl 1 rfl) ?_
    refine va_get (D := (dC, dI)) (ci := 1) (v := .ref (a 2)) (C := R_S) (T := T_S) (N := 12) hx hb ht in_S hown hK hP 1 rfl rfl 0 (by decide) (ht _ k_61) (fun _ h => h) rfl d_S_askArithmetic_42 ?_
    refine va_get (D := (dC, dI)) (ci := 0) (v := .ref (a 6)) (C := R_F) (T := T_F) (N := 8) hx hb ht in_F hown hK hP 2 rfl rfl 3 (by decide) (ht _ k_33) (fun _ h => h) rfl d_S_askArithmetic_45 ?_
    refine lv_iload_n hx hb d_S_askArithmetic_48 rfl (lv_at hl 2 rfl) ?_
    refine va_iald hx hb hK hP 6 3 rfl rfl he d_S_askArithmetic_49 ?_
    refine va_iald hx hb hK hP 11 8 rfl rfl (Tr_in ty) d_S_askArithmetic_50 ?_
    refine lv_i2l hx hb d_S_askArithmetic_51 rfl ?_
    refine call_sj (As := [.int (f_k (x_F X) (ix e)), .long ((c_rs u2 (ix (f_x (x_F X) (ix e)))).toInt64), .long ((c_rs u2 (ix (f_y (x_F X) (ix e)))).toInt64)]) (rest := []) (c_S_calculate l dC dI a k X u2 (f_k (x_F X) (ix e)) ((c_rs u2 (ix (f_x (x_F X) (ix e)))).toInt64) ((c_rs u2 (ix (f_y (x_F X) (ix e)))).toInt64)) k_254 k_255 k_2 k_256 ⟨rfl, pc_S_calculate.1, pc_S_calculate.2, pd_S_calculate⟩ rfl rfl (rm_le (by omega) (by decide)) (Nat.le_of_ble_eq_true rfl) rfl hx hb hml hown ht hl.1 hP hK hD hS hA hN d_S_askArithmetic_52 (fun r5 u6 H locs q7 hP hD hS => ?_)
    obtain ⟨rfl, q7⟩ := q7
    rw [q7] at hP hD
    have hP : va_P (dC, dI) vwCl (wS a k X u2) H := hP
    have hD : va_D A (wS a k X u2) := hD
    refine lv_lstore_n hx hb d_S_askArithmetic_55 rfl hl (by decide) (lv' := [(3, .long (p_calc (f_k (x_F X) (ix e)) ((c_rs u2 (ix (f_x (x_F X) (ix e)))).toInt64) ((c_rs u2 (ix (f_y (x_F X) (ix e)))).toInt64))), (2, .int r1), (0, .ref (a 1)), (1, .int e)]) rfl (fun ls hl => ?_)
    refine lv_lload_n hx hb d_S_askArithmetic_56 rfl (lv_at hl 0 rfl) ?_
    refine lv_lload_n hx hb d_S_askArithmetic_57 rfl (lv_at hl 0 rfl) ?_
    refine lv_l2i hx hb d_S_askArithmetic_58 rfl ?_
    refine lv_i2l hx hb d_S_askArithmetic_59 rfl ?_
    refine W.lcmp hx hb d_S_askArithmetic_60 ?_
    refine lv_if_ne (tgt := 74) hx hb d_S_askArithmetic_61 (by decide) (fun c8 => ?_) (fun c8 => ?_)
    · have c8 : ¬ p_calc (f_k (x_F X) (ix e)) ((c_rs u2 (ix (f_x (x_F X) (ix e)))).toInt64) ((c_rs u2 (ix (f_y (x_F X) (ix e)))).toInt64) = ((p_calc (f_k (x_F X) (ix e)) ((c_rs u2 (ix (f_x (x_F X) (ix e)))).toInt64) ((c_rs u2 (ix (f_y (x_F X) (ix e)))).toInt64)).toInt32).toInt64 := fun q => c8 ((lg_cmp_eq _ _).mpr q)
      refine lv_bipush (v := (-4)) hx hb d_S_askArithmetic_74 (by decide) ?_
      exact ret_i (v := (-4)) hx hb hr hlocks hP hK hD hS d_S_askArithmetic_76 ⟨by subst c4; simp [p_arith, c8, q3], hW3⟩
    · have c8 : p_calc (f_k (x_F X) (ix e)) ((c_rs u2 (ix (f_x (x_F X) (ix e)))).toInt64) ((c_rs u2 (ix (f_y (x_F X) (ix e)))).toInt64) = ((p_calc (f_k (x_F X) (ix e)) ((c_rs u2 (ix (f_x (x_F X) (ix e)))).toInt64) ((c_rs u2 (ix (f_y (x_F X) (ix e)))).toInt64)).toInt32).toInt64 := (lg_cmp_eq _ _).mp c8
      refine lv_aload_n hx hb d_S_askArithmetic_64 rfl (lv_at hl 2 rfl) ?_
      refine lv_iload_n hx hb d_S_askArithmetic_65 rfl (lv_at hl 3 rfl) ?_
      refine lv_lload_n hx hb d_S_askArithmetic_66 rfl (lv_at hl 0 rfl) ?_
      refine lv_l2i hx hb d_S_askArithmetic_67 rfl ?_
      refine call_i (As := [.int e, .int ((p_calc (f_k (x_F X) (ix e)) ((c_rs u2 (ix (f_x (x_F X) (ix e)))).toInt64) ((c_rs u2 (ix (f_y (x_F X) (ix e)))).toInt64)).toInt32)]) (rest := []) (ci := 1) (q0 := 1) (c_S_give l dC dI a k X u2 e ((p_calc (f_k (x_F X) (ix e)) ((c_rs u2 (ix (f_x (x_F X) (ix e)))).toInt64) ((c_rs u2 (ix (f_y (x_F X) (ix e)))).toInt64)).toInt32) he hW3) k_209 k_211 s_S_give k_2 k_212 ⟨rfl, pc_S_give.1, pc_S_give.2, pd_S_give⟩ rfl rfl rfl rfl rfl (rm_le (by omega) (by decide)) (Nat.le_of_ble_eq_true rfl) rfl hx hb hml hown ht hl.1 hP hK hD hS hA hN d_S_askArithmetic_68 (fun r9 u10 H locs q11 hP hD hS => ?_)
      obtain ⟨q11, hW11⟩ := q11
      have hP : va_P (dC, dI) vwCl (wS a k X u10) H := hP
      have hD : va_D A (wS a k X u10) := hD
      refine lv_goto (tgt := 76) hx hb d_S_askArithmetic_71 (by decide) ?_
      exact ret_i (v := r9) hx hb hr hlocks hP hK hD hS d_S_askArithmetic_76 ⟨by subst c4; simp [p_arith, eq_true c8, q3, q11], hW11⟩
  · have c4 : ¬ r1 = 1 := c4
    refine lv_iload_n hx hb d_S_askArithmetic_11 rfl (lv_at hl 0 rfl) ?_
    exact ret_i (v := r1) hx hb hr hlocks hP hK hD hS d_S_askArithmetic_12 ⟨by simp [p_arith, c4, q3], hW3⟩
set_option maxRecDepth 100000 in
set_option maxHeartbeats 4000000 in
theorem c_S_askIf (l : Launch) (dC : Nat → ClassId) (dI : Nat → Nat → Nat) (a : Nat → Nat) (k : Nat → ClassId) (X : zX) (T : zT) (M d : Nat) (hAsk : AskOK l dC dI a k X T M d) (s : zC) (e : Int32) (he : vp_in e 60) (tx : Tr (x_F X) T d (f_x (x_F X) (ix e))) (ty : Tr (x_F X) T d (f_y (x_F X) (ix e))) (tz : Tr (x_F X) T d (f_z (x_F X) (ix e))) (hW : Wk s) : MetI l y_S_askIf w_S_askIf (rmN (5 * d + 5)) dC dI (yX k) (wS a k X) [.ref (a 1), .int e] s (fun r u => p_if (x_F X) (p_all (x_F X) M d) e s = (r, u) ∧ Wk u) := by
  refine metI_of (cc := b_S_askIf) (maxL := 3) (ret := (some .int)) (by decide) rfl (Nat.le_of_ble_eq_true rfl) ?_
  intro p e9 s9 m args below meth c A ls hx hb hr hts hown hlocks hml hA hP hK hD hS hN hl
  have ht : ∀ w ∈ lw_g, w.before args s9 = true := fun w h => hts w (List.mem_cons_of_mem _ h)
  have hl : lv_has ls 3 [(0, .ref (a 1)), (1, .int e)] := hl
  refine lv_aload_n hx hb d_S_askIf_0 rfl (lv_at hl 0 rfl) ?_
  refine va_get (D := (dC, dI)) (ci := 1) (v := .ref (a 10)) (C := R_S) (T := T_S) (N := 12) hx hb ht in_S hown hK hP 1 rfl rfl 1 (by decide) (ht _ k_63) (fun _ h => h) rfl d_S_askIf_1 ?_
  refine lv_iload_n hx hb d_S_askIf_4 rfl (lv_at hl 1 rfl) ?_
  refine va_iald hx hb hK hP 10 7 rfl rfl he d_S_askIf_5 ?_
  refine lv_if_ne (tgt := 54) hx hb d_S_askIf_6 (by decide) (fun c1 => ?_) (fun c1 => ?_)
  · have c1 : ¬ c_st s (ix e) = 0 := c1
    refine lv_aload_n hx hb d_S_askIf_54 rfl (lv_at hl 0 rfl) ?_
    refine lv_iload_n hx hb d_S_askIf_55 rfl (lv_at hl 1 rfl) ?_
    refine lv_aload_n hx hb d_S_askIf_56 rfl (lv_at hl 0 rfl) ?_
    refine lv_iload_n hx hb d_S_askIf_57 rfl (lv_at hl 1 rfl) ?_
    refine call_i (As := [.int e]) (rest := [.int e, .ref (a 1)]) (ci := 1) (q0 := 1) (c_S_branch l dC dI a k X s e he) k_296 k_298 s_S_branch k_2 k_299 ⟨rfl, pc_S_branch.1, pc_S_branch.2, pd_S_branch⟩ rfl rfl rfl rfl rfl (rm_le (by omega) (by decide)) (Nat.le_of_ble_eq_true rfl) rfl hx hb hml hown ht hl.1 hP hK hD hS hA hN d_S_askIf_58 (fun r2 u3 H locs q4 hP hD hS => ?_)
    obtain ⟨rfl, q4⟩ := q4
    rw [q4] at hP hD
    have hP : va_P (dC, dI) vwCl (wS a k X s) H := hP
    have hD : va_D A (wS a k X s) := hD
    refine lv_aload_n hx hb d_S_askIf_61 rfl (lv_at hl 0 rfl) ?_
    refine lv_aload_n hx hb d_S_askIf_62 rfl (lv_at hl 0 rfl) ?_
    refine lv_iload_n hx hb d_S_askIf_63 rfl (lv_at hl 1 rfl) ?_
    refine call_i (As := [.int e]) (rest := [.ref (a 1), .int (p_branch (x_F X) e s), .int e, .ref (a 1)]) (ci := 1) (q0 := 1) (c_S_branch l dC dI a k X s e he) k_296 k_298 s_S_branch k_2 k_299 ⟨rfl, pc_S_branch.1, pc_S_branch.2, pd_S_branch⟩ rfl rfl rfl rfl rfl (rm_le (by omega) (by decide)) (Nat.le_of_ble_eq_true rfl) rfl hx hb hml hown ht hl.1 hP hK hD hS hA hN d_S_askIf_64 (fun r5 u6 H locs q7 hP hD hS => ?_)
    obtain ⟨rfl, q7⟩ := q7
    rw [q7] at hP hD
    have hP : va_P (dC, dI) vwCl (wS a k X s) H := hP
    have hD : va_D A (wS a k X s) := hD
    refine call_i (As := [.int (p_branch (x_F X) e s)]) (rest := [.int (p_branch (x_F X) e s), .int e, .ref (a 1)]) (ci := 1) (q0 := 1) (hAsk (p_branch (x_F X) e s) s (br_tr ty tz) hW) k_197 k_199 s_S_ask k_2 k_200 ⟨rfl, pc_S_ask.1, pc_S_ask.2, pd_S_ask⟩ rfl rfl rfl rfl rfl (rm_le (by omega) (by decide)) (Nat.le_of_ble_eq_true rfl) rfl hx hb hml hown ht hl.1 hP hK hD hS hA hN d_S_askIf_67 (fun r8 u9 H locs q10 hP hD hS => ?_)
    obtain ⟨q10, hW10⟩ := q10
    have hP : va_P (dC, dI) vwCl (wS a k X u9) H := hP
    have hD : va_D A (wS a k X u9) := hD
    refine call_i (As := [.int e, .int (p_branch (x_F X) e s), .int r8]) (rest := []) (ci := 1) (q0 := 1) (c_S_handUp l dC dI a k X u9 e (p_branch (x_F X) e s) r8 he (Tr_in (br_tr ty tz)) hW10) k_221 k_223 s_S_handUp k_2 k_224 ⟨rfl, pc_S_handUp.1, pc_S_handUp.2, pd_S_handUp⟩ rfl rfl rfl rfl rfl (rm_le (by omega) (by decide)) (Nat.le_of_ble_eq_true rfl) rfl hx hb hml hown ht hl.1 hP hK hD hS hA hN d_S_askIf_70 (fun r11 u12 H locs q13 hP hD hS => ?_)
    obtain ⟨q13, hW13⟩ := q13
    have hP : va_P (dC, dI) vwCl (wS a k X u12) H := hP
    have hD : va_D A (wS a k X u12) := hD
    exact ret_i (v := r11) hx hb hr hlocks hP hK hD hS d_S_askIf_73 ⟨by simp [p_if, c1, q10, q13], hW13⟩
  · have c1 : c_st s (ix e) = 0 := c1
    refine lv_aload_n hx hb d_S_askIf_9 rfl (lv_at hl 0 rfl) ?_
    refine lv_aload_n hx hb d_S_askIf_10 rfl (lv_at hl 0 rfl) ?_
    refine va_get (D := (dC, dI)) (ci := 1) (v := .ref (a 2)) (C := R_S) (T := T_S) (N := 12) hx hb ht in_S hown hK hP 1 rfl rfl 0 (by decide) (ht _ k_61) (fun _ h => h) rfl d_S_askIf_11 ?_
    refine va_get (D := (dC, dI)) (ci := 0) (v := .ref (a 5)) (C := R_F) (T := T_F) (N := 8) hx hb ht in_F hown hK hP 2 rfl rfl 2 (by decide) (ht _ k_31) (fun _ h => h) rfl d_S_askIf_14 ?_
    refine lv_iload_n hx hb d_S_askIf_17 rfl (lv_at hl 1 rfl) ?_
    refine va_iald hx hb hK hP 5 2 rfl rfl he d_S_askIf_18 ?_
    refine call_i (As := [.int (f_x (x_F X) (ix e))]) (rest := []) (ci := 1) (q0 := 1) (c_S_tryOnce l dC dI a k X T M d hAsk s (f_x (x_F X) (ix e)) tx hW) k_233 k_235 s_S_tryOnce k_2 k_236 ⟨rfl, pc_S_tryOnce.1, pc_S_tryOnce.2, pd_S_tryOnce⟩ rfl rfl rfl rfl rfl (rm_le (by omega) (by decide)) (Nat.le_of_ble_eq_true rfl) rfl hx hb hml hown ht hl.1 hP hK hD hS hA hN d_S_askIf_19 (fun r14 u15 H locs q16 hP hD hS => ?_)
    obtain ⟨q16, hW16⟩ := q16
    have hP : va_P (dC, dI) vwCl (wS a k X u15) H := hP
    have hD : va_D A (wS a k X u15) := hD
    refine lv_istore_n hx hb d_S_askIf_22 rfl hl (by decide) (lv' := [(2, .int r14), (0, .ref (a 1)), (1, .int e)]) rfl (fun ls hl => ?_)
    refine lv_iload_n hx hb d_S_askIf_23 rfl (lv_at hl 0 rfl) ?_
    refine lv_if_ge (tgt := 29) hx hb d_S_askIf_24 (by decide) (fun c17 => ?_) (fun c17 => ?_)
    · have c17 : ¬ r14 < 0 := Int32.not_lt.mpr c17
      refine lv_aload_n hx hb d_S_askIf_29 rfl (lv_at hl 1 rfl) ?_
      refine va_get (D := (dC, dI)) (ci := 1) (v := .ref (a 10)) (C := R_S) (T := T_S) (N := 12) hx hb ht in_S hown hK hP 1 rfl rfl 1 (by decide) (ht _ k_63) (fun _ h => h) rfl d_S_askIf_30 ?_
      refine lv_iload_n hx hb d_S_askIf_33 rfl (lv_at hl 2 rfl) ?_
      refine lv_iload_n hx hb d_S_askIf_34 rfl (lv_at hl 0 rfl) ?_
      refine lv_iconst (v := 1) hx hb d_S_askIf_35 (by decide) ?_
      refine lv_icmp_ne (tgt := 43) hx hb d_S_askIf_36 (by decide) (fun c18 => ?_) (fun c18 => ?_)
      · have c18 : ¬ r14 = 1 := c18
        refine lv_iconst (v := 3) hx hb d_S_askIf_43 (by decide) ?_
        refine va_iast hx hb hK hP hD hS 10 7 rfl rfl he d_S_askIf_44 (fun H locs hP hD hS => ?_)
        have hP : va_P (dC, dI) vwCl (wS a k X (s_st u15 e 3)) H := cP_S_st hP
        have hD : va_D A (wS a k X (s_st u15 e 3)) := cD_S_st hD
        refine lv_aload_n hx hb d_S_askIf_45 rfl (lv_at hl 1 rfl) ?_
        refine lv_aload_n hx hb d_S_askIf_46 rfl (lv_at hl 1 rfl) ?_
        refine lv_iload_n hx hb d_S_askIf_47 rfl (lv_at hl 2 rfl) ?_
        refine call_i (As := [.int e]) (rest := [.ref (a 1)]) (ci := 1) (q0 := 1) (c_S_branch l dC dI a k X (s_st u15 e 3) e he) k_296 k_298 s_S_branch k_2 k_299 ⟨rfl, pc_S_branch.1, pc_S_branch.2, pd_S_branch⟩ rfl rfl rfl rfl rfl (rm_le (by omega) (by decide)) (Nat.le_of_ble_eq_true rfl) rfl hx hb hml hown ht hl.1 hP hK hD hS hA hN d_S_askIf_48 (fun r19 u20 H locs q21 hP hD hS => ?_)
        obtain ⟨rfl, q21⟩ := q21
        rw [q21] at hP hD
        have hP : va_P (dC, dI) vwCl (wS a k X (s_st u15 e 3)) H := hP
        have hD : va_D A (wS a k X (s_st u15 e 3)) := hD
        refine call_v (As := [.int (p_branch (x_F X) e (s_st u15 e 3))]) (rest := []) (ci := 1) (q0 := 1) (c_S_start l dC dI a k X (s_st u15 e 3) (p_branch (x_F X) e (s_st u15 e 3)) (Tr_in (br_tr ty tz)) (wk_st hW16)) k_185 k_187 s_S_start k_2 k_188 ⟨rfl, pc_S_start.1, pc_S_start.2, pd_S_start⟩ rfl rfl rfl rfl rfl (rm_le (by omega) (by decide)) (Nat.le_of_ble_eq_true rfl) rfl hx hb hml hown ht hl.1 hP hK hD hS hA hN d_S_askIf_51 (fun u23 H locs q24 hP hD hS => ?_)
        obtain ⟨rfl, hW24⟩ := q24
        have hP : va_P (dC, dI) vwCl (wS a k X (s_st (s_st u15 e 3) (p_branch (x_F X) e (s_st u15 e 3)) 0)) H := hP
        have hD : va_D A (wS a k X (s_st (s_st u15 e 3) (p_branch (x_F X) e (s_st u15 e 3)) 0)) := hD
        refine lv_aload_n hx hb d_S_askIf_54 rfl (lv_at hl 1 rfl) ?_
        refine lv_iload_n hx hb d_S_askIf_55 rfl (lv_at hl 2 rfl) ?_
        refine lv_aload_n hx hb d_S_askIf_56 rfl (lv_at hl 1 rfl) ?_
        refine lv_iload_n hx hb d_S_askIf_57 rfl (lv_at hl 2 rfl) ?_
        refine call_i (As := [.int e]) (rest := [.int e, .ref (a 1)]) (ci := 1) (q0 := 1) (c_S_branch l dC dI a k X (s_st (s_st u15 e 3) (p_branch (x_F X) e (s_st u15 e 3)) 0) e he) k_296 k_298 s_S_branch k_2 k_299 ⟨rfl, pc_S_branch.1, pc_S_branch.2, pd_S_branch⟩ rfl rfl rfl rfl rfl (rm_le (by omega) (by decide)) (Nat.le_of_ble_eq_true rfl) rfl hx hb hml hown ht hl.1 hP hK hD hS hA hN d_S_askIf_58 (fun r25 u26 H locs q27 hP hD hS => ?_)
        obtain ⟨rfl, q27⟩ := q27
        rw [q27] at hP hD
        have hP : va_P (dC, dI) vwCl (wS a k X (s_st (s_st u15 e 3) (p_branch (x_F X) e (s_st u15 e 3)) 0)) H := hP
        have hD : va_D A (wS a k X (s_st (s_st u15 e 3) (p_branch (x_F X) e (s_st u15 e 3)) 0)) := hD
        refine lv_aload_n hx hb d_S_askIf_61 rfl (lv_at hl 1 rfl) ?_
        refine lv_aload_n hx hb d_S_askIf_62 rfl (lv_at hl 1 rfl) ?_
        refine lv_iload_n hx hb d_S_askIf_63 rfl (lv_at hl 2 rfl) ?_
        refine call_i (As := [.int e]) (rest := [.ref (a 1), .int (p_branch (x_F X) e (s_st (s_st u15 e 3) (p_branch (x_F X) e (s_st u15 e 3)) 0)), .int e, .ref (a 1)]) (ci := 1) (q0 := 1) (c_S_branch l dC dI a k X (s_st (s_st u15 e 3) (p_branch (x_F X) e (s_st u15 e 3)) 0) e he) k_296 k_298 s_S_branch k_2 k_299 ⟨rfl, pc_S_branch.1, pc_S_branch.2, pd_S_branch⟩ rfl rfl rfl rfl rfl (rm_le (by omega) (by decide)) (Nat.le_of_ble_eq_true rfl) rfl hx hb hml hown ht hl.1 hP hK hD hS hA hN d_S_askIf_64 (fun r28 u29 H locs q30 hP hD hS => ?_)
        obtain ⟨rfl, q30⟩ := q30
        rw [q30] at hP hD
        have hP : va_P (dC, dI) vwCl (wS a k X (s_st (s_st u15 e 3) (p_branch (x_F X) e (s_st u15 e 3)) 0)) H := hP
        have hD : va_D A (wS a k X (s_st (s_st u15 e 3) (p_branch (x_F X) e (s_st u15 e 3)) 0)) := hD
        refine call_i (As := [.int (p_branch (x_F X) e (s_st (s_st u15 e 3) (p_branch (x_F X) e (s_st u15 e 3)) 0))]) (rest := [.int (p_branch (x_F X) e (s_st (s_st u15 e 3) (p_branch (x_F X) e (s_st u15 e 3)) 0)), .int e, .ref (a 1)]) (ci := 1) (q0 := 1) (hAsk (p_branch (x_F X) e (s_st (s_st u15 e 3) (p_branch (x_F X) e (s_st u15 e 3)) 0)) (s_st (s_st u15 e 3) (p_branch (x_F X) e (s_st u15 e 3)) 0) (br_tr ty tz) hW24) k_197 k_199 s_S_ask k_2 k_200 ⟨rfl, pc_S_ask.1, pc_S_ask.2, pd_S_ask⟩ rfl rfl rfl rfl rfl (rm_le (by omega) (by decide)) (Nat.le_of_ble_eq_true rfl) rfl hx hb hml hown ht hl.1 hP hK hD hS hA hN d_S_askIf_67 (fun r31 u32 H locs q33 hP hD hS => ?_)
        obtain ⟨q33, hW33⟩ := q33
        have hP : va_P (dC, dI) vwCl (wS a k X u32) H := hP
        have hD : va_D A (wS a k X u32) := hD
        refine call_i (As := [.int e, .int (p_branch (x_F X) e (s_st (s_st u15 e 3) (p_branch (x_F X) e (s_st u15 e 3)) 0)), .int r31]) (rest := []) (ci := 1) (q0 := 1) (c_S_handUp l dC dI a k X u32 e (p_branch (x_F X) e (s_st (s_st u15 e 3) (p_branch (x_F X) e (s_st u15 e 3)) 0)) r31 he (Tr_in (br_tr ty tz)) hW33) k_221 k_223 s_S_handUp k_2 k_224 ⟨rfl, pc_S_handUp.1, pc_S_handUp.2, pd_S_handUp⟩ rfl rfl rfl rfl rfl (rm_le (by omega) (by decide)) (Nat.le_of_ble_eq_true rfl) rfl hx hb hml hown ht hl.1 hP hK hD hS hA hN d_S_askIf_70 (fun r34 u35 H locs q36 hP hD hS => ?_)
        obtain ⟨q36, hW36⟩ := q36
        have hP : va_P (dC, dI) vwCl (wS a k X u35) H := hP
        have hD : va_D A (wS a k X u35) := hD
        exact ret_i (v := r34) hx hb hr hlocks hP hK hD hS d_S_askIf_73 ⟨by simp [p_if, c1, c17, c18, q16, q33, q36], hW36⟩
      · have c18 : r14 = 1 := c18
        refine lv_iconst (v := 2) hx hb d_S_askIf_39 (by decide) ?_
        refine lv_goto (tgt := 44) hx hb d_S_askIf_40 (by decide) ?_
        refine va_iast hx hb hK hP hD hS 10 7 rfl rfl he d_S_askIf_44 (fun H locs hP hD hS => ?_)
        have hP : va_P (dC, dI) vwCl (wS a k X (s_st u15 e 2)) H := cP_S_st hP
        have hD : va_D A (wS a k X (s_st u15 e 2)) := cD_S_st hD
        refine lv_aload_n hx hb d_S_askIf_45 rfl (lv_at hl 1 rfl) ?_
        refine lv_aload_n hx hb d_S_askIf_46 rfl (lv_at hl 1 rfl) ?_
        refine lv_iload_n hx hb d_S_askIf_47 rfl (lv_at hl 2 rfl) ?_
        refine call_i (As := [.int e]) (rest := [.ref (a 1)]) (ci := 1) (q0 := 1) (c_S_branch l dC dI a k X (s_st u15 e 2) e he) k_296 k_298 s_S_branch k_2 k_299 ⟨rfl, pc_S_branch.1, pc_S_branch.2, pd_S_branch⟩ rfl rfl rfl rfl rfl (rm_le (by omega) (by decide)) (Nat.le_of_ble_eq_true rfl) rfl hx hb hml hown ht hl.1 hP hK hD hS hA hN d_S_askIf_48 (fun r37 u38 H locs q39 hP hD hS => ?_)
        obtain ⟨rfl, q39⟩ := q39
        rw [q39] at hP hD
        have hP : va_P (dC, dI) vwCl (wS a k X (s_st u15 e 2)) H := hP
        have hD : va_D A (wS a k X (s_st u15 e 2)) := hD
        refine call_v (As := [.int (p_branch (x_F X) e (s_st u15 e 2))]) (rest := []) (ci := 1) (q0 := 1) (c_S_start l dC dI a k X (s_st u15 e 2) (p_branch (x_F X) e (s_st u15 e 2)) (Tr_in (br_tr ty tz)) (wk_st hW16)) k_185 k_187 s_S_start k_2 k_188 ⟨rfl, pc_S_start.1, pc_S_start.2, pd_S_start⟩ rfl rfl rfl rfl rfl (rm_le (by omega) (by decide)) (Nat.le_of_ble_eq_true rfl) rfl hx hb hml hown ht hl.1 hP hK hD hS hA hN d_S_askIf_51 (fun u41 H locs q42 hP hD hS => ?_)
        obtain ⟨rfl, hW42⟩ := q42
        have hP : va_P (dC, dI) vwCl (wS a k X (s_st (s_st u15 e 2) (p_branch (x_F X) e (s_st u15 e 2)) 0)) H := hP
        have hD : va_D A (wS a k X (s_st (s_st u15 e 2) (p_branch (x_F X) e (s_st u15 e 2)) 0)) := hD
        refine lv_aload_n hx hb d_S_askIf_54 rfl (lv_at hl 1 rfl) ?_
        refine lv_iload_n hx hb d_S_askIf_55 rfl (lv_at hl 2 rfl) ?_
        refine lv_aload_n hx hb d_S_askIf_56 rfl (lv_at hl 1 rfl) ?_
        refine lv_iload_n hx hb d_S_askIf_57 rfl (lv_at hl 2 rfl) ?_
        refine call_i (As := [.int e]) (rest := [.int e, .ref (a 1)]) (ci := 1) (q0 := 1) (c_S_branch l dC dI a k X (s_st (s_st u15 e 2) (p_branch (x_F X) e (s_st u15 e 2)) 0) e he) k_296 k_298 s_S_branch k_2 k_299 ⟨rfl, pc_S_branch.1, pc_S_branch.2, pd_S_branch⟩ rfl rfl rfl rfl rfl (rm_le (by omega) (by decide)) (Nat.le_of_ble_eq_true rfl) rfl hx hb hml hown ht hl.1 hP hK hD hS hA hN d_S_askIf_58 (fun r43 u44 H locs q45 hP hD hS => ?_)
        obtain ⟨rfl, q45⟩ := q45
        rw [q45] at hP hD
        have hP : va_P (dC, dI) vwCl (wS a k X (s_st (s_st u15 e 2) (p_branch (x_F X) e (s_st u15 e 2)) 0)) H := hP
        have hD : va_D A (wS a k X (s_st (s_st u15 e 2) (p_branch (x_F X) e (s_st u15 e 2)) 0)) := hD
        refine lv_aload_n hx hb d_S_askIf_61 rfl (lv_at hl 1 rfl) ?_
        refine lv_aload_n hx hb d_S_askIf_62 rfl (lv_at hl 1 rfl) ?_
        refine lv_iload_n hx hb d_S_askIf_63 rfl (lv_at hl 2 rfl) ?_
        refine call_i (As := [.int e]) (rest := [.ref (a 1), .int (p_branch (x_F X) e (s_st (s_st u15 e 2) (p_branch (x_F X) e (s_st u15 e 2)) 0)), .int e, .ref (a 1)]) (ci := 1) (q0 := 1) (c_S_branch l dC dI a k X (s_st (s_st u15 e 2) (p_branch (x_F X) e (s_st u15 e 2)) 0) e he) k_296 k_298 s_S_branch k_2 k_299 ⟨rfl, pc_S_branch.1, pc_S_branch.2, pd_S_branch⟩ rfl rfl rfl rfl rfl (rm_le (by omega) (by decide)) (Nat.le_of_ble_eq_true rfl) rfl hx hb hml hown ht hl.1 hP hK hD hS hA hN d_S_askIf_64 (fun r46 u47 H locs q48 hP hD hS => ?_)
        obtain ⟨rfl, q48⟩ := q48
        rw [q48] at hP hD
        have hP : va_P (dC, dI) vwCl (wS a k X (s_st (s_st u15 e 2) (p_branch (x_F X) e (s_st u15 e 2)) 0)) H := hP
        have hD : va_D A (wS a k X (s_st (s_st u15 e 2) (p_branch (x_F X) e (s_st u15 e 2)) 0)) := hD
        refine call_i (As := [.int (p_branch (x_F X) e (s_st (s_st u15 e 2) (p_branch (x_F X) e (s_st u15 e 2)) 0))]) (rest := [.int (p_branch (x_F X) e (s_st (s_st u15 e 2) (p_branch (x_F X) e (s_st u15 e 2)) 0)), .int e, .ref (a 1)]) (ci := 1) (q0 := 1) (hAsk (p_branch (x_F X) e (s_st (s_st u15 e 2) (p_branch (x_F X) e (s_st u15 e 2)) 0)) (s_st (s_st u15 e 2) (p_branch (x_F X) e (s_st u15 e 2)) 0) (br_tr ty tz) hW42) k_197 k_199 s_S_ask k_2 k_200 ⟨rfl, pc_S_ask.1, pc_S_ask.2, pd_S_ask⟩ rfl rfl rfl rfl rfl (rm_le (by omega) (by decide)) (Nat.le_of_ble_eq_true rfl) rfl hx hb hml hown ht hl.1 hP hK hD hS hA hN d_S_askIf_67 (fun r49 u50 H locs q51 hP hD hS => ?_)
        obtain ⟨q51, hW51⟩ := q51
        have hP : va_P (dC, dI) vwCl (wS a k X u50) H := hP
        have hD : va_D A (wS a k X u50) := hD
        refine call_i (As := [.int e, .int (p_branch (x_F X) e (s_st (s_st u15 e 2) (p_branch (x_F X) e (s_st u15 e 2)) 0)), .int r49]) (rest := []) (ci := 1) (q0 := 1) (c_S_handUp l dC dI a k X u50 e (p_branch (x_F X) e (s_st (s_st u15 e 2) (p_branch (x_F X) e (s_st u15 e 2)) 0)) r49 he (Tr_in (br_tr ty tz)) hW51) k_221 k_223 s_S_handUp k_2 k_224 ⟨rfl, pc_S_handUp.1, pc_S_handUp.2, pd_S_handUp⟩ rfl rfl rfl rfl rfl (rm_le (by omega) (by decide)) (Nat.le_of_ble_eq_true rfl) rfl hx hb hml hown ht hl.1 hP hK hD hS hA hN d_S_askIf_70 (fun r52 u53 H locs q54 hP hD hS => ?_)
        obtain ⟨q54, hW54⟩ := q54
        have hP : va_P (dC, dI) vwCl (wS a k X u53) H := hP
        have hD : va_D A (wS a k X u53) := hD
        exact ret_i (v := r52) hx hb hr hlocks hP hK hD hS d_S_askIf_73 ⟨by subst c18; simp [p_if, c1, c17, q16, q51, q54], hW54⟩
    · have c17 : r14 < 0 := Int32.not_le.mp c17
      refine lv_iload_n hx hb d_S_askIf_27 rfl (lv_at hl 0 rfl) ?_
      exact ret_i (v := r14) hx hb hr hlocks hP hK hD hS d_S_askIf_28 ⟨by simp [p_if, c1, c17, q16], hW16⟩
set_option maxRecDepth 100000 in
set_option maxHeartbeats 4000000 in
theorem c_S_askComparison (l : Launch) (dC : Nat → ClassId) (dI : Nat → Nat → Nat) (a : Nat → Nat) (k : Nat → ClassId) (X : zX) (T : zT) (M d : Nat) (hAsk : AskOK l dC dI a k X T M d) (hM : M = 1000000) (s : zC) (e : Int32) (he : vp_in e 60) (tx : Tr (x_F X) T d (f_x (x_F X) (ix e))) (ty : Tr (x_F X) T d (f_y (x_F X) (ix e))) (hW : Wk s) : MetI l y_S_askComparison w_S_askComparison (rmN (5 * d + 6)) dC dI (yX k) (wS a k X) [.ref (a 1), .int e] s (fun r u => p_compL (x_F X) (p_all (x_F X) M d) M e M s = (r, u) ∧ Wk u) := by
  refine metI_of (cc := b_S_askComparison) (maxL := 5) (ret := (some .int)) (by decide) rfl (Nat.le_of_ble_eq_true rfl) ?_
  intro p e9 s9 m args below meth c A ls hx hb hr hts hown hlocks hml hA hP hK hD hS hN hl
  have ht : ∀ w ∈ lw_g, w.before args s9 = true := fun w h => hts w (List.mem_cons_of_mem _ h)
  have hl : lv_has ls 5 [(0, .ref (a 1)), (1, .int e)] := hl
  refine lv_aload_n hx hb d_S_askComparison_0 rfl (lv_at hl 0 rfl) ?_
  refine va_get (D := (dC, dI)) (ci := 1) (v := .ref (a 2)) (C := R_S) (T := T_S) (N := 12) hx hb ht in_S hown hK hP 1 rfl rfl 0 (by decide) (ht _ k_61) (fun _ h => h) rfl d_S_askComparison_1 ?_
  refine va_get (D := (dC, dI)) (ci := 0) (v := .ref (a 6)) (C := R_F) (T := T_F) (N := 8) hx hb ht in_F hown hK hP 2 rfl rfl 3 (by decide) (ht _ k_33) (fun _ h => h) rfl d_S_askComparison_4 ?_
  refine lv_iload_n hx hb d_S_askComparison_7 rfl (lv_at hl 1 rfl) ?_
  refine va_iald hx hb hK hP 6 3 rfl rfl he d_S_askComparison_8 ?_
  refine lv_istore_n hx hb d_S_askComparison_9 rfl hl (by decide) (lv' := [(2, .int (f_y (x_F X) (ix e))), (0, .ref (a 1)), (1, .int e)]) rfl (fun ls hl => ?_)
  refine lv_iconst (v := 0) hx hb d_S_askComparison_10 (by decide) ?_
  refine lv_istore_n hx hb d_S_askComparison_11 rfl hl (by decide) (lv' := [(3, .int 0), (2, .int (f_y (x_F X) (ix e))), (0, .ref (a 1)), (1, .int e)]) rfl (fun ls hl => ?_)
  have loop : ∀ (τ : Nat) (s1 : zC) (H : Heap) (locs : List Loc) (ls : Array Slot) (n : Nat), n + τ = 1000000 → Wk s1 → va_P (dC, dI) vwCl (wS a k X s1) H → va_D A (wS a k X s1) → va_S A s9.heap H locs → lv_has ls 5 [(3, .int (nI n)), (2, .int (f_y (x_F X) (ix e))), (0, .ref (a 1)), (1, .int e)] → p_compL (x_F X) (p_all (x_F X) M d) M e τ s1 = p_compL (x_F X) (p_all (x_F X) M d) M e M s → W p l e9 (rmN (5 * d + 6)) s9 m args below meth c H locs 0 0 (MQ below (va_Qi (fun r u => p_compL (x_F X) (p_all (x_F X) M d) M e M s = (r, u) ∧ Wk u) (zAft dC dI (yX k) (wS a k X) A) A) args s9 0 0 A) (F0 m 12 ls []) := by
    clear hl hP hD hS
    intro τ
    induction τ with
    | zero =>
      intro s1 H locs ls n hn hW hP hD hS hl heq
      refine lv_iload_n hx hb d_S_askComparison_12 rfl (lv_at hl 0 rfl) ?_
      refine lv_ldc (v := 1000000) hx hb hown (ht _ k_249) d_S_askComparison_13 ?_
      refine lv_icmp_ge (tgt := 87) hx hb d_S_askComparison_15 (by decide) (fun c1 => ?_) (fun c1 => ?_)
      · have c1 : ¬ (nI n) < 1000000 := Int32.not_lt.mpr c1
        refine lv_iconst (v := 0) hx hb d_S_askComparison_87 (by decide) ?_
        exact ret_i (v := 0) hx hb hr hlocks hP hK hD hS d_S_askComparison_88 ⟨by rw [← heq]; simp [p_compL, c1], hW⟩
      · have c1 : (nI n) < 1000000 := Int32.not_le.mp c1
        exact (tn_ge c1 (by omega)).elim
    | succ τ ih =>
      intro s1 H locs ls n hn hW hP hD hS hl heq
      refine lv_iload_n hx hb d_S_askComparison_12 rfl (lv_at hl 0 rfl) ?_
      refine lv_ldc (v := 1000000) hx hb hown (ht _ k_249) d_S_askComparison_13 ?_
      refine lv_icmp_ge (tgt := 87) hx hb d_S_askComparison_15 (by decide) (fun c2 => ?_) (fun c2 => ?_)
      · have c2 : ¬ (nI n) < 1000000 := Int32.not_lt.mpr c2
        exact absurd (tn_lt (by omega)) c2
      · have c2 : (nI n) < 1000000 := Int32.not_le.mp c2
        refine lv_aload_n hx hb d_S_askComparison_18 rfl (lv_at hl 2 rfl) ?_
        refine lv_iload_n hx hb d_S_askComparison_19 rfl (lv_at hl 3 rfl) ?_
        refine call_i (As := [.int e]) (rest := []) (ci := 1) (q0 := 1) (c_S_askPair l dC dI a k X T M d hAsk hM s1 e he tx ty hW) k_245 k_247 s_S_askPair k_2 k_248 ⟨rfl, pc_S_askPair.1, pc_S_askPair.2, pd_S_askPair⟩ rfl rfl rfl rfl rfl (rm_le (by omega) (by decide)) (Nat.le_of_ble_eq_true rfl) rfl hx hb hml hown ht hl.1 hP hK hD hS hA hN d_S_askComparison_20 (fun r3 u4 H locs q5 hP hD hS => ?_)
        obtain ⟨q5, hW5⟩ := q5
        have hP : va_P (dC, dI) vwCl (wS a k X u4) H := hP
        have hD : va_D A (wS a k X u4) := hD
        refine lv_istore hx hb d_S_askComparison_23 hl (by decide) (lv' := [(4, .int r3), (3, .int (nI n)), (2, .int (f_y (x_F X) (ix e))), (0, .ref (a 1)), (1, .int e)]) rfl (fun ls hl => ?_)
        refine lv_iload hx hb d_S_askComparison_25 (lv_at hl 0 rfl) ?_
        refine lv_iconst (v := 1) hx hb d_S_askComparison_27 (by decide) ?_
        refine lv_icmp_eq (tgt := 34) hx hb d_S_askComparison_28 (by decide) (fun c6 => ?_) (fun c6 => ?_)
        · have c6 : r3 = 1 := c6
          refine lv_aload_n hx hb d_S_askComparison_34 rfl (lv_at hl 3 rfl) ?_
          refine va_get (D := (dC, dI)) (ci := 1) (v := .ref (a 2)) (C := R_S) (T := T_S) (N := 12) hx hb ht in_S hown hK hP 1 rfl rfl 0 (by decide) (ht _ k_61) (fun _ h => h) rfl d_S_askComparison_35 ?_
          refine va_get (D := (dC, dI)) (ci := 0) (v := .ref (a 3)) (C := R_F) (T := T_F) (N := 8) hx hb ht in_F hown hK hP 2 rfl rfl 0 (by decide) (ht _ k_27) (fun _ h => h) rfl d_S_askComparison_38 ?_
          refine lv_iload_n hx hb d_S_askComparison_41 rfl (lv_at hl 4 rfl) ?_
          refine va_iald hx hb hK hP 3 0 rfl rfl he d_S_askComparison_42 ?_
          refine lv_aload_n hx hb d_S_askComparison_43 rfl (lv_at hl 3 rfl) ?_
          refine va_get (D := (dC, dI)) (ci := 1) (v := .ref (a 11)) (C := R_S) (T := T_S) (N := 12) hx hb ht in_S hown hK hP 1 rfl rfl 2 (by decide) (ht _ k_64) (fun _ h => h) rfl d_S_askComparison_44 ?_
          refine lv_aload_n hx hb d_S_askComparison_47 rfl (lv_at hl 3 rfl) ?_
          refine va_get (D := (dC, dI)) (ci := 1) (v := .ref (a 2)) (C := R_S) (T := T_S) (N := 12) hx hb ht in_S hown hK hP 1 rfl rfl 0 (by decide) (ht _ k_61) (fun _ h => h) rfl d_S_askComparison_48 ?_
          refine va_get (D := (dC, dI)) (ci := 0) (v := .ref (a 5)) (C := R_F) (T := T_F) (N := 8) hx hb ht in_F hown hK hP 2 rfl rfl 2 (by decide) (ht _ k_31) (fun _ h => h) rfl d_S_askComparison_51 ?_
          refine lv_iload_n hx hb d_S_askComparison_54 rfl (lv_at hl 4 rfl) ?_
          refine va_iald hx hb hK hP 5 2 rfl rfl he d_S_askComparison_55 ?_
          refine va_iald hx hb hK hP 11 8 rfl rfl (Tr_in tx) d_S_askComparison_56 ?_
          refine lv_aload_n hx hb d_S_askComparison_57 rfl (lv_at hl 3 rfl) ?_
          refine va_get (D := (dC, dI)) (ci := 1) (v := .ref (a 11)) (C := R_S) (T := T_S) (N := 12) hx hb ht in_S hown hK hP 1 rfl rfl 2 (by decide) (ht _ k_64) (fun _ h => h) rfl d_S_askComparison_58 ?_
          refine lv_iload_n hx hb d_S_askComparison_61 rfl (lv_at hl 2 rfl) ?_
          refine va_iald hx hb hK hP 11 8 rfl rfl (Tr_in ty) d_S_askComparison_62 ?_
          refine call_s (As := [.int (f_k (x_F X) (ix e)), .int (c_rs u4 (ix (f_x (x_F X) (ix e)))), .int (c_rs u4 (ix (f_y (x_F X) (ix e))))]) (rest := []) (c_S_holds l dC dI a k X u4 (f_k (x_F X) (ix e)) (c_rs u4 (ix (f_x (x_F X) (ix e)))) (c_rs u4 (ix (f_y (x_F X) (ix e))))) k_261 k_262 k_2 k_263 ⟨rfl, pc_S_holds.1, pc_S_holds.2, pd_S_holds⟩ rfl rfl (rm_le (by omega) (by decide)) (Nat.le_of_ble_eq_true rfl) rfl hx hb hml hown ht hl.1 hP hK hD hS hA hN d_S_askComparison_63 (fun r7 u8 H locs q9 hP hD hS => ?_)
          obtain ⟨⟨b10, rfl⟩ | ⟨b10, rfl⟩, q9⟩ := q9
          · rw [q9] at hP hD
            have hP : va_P (dC, dI) vwCl (wS a k X u4) H := hP
            have hD : va_D A (wS a k X u4) := hD
            refine lv_if_eq (tgt := 81) hx hb d_S_askComparison_66 (by decide) (fun c11 => ?_) (fun c11 => ?_)
            · have c11 : (1 : Int32) = 0 := c11
              exact absurd c11 (by decide)
            · have c11 : ¬ (1 : Int32) = 0 := c11
              refine lv_aload_n hx hb d_S_askComparison_69 rfl (lv_at hl 3 rfl) ?_
              refine lv_iload_n hx hb d_S_askComparison_70 rfl (lv_at hl 4 rfl) ?_
              refine lv_aload_n hx hb d_S_askComparison_71 rfl (lv_at hl 3 rfl) ?_
              refine va_get (D := (dC, dI)) (ci := 1) (v := .ref (a 11)) (C := R_S) (T := T_S) (N := 12) hx hb ht in_S hown hK hP 1 rfl rfl 2 (by decide) (ht _ k_64) (fun _ h => h) rfl d_S_askComparison_72 ?_
              refine lv_iload_n hx hb d_S_askComparison_75 rfl (lv_at hl 2 rfl) ?_
              refine va_iald hx hb hK hP 11 8 rfl rfl (Tr_in ty) d_S_askComparison_76 ?_
              refine call_i (As := [.int e, .int (c_rs u4 (ix (f_y (x_F X) (ix e))))]) (rest := []) (ci := 1) (q0 := 1) (c_S_give l dC dI a k X u4 e (c_rs u4 (ix (f_y (x_F X) (ix e)))) he hW5) k_209 k_211 s_S_give k_2 k_212 ⟨rfl, pc_S_give.1, pc_S_give.2, pd_S_give⟩ rfl rfl rfl rfl rfl (rm_le (by omega) (by decide)) (Nat.le_of_ble_eq_true rfl) rfl hx hb hml hown ht hl.1 hP hK hD hS hA hN d_S_askComparison_77 (fun r12 u13 H locs q14 hP hD hS => ?_)
              obtain ⟨q14, hW14⟩ := q14
              have hP : va_P (dC, dI) vwCl (wS a k X u13) H := hP
              have hD : va_D A (wS a k X u13) := hD
              exact ret_i (v := r12) hx hb hr hlocks hP hK hD hS d_S_askComparison_80 ⟨by rw [← heq]; subst c6; simp [p_compL, c2, b10, q5, q14], hW14⟩
          · rw [q9] at hP hD
            have hP : va_P (dC, dI) vwCl (wS a k X u4) H := hP
            have hD : va_D A (wS a k X u4) := hD
            refine lv_if_eq (tgt := 81) hx hb d_S_askComparison_66 (by decide) (fun c15 => ?_) (fun c15 => ?_)
            · have c15 : (0 : Int32) = 0 := c15
              refine lv_iinc (k := 1) (v := ((nI n) + 1)) hx hb d_S_askComparison_81 hl rfl rfl (by decide) (lv' := [(3, .int ((nI n) + 1)), (4, .int r3), (2, .int (f_y (x_F X) (ix e))), (0, .ref (a 1)), (1, .int e)]) rfl (fun ls hl => ?_)
              refine lv_goto (tgt := 12) hx hb d_S_askComparison_84 (by decide) ?_
              rw [← nI_succ] at hl
              have hl : lv_has ls 5 [(3, .int (nI (n + 1))), (2, .int (f_y (x_F X) (ix e))), (0, .ref (a 1)), (1, .int e)] := lv_sub hl [0, 2, 3, 4] rfl
              exact ih _ _ _ _ (n + 1) (by omega) hW5 hP hD hS hl (by rw [← heq]; subst c6; simp [p_compL, c2, b10, q5])
            · have c15 : ¬ (0 : Int32) = 0 := c15
              exact absurd c15 (by decide)
        · have c6 : ¬ r3 = 1 := c6
          refine lv_iload hx hb d_S_askComparison_31 (lv_at hl 0 rfl) ?_
          exact ret_i (v := r3) hx hb hr hlocks hP hK hD hS d_S_askComparison_33 ⟨by rw [← heq]; simp [p_compL, c2, c6, q5], hW5⟩
  exact loop M s _ _ _ 0 (by omega) hW hP hD hS hl rfl
set_option maxRecDepth 100000 in
set_option maxHeartbeats 4000000 in
theorem c_S_askLimit (l : Launch) (dC : Nat → ClassId) (dI : Nat → Nat → Nat) (a : Nat → Nat) (k : Nat → ClassId) (X : zX) (T : zT) (M d : Nat) (hAsk : AskOK l dC dI a k X T M d) (hM : M = 1000000) (s : zC) (e : Int32) (he : vp_in e 60) (tx : Tr (x_F X) T d (f_x (x_F X) (ix e))) (ty : Tr (x_F X) T d (f_y (x_F X) (ix e))) (hW : Wk s) : MetI l y_S_askLimit w_S_askLimit (rmN (5 * d + 5)) dC dI (yX k) (wS a k X) [.ref (a 1), .int e] s (fun r u => p_limitL (x_F X) (p_all (x_F X) M d) e M s = (r, u) ∧ Wk u) := by
  refine metI_of (cc := b_S_askLimit) (maxL := 5) (ret := (some .int)) (by decide) rfl (Nat.le_of_ble_eq_true rfl) ?_
  intro p e9 s9 m args below meth c A ls hx hb hr hts hown hlocks hml hA hP hK hD hS hN hl
  have ht : ∀ w ∈ lw_g, w.before args s9 = true := fun w h => hts w (List.mem_cons_of_mem _ h)
  have hl : lv_has ls 5 [(0, .ref (a 1)), (1, .int e)] := hl
  refine lv_aload_n hx hb d_S_askLimit_0 rfl (lv_at hl 0 rfl) ?_
  refine va_get (D := (dC, dI)) (ci := 1) (v := .ref (a 2)) (C := R_S) (T := T_S) (N := 12) hx hb ht in_S hown hK hP 1 rfl rfl 0 (by decide) (ht _ k_61) (fun _ h => h) rfl d_S_askLimit_1 ?_
  refine va_get (D := (dC, dI)) (ci := 0) (v := .ref (a 5)) (C := R_F) (T := T_F) (N := 8) hx hb ht in_F hown hK hP 2 rfl rfl 2 (by decide) (ht _ k_31) (fun _ h => h) rfl d_S_askLimit_4 ?_
  refine lv_iload_n hx hb d_S_askLimit_7 rfl (lv_at hl 1 rfl) ?_
  refine va_iald hx hb hK hP 5 2 rfl rfl he d_S_askLimit_8 ?_
  refine lv_istore_n hx hb d_S_askLimit_9 rfl hl (by decide) (lv' := [(2, .int (f_x (x_F X) (ix e))), (0, .ref (a 1)), (1, .int e)]) rfl (fun ls hl => ?_)
  refine lv_iconst (v := 0) hx hb d_S_askLimit_10 (by decide) ?_
  refine lv_istore_n hx hb d_S_askLimit_11 rfl hl (by decide) (lv' := [(3, .int 0), (2, .int (f_x (x_F X) (ix e))), (0, .ref (a 1)), (1, .int e)]) rfl (fun ls hl => ?_)
  have loop : ∀ (τ : Nat) (s1 : zC) (H : Heap) (locs : List Loc) (ls : Array Slot) (n : Nat), n + τ = 1000000 → Wk s1 → va_P (dC, dI) vwCl (wS a k X s1) H → va_D A (wS a k X s1) → va_S A s9.heap H locs → lv_has ls 5 [(3, .int (nI n)), (2, .int (f_x (x_F X) (ix e))), (0, .ref (a 1)), (1, .int e)] → p_limitL (x_F X) (p_all (x_F X) M d) e τ s1 = p_limitL (x_F X) (p_all (x_F X) M d) e M s → W p l e9 (rmN (5 * d + 5)) s9 m args below meth c H locs 0 0 (MQ below (va_Qi (fun r u => p_limitL (x_F X) (p_all (x_F X) M d) e M s = (r, u) ∧ Wk u) (zAft dC dI (yX k) (wS a k X) A) A) args s9 0 0 A) (F0 m 12 ls []) := by
    clear hl hP hD hS
    intro τ
    induction τ with
    | zero =>
      intro s1 H locs ls n hn hW hP hD hS hl heq
      refine lv_iload_n hx hb d_S_askLimit_12 rfl (lv_at hl 0 rfl) ?_
      refine lv_ldc (v := 1000000) hx hb hown (ht _ k_249) d_S_askLimit_13 ?_
      refine lv_icmp_ge (tgt := 111) hx hb d_S_askLimit_15 (by decide) (fun c1 => ?_) (fun c1 => ?_)
      · have c1 : ¬ (nI n) < 1000000 := Int32.not_lt.mpr c1
        refine lv_iconst (v := 0) hx hb d_S_askLimit_111 (by decide) ?_
        exact ret_i (v := 0) hx hb hr hlocks hP hK hD hS d_S_askLimit_112 ⟨by rw [← heq]; simp [p_limitL, c1], hW⟩
      · have c1 : (nI n) < 1000000 := Int32.not_le.mp c1
        exact (tn_ge c1 (by omega)).elim
    | succ τ ih =>
      intro s1 H locs ls n hn hW hP hD hS hl heq
      refine lv_iload_n hx hb d_S_askLimit_12 rfl (lv_at hl 0 rfl) ?_
      refine lv_ldc (v := 1000000) hx hb hown (ht _ k_249) d_S_askLimit_13 ?_
      refine lv_icmp_ge (tgt := 111) hx hb d_S_askLimit_15 (by decide) (fun c2 => ?_) (fun c2 => ?_)
      · have c2 : ¬ (nI n) < 1000000 := Int32.not_lt.mpr c2
        exact absurd (tn_lt (by omega)) c2
      · have c2 : (nI n) < 1000000 := Int32.not_le.mp c2
        refine lv_aload_n hx hb d_S_askLimit_18 rfl (lv_at hl 2 rfl) ?_
        refine va_get (D := (dC, dI)) (ci := 1) (v := .ref (a 10)) (C := R_S) (T := T_S) (N := 12) hx hb ht in_S hown hK hP 1 rfl rfl 1 (by decide) (ht _ k_63) (fun _ h => h) rfl d_S_askLimit_19 ?_
        refine lv_iload_n hx hb d_S_askLimit_22 rfl (lv_at hl 3 rfl) ?_
        refine va_iald hx hb hK hP 10 7 rfl rfl he d_S_askLimit_23 ?_
        refine lv_iconst (v := 1) hx hb d_S_askLimit_24 (by decide) ?_
        refine lv_icmp_eq (tgt := 56) hx hb d_S_askLimit_25 (by decide) (fun c3 => ?_) (fun c3 => ?_)
        · have c3 : c_st s1 (ix e) = 1 := c3
          refine lv_aload_n hx hb d_S_askLimit_56 rfl (lv_at hl 2 rfl) ?_
          refine va_get (D := (dC, dI)) (ci := 1) (v := .ref (a 12)) (C := R_S) (T := T_S) (N := 12) hx hb ht in_S hown hK hP 1 rfl rfl 3 (by decide) (ht _ k_65) (fun _ h => h) rfl d_S_askLimit_57 ?_
          refine lv_iload_n hx hb d_S_askLimit_60 rfl (lv_at hl 3 rfl) ?_
          refine va_lald hx hb hK hP 12 9 rfl rfl he d_S_askLimit_61 ?_
          refine lv_lconst (v := 0) hx hb d_S_askLimit_62 (by decide) ?_
          refine W.lcmp hx hb d_S_askLimit_63 ?_
          refine lv_if_le (tgt := 98) hx hb d_S_askLimit_64 (by decide) (fun c4 => ?_) (fun c4 => ?_)
          · have c4 : ¬ 0 < c_ct s1 (ix e) := i64_nlt ((lg_cmp_le _ _).mp c4)
            refine lv_aload_n hx hb d_S_askLimit_98 rfl (lv_at hl 2 rfl) ?_
            refine va_get (D := (dC, dI)) (ci := 1) (v := .ref (a 10)) (C := R_S) (T := T_S) (N := 12) hx hb ht in_S hown hK hP 1 rfl rfl 1 (by decide) (ht _ k_63) (fun _ h => h) rfl d_S_askLimit_99 ?_
            refine lv_iload_n hx hb d_S_askLimit_102 rfl (lv_at hl 3 rfl) ?_
            refine lv_iconst (v := 2) hx hb d_S_askLimit_103 (by decide) ?_
            refine va_iast hx hb hK hP hD hS 10 7 rfl rfl he d_S_askLimit_104 (fun H locs hP hD hS => ?_)
            have hP : va_P (dC, dI) vwCl (wS a k X (s_st s1 e 2)) H := cP_S_st hP
            have hD : va_D A (wS a k X (s_st s1 e 2)) := cD_S_st hD
            refine lv_iinc (k := 0) (v := ((nI n) + 1)) hx hb d_S_askLimit_105 hl rfl rfl (by decide) (lv' := [(3, .int ((nI n) + 1)), (2, .int (f_x (x_F X) (ix e))), (0, .ref (a 1)), (1, .int e)]) rfl (fun ls hl => ?_)
            refine lv_goto (tgt := 12) hx hb d_S_askLimit_108 (by decide) ?_
            rw [← nI_succ] at hl
            have hl : lv_has ls 5 [(3, .int (nI (n + 1))), (2, .int (f_x (x_F X) (ix e))), (0, .ref (a 1)), (1, .int e)] := lv_sub hl [0, 1, 2, 3] rfl
            exact ih _ _ _ _ (n + 1) (by omega) (wk_st hW) hP hD hS hl (by rw [← heq]; simp [p_limitL, c2, c3, c4])
          · have c4 : 0 < c_ct s1 (ix e) := i64_nle (fun q => c4 ((lg_cmp_le _ _).mpr q))
            refine lv_aload_n hx hb d_S_askLimit_67 rfl (lv_at hl 2 rfl) ?_
            refine va_get (D := (dC, dI)) (ci := 1) (v := .ref (a 12)) (C := R_S) (T := T_S) (N := 12) hx hb ht in_S hown hK hP 1 rfl rfl 3 (by decide) (ht _ k_65) (fun _ h => h) rfl d_S_askLimit_68 ?_
            refine lv_iload_n hx hb d_S_askLimit_71 rfl (lv_at hl 3 rfl) ?_
            refine lv_dup2_11 hx hb d_S_askLimit_72 rfl rfl ?_
            refine va_lald hx hb hK hP 12 9 rfl rfl he d_S_askLimit_73 ?_
            refine lv_lconst (v := 1) hx hb d_S_askLimit_74 (by decide) ?_
            refine lv_lsub hx hb d_S_askLimit_75 ?_
            refine va_last hx hb hK hP hD hS 12 9 rfl rfl he d_S_askLimit_76 (fun H locs hP hD hS => ?_)
            have hP : va_P (dC, dI) vwCl (wS a k X (s_ct s1 e (c_ct s1 (ix e) - 1))) H := cP_S_ct hP
            have hD : va_D A (wS a k X (s_ct s1 e (c_ct s1 (ix e) - 1))) := cD_S_ct hD
            refine lv_aload_n hx hb d_S_askLimit_77 rfl (lv_at hl 2 rfl) ?_
            refine lv_iload_n hx hb d_S_askLimit_78 rfl (lv_at hl 1 rfl) ?_
            refine call_i (As := [.int (f_x (x_F X) (ix e))]) (rest := []) (ci := 1) (q0 := 1) (hAsk (f_x (x_F X) (ix e)) (s_ct s1 e (c_ct s1 (ix e) - 1)) tx (wk_ct hW)) k_197 k_199 s_S_ask k_2 k_200 ⟨rfl, pc_S_ask.1, pc_S_ask.2, pd_S_ask⟩ rfl rfl rfl rfl rfl (rm_le (by omega) (by decide)) (Nat.le_of_ble_eq_true rfl) rfl hx hb hml hown ht hl.1 hP hK hD hS hA hN d_S_askLimit_79 (fun r5 u6 H locs q7 hP hD hS => ?_)
            obtain ⟨q7, hW7⟩ := q7
            have hP : va_P (dC, dI) vwCl (wS a k X u6) H := hP
            have hD : va_D A (wS a k X u6) := hD
            refine lv_istore hx hb d_S_askLimit_82 hl (by decide) (lv' := [(4, .int r5), (3, .int (nI n)), (2, .int (f_x (x_F X) (ix e))), (0, .ref (a 1)), (1, .int e)]) rfl (fun ls hl => ?_)
            refine lv_iload hx hb d_S_askLimit_84 (lv_at hl 0 rfl) ?_
            refine lv_if_eq (tgt := 98) hx hb d_S_askLimit_86 (by decide) (fun c8 => ?_) (fun c8 => ?_)
            · have c8 : r5 = 0 := c8
              refine lv_aload_n hx hb d_S_askLimit_98 rfl (lv_at hl 3 rfl) ?_
              refine va_get (D := (dC, dI)) (ci := 1) (v := .ref (a 10)) (C := R_S) (T := T_S) (N := 12) hx hb ht in_S hown hK hP 1 rfl rfl 1 (by decide) (ht _ k_63) (fun _ h => h) rfl d_S_askLimit_99 ?_
              refine lv_iload_n hx hb d_S_askLimit_102 rfl (lv_at hl 4 rfl) ?_
              refine lv_iconst (v := 2) hx hb d_S_askLimit_103 (by decide) ?_
              refine va_iast hx hb hK hP hD hS 10 7 rfl rfl he d_S_askLimit_104 (fun H locs hP hD hS => ?_)
              have hP : va_P (dC, dI) vwCl (wS a k X (s_st u6 e 2)) H := cP_S_st hP
              have hD : va_D A (wS a k X (s_st u6 e 2)) := cD_S_st hD
              refine lv_iinc (k := 1) (v := ((nI n) + 1)) hx hb d_S_askLimit_105 hl rfl rfl (by decide) (lv' := [(3, .int ((nI n) + 1)), (4, .int r5), (2, .int (f_x (x_F X) (ix e))), (0, .ref (a 1)), (1, .int e)]) rfl (fun ls hl => ?_)
              refine lv_goto (tgt := 12) hx hb d_S_askLimit_108 (by decide) ?_
              rw [← nI_succ] at hl
              have hl : lv_has ls 5 [(3, .int (nI (n + 1))), (2, .int (f_x (x_F X) (ix e))), (0, .ref (a 1)), (1, .int e)] := lv_sub hl [0, 2, 3, 4] rfl
              exact ih _ _ _ _ (n + 1) (by omega) (wk_st hW7) hP hD hS hl (by rw [← heq]; subst c8; simp [p_limitL, c2, c3, c4, q7])
            · have c8 : ¬ r5 = 0 := c8
              refine lv_aload_n hx hb d_S_askLimit_89 rfl (lv_at hl 3 rfl) ?_
              refine lv_iload_n hx hb d_S_askLimit_90 rfl (lv_at hl 4 rfl) ?_
              refine lv_iload_n hx hb d_S_askLimit_91 rfl (lv_at hl 2 rfl) ?_
              refine lv_iload hx hb d_S_askLimit_92 (lv_at hl 0 rfl) ?_
              refine call_i (As := [.int e, .int (f_x (x_F X) (ix e)), .int r5]) (rest := []) (ci := 1) (q0 := 1) (c_S_handUp l dC dI a k X u6 e (f_x (x_F X) (ix e)) r5 he (Tr_in tx) hW7) k_221 k_223 s_S_handUp k_2 k_224 ⟨rfl, pc_S_handUp.1, pc_S_handUp.2, pd_S_handUp⟩ rfl rfl rfl rfl rfl (rm_le (by omega) (by decide)) (Nat.le_of_ble_eq_true rfl) rfl hx hb hml hown ht hl.1 hP hK hD hS hA hN d_S_askLimit_94 (fun r9 u10 H locs q11 hP hD hS => ?_)
              obtain ⟨q11, hW11⟩ := q11
              have hP : va_P (dC, dI) vwCl (wS a k X u10) H := hP
              have hD : va_D A (wS a k X u10) := hD
              exact ret_i (v := r9) hx hb hr hlocks hP hK hD hS d_S_askLimit_97 ⟨by rw [← heq]; simp [p_limitL, c2, c3, c4, c8, q7, q11], hW11⟩
        · have c3 : ¬ c_st s1 (ix e) = 1 := c3
          refine lv_aload_n hx hb d_S_askLimit_28 rfl (lv_at hl 2 rfl) ?_
          refine lv_iload_n hx hb d_S_askLimit_29 rfl (lv_at hl 3 rfl) ?_
          refine call_i (As := [.int e]) (rest := []) (ci := 1) (q0 := 1) (c_S_askBound l dC dI a k X T M d hAsk s1 e he ty hW) k_268 k_270 s_S_askBound k_2 k_271 ⟨rfl, pc_S_askBound.1, pc_S_askBound.2, pd_S_askBound⟩ rfl rfl rfl rfl rfl (rm_le (by omega) (by decide)) (Nat.le_of_ble_eq_true rfl) rfl hx hb hml hown ht hl.1 hP hK hD hS hA hN d_S_askLimit_30 (fun r12 u13 H locs q14 hP hD hS => ?_)
          obtain ⟨q14, hW14⟩ := q14
          have hP : va_P (dC, dI) vwCl (wS a k X u13) H := hP
          have hD : va_D A (wS a k X u13) := hD
          refine lv_istore hx hb d_S_askLimit_33 hl (by decide) (lv' := [(4, .int r12), (3, .int (nI n)), (2, .int (f_x (x_F X) (ix e))), (0, .ref (a 1)), (1, .int e)]) rfl (fun ls hl => ?_)
          refine lv_iload hx hb d_S_askLimit_35 (lv_at hl 0 rfl) ?_
          refine lv_iconst (v := 1) hx hb d_S_askLimit_37 (by decide) ?_
          refine lv_icmp_eq (tgt := 44) hx hb d_S_askLimit_38 (by decide) (fun c15 => ?_) (fun c15 => ?_)
          · have c15 : r12 = 1 := c15
            refine lv_aload_n hx hb d_S_askLimit_44 rfl (lv_at hl 3 rfl) ?_
            refine va_get (D := (dC, dI)) (ci := 1) (v := .ref (a 10)) (C := R_S) (T := T_S) (N := 12) hx hb ht in_S hown hK hP 1 rfl rfl 1 (by decide) (ht _ k_63) (fun _ h => h) rfl d_S_askLimit_45 ?_
            refine lv_iload_n hx hb d_S_askLimit_48 rfl (lv_at hl 4 rfl) ?_
            refine lv_iconst (v := 1) hx hb d_S_askLimit_49 (by decide) ?_
            refine va_iast hx hb hK hP hD hS 10 7 rfl rfl he d_S_askLimit_50 (fun H locs hP hD hS => ?_)
            have hP : va_P (dC, dI) vwCl (wS a k X (s_st u13 e 1)) H := cP_S_st hP
            have hD : va_D A (wS a k X (s_st u13 e 1)) := cD_S_st hD
            refine lv_aload_n hx hb d_S_askLimit_51 rfl (lv_at hl 3 rfl) ?_
            refine lv_iload_n hx hb d_S_askLimit_52 rfl (lv_at hl 2 rfl) ?_
            refine call_v (As := [.int (f_x (x_F X) (ix e))]) (rest := []) (ci := 1) (q0 := 1) (c_S_start l dC dI a k X (s_st u13 e 1) (f_x (x_F X) (ix e)) (Tr_in tx) (wk_st hW14)) k_185 k_187 s_S_start k_2 k_188 ⟨rfl, pc_S_start.1, pc_S_start.2, pd_S_start⟩ rfl rfl rfl rfl rfl (rm_le (by omega) (by decide)) (Nat.le_of_ble_eq_true rfl) rfl hx hb hml hown ht hl.1 hP hK hD hS hA hN d_S_askLimit_53 (fun u17 H locs q18 hP hD hS => ?_)
            obtain ⟨rfl, hW18⟩ := q18
            have hP : va_P (dC, dI) vwCl (wS a k X (s_st (s_st u13 e 1) (f_x (x_F X) (ix e)) 0)) H := hP
            have hD : va_D A (wS a k X (s_st (s_st u13 e 1) (f_x (x_F X) (ix e)) 0)) := hD
            refine lv_aload_n hx hb d_S_askLimit_56 rfl (lv_at hl 3 rfl) ?_
            refine va_get (D := (dC, dI)) (ci := 1) (v := .ref (a 12)) (C := R_S) (T := T_S) (N := 12) hx hb ht in_S hown hK hP 1 rfl rfl 3 (by decide) (ht _ k_65) (fun _ h => h) rfl d_S_askLimit_57 ?_
            refine lv_iload_n hx hb d_S_askLimit_60 rfl (lv_at hl 4 rfl) ?_
            refine va_lald hx hb hK hP 12 9 rfl rfl he d_S_askLimit_61 ?_
            refine lv_lconst (v := 0) hx hb d_S_askLimit_62 (by decide) ?_
            refine W.lcmp hx hb d_S_askLimit_63 ?_
            refine lv_if_le (tgt := 98) hx hb d_S_askLimit_64 (by decide) (fun c19 => ?_) (fun c19 => ?_)
            · have c19 : ¬ 0 < c_ct (s_st (s_st u13 e 1) (f_x (x_F X) (ix e)) 0) (ix e) := i64_nlt ((lg_cmp_le _ _).mp c19)
              refine lv_aload_n hx hb d_S_askLimit_98 rfl (lv_at hl 3 rfl) ?_
              refine va_get (D := (dC, dI)) (ci := 1) (v := .ref (a 10)) (C := R_S) (T := T_S) (N := 12) hx hb ht in_S hown hK hP 1 rfl rfl 1 (by decide) (ht _ k_63) (fun _ h => h) rfl d_S_askLimit_99 ?_
              refine lv_iload_n hx hb d_S_askLimit_102 rfl (lv_at hl 4 rfl) ?_
              refine lv_iconst (v := 2) hx hb d_S_askLimit_103 (by decide) ?_
              refine va_iast hx hb hK hP hD hS 10 7 rfl rfl he d_S_askLimit_104 (fun H locs hP hD hS => ?_)
              have hP : va_P (dC, dI) vwCl (wS a k X (s_st (s_st (s_st u13 e 1) (f_x (x_F X) (ix e)) 0) e 2)) H := cP_S_st hP
              have hD : va_D A (wS a k X (s_st (s_st (s_st u13 e 1) (f_x (x_F X) (ix e)) 0) e 2)) := cD_S_st hD
              refine lv_iinc (k := 1) (v := ((nI n) + 1)) hx hb d_S_askLimit_105 hl rfl rfl (by decide) (lv' := [(3, .int ((nI n) + 1)), (4, .int r12), (2, .int (f_x (x_F X) (ix e))), (0, .ref (a 1)), (1, .int e)]) rfl (fun ls hl => ?_)
              refine lv_goto (tgt := 12) hx hb d_S_askLimit_108 (by decide) ?_
              rw [← nI_succ] at hl
              have hl : lv_has ls 5 [(3, .int (nI (n + 1))), (2, .int (f_x (x_F X) (ix e))), (0, .ref (a 1)), (1, .int e)] := lv_sub hl [0, 2, 3, 4] rfl
              exact ih _ _ _ _ (n + 1) (by omega) (wk_st hW18) hP hD hS hl (by rw [← heq]; subst c15; simp [p_limitL, c2, c3, c19, q14])
            · have c19 : 0 < c_ct (s_st (s_st u13 e 1) (f_x (x_F X) (ix e)) 0) (ix e) := i64_nle (fun q => c19 ((lg_cmp_le _ _).mpr q))
              refine lv_aload_n hx hb d_S_askLimit_67 rfl (lv_at hl 3 rfl) ?_
              refine va_get (D := (dC, dI)) (ci := 1) (v := .ref (a 12)) (C := R_S) (T := T_S) (N := 12) hx hb ht in_S hown hK hP 1 rfl rfl 3 (by decide) (ht _ k_65) (fun _ h => h) rfl d_S_askLimit_68 ?_
              refine lv_iload_n hx hb d_S_askLimit_71 rfl (lv_at hl 4 rfl) ?_
              refine lv_dup2_11 hx hb d_S_askLimit_72 rfl rfl ?_
              refine va_lald hx hb hK hP 12 9 rfl rfl he d_S_askLimit_73 ?_
              refine lv_lconst (v := 1) hx hb d_S_askLimit_74 (by decide) ?_
              refine lv_lsub hx hb d_S_askLimit_75 ?_
              refine va_last hx hb hK hP hD hS 12 9 rfl rfl he d_S_askLimit_76 (fun H locs hP hD hS => ?_)
              have hP : va_P (dC, dI) vwCl (wS a k X (s_ct (s_st (s_st u13 e 1) (f_x (x_F X) (ix e)) 0) e (c_ct (s_st (s_st u13 e 1) (f_x (x_F X) (ix e)) 0) (ix e) - 1))) H := cP_S_ct hP
              have hD : va_D A (wS a k X (s_ct (s_st (s_st u13 e 1) (f_x (x_F X) (ix e)) 0) e (c_ct (s_st (s_st u13 e 1) (f_x (x_F X) (ix e)) 0) (ix e) - 1))) := cD_S_ct hD
              refine lv_aload_n hx hb d_S_askLimit_77 rfl (lv_at hl 3 rfl) ?_
              refine lv_iload_n hx hb d_S_askLimit_78 rfl (lv_at hl 2 rfl) ?_
              refine call_i (As := [.int (f_x (x_F X) (ix e))]) (rest := []) (ci := 1) (q0 := 1) (hAsk (f_x (x_F X) (ix e)) (s_ct (s_st (s_st u13 e 1) (f_x (x_F X) (ix e)) 0) e (c_ct (s_st (s_st u13 e 1) (f_x (x_F X) (ix e)) 0) (ix e) - 1)) tx (wk_ct hW18)) k_197 k_199 s_S_ask k_2 k_200 ⟨rfl, pc_S_ask.1, pc_S_ask.2, pd_S_ask⟩ rfl rfl rfl rfl rfl (rm_le (by omega) (by decide)) (Nat.le_of_ble_eq_true rfl) rfl hx hb hml hown ht hl.1 hP hK hD hS hA hN d_S_askLimit_79 (fun r20 u21 H locs q22 hP hD hS => ?_)
              obtain ⟨q22, hW22⟩ := q22
              have hP : va_P (dC, dI) vwCl (wS a k X u21) H := hP
              have hD : va_D A (wS a k X u21) := hD
              refine lv_istore hx hb d_S_askLimit_82 hl (by decide) (lv' := [(4, .int r20), (3, .int (nI n)), (2, .int (f_x (x_F X) (ix e))), (0, .ref (a 1)), (1, .int e)]) rfl (fun ls hl => ?_)
              refine lv_iload hx hb d_S_askLimit_84 (lv_at hl 0 rfl) ?_
              refine lv_if_eq (tgt := 98) hx hb d_S_askLimit_86 (by decide) (fun c23 => ?_) (fun c23 => ?_)
              · have c23 : r20 = 0 := c23
                refine lv_aload_n hx hb d_S_askLimit_98 rfl (lv_at hl 3 rfl) ?_
                refine va_get (D := (dC, dI)) (ci := 1) (v := .ref (a 10)) (C := R_S) (T := T_S) (N := 12) hx hb ht in_S hown hK hP 1 rfl rfl 1 (by decide) (ht _ k_63) (fun _ h => h) rfl d_S_askLimit_99 ?_
                refine lv_iload_n hx hb d_S_askLimit_102 rfl (lv_at hl 4 rfl) ?_
                refine lv_iconst (v := 2) hx hb d_S_askLimit_103 (by decide) ?_
                refine va_iast hx hb hK hP hD hS 10 7 rfl rfl he d_S_askLimit_104 (fun H locs hP hD hS => ?_)
                have hP : va_P (dC, dI) vwCl (wS a k X (s_st u21 e 2)) H := cP_S_st hP
                have hD : va_D A (wS a k X (s_st u21 e 2)) := cD_S_st hD
                refine lv_iinc (k := 1) (v := ((nI n) + 1)) hx hb d_S_askLimit_105 hl rfl rfl (by decide) (lv' := [(3, .int ((nI n) + 1)), (4, .int r20), (2, .int (f_x (x_F X) (ix e))), (0, .ref (a 1)), (1, .int e)]) rfl (fun ls hl => ?_)
                refine lv_goto (tgt := 12) hx hb d_S_askLimit_108 (by decide) ?_
                rw [← nI_succ] at hl
                have hl : lv_has ls 5 [(3, .int (nI (n + 1))), (2, .int (f_x (x_F X) (ix e))), (0, .ref (a 1)), (1, .int e)] := lv_sub hl [0, 2, 3, 4] rfl
                exact ih _ _ _ _ (n + 1) (by omega) (wk_st hW22) hP hD hS hl (by rw [← heq]; subst c15; subst c23; simp [p_limitL, c2, c3, c19, q14, q22])
              · have c23 : ¬ r20 = 0 := c23
                refine lv_aload_n hx hb d_S_askLimit_89 rfl (lv_at hl 3 rfl) ?_
                refine lv_iload_n hx hb d_S_askLimit_90 rfl (lv_at hl 4 rfl) ?_
                refine lv_iload_n hx hb d_S_askLimit_91 rfl (lv_at hl 2 rfl) ?_
                refine lv_iload hx hb d_S_askLimit_92 (lv_at hl 0 rfl) ?_
                refine call_i (As := [.int e, .int (f_x (x_F X) (ix e)), .int r20]) (rest := []) (ci := 1) (q0 := 1) (c_S_handUp l dC dI a k X u21 e (f_x (x_F X) (ix e)) r20 he (Tr_in tx) hW22) k_221 k_223 s_S_handUp k_2 k_224 ⟨rfl, pc_S_handUp.1, pc_S_handUp.2, pd_S_handUp⟩ rfl rfl rfl rfl rfl (rm_le (by omega) (by decide)) (Nat.le_of_ble_eq_true rfl) rfl hx hb hml hown ht hl.1 hP hK hD hS hA hN d_S_askLimit_94 (fun r24 u25 H locs q26 hP hD hS => ?_)
                obtain ⟨q26, hW26⟩ := q26
                have hP : va_P (dC, dI) vwCl (wS a k X u25) H := hP
                have hD : va_D A (wS a k X u25) := hD
                exact ret_i (v := r24) hx hb hr hlocks hP hK hD hS d_S_askLimit_97 ⟨by rw [← heq]; subst c15; simp [p_limitL, c2, c3, c19, c23, q14, q22, q26], hW26⟩
          · have c15 : ¬ r12 = 1 := c15
            refine lv_iload hx hb d_S_askLimit_41 (lv_at hl 0 rfl) ?_
            exact ret_i (v := r12) hx hb hr hlocks hP hK hD hS d_S_askLimit_43 ⟨by rw [← heq]; simp [p_limitL, c2, c3, c15, q14], hW14⟩
  exact loop M s _ _ _ 0 (by omega) hW hP hD hS hl rfl
set_option maxRecDepth 100000 in
set_option maxHeartbeats 4000000 in
theorem c_S_askEveryOrWhile (l : Launch) (dC : Nat → ClassId) (dI : Nat → Nat → Nat) (a : Nat → Nat) (k : Nat → ClassId) (X : zX) (T : zT) (M d : Nat) (hAsk : AskOK l dC dI a k X T M d) (hM : M = 1000000) (s : zC) (e : Int32) (he : vp_in e 60) (tx : Tr (x_F X) T d (f_x (x_F X) (ix e))) (ty : Tr (x_F X) T d (f_y (x_F X) (ix e))) (hW : Wk s) : MetI l y_S_askEveryOrWhile w_S_askEveryOrWhile (rmN (5 * d + 5)) dC dI (yX k) (wS a k X) [.ref (a 1), .int e] s (fun r u => p_everyL (x_F X) (p_all (x_F X) M d) e M s = (r, u) ∧ Wk u) := by
  refine metI_of (cc := b_S_askEveryOrWhile) (maxL := 5) (ret := (some .int)) (by decide) rfl (Nat.le_of_ble_eq_true rfl) ?_
  intro p e9 s9 m args below meth c A ls hx hb hr hts hown hlocks hml hA hP hK hD hS hN hl
  have ht : ∀ w ∈ lw_g, w.before args s9 = true := fun w h => hts w (List.mem_cons_of_mem _ h)
  have hl : lv_has ls 5 [(0, .ref (a 1)), (1, .int e)] := hl
  refine lv_aload_n hx hb d_S_askEveryOrWhile_0 rfl (lv_at hl 0 rfl) ?_
  refine va_get (D := (dC, dI)) (ci := 1) (v := .ref (a 2)) (C := R_S) (T := T_S) (N := 12) hx hb ht in_S hown hK hP 1 rfl rfl 0 (by decide) (ht _ k_61) (fun _ h => h) rfl d_S_askEveryOrWhile_1 ?_
  refine va_get (D := (dC, dI)) (ci := 0) (v := .ref (a 3)) (C := R_F) (T := T_F) (N := 8) hx hb ht in_F hown hK hP 2 rfl rfl 0 (by decide) (ht _ k_27) (fun _ h => h) rfl d_S_askEveryOrWhile_4 ?_
  refine lv_iload_n hx hb d_S_askEveryOrWhile_7 rfl (lv_at hl 1 rfl) ?_
  refine va_iald hx hb hK hP 3 0 rfl rfl he d_S_askEveryOrWhile_8 ?_
  refine lv_bipush (v := 16) hx hb d_S_askEveryOrWhile_9 (by decide) ?_
  refine lv_icmp_ne (tgt := 18) hx hb d_S_askEveryOrWhile_11 (by decide) (fun c1 => ?_) (fun c1 => ?_)
  · have c1 : ¬ f_k (x_F X) (ix e) = 16 := c1
    refine lv_iconst (v := 0) hx hb d_S_askEveryOrWhile_18 (by decide) ?_
    refine lv_istore_n hx hb d_S_askEveryOrWhile_19 rfl hl (by decide) (lv' := [(2, .int 0), (0, .ref (a 1)), (1, .int e)]) rfl (fun ls hl => ?_)
    refine lv_iconst (v := 0) hx hb d_S_askEveryOrWhile_20 (by decide) ?_
    refine lv_istore_n hx hb d_S_askEveryOrWhile_21 rfl hl (by decide) (lv' := [(3, .int 0), (2, .int 0), (0, .ref (a 1)), (1, .int e)]) rfl (fun ls hl => ?_)
    have loop : ∀ (τ : Nat) (s1 : zC) (H : Heap) (locs : List Loc) (ls : Array Slot) (n : Nat), n + τ = 1000000 → Wk s1 → va_P (dC, dI) vwCl (wS a k X s1) H → va_D A (wS a k X s1) → va_S A s9.heap H locs → lv_has ls 5 [(3, .int (nI n)), (2, .int 0), (0, .ref (a 1)), (1, .int e)] → p_everyL (x_F X) (p_all (x_F X) M d) e τ s1 = p_everyL (x_F X) (p_all (x_F X) M d) e M s → W p l e9 (rmN (5 * d + 5)) s9 m args below meth c H locs 0 0 (MQ below (va_Qi (fun r u => p_everyL (x_F X) (p_all (x_F X) M d) e M s = (r, u) ∧ Wk u) (zAft dC dI (yX k) (wS a k X) A) A) args s9 0 0 A) (F0 m 22 ls []) := by
      clear hl hP hD hS
      intro τ
      induction τ with
      | zero =>
        intro s1 H locs ls n hn hW hP hD hS hl heq
        refine lv_iload_n hx hb d_S_askEveryOrWhile_22 rfl (lv_at hl 0 rfl) ?_
        refine lv_ldc (v := 1000000) hx hb hown (ht _ k_249) d_S_askEveryOrWhile_23 ?_
        refine lv_icmp_ge (tgt := 93) hx hb d_S_askEveryOrWhile_25 (by decide) (fun c2 => ?_) (fun c2 => ?_)
        · have c2 : ¬ (nI n) < 1000000 := Int32.not_lt.mpr c2
          refine lv_iconst (v := 0) hx hb d_S_askEveryOrWhile_93 (by decide) ?_
          exact ret_i (v := 0) hx hb hr hlocks hP hK hD hS d_S_askEveryOrWhile_94 ⟨by rw [← heq]; simp [p_everyL, c1, c2], hW⟩
        · have c2 : (nI n) < 1000000 := Int32.not_le.mp c2
          exact (tn_ge c2 (by omega)).elim
      | succ τ ih =>
        intro s1 H locs ls n hn hW hP hD hS hl heq
        refine lv_iload_n hx hb d_S_askEveryOrWhile_22 rfl (lv_at hl 0 rfl) ?_
        refine lv_ldc (v := 1000000) hx hb hown (ht _ k_249) d_S_askEveryOrWhile_23 ?_
        refine lv_icmp_ge (tgt := 93) hx hb d_S_askEveryOrWhile_25 (by decide) (fun c3 => ?_) (fun c3 => ?_)
        · have c3 : ¬ (nI n) < 1000000 := Int32.not_lt.mpr c3
          exact absurd (tn_lt (by omega)) c3
        · have c3 : (nI n) < 1000000 := Int32.not_le.mp c3
          refine lv_iload_n hx hb d_S_askEveryOrWhile_28 rfl (lv_at hl 1 rfl) ?_
          refine lv_if_eq (tgt := 48) hx hb d_S_askEveryOrWhile_29 (by decide) (fun c4 => ?_) (fun c4 => ?_)
          · have c4 : (0 : Int32) = 0 := c4
            refine lv_aload_n hx hb d_S_askEveryOrWhile_48 rfl (lv_at hl 2 rfl) ?_
            refine lv_iload_n hx hb d_S_askEveryOrWhile_49 rfl (lv_at hl 3 rfl) ?_
            refine call_i (As := [.int e]) (rest := []) (ci := 1) (q0 := 1) (c_S_askX l dC dI a k X T M d hAsk s1 e he tx hW) k_217 k_219 s_S_askX k_2 k_220 ⟨rfl, pc_S_askX.1, pc_S_askX.2, pd_S_askX⟩ rfl rfl rfl rfl rfl (rm_le (by omega) (by decide)) (Nat.le_of_ble_eq_true rfl) rfl hx hb hml hown ht hl.1 hP hK hD hS hA hN d_S_askEveryOrWhile_50 (fun r5 u6 H locs q7 hP hD hS => ?_)
            obtain ⟨q7, hW7⟩ := q7
            have hP : va_P (dC, dI) vwCl (wS a k X u6) H := hP
            have hD : va_D A (wS a k X u6) := hD
            refine lv_istore hx hb d_S_askEveryOrWhile_53 hl (by decide) (lv' := [(4, .int r5), (3, .int (nI n)), (2, .int 0), (0, .ref (a 1)), (1, .int e)]) rfl (fun ls hl => ?_)
            refine lv_iload hx hb d_S_askEveryOrWhile_55 (lv_at hl 0 rfl) ?_
            refine lv_iconst (v := 1) hx hb d_S_askEveryOrWhile_57 (by decide) ?_
            refine lv_icmp_eq (tgt := 64) hx hb d_S_askEveryOrWhile_58 (by decide) (fun c8 => ?_) (fun c8 => ?_)
            · have c8 : r5 = 1 := c8
              refine lv_aload_n hx hb d_S_askEveryOrWhile_64 rfl (lv_at hl 3 rfl) ?_
              refine lv_aload_n hx hb d_S_askEveryOrWhile_65 rfl (lv_at hl 3 rfl) ?_
              refine va_get (D := (dC, dI)) (ci := 1) (v := .ref (a 2)) (C := R_S) (T := T_S) (N := 12) hx hb ht in_S hown hK hP 1 rfl rfl 0 (by decide) (ht _ k_61) (fun _ h => h) rfl d_S_askEveryOrWhile_66 ?_
              refine va_get (D := (dC, dI)) (ci := 0) (v := .ref (a 6)) (C := R_F) (T := T_F) (N := 8) hx hb ht in_F hown hK hP 2 rfl rfl 3 (by decide) (ht _ k_33) (fun _ h => h) rfl d_S_askEveryOrWhile_69 ?_
              refine lv_iload_n hx hb d_S_askEveryOrWhile_72 rfl (lv_at hl 4 rfl) ?_
              refine va_iald hx hb hK hP 6 3 rfl rfl he d_S_askEveryOrWhile_73 ?_
              refine call_i (As := [.int (f_y (x_F X) (ix e))]) (rest := []) (ci := 1) (q0 := 1) (c_S_tryOnce l dC dI a k X T M d hAsk u6 (f_y (x_F X) (ix e)) ty hW7) k_233 k_235 s_S_tryOnce k_2 k_236 ⟨rfl, pc_S_tryOnce.1, pc_S_tryOnce.2, pd_S_tryOnce⟩ rfl rfl rfl rfl rfl (rm_le (by omega) (by decide)) (Nat.le_of_ble_eq_true rfl) rfl hx hb hml hown ht hl.1 hP hK hD hS hA hN d_S_askEveryOrWhile_74 (fun r9 u10 H locs q11 hP hD hS => ?_)
              obtain ⟨q11, hW11⟩ := q11
              have hP : va_P (dC, dI) vwCl (wS a k X u10) H := hP
              have hD : va_D A (wS a k X u10) := hD
              refine lv_istore hx hb d_S_askEveryOrWhile_77 hl (by decide) (lv' := [(4, .int r9), (3, .int (nI n)), (2, .int 0), (0, .ref (a 1)), (1, .int e)]) rfl (fun ls hl => ?_)
              refine lv_iload hx hb d_S_askEveryOrWhile_79 (lv_at hl 0 rfl) ?_
              refine lv_if_ge (tgt := 87) hx hb d_S_askEveryOrWhile_81 (by decide) (fun c12 => ?_) (fun c12 => ?_)
              · have c12 : ¬ r9 < 0 := Int32.not_lt.mpr c12
                refine lv_iinc (k := 1) (v := ((nI n) + 1)) hx hb d_S_askEveryOrWhile_87 hl rfl rfl (by decide) (lv' := [(3, .int ((nI n) + 1)), (4, .int r9), (2, .int 0), (0, .ref (a 1)), (1, .int e)]) rfl (fun ls hl => ?_)
                refine lv_goto (tgt := 22) hx hb d_S_askEveryOrWhile_90 (by decide) ?_
                rw [← nI_succ] at hl
                have hl : lv_has ls 5 [(3, .int (nI (n + 1))), (2, .int 0), (0, .ref (a 1)), (1, .int e)] := lv_sub hl [0, 2, 3, 4] rfl
                exact ih _ _ _ _ (n + 1) (by omega) hW11 hP hD hS hl (by rw [← heq]; subst c8; simp [p_everyL, c1, c3, c12, q7, q11])
              · have c12 : r9 < 0 := Int32.not_le.mp c12
                refine lv_iload hx hb d_S_askEveryOrWhile_84 (lv_at hl 0 rfl) ?_
                exact ret_i (v := r9) hx hb hr hlocks hP hK hD hS d_S_askEveryOrWhile_86 ⟨by rw [← heq]; subst c8; simp [p_everyL, c1, c3, c12, q7, q11], hW11⟩
            · have c8 : ¬ r5 = 1 := c8
              refine lv_iload hx hb d_S_askEveryOrWhile_61 (lv_at hl 0 rfl) ?_
              exact ret_i (v := r5) hx hb hr hlocks hP hK hD hS d_S_askEveryOrWhile_63 ⟨by rw [← heq]; simp [p_everyL, c1, c3, c8, q7], hW7⟩
          · have c4 : ¬ (0 : Int32) = 0 := c4
            exact absurd c4 (by decide)
    exact loop M s _ _ _ 0 (by omega) hW hP hD hS hl rfl
  · have c1 : f_k (x_F X) (ix e) = 16 := c1
    refine lv_iconst (v := 1) hx hb d_S_askEveryOrWhile_14 (by decide) ?_
    refine lv_goto (tgt := 19) hx hb d_S_askEveryOrWhile_15 (by decide) ?_
    refine lv_istore_n hx hb d_S_askEveryOrWhile_19 rfl hl (by decide) (lv' := [(2, .int 1), (0, .ref (a 1)), (1, .int e)]) rfl (fun ls hl => ?_)
    refine lv_iconst (v := 0) hx hb d_S_askEveryOrWhile_20 (by decide) ?_
    refine lv_istore_n hx hb d_S_askEveryOrWhile_21 rfl hl (by decide) (lv' := [(3, .int 0), (2, .int 1), (0, .ref (a 1)), (1, .int e)]) rfl (fun ls hl => ?_)
    have loop : ∀ (τ : Nat) (s1 : zC) (H : Heap) (locs : List Loc) (ls : Array Slot) (n : Nat), n + τ = 1000000 → Wk s1 → va_P (dC, dI) vwCl (wS a k X s1) H → va_D A (wS a k X s1) → va_S A s9.heap H locs → lv_has ls 5 [(3, .int (nI n)), (2, .int 1), (0, .ref (a 1)), (1, .int e)] → p_everyL (x_F X) (p_all (x_F X) M d) e τ s1 = p_everyL (x_F X) (p_all (x_F X) M d) e M s → W p l e9 (rmN (5 * d + 5)) s9 m args below meth c H locs 0 0 (MQ below (va_Qi (fun r u => p_everyL (x_F X) (p_all (x_F X) M d) e M s = (r, u) ∧ Wk u) (zAft dC dI (yX k) (wS a k X) A) A) args s9 0 0 A) (F0 m 22 ls []) := by
      clear hl hP hD hS
      intro τ
      induction τ with
      | zero =>
        intro s1 H locs ls n hn hW hP hD hS hl heq
        refine lv_iload_n hx hb d_S_askEveryOrWhile_22 rfl (lv_at hl 0 rfl) ?_
        refine lv_ldc (v := 1000000) hx hb hown (ht _ k_249) d_S_askEveryOrWhile_23 ?_
        refine lv_icmp_ge (tgt := 93) hx hb d_S_askEveryOrWhile_25 (by decide) (fun c13 => ?_) (fun c13 => ?_)
        · have c13 : ¬ (nI n) < 1000000 := Int32.not_lt.mpr c13
          refine lv_iconst (v := 0) hx hb d_S_askEveryOrWhile_93 (by decide) ?_
          exact ret_i (v := 0) hx hb hr hlocks hP hK hD hS d_S_askEveryOrWhile_94 ⟨by rw [← heq]; simp [p_everyL, c1, c13], hW⟩
        · have c13 : (nI n) < 1000000 := Int32.not_le.mp c13
          exact (tn_ge c13 (by omega)).elim
      | succ τ ih =>
        intro s1 H locs ls n hn hW hP hD hS hl heq
        refine lv_iload_n hx hb d_S_askEveryOrWhile_22 rfl (lv_at hl 0 rfl) ?_
        refine lv_ldc (v := 1000000) hx hb hown (ht _ k_249) d_S_askEveryOrWhile_23 ?_
        refine lv_icmp_ge (tgt := 93) hx hb d_S_askEveryOrWhile_25 (by decide) (fun c14 => ?_) (fun c14 => ?_)
        · have c14 : ¬ (nI n) < 1000000 := Int32.not_lt.mpr c14
          exact absurd (tn_lt (by omega)) c14
        · have c14 : (nI n) < 1000000 := Int32.not_le.mp c14
          refine lv_iload_n hx hb d_S_askEveryOrWhile_28 rfl (lv_at hl 1 rfl) ?_
          refine lv_if_eq (tgt := 48) hx hb d_S_askEveryOrWhile_29 (by decide) (fun c15 => ?_) (fun c15 => ?_)
          · have c15 : (1 : Int32) = 0 := c15
            exact absurd c15 (by decide)
          · have c15 : ¬ (1 : Int32) = 0 := c15
            refine lv_aload_n hx hb d_S_askEveryOrWhile_32 rfl (lv_at hl 2 rfl) ?_
            refine lv_aload_n hx hb d_S_askEveryOrWhile_33 rfl (lv_at hl 2 rfl) ?_
            refine va_get (D := (dC, dI)) (ci := 1) (v := .ref (a 2)) (C := R_S) (T := T_S) (N := 12) hx hb ht in_S hown hK hP 1 rfl rfl 0 (by decide) (ht _ k_61) (fun _ h => h) rfl d_S_askEveryOrWhile_34 ?_
            refine va_get (D := (dC, dI)) (ci := 0) (v := .ref (a 5)) (C := R_F) (T := T_F) (N := 8) hx hb ht in_F hown hK hP 2 rfl rfl 2 (by decide) (ht _ k_31) (fun _ h => h) rfl d_S_askEveryOrWhile_37 ?_
            refine lv_iload_n hx hb d_S_askEveryOrWhile_40 rfl (lv_at hl 3 rfl) ?_
            refine va_iald hx hb hK hP 5 2 rfl rfl he d_S_askEveryOrWhile_41 ?_
            refine call_i (As := [.int (f_x (x_F X) (ix e))]) (rest := []) (ci := 1) (q0 := 1) (c_S_tryOnce l dC dI a k X T M d hAsk s1 (f_x (x_F X) (ix e)) tx hW) k_233 k_235 s_S_tryOnce k_2 k_236 ⟨rfl, pc_S_tryOnce.1, pc_S_tryOnce.2, pd_S_tryOnce⟩ rfl rfl rfl rfl rfl (rm_le (by omega) (by decide)) (Nat.le_of_ble_eq_true rfl) rfl hx hb hml hown ht hl.1 hP hK hD hS hA hN d_S_askEveryOrWhile_42 (fun r16 u17 H locs q18 hP hD hS => ?_)
            obtain ⟨q18, hW18⟩ := q18
            have hP : va_P (dC, dI) vwCl (wS a k X u17) H := hP
            have hD : va_D A (wS a k X u17) := hD
            refine lv_goto (tgt := 53) hx hb d_S_askEveryOrWhile_45 (by decide) ?_
            refine lv_istore hx hb d_S_askEveryOrWhile_53 hl (by decide) (lv' := [(4, .int r16), (3, .int (nI n)), (2, .int 1), (0, .ref (a 1)), (1, .int e)]) rfl (fun ls hl => ?_)
            refine lv_iload hx hb d_S_askEveryOrWhile_55 (lv_at hl 0 rfl) ?_
            refine lv_iconst (v := 1) hx hb d_S_askEveryOrWhile_57 (by decide) ?_
            refine lv_icmp_eq (tgt := 64) hx hb d_S_askEveryOrWhile_58 (by decide) (fun c19 => ?_) (fun c19 => ?_)
            · have c19 : r16 = 1 := c19
              refine lv_aload_n hx hb d_S_askEveryOrWhile_64 rfl (lv_at hl 3 rfl) ?_
              refine lv_aload_n hx hb d_S_askEveryOrWhile_65 rfl (lv_at hl 3 rfl) ?_
              refine va_get (D := (dC, dI)) (ci := 1) (v := .ref (a 2)) (C := R_S) (T := T_S) (N := 12) hx hb ht in_S hown hK hP 1 rfl rfl 0 (by decide) (ht _ k_61) (fun _ h => h) rfl d_S_askEveryOrWhile_66 ?_
              refine va_get (D := (dC, dI)) (ci := 0) (v := .ref (a 6)) (C := R_F) (T := T_F) (N := 8) hx hb ht in_F hown hK hP 2 rfl rfl 3 (by decide) (ht _ k_33) (fun _ h => h) rfl d_S_askEveryOrWhile_69 ?_
              refine lv_iload_n hx hb d_S_askEveryOrWhile_72 rfl (lv_at hl 4 rfl) ?_
              refine va_iald hx hb hK hP 6 3 rfl rfl he d_S_askEveryOrWhile_73 ?_
              refine call_i (As := [.int (f_y (x_F X) (ix e))]) (rest := []) (ci := 1) (q0 := 1) (c_S_tryOnce l dC dI a k X T M d hAsk u17 (f_y (x_F X) (ix e)) ty hW18) k_233 k_235 s_S_tryOnce k_2 k_236 ⟨rfl, pc_S_tryOnce.1, pc_S_tryOnce.2, pd_S_tryOnce⟩ rfl rfl rfl rfl rfl (rm_le (by omega) (by decide)) (Nat.le_of_ble_eq_true rfl) rfl hx hb hml hown ht hl.1 hP hK hD hS hA hN d_S_askEveryOrWhile_74 (fun r20 u21 H locs q22 hP hD hS => ?_)
              obtain ⟨q22, hW22⟩ := q22
              have hP : va_P (dC, dI) vwCl (wS a k X u21) H := hP
              have hD : va_D A (wS a k X u21) := hD
              refine lv_istore hx hb d_S_askEveryOrWhile_77 hl (by decide) (lv' := [(4, .int r20), (3, .int (nI n)), (2, .int 1), (0, .ref (a 1)), (1, .int e)]) rfl (fun ls hl => ?_)
              refine lv_iload hx hb d_S_askEveryOrWhile_79 (lv_at hl 0 rfl) ?_
              refine lv_if_ge (tgt := 87) hx hb d_S_askEveryOrWhile_81 (by decide) (fun c23 => ?_) (fun c23 => ?_)
              · have c23 : ¬ r20 < 0 := Int32.not_lt.mpr c23
                refine lv_iinc (k := 1) (v := ((nI n) + 1)) hx hb d_S_askEveryOrWhile_87 hl rfl rfl (by decide) (lv' := [(3, .int ((nI n) + 1)), (4, .int r20), (2, .int 1), (0, .ref (a 1)), (1, .int e)]) rfl (fun ls hl => ?_)
                refine lv_goto (tgt := 22) hx hb d_S_askEveryOrWhile_90 (by decide) ?_
                rw [← nI_succ] at hl
                have hl : lv_has ls 5 [(3, .int (nI (n + 1))), (2, .int 1), (0, .ref (a 1)), (1, .int e)] := lv_sub hl [0, 2, 3, 4] rfl
                exact ih _ _ _ _ (n + 1) (by omega) hW22 hP hD hS hl (by rw [← heq]; subst c19; simp [p_everyL, c1, c14, c23, q18, q22])
              · have c23 : r20 < 0 := Int32.not_le.mp c23
                refine lv_iload hx hb d_S_askEveryOrWhile_84 (lv_at hl 0 rfl) ?_
                exact ret_i (v := r20) hx hb hr hlocks hP hK hD hS d_S_askEveryOrWhile_86 ⟨by rw [← heq]; subst c19; simp [p_everyL, c1, c14, c23, q18, q22], hW22⟩
            · have c19 : ¬ r16 = 1 := c19
              refine lv_iload hx hb d_S_askEveryOrWhile_61 (lv_at hl 0 rfl) ?_
              exact ret_i (v := r16) hx hb hr hlocks hP hK hD hS d_S_askEveryOrWhile_63 ⟨by rw [← heq]; simp [p_everyL, c1, c14, c19, q18], hW18⟩
    exact loop M s _ _ _ 0 (by omega) hW hP hD hS hl rfl
set_option maxRecDepth 100000 in
set_option maxHeartbeats 4000000 in
theorem c_S_askTriple (l : Launch) (dC : Nat → ClassId) (dI : Nat → Nat → Nat) (a : Nat → Nat) (k : Nat → ClassId) (X : zX) (T : zT) (M d : Nat) (hAsk : AskOK l dC dI a k X T M d) (hM : M = 1000000) (s : zC) (e : Int32) (he : vp_in e 60) (tx : Tr (x_F X) T d (f_x (x_F X) (ix e))) (ty : Tr (x_F X) T d (f_y (x_F X) (ix e))) (tz : Tr (x_F X) T d (f_z (x_F X) (ix e))) (hW : Wk s) : MetI l y_S_askTriple w_S_askTriple (rmN (5 * d + 6)) dC dI (yX k) (wS a k X) [.ref (a 1), .int e] s (fun r u => p_tripleL (x_F X) (p_all (x_F X) M d) M e M s = (r, u) ∧ Wk u) := by
  refine metI_of (cc := b_S_askTriple) (maxL := 5) (ret := (some .int)) (by decide) rfl (Nat.le_of_ble_eq_true rfl) ?_
  intro p e9 s9 m args below meth c A ls hx hb hr hts hown hlocks hml hA hP hK hD hS hN hl
  have ht : ∀ w ∈ lw_g, w.before args s9 = true := fun w h => hts w (List.mem_cons_of_mem _ h)
  have hl : lv_has ls 5 [(0, .ref (a 1)), (1, .int e)] := hl
  refine lv_aload_n hx hb d_S_askTriple_0 rfl (lv_at hl 0 rfl) ?_
  refine va_get (D := (dC, dI)) (ci := 1) (v := .ref (a 2)) (C := R_S) (T := T_S) (N := 12) hx hb ht in_S hown hK hP 1 rfl rfl 0 (by decide) (ht _ k_61) (fun _ h => h) rfl d_S_askTriple_1 ?_
  refine va_get (D := (dC, dI)) (ci := 0) (v := .ref (a 7)) (C := R_F) (T := T_F) (N := 8) hx hb ht in_F hown hK hP 2 rfl rfl 4 (by decide) (ht _ k_35) (fun _ h => h) rfl d_S_askTriple_4 ?_
  refine lv_iload_n hx hb d_S_askTriple_7 rfl (lv_at hl 1 rfl) ?_
  refine va_iald hx hb hK hP 7 4 rfl rfl he d_S_askTriple_8 ?_
  refine lv_istore_n hx hb d_S_askTriple_9 rfl hl (by decide) (lv' := [(2, .int (f_z (x_F X) (ix e))), (0, .ref (a 1)), (1, .int e)]) rfl (fun ls hl => ?_)
  refine lv_iconst (v := 0) hx hb d_S_askTriple_10 (by decide) ?_
  refine lv_istore_n hx hb d_S_askTriple_11 rfl hl (by decide) (lv' := [(3, .int 0), (2, .int (f_z (x_F X) (ix e))), (0, .ref (a 1)), (1, .int e)]) rfl (fun ls hl => ?_)
  have loop : ∀ (τ : Nat) (s1 : zC) (H : Heap) (locs : List Loc) (ls : Array Slot) (n : Nat), n + τ = 1000000 → Wk s1 → va_P (dC, dI) vwCl (wS a k X s1) H → va_D A (wS a k X s1) → va_S A s9.heap H locs → lv_has ls 5 [(3, .int (nI n)), (2, .int (f_z (x_F X) (ix e))), (0, .ref (a 1)), (1, .int e)] → p_tripleL (x_F X) (p_all (x_F X) M d) M e τ s1 = p_tripleL (x_F X) (p_all (x_F X) M d) M e M s → W p l e9 (rmN (5 * d + 6)) s9 m args below meth c H locs 0 0 (MQ below (va_Qi (fun r u => p_tripleL (x_F X) (p_all (x_F X) M d) M e M s = (r, u) ∧ Wk u) (zAft dC dI (yX k) (wS a k X) A) A) args s9 0 0 A) (F0 m 12 ls []) := by
    clear hl hP hD hS
    intro τ
    induction τ with
    | zero =>
      intro s1 H locs ls n hn hW hP hD hS hl heq
      refine lv_iload_n hx hb d_S_askTriple_12 rfl (lv_at hl 0 rfl) ?_
      refine lv_ldc (v := 1000000) hx hb hown (ht _ k_249) d_S_askTriple_13 ?_
      refine lv_icmp_ge (tgt := 84) hx hb d_S_askTriple_15 (by decide) (fun c1 => ?_) (fun c1 => ?_)
      · have c1 : ¬ (nI n) < 1000000 := Int32.not_lt.mpr c1
        refine lv_iconst (v := 0) hx hb d_S_askTriple_84 (by decide) ?_
        exact ret_i (v := 0) hx hb hr hlocks hP hK hD hS d_S_askTriple_85 ⟨by rw [← heq]; simp [p_tripleL, c1], hW⟩
      · have c1 : (nI n) < 1000000 := Int32.not_le.mp c1
        exact (tn_ge c1 (by omega)).elim
    | succ τ ih =>
      intro s1 H locs ls n hn hW hP hD hS hl heq
      refine lv_iload_n hx hb d_S_askTriple_12 rfl (lv_at hl 0 rfl) ?_
      refine lv_ldc (v := 1000000) hx hb hown (ht _ k_249) d_S_askTriple_13 ?_
      refine lv_icmp_ge (tgt := 84) hx hb d_S_askTriple_15 (by decide) (fun c2 => ?_) (fun c2 => ?_)
      · have c2 : ¬ (nI n) < 1000000 := Int32.not_lt.mpr c2
        exact absurd (tn_lt (by omega)) c2
      · have c2 : (nI n) < 1000000 := Int32.not_le.mp c2
        refine lv_aload_n hx hb d_S_askTriple_18 rfl (lv_at hl 2 rfl) ?_
        refine va_get (D := (dC, dI)) (ci := 1) (v := .ref (a 10)) (C := R_S) (T := T_S) (N := 12) hx hb ht in_S hown hK hP 1 rfl rfl 1 (by decide) (ht _ k_63) (fun _ h => h) rfl d_S_askTriple_19 ?_
        refine lv_iload_n hx hb d_S_askTriple_22 rfl (lv_at hl 3 rfl) ?_
        refine va_iald hx hb hK hP 10 7 rfl rfl he d_S_askTriple_23 ?_
        refine lv_iconst (v := 3) hx hb d_S_askTriple_24 (by decide) ?_
        refine lv_icmp_eq (tgt := 56) hx hb d_S_askTriple_25 (by decide) (fun c3 => ?_) (fun c3 => ?_)
        · have c3 : c_st s1 (ix e) = 3 := c3
          refine lv_aload_n hx hb d_S_askTriple_56 rfl (lv_at hl 2 rfl) ?_
          refine lv_iload_n hx hb d_S_askTriple_57 rfl (lv_at hl 1 rfl) ?_
          refine call_i (As := [.int (f_z (x_F X) (ix e))]) (rest := []) (ci := 1) (q0 := 1) (hAsk (f_z (x_F X) (ix e)) s1 tz hW) k_197 k_199 s_S_ask k_2 k_200 ⟨rfl, pc_S_ask.1, pc_S_ask.2, pd_S_ask⟩ rfl rfl rfl rfl rfl (rm_le (by omega) (by decide)) (Nat.le_of_ble_eq_true rfl) rfl hx hb hml hown ht hl.1 hP hK hD hS hA hN d_S_askTriple_58 (fun r4 u5 H locs q6 hP hD hS => ?_)
          obtain ⟨q6, hW6⟩ := q6
          have hP : va_P (dC, dI) vwCl (wS a k X u5) H := hP
          have hD : va_D A (wS a k X u5) := hD
          refine lv_istore hx hb d_S_askTriple_61 hl (by decide) (lv' := [(4, .int r4), (3, .int (nI n)), (2, .int (f_z (x_F X) (ix e))), (0, .ref (a 1)), (1, .int e)]) rfl (fun ls hl => ?_)
          refine lv_iload hx hb d_S_askTriple_63 (lv_at hl 0 rfl) ?_
          refine lv_if_eq (tgt := 71) hx hb d_S_askTriple_65 (by decide) (fun c7 => ?_) (fun c7 => ?_)
          · have c7 : r4 = 0 := c7
            refine lv_aload_n hx hb d_S_askTriple_71 rfl (lv_at hl 3 rfl) ?_
            refine va_get (D := (dC, dI)) (ci := 1) (v := .ref (a 10)) (C := R_S) (T := T_S) (N := 12) hx hb ht in_S hown hK hP 1 rfl rfl 1 (by decide) (ht _ k_63) (fun _ h => h) rfl d_S_askTriple_72 ?_
            refine lv_iload_n hx hb d_S_askTriple_75 rfl (lv_at hl 4 rfl) ?_
            refine lv_iconst (v := 2) hx hb d_S_askTriple_76 (by decide) ?_
            refine va_iast hx hb hK hP hD hS 10 7 rfl rfl he d_S_askTriple_77 (fun H locs hP hD hS => ?_)
            have hP : va_P (dC, dI) vwCl (wS a k X (s_st u5 e 2)) H := cP_S_st hP
            have hD : va_D A (wS a k X (s_st u5 e 2)) := cD_S_st hD
            refine lv_iinc (k := 1) (v := ((nI n) + 1)) hx hb d_S_askTriple_78 hl rfl rfl (by decide) (lv' := [(3, .int ((nI n) + 1)), (4, .int r4), (2, .int (f_z (x_F X) (ix e))), (0, .ref (a 1)), (1, .int e)]) rfl (fun ls hl => ?_)
            refine lv_goto (tgt := 12) hx hb d_S_askTriple_81 (by decide) ?_
            rw [← nI_succ] at hl
            have hl : lv_has ls 5 [(3, .int (nI (n + 1))), (2, .int (f_z (x_F X) (ix e))), (0, .ref (a 1)), (1, .int e)] := lv_sub hl [0, 2, 3, 4] rfl
            exact ih _ _ _ _ (n + 1) (by omega) (wk_st hW6) hP hD hS hl (by rw [← heq]; subst c7; simp [p_tripleL, c2, c3, q6])
          · have c7 : ¬ r4 = 0 := c7
            refine lv_iload hx hb d_S_askTriple_68 (lv_at hl 0 rfl) ?_
            exact ret_i (v := r4) hx hb hr hlocks hP hK hD hS d_S_askTriple_70 ⟨by rw [← heq]; simp [p_tripleL, c2, c3, c7, q6], hW6⟩
        · have c3 : ¬ c_st s1 (ix e) = 3 := c3
          refine lv_aload_n hx hb d_S_askTriple_28 rfl (lv_at hl 2 rfl) ?_
          refine lv_iload_n hx hb d_S_askTriple_29 rfl (lv_at hl 3 rfl) ?_
          refine call_i (As := [.int e]) (rest := []) (ci := 1) (q0 := 1) (c_S_askPair l dC dI a k X T M d hAsk hM s1 e he tx ty hW) k_245 k_247 s_S_askPair k_2 k_248 ⟨rfl, pc_S_askPair.1, pc_S_askPair.2, pd_S_askPair⟩ rfl rfl rfl rfl rfl (rm_le (by omega) (by decide)) (Nat.le_of_ble_eq_true rfl) rfl hx hb hml hown ht hl.1 hP hK hD hS hA hN d_S_askTriple_30 (fun r8 u9 H locs q10 hP hD hS => ?_)
          obtain ⟨q10, hW10⟩ := q10
          have hP : va_P (dC, dI) vwCl (wS a k X u9) H := hP
          have hD : va_D A (wS a k X u9) := hD
          refine lv_istore hx hb d_S_askTriple_33 hl (by decide) (lv' := [(4, .int r8), (3, .int (nI n)), (2, .int (f_z (x_F X) (ix e))), (0, .ref (a 1)), (1, .int e)]) rfl (fun ls hl => ?_)
          refine lv_iload hx hb d_S_askTriple_35 (lv_at hl 0 rfl) ?_
          refine lv_iconst (v := 1) hx hb d_S_askTriple_37 (by decide) ?_
          refine lv_icmp_eq (tgt := 44) hx hb d_S_askTriple_38 (by decide) (fun c11 => ?_) (fun c11 => ?_)
          · have c11 : r8 = 1 := c11
            refine lv_aload_n hx hb d_S_askTriple_44 rfl (lv_at hl 3 rfl) ?_
            refine va_get (D := (dC, dI)) (ci := 1) (v := .ref (a 10)) (C := R_S) (T := T_S) (N := 12) hx hb ht in_S hown hK hP 1 rfl rfl 1 (by decide) (ht _ k_63) (fun _ h => h) rfl d_S_askTriple_45 ?_
            refine lv_iload_n hx hb d_S_askTriple_48 rfl (lv_at hl 4 rfl) ?_
            refine lv_iconst (v := 3) hx hb d_S_askTriple_49 (by decide) ?_
            refine va_iast hx hb hK hP hD hS 10 7 rfl rfl he d_S_askTriple_50 (fun H locs hP hD hS => ?_)
            have hP : va_P (dC, dI) vwCl (wS a k X (s_st u9 e 3)) H := cP_S_st hP
            have hD : va_D A (wS a k X (s_st u9 e 3)) := cD_S_st hD
            refine lv_aload_n hx hb d_S_askTriple_51 rfl (lv_at hl 3 rfl) ?_
            refine lv_iload_n hx hb d_S_askTriple_52 rfl (lv_at hl 2 rfl) ?_
            refine call_v (As := [.int (f_z (x_F X) (ix e))]) (rest := []) (ci := 1) (q0 := 1) (c_S_start l dC dI a k X (s_st u9 e 3) (f_z (x_F X) (ix e)) (Tr_in tz) (wk_st hW10)) k_185 k_187 s_S_start k_2 k_188 ⟨rfl, pc_S_start.1, pc_S_start.2, pd_S_start⟩ rfl rfl rfl rfl rfl (rm_le (by omega) (by decide)) (Nat.le_of_ble_eq_true rfl) rfl hx hb hml hown ht hl.1 hP hK hD hS hA hN d_S_askTriple_53 (fun u13 H locs q14 hP hD hS => ?_)
            obtain ⟨rfl, hW14⟩ := q14
            have hP : va_P (dC, dI) vwCl (wS a k X (s_st (s_st u9 e 3) (f_z (x_F X) (ix e)) 0)) H := hP
            have hD : va_D A (wS a k X (s_st (s_st u9 e 3) (f_z (x_F X) (ix e)) 0)) := hD
            refine lv_aload_n hx hb d_S_askTriple_56 rfl (lv_at hl 3 rfl) ?_
            refine lv_iload_n hx hb d_S_askTriple_57 rfl (lv_at hl 2 rfl) ?_
            refine call_i (As := [.int (f_z (x_F X) (ix e))]) (rest := []) (ci := 1) (q0 := 1) (hAsk (f_z (x_F X) (ix e)) (s_st (s_st u9 e 3) (f_z (x_F X) (ix e)) 0) tz hW14) k_197 k_199 s_S_ask k_2 k_200 ⟨rfl, pc_S_ask.1, pc_S_ask.2, pd_S_ask⟩ rfl rfl rfl rfl rfl (rm_le (by omega) (by decide)) (Nat.le_of_ble_eq_true rfl) rfl hx hb hml hown ht hl.1 hP hK hD hS hA hN d_S_askTriple_58 (fun r15 u16 H locs q17 hP hD hS => ?_)
            obtain ⟨q17, hW17⟩ := q17
            have hP : va_P (dC, dI) vwCl (wS a k X u16) H := hP
            have hD : va_D A (wS a k X u16) := hD
            refine lv_istore hx hb d_S_askTriple_61 hl (by decide) (lv' := [(4, .int r15), (3, .int (nI n)), (2, .int (f_z (x_F X) (ix e))), (0, .ref (a 1)), (1, .int e)]) rfl (fun ls hl => ?_)
            refine lv_iload hx hb d_S_askTriple_63 (lv_at hl 0 rfl) ?_
            refine lv_if_eq (tgt := 71) hx hb d_S_askTriple_65 (by decide) (fun c18 => ?_) (fun c18 => ?_)
            · have c18 : r15 = 0 := c18
              refine lv_aload_n hx hb d_S_askTriple_71 rfl (lv_at hl 3 rfl) ?_
              refine va_get (D := (dC, dI)) (ci := 1) (v := .ref (a 10)) (C := R_S) (T := T_S) (N := 12) hx hb ht in_S hown hK hP 1 rfl rfl 1 (by decide) (ht _ k_63) (fun _ h => h) rfl d_S_askTriple_72 ?_
              refine lv_iload_n hx hb d_S_askTriple_75 rfl (lv_at hl 4 rfl) ?_
              refine lv_iconst (v := 2) hx hb d_S_askTriple_76 (by decide) ?_
              refine va_iast hx hb hK hP hD hS 10 7 rfl rfl he d_S_askTriple_77 (fun H locs hP hD hS => ?_)
              have hP : va_P (dC, dI) vwCl (wS a k X (s_st u16 e 2)) H := cP_S_st hP
              have hD : va_D A (wS a k X (s_st u16 e 2)) := cD_S_st hD
              refine lv_iinc (k := 1) (v := ((nI n) + 1)) hx hb d_S_askTriple_78 hl rfl rfl (by decide) (lv' := [(3, .int ((nI n) + 1)), (4, .int r15), (2, .int (f_z (x_F X) (ix e))), (0, .ref (a 1)), (1, .int e)]) rfl (fun ls hl => ?_)
              refine lv_goto (tgt := 12) hx hb d_S_askTriple_81 (by decide) ?_
              rw [← nI_succ] at hl
              have hl : lv_has ls 5 [(3, .int (nI (n + 1))), (2, .int (f_z (x_F X) (ix e))), (0, .ref (a 1)), (1, .int e)] := lv_sub hl [0, 2, 3, 4] rfl
              exact ih _ _ _ _ (n + 1) (by omega) (wk_st hW17) hP hD hS hl (by rw [← heq]; subst c11; subst c18; simp [p_tripleL, c2, c3, q10, q17])
            · have c18 : ¬ r15 = 0 := c18
              refine lv_iload hx hb d_S_askTriple_68 (lv_at hl 0 rfl) ?_
              exact ret_i (v := r15) hx hb hr hlocks hP hK hD hS d_S_askTriple_70 ⟨by rw [← heq]; subst c11; simp [p_tripleL, c2, c3, c18, q10, q17], hW17⟩
          · have c11 : ¬ r8 = 1 := c11
            refine lv_iload hx hb d_S_askTriple_41 (lv_at hl 0 rfl) ?_
            exact ret_i (v := r8) hx hb hr hlocks hP hK hD hS d_S_askTriple_43 ⟨by rw [← heq]; simp [p_tripleL, c2, c3, c11, q10], hW10⟩
  exact loop M s _ _ _ 0 (by omega) hW hP hD hS hl rfl
set_option maxRecDepth 100000 in
set_option maxHeartbeats 4000000 in
theorem c_S_askTo (l : Launch) (dC : Nat → ClassId) (dI : Nat → Nat → Nat) (a : Nat → Nat) (k : Nat → ClassId) (X : zX) (T : zT) (M d : Nat) (hAsk : AskOK l dC dI a k X T M d) (hM : M = 1000000) (s : zC) (e : Int32) (he : vp_in e 60) (tx : Tr (x_F X) T d (f_x (x_F X) (ix e))) (ty : Tr (x_F X) T d (f_y (x_F X) (ix e))) (tz : Tr (x_F X) T d (f_z (x_F X) (ix e))) (hW : Wk s) : MetI l y_S_askTo w_S_askTo (rmN (5 * d + 7)) dC dI (yX k) (wS a k X) [.ref (a 1), .int e] s (fun r u => p_toL (x_F X) (p_all (x_F X) M d) M e M s = (r, u) ∧ Wk u) := by
  refine metI_of (cc := b_S_askTo) (maxL := 4) (ret := (some .int)) (by decide) rfl (Nat.le_of_ble_eq_true rfl) ?_
  intro p e9 s9 m args below meth c A ls hx hb hr hts hown hlocks hml hA hP hK hD hS hN hl
  have ht : ∀ w ∈ lw_g, w.before args s9 = true := fun w h => hts w (List.mem_cons_of_mem _ h)
  have hl : lv_has ls 4 [(0, .ref (a 1)), (1, .int e)] := hl
  refine lv_iconst (v := 0) hx hb d_S_askTo_0 (by decide) ?_
  refine lv_istore_n hx hb d_S_askTo_1 rfl hl (by decide) (lv' := [(2, .int 0), (0, .ref (a 1)), (1, .int e)]) rfl (fun ls hl => ?_)
  have loop : ∀ (τ : Nat) (s1 : zC) (H : Heap) (locs : List Loc) (ls : Array Slot) (n : Nat), n + τ = 1000000 → Wk s1 → va_P (dC, dI) vwCl (wS a k X s1) H → va_D A (wS a k X s1) → va_S A s9.heap H locs → lv_has ls 4 [(2, .int (nI n)), (0, .ref (a 1)), (1, .int e)] → p_toL (x_F X) (p_all (x_F X) M d) M e τ s1 = p_toL (x_F X) (p_all (x_F X) M d) M e M s → W p l e9 (rmN (5 * d + 7)) s9 m args below meth c H locs 0 0 (MQ below (va_Qi (fun r u => p_toL (x_F X) (p_all (x_F X) M d) M e M s = (r, u) ∧ Wk u) (zAft dC dI (yX k) (wS a k X) A) A) args s9 0 0 A) (F0 m 2 ls []) := by
    clear hl hP hD hS
    intro τ
    induction τ with
    | zero =>
      intro s1 H locs ls n hn hW hP hD hS hl heq
      refine lv_iload_n hx hb d_S_askTo_2 rfl (lv_at hl 0 rfl) ?_
      refine lv_ldc (v := 1000000) hx hb hown (ht _ k_249) d_S_askTo_3 ?_
      refine lv_icmp_ge (tgt := 140) hx hb d_S_askTo_5 (by decide) (fun c1 => ?_) (fun c1 => ?_)
      · have c1 : ¬ (nI n) < 1000000 := Int32.not_lt.mpr c1
        refine lv_iconst (v := 0) hx hb d_S_askTo_140 (by decide) ?_
        exact ret_i (v := 0) hx hb hr hlocks hP hK hD hS d_S_askTo_141 ⟨by rw [← heq]; simp [p_toL, c1], hW⟩
      · have c1 : (nI n) < 1000000 := Int32.not_le.mp c1
        exact (tn_ge c1 (by omega)).elim
    | succ τ ih =>
      intro s1 H locs ls n hn hW hP hD hS hl heq
      refine lv_iload_n hx hb d_S_askTo_2 rfl (lv_at hl 0 rfl) ?_
      refine lv_ldc (v := 1000000) hx hb hown (ht _ k_249) d_S_askTo_3 ?_
      refine lv_icmp_ge (tgt := 140) hx hb d_S_askTo_5 (by decide) (fun c2 => ?_) (fun c2 => ?_)
      · have c2 : ¬ (nI n) < 1000000 := Int32.not_lt.mpr c2
        exact absurd (tn_lt (by omega)) c2
      · have c2 : (nI n) < 1000000 := Int32.not_le.mp c2
        refine lv_aload_n hx hb d_S_askTo_8 rfl (lv_at hl 1 rfl) ?_
        refine va_get (D := (dC, dI)) (ci := 1) (v := .ref (a 10)) (C := R_S) (T := T_S) (N := 12) hx hb ht in_S hown hK hP 1 rfl rfl 1 (by decide) (ht _ k_63) (fun _ h => h) rfl d_S_askTo_9 ?_
        refine lv_iload_n hx hb d_S_askTo_12 rfl (lv_at hl 2 rfl) ?_
        refine va_iald hx hb hK hP 10 7 rfl rfl he d_S_askTo_13 ?_
        refine lv_iconst (v := 4) hx hb d_S_askTo_14 (by decide) ?_
        refine lv_icmp_ne (tgt := 45) hx hb d_S_askTo_15 (by decide) (fun c3 => ?_) (fun c3 => ?_)
        · have c3 : ¬ c_st s1 (ix e) = 4 := c3
          refine lv_aload_n hx hb d_S_askTo_45 rfl (lv_at hl 1 rfl) ?_
          refine lv_iload_n hx hb d_S_askTo_46 rfl (lv_at hl 2 rfl) ?_
          refine call_i (As := [.int e]) (rest := []) (ci := 1) (q0 := 1) (c_S_askTriple l dC dI a k X T M d hAsk hM s1 e he tx ty tz hW) k_284 k_286 s_S_askTriple k_2 k_287 ⟨rfl, pc_S_askTriple.1, pc_S_askTriple.2, pd_S_askTriple⟩ rfl rfl rfl rfl rfl (rm_le (by omega) (by decide)) (Nat.le_of_ble_eq_true rfl) rfl hx hb hml hown ht hl.1 hP hK hD hS hA hN d_S_askTo_47 (fun r4 u5 H locs q6 hP hD hS => ?_)
          obtain ⟨q6, hW6⟩ := q6
          have hP : va_P (dC, dI) vwCl (wS a k X u5) H := hP
          have hD : va_D A (wS a k X u5) := hD
          refine lv_istore_n hx hb d_S_askTo_50 rfl hl (by decide) (lv' := [(3, .int r4), (2, .int (nI n)), (0, .ref (a 1)), (1, .int e)]) rfl (fun ls hl => ?_)
          refine lv_iload_n hx hb d_S_askTo_51 rfl (lv_at hl 0 rfl) ?_
          refine lv_iconst (v := 1) hx hb d_S_askTo_52 (by decide) ?_
          refine lv_icmp_eq (tgt := 58) hx hb d_S_askTo_53 (by decide) (fun c7 => ?_) (fun c7 => ?_)
          · have c7 : r4 = 1 := c7
            refine lv_aload_n hx hb d_S_askTo_58 rfl (lv_at hl 2 rfl) ?_
            refine va_get (D := (dC, dI)) (ci := 1) (v := .ref (a 11)) (C := R_S) (T := T_S) (N := 12) hx hb ht in_S hown hK hP 1 rfl rfl 2 (by decide) (ht _ k_64) (fun _ h => h) rfl d_S_askTo_59 ?_
            refine lv_aload_n hx hb d_S_askTo_62 rfl (lv_at hl 2 rfl) ?_
            refine va_get (D := (dC, dI)) (ci := 1) (v := .ref (a 2)) (C := R_S) (T := T_S) (N := 12) hx hb ht in_S hown hK hP 1 rfl rfl 0 (by decide) (ht _ k_61) (fun _ h => h) rfl d_S_askTo_63 ?_
            refine va_get (D := (dC, dI)) (ci := 0) (v := .ref (a 7)) (C := R_F) (T := T_F) (N := 8) hx hb ht in_F hown hK hP 2 rfl rfl 4 (by decide) (ht _ k_35) (fun _ h => h) rfl d_S_askTo_66 ?_
            refine lv_iload_n hx hb d_S_askTo_69 rfl (lv_at hl 3 rfl) ?_
            refine va_iald hx hb hK hP 7 4 rfl rfl he d_S_askTo_70 ?_
            refine va_iald hx hb hK hP 11 8 rfl rfl (Tr_in tz) d_S_askTo_71 ?_
            refine lv_if_ne (tgt := 78) hx hb d_S_askTo_72 (by decide) (fun c8 => ?_) (fun c8 => ?_)
            · have c8 : ¬ c_rs u5 (ix (f_z (x_F X) (ix e))) = 0 := c8
              refine lv_aload_n hx hb d_S_askTo_78 rfl (lv_at hl 2 rfl) ?_
              refine va_get (D := (dC, dI)) (ci := 1) (v := .ref (a 12)) (C := R_S) (T := T_S) (N := 12) hx hb ht in_S hown hK hP 1 rfl rfl 3 (by decide) (ht _ k_65) (fun _ h => h) rfl d_S_askTo_79 ?_
              refine lv_iload_n hx hb d_S_askTo_82 rfl (lv_at hl 3 rfl) ?_
              refine lv_aload_n hx hb d_S_askTo_83 rfl (lv_at hl 2 rfl) ?_
              refine va_get (D := (dC, dI)) (ci := 1) (v := .ref (a 11)) (C := R_S) (T := T_S) (N := 12) hx hb ht in_S hown hK hP 1 rfl rfl 2 (by decide) (ht _ k_64) (fun _ h => h) rfl d_S_askTo_84 ?_
              refine lv_aload_n hx hb d_S_askTo_87 rfl (lv_at hl 2 rfl) ?_
              refine va_get (D := (dC, dI)) (ci := 1) (v := .ref (a 2)) (C := R_S) (T := T_S) (N := 12) hx hb ht in_S hown hK hP 1 rfl rfl 0 (by decide) (ht _ k_61) (fun _ h => h) rfl d_S_askTo_88 ?_
              refine va_get (D := (dC, dI)) (ci := 0) (v := .ref (a 5)) (C := R_F) (T := T_F) (N := 8) hx hb ht in_F hown hK hP 2 rfl rfl 2 (by decide) (ht _ k_31) (fun _ h => h) rfl d_S_askTo_91 ?_
              refine lv_iload_n hx hb d_S_askTo_94 rfl (lv_at hl 3 rfl) ?_
              refine va_iald hx hb hK hP 5 2 rfl rfl he d_S_askTo_95 ?_
              refine va_iald hx hb hK hP 11 8 rfl rfl (Tr_in tx) d_S_askTo_96 ?_
              refine lv_i2l hx hb d_S_askTo_97 rfl ?_
              refine va_last hx hb hK hP hD hS 12 9 rfl rfl he d_S_askTo_98 (fun H locs hP hD hS => ?_)
              have hP : va_P (dC, dI) vwCl (wS a k X (s_ct u5 e ((c_rs u5 (ix (f_x (x_F X) (ix e)))).toInt64))) H := cP_S_ct hP
              have hD : va_D A (wS a k X (s_ct u5 e ((c_rs u5 (ix (f_x (x_F X) (ix e)))).toInt64))) := cD_S_ct hD
              refine lv_aload_n hx hb d_S_askTo_99 rfl (lv_at hl 2 rfl) ?_
              refine va_get (D := (dC, dI)) (ci := 1) (v := .ref (a 10)) (C := R_S) (T := T_S) (N := 12) hx hb ht in_S hown hK hP 1 rfl rfl 1 (by decide) (ht _ k_63) (fun _ h => h) rfl d_S_askTo_100 ?_
              refine lv_iload_n hx hb d_S_askTo_103 rfl (lv_at hl 3 rfl) ?_
              refine lv_iconst (v := 4) hx hb d_S_askTo_104 (by decide) ?_
              refine va_iast hx hb hK hP hD hS 10 7 rfl rfl he d_S_askTo_105 (fun H locs hP hD hS => ?_)
              have hP : va_P (dC, dI) vwCl (wS a k X (s_st (s_ct u5 e ((c_rs u5 (ix (f_x (x_F X) (ix e)))).toInt64)) e 4)) H := cP_S_st hP
              have hD : va_D A (wS a k X (s_st (s_ct u5 e ((c_rs u5 (ix (f_x (x_F X) (ix e)))).toInt64)) e 4)) := cD_S_st hD
              refine lv_aload_n hx hb d_S_askTo_106 rfl (lv_at hl 2 rfl) ?_
              refine lv_iload_n hx hb d_S_askTo_107 rfl (lv_at hl 3 rfl) ?_
              refine call_i (As := [.int e]) (rest := []) (ci := 1) (q0 := 1) (c_S_isUpToEnd l dC dI a k X (s_st (s_ct u5 e ((c_rs u5 (ix (f_x (x_F X) (ix e)))).toInt64)) e 4) e he (Tr_in ty) (Tr_in tz)) k_288 k_290 s_S_isUpToEnd k_2 k_291 ⟨rfl, pc_S_isUpToEnd.1, pc_S_isUpToEnd.2, pd_S_isUpToEnd⟩ rfl rfl rfl rfl rfl (rm_le (by omega) (by decide)) (Nat.le_of_ble_eq_true rfl) rfl hx hb hml hown ht hl.1 hP hK hD hS hA hN d_S_askTo_108 (fun r9 u10 H locs q11 hP hD hS => ?_)
              obtain ⟨⟨b12, rfl⟩ | ⟨b12, rfl⟩, q11⟩ := q11
              · rw [q11] at hP hD
                have hP : va_P (dC, dI) vwCl (wS a k X (s_st (s_ct u5 e ((c_rs u5 (ix (f_x (x_F X) (ix e)))).toInt64)) e 4)) H := hP
                have hD : va_D A (wS a k X (s_st (s_ct u5 e ((c_rs u5 (ix (f_x (x_F X) (ix e)))).toInt64)) e 4)) := hD
                refine lv_if_eq (tgt := 127) hx hb d_S_askTo_111 (by decide) (fun c13 => ?_) (fun c13 => ?_)
                · have c13 : (1 : Int32) = 0 := c13
                  exact absurd c13 (by decide)
                · have c13 : ¬ (1 : Int32) = 0 := c13
                  refine lv_aload_n hx hb d_S_askTo_114 rfl (lv_at hl 2 rfl) ?_
                  refine lv_iload_n hx hb d_S_askTo_115 rfl (lv_at hl 3 rfl) ?_
                  refine lv_aload_n hx hb d_S_askTo_116 rfl (lv_at hl 2 rfl) ?_
                  refine va_get (D := (dC, dI)) (ci := 1) (v := .ref (a 12)) (C := R_S) (T := T_S) (N := 12) hx hb ht in_S hown hK hP 1 rfl rfl 3 (by decide) (ht _ k_65) (fun _ h => h) rfl d_S_askTo_117 ?_
                  refine lv_iload_n hx hb d_S_askTo_120 rfl (lv_at hl 3 rfl) ?_
                  refine va_lald hx hb hK hP 12 9 rfl rfl he d_S_askTo_121 ?_
                  refine lv_l2i hx hb d_S_askTo_122 rfl ?_
                  refine call_i (As := [.int e, .int ((c_ct (s_st (s_ct u5 e ((c_rs u5 (ix (f_x (x_F X) (ix e)))).toInt64)) e 4) (ix e)).toInt32)]) (rest := []) (ci := 1) (q0 := 1) (c_S_giveForFuel l dC dI a k X (s_st (s_ct u5 e ((c_rs u5 (ix (f_x (x_F X) (ix e)))).toInt64)) e 4) e ((c_ct (s_st (s_ct u5 e ((c_rs u5 (ix (f_x (x_F X) (ix e)))).toInt64)) e 4) (ix e)).toInt32) he (wk_st (wk_ct hW6))) k_205 k_207 s_S_giveForFuel k_2 k_208 ⟨rfl, pc_S_giveForFuel.1, pc_S_giveForFuel.2, pd_S_giveForFuel⟩ rfl rfl rfl rfl rfl (rm_le (by omega) (by decide)) (Nat.le_of_ble_eq_true rfl) rfl hx hb hml hown ht hl.1 hP hK hD hS hA hN d_S_askTo_123 (fun r14 u15 H locs q16 hP hD hS => ?_)
                  obtain ⟨q16, hW16⟩ := q16
                  have hP : va_P (dC, dI) vwCl (wS a k X u15) H := hP
                  have hD : va_D A (wS a k X u15) := hD
                  exact ret_i (v := r14) hx hb hr hlocks hP hK hD hS d_S_askTo_126 ⟨by rw [← heq]; subst c7; simp [p_toL, c2, c3, c8, b12, q6, q16], hW16⟩
              · rw [q11] at hP hD
                have hP : va_P (dC, dI) vwCl (wS a k X (s_st (s_ct u5 e ((c_rs u5 (ix (f_x (x_F X) (ix e)))).toInt64)) e 4)) H := hP
                have hD : va_D A (wS a k X (s_st (s_ct u5 e ((c_rs u5 (ix (f_x (x_F X) (ix e)))).toInt64)) e 4)) := hD
                refine lv_if_eq (tgt := 127) hx hb d_S_askTo_111 (by decide) (fun c17 => ?_) (fun c17 => ?_)
                · have c17 : (0 : Int32) = 0 := c17
                  refine lv_aload_n hx hb d_S_askTo_127 rfl (lv_at hl 2 rfl) ?_
                  refine va_get (D := (dC, dI)) (ci := 1) (v := .ref (a 10)) (C := R_S) (T := T_S) (N := 12) hx hb ht in_S hown hK hP 1 rfl rfl 1 (by decide) (ht _ k_63) (fun _ h => h) rfl d_S_askTo_128 ?_
                  refine lv_iload_n hx hb d_S_askTo_131 rfl (lv_at hl 3 rfl) ?_
                  refine lv_iconst (v := 3) hx hb d_S_askTo_132 (by decide) ?_
                  refine va_iast hx hb hK hP hD hS 10 7 rfl rfl he d_S_askTo_133 (fun H locs hP hD hS => ?_)
                  have hP : va_P (dC, dI) vwCl (wS a k X (s_st (s_st (s_ct u5 e ((c_rs u5 (ix (f_x (x_F X) (ix e)))).toInt64)) e 4) e 3)) H := cP_S_st hP
                  have hD : va_D A (wS a k X (s_st (s_st (s_ct u5 e ((c_rs u5 (ix (f_x (x_F X) (ix e)))).toInt64)) e 4) e 3)) := cD_S_st hD
                  refine lv_iinc (k := 1) (v := ((nI n) + 1)) hx hb d_S_askTo_134 hl rfl rfl (by decide) (lv' := [(2, .int ((nI n) + 1)), (3, .int r4), (0, .ref (a 1)), (1, .int e)]) rfl (fun ls hl => ?_)
                  refine lv_goto (tgt := 2) hx hb d_S_askTo_137 (by decide) ?_
                  rw [← nI_succ] at hl
                  have hl : lv_has ls 4 [(2, .int (nI (n + 1))), (0, .ref (a 1)), (1, .int e)] := lv_sub hl [0, 2, 3] rfl
                  exact ih _ _ _ _ (n + 1) (by omega) (wk_st (wk_st (wk_ct hW6))) hP hD hS hl (by rw [← heq]; subst c7; simp [p_toL, c2, c3, c8, b12, q6])
                · have c17 : ¬ (0 : Int32) = 0 := c17
                  exact absurd c17 (by decide)
            · have c8 : c_rs u5 (ix (f_z (x_F X) (ix e))) = 0 := c8
              refine lv_bipush (v := (-3)) hx hb d_S_askTo_75 (by decide) ?_
              exact ret_i (v := (-3)) hx hb hr hlocks hP hK hD hS d_S_askTo_77 ⟨by rw [← heq]; subst c7; simp [p_toL, c2, c3, c8, q6], hW6⟩
          · have c7 : ¬ r4 = 1 := c7
            refine lv_iload_n hx hb d_S_askTo_56 rfl (lv_at hl 0 rfl) ?_
            exact ret_i (v := r4) hx hb hr hlocks hP hK hD hS d_S_askTo_57 ⟨by rw [← heq]; simp [p_toL, c2, c3, c7, q6], hW6⟩
        · have c3 : c_st s1 (ix e) = 4 := c3
          refine lv_aload_n hx hb d_S_askTo_18 rfl (lv_at hl 1 rfl) ?_
          refine va_get (D := (dC, dI)) (ci := 1) (v := .ref (a 12)) (C := R_S) (T := T_S) (N := 12) hx hb ht in_S hown hK hP 1 rfl rfl 3 (by decide) (ht _ k_65) (fun _ h => h) rfl d_S_askTo_19 ?_
          refine lv_iload_n hx hb d_S_askTo_22 rfl (lv_at hl 2 rfl) ?_
          refine lv_dup2_11 hx hb d_S_askTo_23 rfl rfl ?_
          refine va_lald hx hb hK hP 12 9 rfl rfl he d_S_askTo_24 ?_
          refine lv_aload_n hx hb d_S_askTo_25 rfl (lv_at hl 1 rfl) ?_
          refine va_get (D := (dC, dI)) (ci := 1) (v := .ref (a 11)) (C := R_S) (T := T_S) (N := 12) hx hb ht in_S hown hK hP 1 rfl rfl 2 (by decide) (ht _ k_64) (fun _ h => h) rfl d_S_askTo_26 ?_
          refine lv_aload_n hx hb d_S_askTo_29 rfl (lv_at hl 1 rfl) ?_
          refine va_get (D := (dC, dI)) (ci := 1) (v := .ref (a 2)) (C := R_S) (T := T_S) (N := 12) hx hb ht in_S hown hK hP 1 rfl rfl 0 (by decide) (ht _ k_61) (fun _ h => h) rfl d_S_askTo_30 ?_
          refine va_get (D := (dC, dI)) (ci := 0) (v := .ref (a 7)) (C := R_F) (T := T_F) (N := 8) hx hb ht in_F hown hK hP 2 rfl rfl 4 (by decide) (ht _ k_35) (fun _ h => h) rfl d_S_askTo_33 ?_
          refine lv_iload_n hx hb d_S_askTo_36 rfl (lv_at hl 2 rfl) ?_
          refine va_iald hx hb hK hP 7 4 rfl rfl he d_S_askTo_37 ?_
          refine va_iald hx hb hK hP 11 8 rfl rfl (Tr_in tz) d_S_askTo_38 ?_
          refine lv_i2l hx hb d_S_askTo_39 rfl ?_
          refine lv_ladd hx hb d_S_askTo_40 ?_
          refine va_last hx hb hK hP hD hS 12 9 rfl rfl he d_S_askTo_41 (fun H locs hP hD hS => ?_)
          have hP : va_P (dC, dI) vwCl (wS a k X (s_ct s1 e (c_ct s1 (ix e) + (c_rs s1 (ix (f_z (x_F X) (ix e)))).toInt64))) H := cP_S_ct hP
          have hD : va_D A (wS a k X (s_ct s1 e (c_ct s1 (ix e) + (c_rs s1 (ix (f_z (x_F X) (ix e)))).toInt64))) := cD_S_ct hD
          refine lv_goto (tgt := 106) hx hb d_S_askTo_42 (by decide) ?_
          refine lv_aload_n hx hb d_S_askTo_106 rfl (lv_at hl 1 rfl) ?_
          refine lv_iload_n hx hb d_S_askTo_107 rfl (lv_at hl 2 rfl) ?_
          refine call_i (As := [.int e]) (rest := []) (ci := 1) (q0 := 1) (c_S_isUpToEnd l dC dI a k X (s_ct s1 e (c_ct s1 (ix e) + (c_rs s1 (ix (f_z (x_F X) (ix e)))).toInt64)) e he (Tr_in ty) (Tr_in tz)) k_288 k_290 s_S_isUpToEnd k_2 k_291 ⟨rfl, pc_S_isUpToEnd.1, pc_S_isUpToEnd.2, pd_S_isUpToEnd⟩ rfl rfl rfl rfl rfl (rm_le (by omega) (by decide)) (Nat.le_of_ble_eq_true rfl) rfl hx hb hml hown ht hl.1 hP hK hD hS hA hN d_S_askTo_108 (fun r18 u19 H locs q20 hP hD hS => ?_)
          obtain ⟨⟨b21, rfl⟩ | ⟨b21, rfl⟩, q20⟩ := q20
          · rw [q20] at hP hD
            have hP : va_P (dC, dI) vwCl (wS a k X (s_ct s1 e (c_ct s1 (ix e) + (c_rs s1 (ix (f_z (x_F X) (ix e)))).toInt64))) H := hP
            have hD : va_D A (wS a k X (s_ct s1 e (c_ct s1 (ix e) + (c_rs s1 (ix (f_z (x_F X) (ix e)))).toInt64))) := hD
            refine lv_if_eq (tgt := 127) hx hb d_S_askTo_111 (by decide) (fun c22 => ?_) (fun c22 => ?_)
            · have c22 : (1 : Int32) = 0 := c22
              exact absurd c22 (by decide)
            · have c22 : ¬ (1 : Int32) = 0 := c22
              refine lv_aload_n hx hb d_S_askTo_114 rfl (lv_at hl 1 rfl) ?_
              refine lv_iload_n hx hb d_S_askTo_115 rfl (lv_at hl 2 rfl) ?_
              refine lv_aload_n hx hb d_S_askTo_116 rfl (lv_at hl 1 rfl) ?_
              refine va_get (D := (dC, dI)) (ci := 1) (v := .ref (a 12)) (C := R_S) (T := T_S) (N := 12) hx hb ht in_S hown hK hP 1 rfl rfl 3 (by decide) (ht _ k_65) (fun _ h => h) rfl d_S_askTo_117 ?_
              refine lv_iload_n hx hb d_S_askTo_120 rfl (lv_at hl 2 rfl) ?_
              refine va_lald hx hb hK hP 12 9 rfl rfl he d_S_askTo_121 ?_
              refine lv_l2i hx hb d_S_askTo_122 rfl ?_
              refine call_i (As := [.int e, .int ((c_ct (s_ct s1 e (c_ct s1 (ix e) + (c_rs s1 (ix (f_z (x_F X) (ix e)))).toInt64)) (ix e)).toInt32)]) (rest := []) (ci := 1) (q0 := 1) (c_S_giveForFuel l dC dI a k X (s_ct s1 e (c_ct s1 (ix e) + (c_rs s1 (ix (f_z (x_F X) (ix e)))).toInt64)) e ((c_ct (s_ct s1 e (c_ct s1 (ix e) + (c_rs s1 (ix (f_z (x_F X) (ix e)))).toInt64)) (ix e)).toInt32) he (wk_ct hW)) k_205 k_207 s_S_giveForFuel k_2 k_208 ⟨rfl, pc_S_giveForFuel.1, pc_S_giveForFuel.2, pd_S_giveForFuel⟩ rfl rfl rfl rfl rfl (rm_le (by omega) (by decide)) (Nat.le_of_ble_eq_true rfl) rfl hx hb hml hown ht hl.1 hP hK hD hS hA hN d_S_askTo_123 (fun r23 u24 H locs q25 hP hD hS => ?_)
              obtain ⟨q25, hW25⟩ := q25
              have hP : va_P (dC, dI) vwCl (wS a k X u24) H := hP
              have hD : va_D A (wS a k X u24) := hD
              exact ret_i (v := r23) hx hb hr hlocks hP hK hD hS d_S_askTo_126 ⟨by rw [← heq]; simp [p_toL, c2, c3, b21, q25], hW25⟩
          · rw [q20] at hP hD
            have hP : va_P (dC, dI) vwCl (wS a k X (s_ct s1 e (c_ct s1 (ix e) + (c_rs s1 (ix (f_z (x_F X) (ix e)))).toInt64))) H := hP
            have hD : va_D A (wS a k X (s_ct s1 e (c_ct s1 (ix e) + (c_rs s1 (ix (f_z (x_F X) (ix e)))).toInt64))) := hD
            refine lv_if_eq (tgt := 127) hx hb d_S_askTo_111 (by decide) (fun c26 => ?_) (fun c26 => ?_)
            · have c26 : (0 : Int32) = 0 := c26
              refine lv_aload_n hx hb d_S_askTo_127 rfl (lv_at hl 1 rfl) ?_
              refine va_get (D := (dC, dI)) (ci := 1) (v := .ref (a 10)) (C := R_S) (T := T_S) (N := 12) hx hb ht in_S hown hK hP 1 rfl rfl 1 (by decide) (ht _ k_63) (fun _ h => h) rfl d_S_askTo_128 ?_
              refine lv_iload_n hx hb d_S_askTo_131 rfl (lv_at hl 2 rfl) ?_
              refine lv_iconst (v := 3) hx hb d_S_askTo_132 (by decide) ?_
              refine va_iast hx hb hK hP hD hS 10 7 rfl rfl he d_S_askTo_133 (fun H locs hP hD hS => ?_)
              have hP : va_P (dC, dI) vwCl (wS a k X (s_st (s_ct s1 e (c_ct s1 (ix e) + (c_rs s1 (ix (f_z (x_F X) (ix e)))).toInt64)) e 3)) H := cP_S_st hP
              have hD : va_D A (wS a k X (s_st (s_ct s1 e (c_ct s1 (ix e) + (c_rs s1 (ix (f_z (x_F X) (ix e)))).toInt64)) e 3)) := cD_S_st hD
              refine lv_iinc (k := 0) (v := ((nI n) + 1)) hx hb d_S_askTo_134 hl rfl rfl (by decide) (lv' := [(2, .int ((nI n) + 1)), (0, .ref (a 1)), (1, .int e)]) rfl (fun ls hl => ?_)
              refine lv_goto (tgt := 2) hx hb d_S_askTo_137 (by decide) ?_
              rw [← nI_succ] at hl
              have hl : lv_has ls 4 [(2, .int (nI (n + 1))), (0, .ref (a 1)), (1, .int e)] := lv_sub hl [0, 1, 2] rfl
              exact ih _ _ _ _ (n + 1) (by omega) (wk_st (wk_ct hW)) hP hD hS hl (by rw [← heq]; simp [p_toL, c2, c3, b21])
            · have c26 : ¬ (0 : Int32) = 0 := c26
              exact absurd c26 (by decide)
  exact loop M s _ _ _ 0 (by omega) hW hP hD hS hl rfl
