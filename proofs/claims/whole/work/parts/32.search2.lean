set_option maxRecDepth 100000 in
set_option maxHeartbeats 4000000 in
theorem c_S_askAssign (l : Launch) (dC : Nat → ClassId) (dI : Nat → Nat → Nat) (a : Nat → Nat) (k : Nat → ClassId) (X : zX) (T : zT) (M d : Nat) (hAsk : AskOK l dC dI a k X T M d) (s : zC) (e : Int32) (he : vp_in e 60) (tx : Tr (x_F X) T d (f_x (x_F X) (ix e))) (hn : vp_in (f_n (x_F X) (ix e)) 8) (hW : Wk s) : MetI l y_S_askAssign w_S_askAssign (rmN (5 * d + 5)) dC dI (yX k) (wS a k X) [.ref (a 1), .int e] s (fun r u => p_assign (x_F X) (p_all (x_F X) M d) e s = (r, u) ∧ Wk u) := by
  refine metI_of (cc := b_S_askAssign) (maxL := 3) (ret := (some .int)) (by decide) rfl (Nat.le_of_ble_eq_true rfl) ?_
  intro p e9 s9 m args below meth c A ls hx hb hr hts hown hlocks hml hA hP hK hD hS hN hl
  have ht : ∀ w ∈ lw_g, w.before args s9 = true := fun w h => hts w (List.mem_cons_of_mem _ h)
  have hl : lv_has ls 3 [(0, .ref (a 1)), (1, .int e)] := hl
  refine lv_aload_n hx hb d_S_askAssign_0 rfl (lv_at hl 0 rfl) ?_
  refine lv_iload_n hx hb d_S_askAssign_1 rfl (lv_at hl 1 rfl) ?_
  refine lv_aload_n hx hb d_S_askAssign_2 rfl (lv_at hl 0 rfl) ?_
  refine va_get (D := (dC, dI)) (ci := 1) (v := .ref (a 2)) (C := R_S) (T := T_S) (N := 12) hx hb ht in_S hown hK hP 1 rfl rfl 0 (by decide) (ht _ k_61) (fun _ h => h) rfl d_S_askAssign_3 ?_
  refine va_get (D := (dC, dI)) (ci := 0) (v := .ref (a 5)) (C := R_F) (T := T_F) (N := 8) hx hb ht in_F hown hK hP 2 rfl rfl 2 (by decide) (ht _ k_31) (fun _ h => h) rfl d_S_askAssign_6 ?_
  refine lv_iload_n hx hb d_S_askAssign_9 rfl (lv_at hl 1 rfl) ?_
  refine va_iald hx hb hK hP 5 2 rfl rfl he d_S_askAssign_10 ?_
  refine lv_aload_n hx hb d_S_askAssign_11 rfl (lv_at hl 0 rfl) ?_
  refine lv_iload_n hx hb d_S_askAssign_12 rfl (lv_at hl 1 rfl) ?_
  refine call_i (As := [.int e]) (rest := [.int (f_x (x_F X) (ix e)), .int e, .ref (a 1)]) (ci := 1) (q0 := 1) (c_S_askX l dC dI a k X T M d hAsk s e he tx hW) k_217 k_219 s_S_askX k_2 k_220 ⟨rfl, pc_S_askX.1, pc_S_askX.2, pd_S_askX⟩ rfl rfl rfl rfl rfl (rm_le (by omega) (by decide)) (Nat.le_of_ble_eq_true rfl) rfl hx hb hml hown ht hl.1 hP hK hD hS hA hN d_S_askAssign_13 (fun r1 u2 H locs q3 hP hD hS => ?_)
  obtain ⟨q3, hW3⟩ := q3
  have hP : va_P (dC, dI) vwCl (wS a k X u2) H := hP
  have hD : va_D A (wS a k X u2) := hD
  refine call_i (As := [.int e, .int (f_x (x_F X) (ix e)), .int r1]) (rest := []) (ci := 1) (q0 := 1) (c_S_handUp l dC dI a k X u2 e (f_x (x_F X) (ix e)) r1 he (Tr_in tx) hW3) k_221 k_223 s_S_handUp k_2 k_224 ⟨rfl, pc_S_handUp.1, pc_S_handUp.2, pd_S_handUp⟩ rfl rfl rfl rfl rfl (rm_le (by omega) (by decide)) (Nat.le_of_ble_eq_true rfl) rfl hx hb hml hown ht hl.1 hP hK hD hS hA hN d_S_askAssign_16 (fun r4 u5 H locs q6 hP hD hS => ?_)
  obtain ⟨q6, hW6⟩ := q6
  have hP : va_P (dC, dI) vwCl (wS a k X u5) H := hP
  have hD : va_D A (wS a k X u5) := hD
  refine lv_istore_n hx hb d_S_askAssign_19 rfl hl (by decide) (lv' := [(2, .int r4), (0, .ref (a 1)), (1, .int e)]) rfl (fun ls hl => ?_)
  refine lv_iload_n hx hb d_S_askAssign_20 rfl (lv_at hl 0 rfl) ?_
  refine lv_iconst (v := 1) hx hb d_S_askAssign_21 (by decide) ?_
  refine lv_icmp_ne (tgt := 45) hx hb d_S_askAssign_22 (by decide) (fun c7 => ?_) (fun c7 => ?_)
  · have c7 : ¬ r4 = 1 := c7
    refine lv_iload_n hx hb d_S_askAssign_45 rfl (lv_at hl 0 rfl) ?_
    exact ret_i (v := r4) hx hb hr hlocks hP hK hD hS d_S_askAssign_46 ⟨by simp [p_assign, c7, q3, q6], hW6⟩
  · have c7 : r4 = 1 := c7
    refine lv_aload_n hx hb d_S_askAssign_25 rfl (lv_at hl 1 rfl) ?_
    refine va_get (D := (dC, dI)) (ci := 1) (v := .ref (a 13)) (C := R_S) (T := T_S) (N := 12) hx hb ht in_S hown hK hP 1 rfl rfl 4 (by decide) (ht _ k_66) (fun _ h => h) rfl d_S_askAssign_26 ?_
    refine lv_aload_n hx hb d_S_askAssign_29 rfl (lv_at hl 1 rfl) ?_
    refine va_get (D := (dC, dI)) (ci := 1) (v := .ref (a 2)) (C := R_S) (T := T_S) (N := 12) hx hb ht in_S hown hK hP 1 rfl rfl 0 (by decide) (ht _ k_61) (fun _ h => h) rfl d_S_askAssign_30 ?_
    refine va_get (D := (dC, dI)) (ci := 0) (v := .ref (a 4)) (C := R_F) (T := T_F) (N := 8) hx hb ht in_F hown hK hP 2 rfl rfl 1 (by decide) (ht _ k_29) (fun _ h => h) rfl d_S_askAssign_33 ?_
    refine lv_iload_n hx hb d_S_askAssign_36 rfl (lv_at hl 2 rfl) ?_
    refine va_iald hx hb hK hP 4 1 rfl rfl he d_S_askAssign_37 ?_
    refine lv_aload_n hx hb d_S_askAssign_38 rfl (lv_at hl 1 rfl) ?_
    refine va_get (D := (dC, dI)) (ci := 1) (v := .ref (a 11)) (C := R_S) (T := T_S) (N := 12) hx hb ht in_S hown hK hP 1 rfl rfl 2 (by decide) (ht _ k_64) (fun _ h => h) rfl d_S_askAssign_39 ?_
    refine lv_iload_n hx hb d_S_askAssign_42 rfl (lv_at hl 2 rfl) ?_
    refine va_iald hx hb hK hP 11 8 rfl rfl he d_S_askAssign_43 ?_
    refine va_iast hx hb hK hP hD hS 13 10 rfl rfl hn d_S_askAssign_44 (fun H locs hP hD hS => ?_)
    have hP : va_P (dC, dI) vwCl (wS a k X (s_g u5 (h_va (c_g u5) (f_n (x_F X) (ix e)) (c_rs u5 (ix e))))) H := cP_S_va hP
    have hD : va_D A (wS a k X (s_g u5 (h_va (c_g u5) (f_n (x_F X) (ix e)) (c_rs u5 (ix e))))) := cD_S_va hD
    refine lv_iload_n hx hb d_S_askAssign_45 rfl (lv_at hl 0 rfl) ?_
    exact ret_i (v := r4) hx hb hr hlocks hP hK hD hS d_S_askAssign_46 ⟨by subst c7; simp [p_assign, q3, q6], (wk_va hW6)⟩
set_option maxRecDepth 100000 in
set_option maxHeartbeats 4000000 in
theorem c_S_askWrite (l : Launch) (dC : Nat → ClassId) (dI : Nat → Nat → Nat) (a : Nat → Nat) (k : Nat → ClassId) (X : zX) (T : zT) (M d : Nat) (hAsk : AskOK l dC dI a k X T M d) (s : zC) (e : Int32) (he : vp_in e 60) (tx : Tr (x_F X) T d (f_x (x_F X) (ix e))) (hW : Wk s) : MetI l y_S_askWrite w_S_askWrite (rmN (5 * d + 5)) dC dI (yX k) (wS a k X) [.ref (a 1), .int e] s (fun r u => p_write (x_F X) (p_all (x_F X) M d) e s = (r, u) ∧ Wk u) := by
  refine metI_of (cc := b_S_askWrite) (maxL := 3) (ret := (some .int)) (by decide) rfl (Nat.le_of_ble_eq_true rfl) ?_
  intro p e9 s9 m args below meth c A ls hx hb hr hts hown hlocks hml hA hP hK hD hS hN hl
  have ht : ∀ w ∈ lw_g, w.before args s9 = true := fun w h => hts w (List.mem_cons_of_mem _ h)
  have hl : lv_has ls 3 [(0, .ref (a 1)), (1, .int e)] := hl
  refine lv_aload_n hx hb d_S_askWrite_0 rfl (lv_at hl 0 rfl) ?_
  refine lv_iload_n hx hb d_S_askWrite_1 rfl (lv_at hl 1 rfl) ?_
  refine lv_aload_n hx hb d_S_askWrite_2 rfl (lv_at hl 0 rfl) ?_
  refine va_get (D := (dC, dI)) (ci := 1) (v := .ref (a 2)) (C := R_S) (T := T_S) (N := 12) hx hb ht in_S hown hK hP 1 rfl rfl 0 (by decide) (ht _ k_61) (fun _ h => h) rfl d_S_askWrite_3 ?_
  refine va_get (D := (dC, dI)) (ci := 0) (v := .ref (a 5)) (C := R_F) (T := T_F) (N := 8) hx hb ht in_F hown hK hP 2 rfl rfl 2 (by decide) (ht _ k_31) (fun _ h => h) rfl d_S_askWrite_6 ?_
  refine lv_iload_n hx hb d_S_askWrite_9 rfl (lv_at hl 1 rfl) ?_
  refine va_iald hx hb hK hP 5 2 rfl rfl he d_S_askWrite_10 ?_
  refine lv_aload_n hx hb d_S_askWrite_11 rfl (lv_at hl 0 rfl) ?_
  refine lv_iload_n hx hb d_S_askWrite_12 rfl (lv_at hl 1 rfl) ?_
  refine call_i (As := [.int e]) (rest := [.int (f_x (x_F X) (ix e)), .int e, .ref (a 1)]) (ci := 1) (q0 := 1) (c_S_askX l dC dI a k X T M d hAsk s e he tx hW) k_217 k_219 s_S_askX k_2 k_220 ⟨rfl, pc_S_askX.1, pc_S_askX.2, pd_S_askX⟩ rfl rfl rfl rfl rfl (rm_le (by omega) (by decide)) (Nat.le_of_ble_eq_true rfl) rfl hx hb hml hown ht hl.1 hP hK hD hS hA hN d_S_askWrite_13 (fun r1 u2 H locs q3 hP hD hS => ?_)
  obtain ⟨q3, hW3⟩ := q3
  have hP : va_P (dC, dI) vwCl (wS a k X u2) H := hP
  have hD : va_D A (wS a k X u2) := hD
  refine call_i (As := [.int e, .int (f_x (x_F X) (ix e)), .int r1]) (rest := []) (ci := 1) (q0 := 1) (c_S_handUp l dC dI a k X u2 e (f_x (x_F X) (ix e)) r1 he (Tr_in tx) hW3) k_221 k_223 s_S_handUp k_2 k_224 ⟨rfl, pc_S_handUp.1, pc_S_handUp.2, pd_S_handUp⟩ rfl rfl rfl rfl rfl (rm_le (by omega) (by decide)) (Nat.le_of_ble_eq_true rfl) rfl hx hb hml hown ht hl.1 hP hK hD hS hA hN d_S_askWrite_16 (fun r4 u5 H locs q6 hP hD hS => ?_)
  obtain ⟨q6, hW6⟩ := q6
  have hP : va_P (dC, dI) vwCl (wS a k X u5) H := hP
  have hD : va_D A (wS a k X u5) := hD
  refine lv_istore_n hx hb d_S_askWrite_19 rfl hl (by decide) (lv' := [(2, .int r4), (0, .ref (a 1)), (1, .int e)]) rfl (fun ls hl => ?_)
  refine lv_iload_n hx hb d_S_askWrite_20 rfl (lv_at hl 0 rfl) ?_
  refine lv_iconst (v := 1) hx hb d_S_askWrite_21 (by decide) ?_
  refine lv_icmp_eq (tgt := 27) hx hb d_S_askWrite_22 (by decide) (fun c7 => ?_) (fun c7 => ?_)
  · have c7 : r4 = 1 := c7
    refine lv_aload_n hx hb d_S_askWrite_27 rfl (lv_at hl 1 rfl) ?_
    refine va_get (D := (dC, dI)) (ci := 1) (v := .int (g_wc (c_g u5))) (C := R_S) (T := T_S) (N := 12) hx hb ht in_S hown hK hP 1 rfl rfl 6 (by decide) (ht _ k_70) (fun _ h => h) rfl d_S_askWrite_28 ?_
    refine lv_bipush (v := 32) hx hb d_S_askWrite_31 (by decide) ?_
    refine lv_icmp_lt (tgt := 39) hx hb d_S_askWrite_33 (by decide) (fun c8 => ?_) (fun c8 => ?_)
    · have c8 : g_wc (c_g u5) < 32 := c8
      refine lv_aload_n hx hb d_S_askWrite_39 rfl (lv_at hl 1 rfl) ?_
      refine va_get (D := (dC, dI)) (ci := 1) (v := .ref (a 14)) (C := R_S) (T := T_S) (N := 12) hx hb ht in_S hown hK hP 1 rfl rfl 5 (by decide) (ht _ k_68) (fun _ h => h) rfl d_S_askWrite_40 ?_
      refine lv_aload_n hx hb d_S_askWrite_43 rfl (lv_at hl 1 rfl) ?_
      refine va_get (D := (dC, dI)) (ci := 1) (v := .int (g_wc (c_g u5))) (C := R_S) (T := T_S) (N := 12) hx hb ht in_S hown hK hP 1 rfl rfl 6 (by decide) (ht _ k_70) (fun _ h => h) rfl d_S_askWrite_44 ?_
      refine lv_aload_n hx hb d_S_askWrite_47 rfl (lv_at hl 1 rfl) ?_
      refine va_get (D := (dC, dI)) (ci := 1) (v := .ref (a 11)) (C := R_S) (T := T_S) (N := 12) hx hb ht in_S hown hK hP 1 rfl rfl 2 (by decide) (ht _ k_64) (fun _ h => h) rfl d_S_askWrite_48 ?_
      refine lv_iload_n hx hb d_S_askWrite_51 rfl (lv_at hl 2 rfl) ?_
      refine va_iald hx hb hK hP 11 8 rfl rfl he d_S_askWrite_52 ?_
      refine va_iast hx hb hK hP hD hS 14 11 rfl rfl (wk_in hW6 c8) d_S_askWrite_53 (fun H locs hP hD hS => ?_)
      have hP : va_P (dC, dI) vwCl (wS a k X (s_g u5 (h_w0 (c_g u5) (g_wc (c_g u5)) (c_rs u5 (ix e))))) H := cP_S_w0 hP
      have hD : va_D A (wS a k X (s_g u5 (h_w0 (c_g u5) (g_wc (c_g u5)) (c_rs u5 (ix e))))) := cD_S_w0 hD
      refine lv_aload_n hx hb d_S_askWrite_54 rfl (lv_at hl 1 rfl) ?_
      refine lv_dup hx hb d_S_askWrite_55 rfl ?_
      refine va_get (D := (dC, dI)) (ci := 1) (v := .int (g_wc (c_g (s_g u5 (h_w0 (c_g u5) (g_wc (c_g u5)) (c_rs u5 (ix e))))))) (C := R_S) (T := T_S) (N := 12) hx hb ht in_S hown hK hP 1 rfl rfl 6 (by decide) (ht _ k_70) (fun _ h => h) rfl d_S_askWrite_56 ?_
      refine lv_iconst (v := 1) hx hb d_S_askWrite_59 (by decide) ?_
      refine lv_iadd hx hb d_S_askWrite_60 ?_
      refine va_put (D := (dC, dI)) (ci := 1) (v := .int (g_wc (c_g (s_g u5 (h_w0 (c_g u5) (g_wc (c_g u5)) (c_rs u5 (ix e))))) + 1)) (ty := .int) (C := R_S) (T := T_S) (N := 12) hx hb ht in_S t_S t_S_ok n_S hown hK hP hD hS 1 rfl rfl 6 (by decide) (ht _ k_70) (fun _ h => h) rfl (by decide +kernel) rfl rfl (Nat.le_of_ble_eq_true rfl) d_S_askWrite_61 (fun H locs hP hD hS => ?_)
      have hP : va_P (dC, dI) vwCl (wS a k X (s_g (s_g u5 (h_w0 (c_g u5) (g_wc (c_g u5)) (c_rs u5 (ix e)))) (h_w1 (c_g (s_g u5 (h_w0 (c_g u5) (g_wc (c_g u5)) (c_rs u5 (ix e)))))))) H := cP_S_w1 hP
      have hD : va_D A (wS a k X (s_g (s_g u5 (h_w0 (c_g u5) (g_wc (c_g u5)) (c_rs u5 (ix e)))) (h_w1 (c_g (s_g u5 (h_w0 (c_g u5) (g_wc (c_g u5)) (c_rs u5 (ix e)))))))) := cD_S_w1 hD
      refine lv_iconst (v := 1) hx hb d_S_askWrite_64 (by decide) ?_
      exact ret_i (v := 1) hx hb hr hlocks hP hK hD hS d_S_askWrite_65 ⟨by subst c7; simp [p_write, wr_eq, c8, q3, q6], (wk_up hW6 c8)⟩
    · have c8 : ¬ g_wc (c_g u5) < 32 := c8
      refine lv_bipush (v := (-6)) hx hb d_S_askWrite_36 (by decide) ?_
      exact ret_i (v := (-6)) hx hb hr hlocks hP hK hD hS d_S_askWrite_38 ⟨by subst c7; simp [p_write, wr_eq, c8, q3, q6], hW6⟩
  · have c7 : ¬ r4 = 1 := c7
    refine lv_iload_n hx hb d_S_askWrite_25 rfl (lv_at hl 0 rfl) ?_
    exact ret_i (v := r4) hx hb hr hlocks hP hK hD hS d_S_askWrite_26 ⟨by simp [p_write, wr_eq, c7, q3, q6], hW6⟩
set_option maxRecDepth 100000 in
set_option maxHeartbeats 4000000 in
theorem c_S_askNot (l : Launch) (dC : Nat → ClassId) (dI : Nat → Nat → Nat) (a : Nat → Nat) (k : Nat → ClassId) (X : zX) (T : zT) (M d : Nat) (hAsk : AskOK l dC dI a k X T M d) (s : zC) (e : Int32) (he : vp_in e 60) (tx : Tr (x_F X) T d (f_x (x_F X) (ix e))) (hW : Wk s) : MetI l y_S_askNot w_S_askNot (rmN (5 * d + 5)) dC dI (yX k) (wS a k X) [.ref (a 1), .int e] s (fun r u => p_not (x_F X) (p_all (x_F X) M d) e s = (r, u) ∧ Wk u) := by
  refine metI_of (cc := b_S_askNot) (maxL := 3) (ret := (some .int)) (by decide) rfl (Nat.le_of_ble_eq_true rfl) ?_
  intro p e9 s9 m args below meth c A ls hx hb hr hts hown hlocks hml hA hP hK hD hS hN hl
  have ht : ∀ w ∈ lw_g, w.before args s9 = true := fun w h => hts w (List.mem_cons_of_mem _ h)
  have hl : lv_has ls 3 [(0, .ref (a 1)), (1, .int e)] := hl
  refine lv_aload_n hx hb d_S_askNot_0 rfl (lv_at hl 0 rfl) ?_
  refine va_get (D := (dC, dI)) (ci := 1) (v := .ref (a 10)) (C := R_S) (T := T_S) (N := 12) hx hb ht in_S hown hK hP 1 rfl rfl 1 (by decide) (ht _ k_63) (fun _ h => h) rfl d_S_askNot_1 ?_
  refine lv_iload_n hx hb d_S_askNot_4 rfl (lv_at hl 1 rfl) ?_
  refine va_iald hx hb hK hP 10 7 rfl rfl he d_S_askNot_5 ?_
  refine lv_if_eq (tgt := 11) hx hb d_S_askNot_6 (by decide) (fun c1 => ?_) (fun c1 => ?_)
  · have c1 : c_st s (ix e) = 0 := c1
    refine lv_aload_n hx hb d_S_askNot_11 rfl (lv_at hl 0 rfl) ?_
    refine va_get (D := (dC, dI)) (ci := 1) (v := .ref (a 10)) (C := R_S) (T := T_S) (N := 12) hx hb ht in_S hown hK hP 1 rfl rfl 1 (by decide) (ht _ k_63) (fun _ h => h) rfl d_S_askNot_12 ?_
    refine lv_iload_n hx hb d_S_askNot_15 rfl (lv_at hl 1 rfl) ?_
    refine lv_iconst (v := 5) hx hb d_S_askNot_16 (by decide) ?_
    refine va_iast hx hb hK hP hD hS 10 7 rfl rfl he d_S_askNot_17 (fun H locs hP hD hS => ?_)
    have hP : va_P (dC, dI) vwCl (wS a k X (s_st s e 5)) H := cP_S_st hP
    have hD : va_D A (wS a k X (s_st s e 5)) := cD_S_st hD
    refine lv_aload_n hx hb d_S_askNot_18 rfl (lv_at hl 0 rfl) ?_
    refine lv_aload_n hx hb d_S_askNot_19 rfl (lv_at hl 0 rfl) ?_
    refine va_get (D := (dC, dI)) (ci := 1) (v := .ref (a 2)) (C := R_S) (T := T_S) (N := 12) hx hb ht in_S hown hK hP 1 rfl rfl 0 (by decide) (ht _ k_61) (fun _ h => h) rfl d_S_askNot_20 ?_
    refine va_get (D := (dC, dI)) (ci := 0) (v := .ref (a 5)) (C := R_F) (T := T_F) (N := 8) hx hb ht in_F hown hK hP 2 rfl rfl 2 (by decide) (ht _ k_31) (fun _ h => h) rfl d_S_askNot_23 ?_
    refine lv_iload_n hx hb d_S_askNot_26 rfl (lv_at hl 1 rfl) ?_
    refine va_iald hx hb hK hP 5 2 rfl rfl he d_S_askNot_27 ?_
    refine call_i (As := [.int (f_x (x_F X) (ix e))]) (rest := []) (ci := 1) (q0 := 1) (c_S_tryOnce l dC dI a k X T M d hAsk (s_st s e 5) (f_x (x_F X) (ix e)) tx (wk_st hW)) k_233 k_235 s_S_tryOnce k_2 k_236 ⟨rfl, pc_S_tryOnce.1, pc_S_tryOnce.2, pd_S_tryOnce⟩ rfl rfl rfl rfl rfl (rm_le (by omega) (by decide)) (Nat.le_of_ble_eq_true rfl) rfl hx hb hml hown ht hl.1 hP hK hD hS hA hN d_S_askNot_28 (fun r2 u3 H locs q4 hP hD hS => ?_)
    obtain ⟨q4, hW4⟩ := q4
    have hP : va_P (dC, dI) vwCl (wS a k X u3) H := hP
    have hD : va_D A (wS a k X u3) := hD
    refine lv_istore_n hx hb d_S_askNot_31 rfl hl (by decide) (lv' := [(2, .int r2), (0, .ref (a 1)), (1, .int e)]) rfl (fun ls hl => ?_)
    refine lv_iload_n hx hb d_S_askNot_32 rfl (lv_at hl 0 rfl) ?_
    refine lv_iconst (v := 1) hx hb d_S_askNot_33 (by decide) ?_
    refine lv_icmp_ne (tgt := 39) hx hb d_S_askNot_34 (by decide) (fun c5 => ?_) (fun c5 => ?_)
    · have c5 : ¬ r2 = 1 := c5
      refine lv_iload_n hx hb d_S_askNot_39 rfl (lv_at hl 0 rfl) ?_
      refine lv_if_ne (tgt := 52) hx hb d_S_askNot_40 (by decide) (fun c6 => ?_) (fun c6 => ?_)
      · have c6 : ¬ r2 = 0 := c6
        refine lv_iload_n hx hb d_S_askNot_52 rfl (lv_at hl 0 rfl) ?_
        exact ret_i (v := r2) hx hb hr hlocks hP hK hD hS d_S_askNot_53 ⟨by simp [p_not, c1, c5, c6, q4], hW4⟩
      · have c6 : r2 = 0 := c6
        refine lv_aload_n hx hb d_S_askNot_43 rfl (lv_at hl 1 rfl) ?_
        refine lv_iload_n hx hb d_S_askNot_44 rfl (lv_at hl 2 rfl) ?_
        refine lv_iconst (v := 0) hx hb d_S_askNot_45 (by decide) ?_
        refine call_i (As := [.int e, .int 0]) (rest := []) (ci := 1) (q0 := 1) (c_S_give l dC dI a k X u3 e 0 he hW4) k_209 k_211 s_S_give k_2 k_212 ⟨rfl, pc_S_give.1, pc_S_give.2, pd_S_give⟩ rfl rfl rfl rfl rfl (rm_le (by omega) (by decide)) (Nat.le_of_ble_eq_true rfl) rfl hx hb hml hown ht hl.1 hP hK hD hS hA hN d_S_askNot_46 (fun r7 u8 H locs q9 hP hD hS => ?_)
        obtain ⟨q9, hW9⟩ := q9
        have hP : va_P (dC, dI) vwCl (wS a k X u8) H := hP
        have hD : va_D A (wS a k X u8) := hD
        refine lv_goto (tgt := 53) hx hb d_S_askNot_49 (by decide) ?_
        exact ret_i (v := r7) hx hb hr hlocks hP hK hD hS d_S_askNot_53 ⟨by subst c6; simp [p_not, c1, c5, q4, q9], hW9⟩
    · have c5 : r2 = 1 := c5
      refine lv_iconst (v := 0) hx hb d_S_askNot_37 (by decide) ?_
      exact ret_i (v := 0) hx hb hr hlocks hP hK hD hS d_S_askNot_38 ⟨by subst c5; simp [p_not, c1, q4], hW4⟩
  · have c1 : ¬ c_st s (ix e) = 0 := c1
    refine lv_iconst (v := 0) hx hb d_S_askNot_9 (by decide) ?_
    exact ret_i (v := 0) hx hb hr hlocks hP hK hD hS d_S_askNot_10 ⟨by simp [p_not, c1], hW⟩
set_option maxRecDepth 100000 in
set_option maxHeartbeats 4000000 in
theorem c_S_askAgain (l : Launch) (dC : Nat → ClassId) (dI : Nat → Nat → Nat) (a : Nat → Nat) (k : Nat → ClassId) (X : zX) (T : zT) (M d : Nat) (hAsk : AskOK l dC dI a k X T M d) (s : zC) (e : Int32) (he : vp_in e 60) (tx : Tr (x_F X) T d (f_x (x_F X) (ix e))) (hW : Wk s) : MetI l y_S_askAgain w_S_askAgain (rmN (5 * d + 5)) dC dI (yX k) (wS a k X) [.ref (a 1), .int e] s (fun r u => p_again (x_F X) (p_all (x_F X) M d) e s = (r, u) ∧ Wk u) := by
  refine metI_of (cc := b_S_askAgain) (maxL := 5) (ret := (some .int)) (by decide) rfl (Nat.le_of_ble_eq_true rfl) ?_
  intro p e9 s9 m args below meth c A ls hx hb hr hts hown hlocks hml hA hP hK hD hS hN hl
  have ht : ∀ w ∈ lw_g, w.before args s9 = true := fun w h => hts w (List.mem_cons_of_mem _ h)
  have hl : lv_has ls 5 [(0, .ref (a 1)), (1, .int e)] := hl
  refine lv_aload_n hx hb d_S_askAgain_0 rfl (lv_at hl 0 rfl) ?_
  refine va_get (D := (dC, dI)) (ci := 1) (v := .ref (a 2)) (C := R_S) (T := T_S) (N := 12) hx hb ht in_S hown hK hP 1 rfl rfl 0 (by decide) (ht _ k_61) (fun _ h => h) rfl d_S_askAgain_1 ?_
  refine va_get (D := (dC, dI)) (ci := 0) (v := .ref (a 5)) (C := R_F) (T := T_F) (N := 8) hx hb ht in_F hown hK hP 2 rfl rfl 2 (by decide) (ht _ k_31) (fun _ h => h) rfl d_S_askAgain_4 ?_
  refine lv_iload_n hx hb d_S_askAgain_7 rfl (lv_at hl 1 rfl) ?_
  refine va_iald hx hb hK hP 5 2 rfl rfl he d_S_askAgain_8 ?_
  refine lv_istore_n hx hb d_S_askAgain_9 rfl hl (by decide) (lv' := [(2, .int (f_x (x_F X) (ix e))), (0, .ref (a 1)), (1, .int e)]) rfl (fun ls hl => ?_)
  refine lv_aload_n hx hb d_S_askAgain_10 rfl (lv_at hl 1 rfl) ?_
  refine va_get (D := (dC, dI)) (ci := 1) (v := .ref (a 10)) (C := R_S) (T := T_S) (N := 12) hx hb ht in_S hown hK hP 1 rfl rfl 1 (by decide) (ht _ k_63) (fun _ h => h) rfl d_S_askAgain_11 ?_
  refine lv_iload_n hx hb d_S_askAgain_14 rfl (lv_at hl 2 rfl) ?_
  refine va_iald hx hb hK hP 10 7 rfl rfl he d_S_askAgain_15 ?_
  refine lv_if_eq (tgt := 23) hx hb d_S_askAgain_16 (by decide) (fun c1 => ?_) (fun c1 => ?_)
  · have c1 : c_st s (ix e) = 0 := c1
    refine lv_iconst (v := 0) hx hb d_S_askAgain_23 (by decide) ?_
    refine lv_istore_n hx hb d_S_askAgain_24 rfl hl (by decide) (lv' := [(3, .int 0), (2, .int (f_x (x_F X) (ix e))), (0, .ref (a 1)), (1, .int e)]) rfl (fun ls hl => ?_)
    refine lv_aload_n hx hb d_S_askAgain_25 rfl (lv_at hl 2 rfl) ?_
    refine lv_iload_n hx hb d_S_askAgain_26 rfl (lv_at hl 3 rfl) ?_
    refine call_i (As := [.int e]) (rest := []) (ci := 1) (q0 := 1) (c_S_askX l dC dI a k X T M d hAsk s e he tx hW) k_217 k_219 s_S_askX k_2 k_220 ⟨rfl, pc_S_askX.1, pc_S_askX.2, pd_S_askX⟩ rfl rfl rfl rfl rfl (rm_le (by omega) (by decide)) (Nat.le_of_ble_eq_true rfl) rfl hx hb hml hown ht hl.1 hP hK hD hS hA hN d_S_askAgain_27 (fun r2 u3 H locs q4 hP hD hS => ?_)
    obtain ⟨q4, hW4⟩ := q4
    have hP : va_P (dC, dI) vwCl (wS a k X u3) H := hP
    have hD : va_D A (wS a k X u3) := hD
    refine lv_istore hx hb d_S_askAgain_30 hl (by decide) (lv' := [(4, .int r2), (3, .int 0), (2, .int (f_x (x_F X) (ix e))), (0, .ref (a 1)), (1, .int e)]) rfl (fun ls hl => ?_)
    refine lv_iload hx hb d_S_askAgain_32 (lv_at hl 0 rfl) ?_
    refine lv_if_ne (tgt := 48) hx hb d_S_askAgain_34 (by decide) (fun c5 => ?_) (fun c5 => ?_)
    · have c5 : ¬ r2 = 0 := c5
      refine lv_aload_n hx hb d_S_askAgain_48 rfl (lv_at hl 3 rfl) ?_
      refine lv_iload_n hx hb d_S_askAgain_49 rfl (lv_at hl 4 rfl) ?_
      refine lv_iload_n hx hb d_S_askAgain_50 rfl (lv_at hl 2 rfl) ?_
      refine lv_iload hx hb d_S_askAgain_51 (lv_at hl 0 rfl) ?_
      refine call_i (As := [.int e, .int (f_x (x_F X) (ix e)), .int r2]) (rest := []) (ci := 1) (q0 := 1) (c_S_handUp l dC dI a k X u3 e (f_x (x_F X) (ix e)) r2 he (Tr_in tx) hW4) k_221 k_223 s_S_handUp k_2 k_224 ⟨rfl, pc_S_handUp.1, pc_S_handUp.2, pd_S_handUp⟩ rfl rfl rfl rfl rfl (rm_le (by omega) (by decide)) (Nat.le_of_ble_eq_true rfl) rfl hx hb hml hown ht hl.1 hP hK hD hS hA hN d_S_askAgain_53 (fun r6 u7 H locs q8 hP hD hS => ?_)
      obtain ⟨q8, hW8⟩ := q8
      have hP : va_P (dC, dI) vwCl (wS a k X u7) H := hP
      have hD : va_D A (wS a k X u7) := hD
      exact ret_i (v := r6) hx hb hr hlocks hP hK hD hS d_S_askAgain_56 ⟨by simp [p_again, c1, c5, q4, q8], hW8⟩
    · have c5 : r2 = 0 := c5
      refine lv_iload_n hx hb d_S_askAgain_37 rfl (lv_at hl 1 rfl) ?_
      refine lv_if_eq (tgt := 48) hx hb d_S_askAgain_38 (by decide) (fun c9 => ?_) (fun c9 => ?_)
      · have c9 : (0 : Int32) = 0 := c9
        refine lv_aload_n hx hb d_S_askAgain_48 rfl (lv_at hl 3 rfl) ?_
        refine lv_iload_n hx hb d_S_askAgain_49 rfl (lv_at hl 4 rfl) ?_
        refine lv_iload_n hx hb d_S_askAgain_50 rfl (lv_at hl 2 rfl) ?_
        refine lv_iload hx hb d_S_askAgain_51 (lv_at hl 0 rfl) ?_
        refine call_i (As := [.int e, .int (f_x (x_F X) (ix e)), .int r2]) (rest := []) (ci := 1) (q0 := 1) (c_S_handUp l dC dI a k X u3 e (f_x (x_F X) (ix e)) r2 he (Tr_in tx) hW4) k_221 k_223 s_S_handUp k_2 k_224 ⟨rfl, pc_S_handUp.1, pc_S_handUp.2, pd_S_handUp⟩ rfl rfl rfl rfl rfl (rm_le (by omega) (by decide)) (Nat.le_of_ble_eq_true rfl) rfl hx hb hml hown ht hl.1 hP hK hD hS hA hN d_S_askAgain_53 (fun r10 u11 H locs q12 hP hD hS => ?_)
        obtain ⟨q12, hW12⟩ := q12
        have hP : va_P (dC, dI) vwCl (wS a k X u11) H := hP
        have hD : va_D A (wS a k X u11) := hD
        exact ret_i (v := r10) hx hb hr hlocks hP hK hD hS d_S_askAgain_56 ⟨by subst c5; simp [p_again, c1, q4, q12], hW12⟩
      · have c9 : ¬ (0 : Int32) = 0 := c9
        exact absurd c9 (by decide)
  · have c1 : ¬ c_st s (ix e) = 0 := c1
    refine lv_iconst (v := 1) hx hb d_S_askAgain_19 (by decide) ?_
    refine lv_goto (tgt := 24) hx hb d_S_askAgain_20 (by decide) ?_
    refine lv_istore_n hx hb d_S_askAgain_24 rfl hl (by decide) (lv' := [(3, .int 1), (2, .int (f_x (x_F X) (ix e))), (0, .ref (a 1)), (1, .int e)]) rfl (fun ls hl => ?_)
    refine lv_aload_n hx hb d_S_askAgain_25 rfl (lv_at hl 2 rfl) ?_
    refine lv_iload_n hx hb d_S_askAgain_26 rfl (lv_at hl 3 rfl) ?_
    refine call_i (As := [.int e]) (rest := []) (ci := 1) (q0 := 1) (c_S_askX l dC dI a k X T M d hAsk s e he tx hW) k_217 k_219 s_S_askX k_2 k_220 ⟨rfl, pc_S_askX.1, pc_S_askX.2, pd_S_askX⟩ rfl rfl rfl rfl rfl (rm_le (by omega) (by decide)) (Nat.le_of_ble_eq_true rfl) rfl hx hb hml hown ht hl.1 hP hK hD hS hA hN d_S_askAgain_27 (fun r13 u14 H locs q15 hP hD hS => ?_)
    obtain ⟨q15, hW15⟩ := q15
    have hP : va_P (dC, dI) vwCl (wS a k X u14) H := hP
    have hD : va_D A (wS a k X u14) := hD
    refine lv_istore hx hb d_S_askAgain_30 hl (by decide) (lv' := [(4, .int r13), (3, .int 1), (2, .int (f_x (x_F X) (ix e))), (0, .ref (a 1)), (1, .int e)]) rfl (fun ls hl => ?_)
    refine lv_iload hx hb d_S_askAgain_32 (lv_at hl 0 rfl) ?_
    refine lv_if_ne (tgt := 48) hx hb d_S_askAgain_34 (by decide) (fun c16 => ?_) (fun c16 => ?_)
    · have c16 : ¬ r13 = 0 := c16
      refine lv_aload_n hx hb d_S_askAgain_48 rfl (lv_at hl 3 rfl) ?_
      refine lv_iload_n hx hb d_S_askAgain_49 rfl (lv_at hl 4 rfl) ?_
      refine lv_iload_n hx hb d_S_askAgain_50 rfl (lv_at hl 2 rfl) ?_
      refine lv_iload hx hb d_S_askAgain_51 (lv_at hl 0 rfl) ?_
      refine call_i (As := [.int e, .int (f_x (x_F X) (ix e)), .int r13]) (rest := []) (ci := 1) (q0 := 1) (c_S_handUp l dC dI a k X u14 e (f_x (x_F X) (ix e)) r13 he (Tr_in tx) hW15) k_221 k_223 s_S_handUp k_2 k_224 ⟨rfl, pc_S_handUp.1, pc_S_handUp.2, pd_S_handUp⟩ rfl rfl rfl rfl rfl (rm_le (by omega) (by decide)) (Nat.le_of_ble_eq_true rfl) rfl hx hb hml hown ht hl.1 hP hK hD hS hA hN d_S_askAgain_53 (fun r17 u18 H locs q19 hP hD hS => ?_)
      obtain ⟨q19, hW19⟩ := q19
      have hP : va_P (dC, dI) vwCl (wS a k X u18) H := hP
      have hD : va_D A (wS a k X u18) := hD
      exact ret_i (v := r17) hx hb hr hlocks hP hK hD hS d_S_askAgain_56 ⟨by simp [p_again, c1, c16, q15, q19], hW19⟩
    · have c16 : r13 = 0 := c16
      refine lv_iload_n hx hb d_S_askAgain_37 rfl (lv_at hl 1 rfl) ?_
      refine lv_if_eq (tgt := 48) hx hb d_S_askAgain_38 (by decide) (fun c20 => ?_) (fun c20 => ?_)
      · have c20 : (1 : Int32) = 0 := c20
        exact absurd c20 (by decide)
      · have c20 : ¬ (1 : Int32) = 0 := c20
        refine lv_aload_n hx hb d_S_askAgain_41 rfl (lv_at hl 3 rfl) ?_
        refine lv_iload_n hx hb d_S_askAgain_42 rfl (lv_at hl 2 rfl) ?_
        refine call_i (As := [.int (f_x (x_F X) (ix e))]) (rest := []) (ci := 1) (q0 := 1) (c_S_tryOnce l dC dI a k X T M d hAsk u14 (f_x (x_F X) (ix e)) tx hW15) k_233 k_235 s_S_tryOnce k_2 k_236 ⟨rfl, pc_S_tryOnce.1, pc_S_tryOnce.2, pd_S_tryOnce⟩ rfl rfl rfl rfl rfl (rm_le (by omega) (by decide)) (Nat.le_of_ble_eq_true rfl) rfl hx hb hml hown ht hl.1 hP hK hD hS hA hN d_S_askAgain_43 (fun r21 u22 H locs q23 hP hD hS => ?_)
        obtain ⟨q23, hW23⟩ := q23
        have hP : va_P (dC, dI) vwCl (wS a k X u22) H := hP
        have hD : va_D A (wS a k X u22) := hD
        refine lv_istore hx hb d_S_askAgain_46 hl (by decide) (lv' := [(4, .int r21), (3, .int 1), (2, .int (f_x (x_F X) (ix e))), (0, .ref (a 1)), (1, .int e)]) rfl (fun ls hl => ?_)
        refine lv_aload_n hx hb d_S_askAgain_48 rfl (lv_at hl 3 rfl) ?_
        refine lv_iload_n hx hb d_S_askAgain_49 rfl (lv_at hl 4 rfl) ?_
        refine lv_iload_n hx hb d_S_askAgain_50 rfl (lv_at hl 2 rfl) ?_
        refine lv_iload hx hb d_S_askAgain_51 (lv_at hl 0 rfl) ?_
        refine call_i (As := [.int e, .int (f_x (x_F X) (ix e)), .int r21]) (rest := []) (ci := 1) (q0 := 1) (c_S_handUp l dC dI a k X u22 e (f_x (x_F X) (ix e)) r21 he (Tr_in tx) hW23) k_221 k_223 s_S_handUp k_2 k_224 ⟨rfl, pc_S_handUp.1, pc_S_handUp.2, pd_S_handUp⟩ rfl rfl rfl rfl rfl (rm_le (by omega) (by decide)) (Nat.le_of_ble_eq_true rfl) rfl hx hb hml hown ht hl.1 hP hK hD hS hA hN d_S_askAgain_53 (fun r24 u25 H locs q26 hP hD hS => ?_)
        obtain ⟨q26, hW26⟩ := q26
        have hP : va_P (dC, dI) vwCl (wS a k X u25) H := hP
        have hD : va_D A (wS a k X u25) := hD
        exact ret_i (v := r24) hx hb hr hlocks hP hK hD hS d_S_askAgain_56 ⟨by subst c16; simp [p_again, c1, q15, q23, q26], hW26⟩
set_option maxRecDepth 100000 in
set_option maxHeartbeats 4000000 in
theorem c_S_askEither (l : Launch) (dC : Nat → ClassId) (dI : Nat → Nat → Nat) (a : Nat → Nat) (k : Nat → ClassId) (X : zX) (T : zT) (M d : Nat) (hAsk : AskOK l dC dI a k X T M d) (s : zC) (e : Int32) (he : vp_in e 60) (tx : Tr (x_F X) T d (f_x (x_F X) (ix e))) (ty : Tr (x_F X) T d (f_y (x_F X) (ix e))) (hW : Wk s) : MetI l y_S_askEither w_S_askEither (rmN (5 * d + 5)) dC dI (yX k) (wS a k X) [.ref (a 1), .int e] s (fun r u => p_either (x_F X) (p_all (x_F X) M d) e s = (r, u) ∧ Wk u) := by
  refine metI_of (cc := b_S_askEither) (maxL := 4) (ret := (some .int)) (by decide) rfl (Nat.le_of_ble_eq_true rfl) ?_
  intro p e9 s9 m args below meth c A ls hx hb hr hts hown hlocks hml hA hP hK hD hS hN hl
  have ht : ∀ w ∈ lw_g, w.before args s9 = true := fun w h => hts w (List.mem_cons_of_mem _ h)
  have hl : lv_has ls 4 [(0, .ref (a 1)), (1, .int e)] := hl
  refine lv_aload_n hx hb d_S_askEither_0 rfl (lv_at hl 0 rfl) ?_
  refine va_get (D := (dC, dI)) (ci := 1) (v := .ref (a 2)) (C := R_S) (T := T_S) (N := 12) hx hb ht in_S hown hK hP 1 rfl rfl 0 (by decide) (ht _ k_61) (fun _ h => h) rfl d_S_askEither_1 ?_
  refine va_get (D := (dC, dI)) (ci := 0) (v := .ref (a 6)) (C := R_F) (T := T_F) (N := 8) hx hb ht in_F hown hK hP 2 rfl rfl 3 (by decide) (ht _ k_33) (fun _ h => h) rfl d_S_askEither_4 ?_
  refine lv_iload_n hx hb d_S_askEither_7 rfl (lv_at hl 1 rfl) ?_
  refine va_iald hx hb hK hP 6 3 rfl rfl he d_S_askEither_8 ?_
  refine lv_istore_n hx hb d_S_askEither_9 rfl hl (by decide) (lv' := [(2, .int (f_y (x_F X) (ix e))), (0, .ref (a 1)), (1, .int e)]) rfl (fun ls hl => ?_)
  refine lv_aload_n hx hb d_S_askEither_10 rfl (lv_at hl 1 rfl) ?_
  refine va_get (D := (dC, dI)) (ci := 1) (v := .ref (a 10)) (C := R_S) (T := T_S) (N := 12) hx hb ht in_S hown hK hP 1 rfl rfl 1 (by decide) (ht _ k_63) (fun _ h => h) rfl d_S_askEither_11 ?_
  refine lv_iload_n hx hb d_S_askEither_14 rfl (lv_at hl 2 rfl) ?_
  refine va_iald hx hb hK hP 10 7 rfl rfl he d_S_askEither_15 ?_
  refine lv_iconst (v := 2) hx hb d_S_askEither_16 (by decide) ?_
  refine lv_icmp_eq (tgt := 58) hx hb d_S_askEither_17 (by decide) (fun c1 => ?_) (fun c1 => ?_)
  · have c1 : c_st s (ix e) = 2 := c1
    refine lv_aload_n hx hb d_S_askEither_58 rfl (lv_at hl 1 rfl) ?_
    refine lv_iload_n hx hb d_S_askEither_59 rfl (lv_at hl 2 rfl) ?_
    refine lv_iload_n hx hb d_S_askEither_60 rfl (lv_at hl 0 rfl) ?_
    refine lv_aload_n hx hb d_S_askEither_61 rfl (lv_at hl 1 rfl) ?_
    refine lv_iload_n hx hb d_S_askEither_62 rfl (lv_at hl 0 rfl) ?_
    refine call_i (As := [.int (f_y (x_F X) (ix e))]) (rest := [.int (f_y (x_F X) (ix e)), .int e, .ref (a 1)]) (ci := 1) (q0 := 1) (hAsk (f_y (x_F X) (ix e)) s ty hW) k_197 k_199 s_S_ask k_2 k_200 ⟨rfl, pc_S_ask.1, pc_S_ask.2, pd_S_ask⟩ rfl rfl rfl rfl rfl (rm_le (by omega) (by decide)) (Nat.le_of_ble_eq_true rfl) rfl hx hb hml hown ht hl.1 hP hK hD hS hA hN d_S_askEither_63 (fun r2 u3 H locs q4 hP hD hS => ?_)
    obtain ⟨q4, hW4⟩ := q4
    have hP : va_P (dC, dI) vwCl (wS a k X u3) H := hP
    have hD : va_D A (wS a k X u3) := hD
    refine call_i (As := [.int e, .int (f_y (x_F X) (ix e)), .int r2]) (rest := []) (ci := 1) (q0 := 1) (c_S_handUp l dC dI a k X u3 e (f_y (x_F X) (ix e)) r2 he (Tr_in ty) hW4) k_221 k_223 s_S_handUp k_2 k_224 ⟨rfl, pc_S_handUp.1, pc_S_handUp.2, pd_S_handUp⟩ rfl rfl rfl rfl rfl (rm_le (by omega) (by decide)) (Nat.le_of_ble_eq_true rfl) rfl hx hb hml hown ht hl.1 hP hK hD hS hA hN d_S_askEither_66 (fun r5 u6 H locs q7 hP hD hS => ?_)
    obtain ⟨q7, hW7⟩ := q7
    have hP : va_P (dC, dI) vwCl (wS a k X u6) H := hP
    have hD : va_D A (wS a k X u6) := hD
    exact ret_i (v := r5) hx hb hr hlocks hP hK hD hS d_S_askEither_69 ⟨by simp [p_either, c1, q4, q7], hW7⟩
  · have c1 : ¬ c_st s (ix e) = 2 := c1
    refine lv_aload_n hx hb d_S_askEither_20 rfl (lv_at hl 1 rfl) ?_
    refine lv_iload_n hx hb d_S_askEither_21 rfl (lv_at hl 2 rfl) ?_
    refine call_i (As := [.int e]) (rest := []) (ci := 1) (q0 := 1) (c_S_askX l dC dI a k X T M d hAsk s e he tx hW) k_217 k_219 s_S_askX k_2 k_220 ⟨rfl, pc_S_askX.1, pc_S_askX.2, pd_S_askX⟩ rfl rfl rfl rfl rfl (rm_le (by omega) (by decide)) (Nat.le_of_ble_eq_true rfl) rfl hx hb hml hown ht hl.1 hP hK hD hS hA hN d_S_askEither_22 (fun r8 u9 H locs q10 hP hD hS => ?_)
    obtain ⟨q10, hW10⟩ := q10
    have hP : va_P (dC, dI) vwCl (wS a k X u9) H := hP
    have hD : va_D A (wS a k X u9) := hD
    refine lv_istore_n hx hb d_S_askEither_25 rfl hl (by decide) (lv' := [(3, .int r8), (2, .int (f_y (x_F X) (ix e))), (0, .ref (a 1)), (1, .int e)]) rfl (fun ls hl => ?_)
    refine lv_iload_n hx hb d_S_askEither_26 rfl (lv_at hl 0 rfl) ?_
    refine lv_if_eq (tgt := 46) hx hb d_S_askEither_27 (by decide) (fun c11 => ?_) (fun c11 => ?_)
    · have c11 : r8 = 0 := c11
      refine lv_aload_n hx hb d_S_askEither_46 rfl (lv_at hl 2 rfl) ?_
      refine va_get (D := (dC, dI)) (ci := 1) (v := .ref (a 10)) (C := R_S) (T := T_S) (N := 12) hx hb ht in_S hown hK hP 1 rfl rfl 1 (by decide) (ht _ k_63) (fun _ h => h) rfl d_S_askEither_47 ?_
      refine lv_iload_n hx hb d_S_askEither_50 rfl (lv_at hl 3 rfl) ?_
      refine lv_iconst (v := 2) hx hb d_S_askEither_51 (by decide) ?_
      refine va_iast hx hb hK hP hD hS 10 7 rfl rfl he d_S_askEither_52 (fun H locs hP hD hS => ?_)
      have hP : va_P (dC, dI) vwCl (wS a k X (s_st u9 e 2)) H := cP_S_st hP
      have hD : va_D A (wS a k X (s_st u9 e 2)) := cD_S_st hD
      refine lv_aload_n hx hb d_S_askEither_53 rfl (lv_at hl 2 rfl) ?_
      refine lv_iload_n hx hb d_S_askEither_54 rfl (lv_at hl 1 rfl) ?_
      refine call_v (As := [.int (f_y (x_F X) (ix e))]) (rest := []) (ci := 1) (q0 := 1) (c_S_start l dC dI a k X (s_st u9 e 2) (f_y (x_F X) (ix e)) (Tr_in ty) (wk_st hW10)) k_185 k_187 s_S_start k_2 k_188 ⟨rfl, pc_S_start.1, pc_S_start.2, pd_S_start⟩ rfl rfl rfl rfl rfl (rm_le (by omega) (by decide)) (Nat.le_of_ble_eq_true rfl) rfl hx hb hml hown ht hl.1 hP hK hD hS hA hN d_S_askEither_55 (fun u13 H locs q14 hP hD hS => ?_)
      obtain ⟨rfl, hW14⟩ := q14
      have hP : va_P (dC, dI) vwCl (wS a k X (s_st (s_st u9 e 2) (f_y (x_F X) (ix e)) 0)) H := hP
      have hD : va_D A (wS a k X (s_st (s_st u9 e 2) (f_y (x_F X) (ix e)) 0)) := hD
      refine lv_aload_n hx hb d_S_askEither_58 rfl (lv_at hl 2 rfl) ?_
      refine lv_iload_n hx hb d_S_askEither_59 rfl (lv_at hl 3 rfl) ?_
      refine lv_iload_n hx hb d_S_askEither_60 rfl (lv_at hl 1 rfl) ?_
      refine lv_aload_n hx hb d_S_askEither_61 rfl (lv_at hl 2 rfl) ?_
      refine lv_iload_n hx hb d_S_askEither_62 rfl (lv_at hl 1 rfl) ?_
      refine call_i (As := [.int (f_y (x_F X) (ix e))]) (rest := [.int (f_y (x_F X) (ix e)), .int e, .ref (a 1)]) (ci := 1) (q0 := 1) (hAsk (f_y (x_F X) (ix e)) (s_st (s_st u9 e 2) (f_y (x_F X) (ix e)) 0) ty hW14) k_197 k_199 s_S_ask k_2 k_200 ⟨rfl, pc_S_ask.1, pc_S_ask.2, pd_S_ask⟩ rfl rfl rfl rfl rfl (rm_le (by omega) (by decide)) (Nat.le_of_ble_eq_true rfl) rfl hx hb hml hown ht hl.1 hP hK hD hS hA hN d_S_askEither_63 (fun r15 u16 H locs q17 hP hD hS => ?_)
      obtain ⟨q17, hW17⟩ := q17
      have hP : va_P (dC, dI) vwCl (wS a k X u16) H := hP
      have hD : va_D A (wS a k X u16) := hD
      refine call_i (As := [.int e, .int (f_y (x_F X) (ix e)), .int r15]) (rest := []) (ci := 1) (q0 := 1) (c_S_handUp l dC dI a k X u16 e (f_y (x_F X) (ix e)) r15 he (Tr_in ty) hW17) k_221 k_223 s_S_handUp k_2 k_224 ⟨rfl, pc_S_handUp.1, pc_S_handUp.2, pd_S_handUp⟩ rfl rfl rfl rfl rfl (rm_le (by omega) (by decide)) (Nat.le_of_ble_eq_true rfl) rfl hx hb hml hown ht hl.1 hP hK hD hS hA hN d_S_askEither_66 (fun r18 u19 H locs q20 hP hD hS => ?_)
      obtain ⟨q20, hW20⟩ := q20
      have hP : va_P (dC, dI) vwCl (wS a k X u19) H := hP
      have hD : va_D A (wS a k X u19) := hD
      exact ret_i (v := r18) hx hb hr hlocks hP hK hD hS d_S_askEither_69 ⟨by subst c11; simp [p_either, c1, q10, q17, q20], hW20⟩
    · have c11 : ¬ r8 = 0 := c11
      refine lv_aload_n hx hb d_S_askEither_30 rfl (lv_at hl 2 rfl) ?_
      refine lv_iload_n hx hb d_S_askEither_31 rfl (lv_at hl 3 rfl) ?_
      refine lv_aload_n hx hb d_S_askEither_32 rfl (lv_at hl 2 rfl) ?_
      refine va_get (D := (dC, dI)) (ci := 1) (v := .ref (a 2)) (C := R_S) (T := T_S) (N := 12) hx hb ht in_S hown hK hP 1 rfl rfl 0 (by decide) (ht _ k_61) (fun _ h => h) rfl d_S_askEither_33 ?_
      refine va_get (D := (dC, dI)) (ci := 0) (v := .ref (a 5)) (C := R_F) (T := T_F) (N := 8) hx hb ht in_F hown hK hP 2 rfl rfl 2 (by decide) (ht _ k_31) (fun _ h => h) rfl d_S_askEither_36 ?_
      refine lv_iload_n hx hb d_S_askEither_39 rfl (lv_at hl 3 rfl) ?_
      refine va_iald hx hb hK hP 5 2 rfl rfl he d_S_askEither_40 ?_
      refine lv_iload_n hx hb d_S_askEither_41 rfl (lv_at hl 0 rfl) ?_
      refine call_i (As := [.int e, .int (f_x (x_F X) (ix e)), .int r8]) (rest := []) (ci := 1) (q0 := 1) (c_S_handUp l dC dI a k X u9 e (f_x (x_F X) (ix e)) r8 he (Tr_in tx) hW10) k_221 k_223 s_S_handUp k_2 k_224 ⟨rfl, pc_S_handUp.1, pc_S_handUp.2, pd_S_handUp⟩ rfl rfl rfl rfl rfl (rm_le (by omega) (by decide)) (Nat.le_of_ble_eq_true rfl) rfl hx hb hml hown ht hl.1 hP hK hD hS hA hN d_S_askEither_42 (fun r21 u22 H locs q23 hP hD hS => ?_)
      obtain ⟨q23, hW23⟩ := q23
      have hP : va_P (dC, dI) vwCl (wS a k X u22) H := hP
      have hD : va_D A (wS a k X u22) := hD
      exact ret_i (v := r21) hx hb hr hlocks hP hK hD hS d_S_askEither_45 ⟨by simp [p_either, c1, c11, q10, q23], hW23⟩
set_option maxRecDepth 100000 in
set_option maxHeartbeats 4000000 in
theorem c_S_askBound (l : Launch) (dC : Nat → ClassId) (dI : Nat → Nat → Nat) (a : Nat → Nat) (k : Nat → ClassId) (X : zX) (T : zT) (M d : Nat) (hAsk : AskOK l dC dI a k X T M d) (s : zC) (e : Int32) (he : vp_in e 60) (ty : Tr (x_F X) T d (f_y (x_F X) (ix e))) (hW : Wk s) : MetI l y_S_askBound w_S_askBound (rmN (5 * d + 4)) dC dI (yX k) (wS a k X) [.ref (a 1), .int e] s (fun r u => p_bound (x_F X) (p_all (x_F X) M d) e s = (r, u) ∧ Wk u) := by
  refine metI_of (cc := b_S_askBound) (maxL := 4) (ret := (some .int)) (by decide) rfl (Nat.le_of_ble_eq_true rfl) ?_
  intro p e9 s9 m args below meth c A ls hx hb hr hts hown hlocks hml hA hP hK hD hS hN hl
  have ht : ∀ w ∈ lw_g, w.before args s9 = true := fun w h => hts w (List.mem_cons_of_mem _ h)
  have hl : lv_has ls 4 [(0, .ref (a 1)), (1, .int e)] := hl
  refine lv_aload_n hx hb d_S_askBound_0 rfl (lv_at hl 0 rfl) ?_
  refine va_get (D := (dC, dI)) (ci := 1) (v := .ref (a 2)) (C := R_S) (T := T_S) (N := 12) hx hb ht in_S hown hK hP 1 rfl rfl 0 (by decide) (ht _ k_61) (fun _ h => h) rfl d_S_askBound_1 ?_
  refine va_get (D := (dC, dI)) (ci := 0) (v := .ref (a 6)) (C := R_F) (T := T_F) (N := 8) hx hb ht in_F hown hK hP 2 rfl rfl 3 (by decide) (ht _ k_33) (fun _ h => h) rfl d_S_askBound_4 ?_
  refine lv_iload_n hx hb d_S_askBound_7 rfl (lv_at hl 1 rfl) ?_
  refine va_iald hx hb hK hP 6 3 rfl rfl he d_S_askBound_8 ?_
  refine lv_istore_n hx hb d_S_askBound_9 rfl hl (by decide) (lv' := [(2, .int (f_y (x_F X) (ix e))), (0, .ref (a 1)), (1, .int e)]) rfl (fun ls hl => ?_)
  refine lv_aload_n hx hb d_S_askBound_10 rfl (lv_at hl 1 rfl) ?_
  refine va_get (D := (dC, dI)) (ci := 1) (v := .ref (a 10)) (C := R_S) (T := T_S) (N := 12) hx hb ht in_S hown hK hP 1 rfl rfl 1 (by decide) (ht _ k_63) (fun _ h => h) rfl d_S_askBound_11 ?_
  refine lv_iload_n hx hb d_S_askBound_14 rfl (lv_at hl 2 rfl) ?_
  refine va_iald hx hb hK hP 10 7 rfl rfl he d_S_askBound_15 ?_
  refine lv_if_ne (tgt := 24) hx hb d_S_askBound_16 (by decide) (fun c1 => ?_) (fun c1 => ?_)
  · have c1 : ¬ c_st s (ix e) = 0 := c1
    refine lv_aload_n hx hb d_S_askBound_24 rfl (lv_at hl 1 rfl) ?_
    refine lv_iload_n hx hb d_S_askBound_25 rfl (lv_at hl 0 rfl) ?_
    refine call_i (As := [.int (f_y (x_F X) (ix e))]) (rest := []) (ci := 1) (q0 := 1) (hAsk (f_y (x_F X) (ix e)) s ty hW) k_197 k_199 s_S_ask k_2 k_200 ⟨rfl, pc_S_ask.1, pc_S_ask.2, pd_S_ask⟩ rfl rfl rfl rfl rfl (rm_le (by omega) (by decide)) (Nat.le_of_ble_eq_true rfl) rfl hx hb hml hown ht hl.1 hP hK hD hS hA hN d_S_askBound_26 (fun r2 u3 H locs q4 hP hD hS => ?_)
    obtain ⟨q4, hW4⟩ := q4
    have hP : va_P (dC, dI) vwCl (wS a k X u3) H := hP
    have hD : va_D A (wS a k X u3) := hD
    refine lv_istore_n hx hb d_S_askBound_29 rfl hl (by decide) (lv' := [(3, .int r2), (2, .int (f_y (x_F X) (ix e))), (0, .ref (a 1)), (1, .int e)]) rfl (fun ls hl => ?_)
    refine lv_aload_n hx hb d_S_askBound_30 rfl (lv_at hl 2 rfl) ?_
    refine va_get (D := (dC, dI)) (ci := 1) (v := .ref (a 12)) (C := R_S) (T := T_S) (N := 12) hx hb ht in_S hown hK hP 1 rfl rfl 3 (by decide) (ht _ k_65) (fun _ h => h) rfl d_S_askBound_31 ?_
    refine lv_iload_n hx hb d_S_askBound_34 rfl (lv_at hl 3 rfl) ?_
    refine lv_aload_n hx hb d_S_askBound_35 rfl (lv_at hl 2 rfl) ?_
    refine va_get (D := (dC, dI)) (ci := 1) (v := .ref (a 11)) (C := R_S) (T := T_S) (N := 12) hx hb ht in_S hown hK hP 1 rfl rfl 2 (by decide) (ht _ k_64) (fun _ h => h) rfl d_S_askBound_36 ?_
    refine lv_iload_n hx hb d_S_askBound_39 rfl (lv_at hl 1 rfl) ?_
    refine va_iald hx hb hK hP 11 8 rfl rfl (Tr_in ty) d_S_askBound_40 ?_
    refine lv_i2l hx hb d_S_askBound_41 rfl ?_
    refine va_last hx hb hK hP hD hS 12 9 rfl rfl he d_S_askBound_42 (fun H locs hP hD hS => ?_)
    have hP : va_P (dC, dI) vwCl (wS a k X (s_ct u3 e ((c_rs u3 (ix (f_y (x_F X) (ix e)))).toInt64))) H := cP_S_ct hP
    have hD : va_D A (wS a k X (s_ct u3 e ((c_rs u3 (ix (f_y (x_F X) (ix e)))).toInt64))) := cD_S_ct hD
    refine lv_iload_n hx hb d_S_askBound_43 rfl (lv_at hl 0 rfl) ?_
    exact ret_i (v := r2) hx hb hr hlocks hP hK hD hS d_S_askBound_44 ⟨by simp [p_bound, c1, q4], (wk_ct hW4)⟩
  · have c1 : c_st s (ix e) = 0 := c1
    refine lv_aload_n hx hb d_S_askBound_19 rfl (lv_at hl 1 rfl) ?_
    refine lv_iload_n hx hb d_S_askBound_20 rfl (lv_at hl 0 rfl) ?_
    refine call_v (As := [.int (f_y (x_F X) (ix e))]) (rest := []) (ci := 1) (q0 := 1) (c_S_start l dC dI a k X s (f_y (x_F X) (ix e)) (Tr_in ty) hW) k_185 k_187 s_S_start k_2 k_188 ⟨rfl, pc_S_start.1, pc_S_start.2, pd_S_start⟩ rfl rfl rfl rfl rfl (rm_le (by omega) (by decide)) (Nat.le_of_ble_eq_true rfl) rfl hx hb hml hown ht hl.1 hP hK hD hS hA hN d_S_askBound_21 (fun u6 H locs q7 hP hD hS => ?_)
    obtain ⟨rfl, hW7⟩ := q7
    have hP : va_P (dC, dI) vwCl (wS a k X (s_st s (f_y (x_F X) (ix e)) 0)) H := hP
    have hD : va_D A (wS a k X (s_st s (f_y (x_F X) (ix e)) 0)) := hD
    refine lv_aload_n hx hb d_S_askBound_24 rfl (lv_at hl 1 rfl) ?_
    refine lv_iload_n hx hb d_S_askBound_25 rfl (lv_at hl 0 rfl) ?_
    refine call_i (As := [.int (f_y (x_F X) (ix e))]) (rest := []) (ci := 1) (q0 := 1) (hAsk (f_y (x_F X) (ix e)) (s_st s (f_y (x_F X) (ix e)) 0) ty hW7) k_197 k_199 s_S_ask k_2 k_200 ⟨rfl, pc_S_ask.1, pc_S_ask.2, pd_S_ask⟩ rfl rfl rfl rfl rfl (rm_le (by omega) (by decide)) (Nat.le_of_ble_eq_true rfl) rfl hx hb hml hown ht hl.1 hP hK hD hS hA hN d_S_askBound_26 (fun r8 u9 H locs q10 hP hD hS => ?_)
    obtain ⟨q10, hW10⟩ := q10
    have hP : va_P (dC, dI) vwCl (wS a k X u9) H := hP
    have hD : va_D A (wS a k X u9) := hD
    refine lv_istore_n hx hb d_S_askBound_29 rfl hl (by decide) (lv' := [(3, .int r8), (2, .int (f_y (x_F X) (ix e))), (0, .ref (a 1)), (1, .int e)]) rfl (fun ls hl => ?_)
    refine lv_aload_n hx hb d_S_askBound_30 rfl (lv_at hl 2 rfl) ?_
    refine va_get (D := (dC, dI)) (ci := 1) (v := .ref (a 12)) (C := R_S) (T := T_S) (N := 12) hx hb ht in_S hown hK hP 1 rfl rfl 3 (by decide) (ht _ k_65) (fun _ h => h) rfl d_S_askBound_31 ?_
    refine lv_iload_n hx hb d_S_askBound_34 rfl (lv_at hl 3 rfl) ?_
    refine lv_aload_n hx hb d_S_askBound_35 rfl (lv_at hl 2 rfl) ?_
    refine va_get (D := (dC, dI)) (ci := 1) (v := .ref (a 11)) (C := R_S) (T := T_S) (N := 12) hx hb ht in_S hown hK hP 1 rfl rfl 2 (by decide) (ht _ k_64) (fun _ h => h) rfl d_S_askBound_36 ?_
    refine lv_iload_n hx hb d_S_askBound_39 rfl (lv_at hl 1 rfl) ?_
    refine va_iald hx hb hK hP 11 8 rfl rfl (Tr_in ty) d_S_askBound_40 ?_
    refine lv_i2l hx hb d_S_askBound_41 rfl ?_
    refine va_last hx hb hK hP hD hS 12 9 rfl rfl he d_S_askBound_42 (fun H locs hP hD hS => ?_)
    have hP : va_P (dC, dI) vwCl (wS a k X (s_ct u9 e ((c_rs u9 (ix (f_y (x_F X) (ix e)))).toInt64))) H := cP_S_ct hP
    have hD : va_D A (wS a k X (s_ct u9 e ((c_rs u9 (ix (f_y (x_F X) (ix e)))).toInt64))) := cD_S_ct hD
    refine lv_iload_n hx hb d_S_askBound_43 rfl (lv_at hl 0 rfl) ?_
    exact ret_i (v := r8) hx hb hr hlocks hP hK hD hS d_S_askBound_44 ⟨by simp [p_bound, c1, q10], (wk_ct hW10)⟩
set_option maxRecDepth 100000 in
set_option maxHeartbeats 4000000 in
theorem c_S_askThen (l : Launch) (dC : Nat → ClassId) (dI : Nat → Nat → Nat) (a : Nat → Nat) (k : Nat → ClassId) (X : zX) (T : zT) (M d : Nat) (hAsk : AskOK l dC dI a k X T M d) (s : zC) (e : Int32) (he : vp_in e 60) (tx : Tr (x_F X) T d (f_x (x_F X) (ix e))) (ty : Tr (x_F X) T d (f_y (x_F X) (ix e))) (hW : Wk s) : MetI l y_S_askThen w_S_askThen (rmN (5 * d + 5)) dC dI (yX k) (wS a k X) [.ref (a 1), .int e] s (fun r u => p_then (x_F X) (p_all (x_F X) M d) e s = (r, u) ∧ Wk u) := by
  refine metI_of (cc := b_S_askThen) (maxL := 4) (ret := (some .int)) (by decide) rfl (Nat.le_of_ble_eq_true rfl) ?_
  intro p e9 s9 m args below meth c A ls hx hb hr hts hown hlocks hml hA hP hK hD hS hN hl
  have ht : ∀ w ∈ lw_g, w.before args s9 = true := fun w h => hts w (List.mem_cons_of_mem _ h)
  have hl : lv_has ls 4 [(0, .ref (a 1)), (1, .int e)] := hl
  refine lv_aload_n hx hb d_S_askThen_0 rfl (lv_at hl 0 rfl) ?_
  refine va_get (D := (dC, dI)) (ci := 1) (v := .ref (a 2)) (C := R_S) (T := T_S) (N := 12) hx hb ht in_S hown hK hP 1 rfl rfl 0 (by decide) (ht _ k_61) (fun _ h => h) rfl d_S_askThen_1 ?_
  refine va_get (D := (dC, dI)) (ci := 0) (v := .ref (a 6)) (C := R_F) (T := T_F) (N := 8) hx hb ht in_F hown hK hP 2 rfl rfl 3 (by decide) (ht _ k_33) (fun _ h => h) rfl d_S_askThen_4 ?_
  refine lv_iload_n hx hb d_S_askThen_7 rfl (lv_at hl 1 rfl) ?_
  refine va_iald hx hb hK hP 6 3 rfl rfl he d_S_askThen_8 ?_
  refine lv_istore_n hx hb d_S_askThen_9 rfl hl (by decide) (lv' := [(2, .int (f_y (x_F X) (ix e))), (0, .ref (a 1)), (1, .int e)]) rfl (fun ls hl => ?_)
  refine lv_aload_n hx hb d_S_askThen_10 rfl (lv_at hl 1 rfl) ?_
  refine va_get (D := (dC, dI)) (ci := 1) (v := .ref (a 10)) (C := R_S) (T := T_S) (N := 12) hx hb ht in_S hown hK hP 1 rfl rfl 1 (by decide) (ht _ k_63) (fun _ h => h) rfl d_S_askThen_11 ?_
  refine lv_iload_n hx hb d_S_askThen_14 rfl (lv_at hl 2 rfl) ?_
  refine va_iald hx hb hK hP 10 7 rfl rfl he d_S_askThen_15 ?_
  refine lv_if_ne (tgt := 51) hx hb d_S_askThen_16 (by decide) (fun c1 => ?_) (fun c1 => ?_)
  · have c1 : ¬ c_st s (ix e) = 0 := c1
    refine lv_aload_n hx hb d_S_askThen_51 rfl (lv_at hl 1 rfl) ?_
    refine lv_iload_n hx hb d_S_askThen_52 rfl (lv_at hl 2 rfl) ?_
    refine lv_iload_n hx hb d_S_askThen_53 rfl (lv_at hl 0 rfl) ?_
    refine lv_aload_n hx hb d_S_askThen_54 rfl (lv_at hl 1 rfl) ?_
    refine lv_iload_n hx hb d_S_askThen_55 rfl (lv_at hl 0 rfl) ?_
    refine call_i (As := [.int (f_y (x_F X) (ix e))]) (rest := [.int (f_y (x_F X) (ix e)), .int e, .ref (a 1)]) (ci := 1) (q0 := 1) (hAsk (f_y (x_F X) (ix e)) s ty hW) k_197 k_199 s_S_ask k_2 k_200 ⟨rfl, pc_S_ask.1, pc_S_ask.2, pd_S_ask⟩ rfl rfl rfl rfl rfl (rm_le (by omega) (by decide)) (Nat.le_of_ble_eq_true rfl) rfl hx hb hml hown ht hl.1 hP hK hD hS hA hN d_S_askThen_56 (fun r2 u3 H locs q4 hP hD hS => ?_)
    obtain ⟨q4, hW4⟩ := q4
    have hP : va_P (dC, dI) vwCl (wS a k X u3) H := hP
    have hD : va_D A (wS a k X u3) := hD
    refine call_i (As := [.int e, .int (f_y (x_F X) (ix e)), .int r2]) (rest := []) (ci := 1) (q0 := 1) (c_S_handUp l dC dI a k X u3 e (f_y (x_F X) (ix e)) r2 he (Tr_in ty) hW4) k_221 k_223 s_S_handUp k_2 k_224 ⟨rfl, pc_S_handUp.1, pc_S_handUp.2, pd_S_handUp⟩ rfl rfl rfl rfl rfl (rm_le (by omega) (by decide)) (Nat.le_of_ble_eq_true rfl) rfl hx hb hml hown ht hl.1 hP hK hD hS hA hN d_S_askThen_59 (fun r5 u6 H locs q7 hP hD hS => ?_)
    obtain ⟨q7, hW7⟩ := q7
    have hP : va_P (dC, dI) vwCl (wS a k X u6) H := hP
    have hD : va_D A (wS a k X u6) := hD
    exact ret_i (v := r5) hx hb hr hlocks hP hK hD hS d_S_askThen_62 ⟨by simp [p_then, c1, q4, q7], hW7⟩
  · have c1 : c_st s (ix e) = 0 := c1
    refine lv_aload_n hx hb d_S_askThen_19 rfl (lv_at hl 1 rfl) ?_
    refine lv_aload_n hx hb d_S_askThen_20 rfl (lv_at hl 1 rfl) ?_
    refine va_get (D := (dC, dI)) (ci := 1) (v := .ref (a 2)) (C := R_S) (T := T_S) (N := 12) hx hb ht in_S hown hK hP 1 rfl rfl 0 (by decide) (ht _ k_61) (fun _ h => h) rfl d_S_askThen_21 ?_
    refine va_get (D := (dC, dI)) (ci := 0) (v := .ref (a 5)) (C := R_F) (T := T_F) (N := 8) hx hb ht in_F hown hK hP 2 rfl rfl 2 (by decide) (ht _ k_31) (fun _ h => h) rfl d_S_askThen_24 ?_
    refine lv_iload_n hx hb d_S_askThen_27 rfl (lv_at hl 2 rfl) ?_
    refine va_iald hx hb hK hP 5 2 rfl rfl he d_S_askThen_28 ?_
    refine call_i (As := [.int (f_x (x_F X) (ix e))]) (rest := []) (ci := 1) (q0 := 1) (c_S_tryOnce l dC dI a k X T M d hAsk s (f_x (x_F X) (ix e)) tx hW) k_233 k_235 s_S_tryOnce k_2 k_236 ⟨rfl, pc_S_tryOnce.1, pc_S_tryOnce.2, pd_S_tryOnce⟩ rfl rfl rfl rfl rfl (rm_le (by omega) (by decide)) (Nat.le_of_ble_eq_true rfl) rfl hx hb hml hown ht hl.1 hP hK hD hS hA hN d_S_askThen_29 (fun r8 u9 H locs q10 hP hD hS => ?_)
    obtain ⟨q10, hW10⟩ := q10
    have hP : va_P (dC, dI) vwCl (wS a k X u9) H := hP
    have hD : va_D A (wS a k X u9) := hD
    refine lv_istore_n hx hb d_S_askThen_32 rfl hl (by decide) (lv' := [(3, .int r8), (2, .int (f_y (x_F X) (ix e))), (0, .ref (a 1)), (1, .int e)]) rfl (fun ls hl => ?_)
    refine lv_iload_n hx hb d_S_askThen_33 rfl (lv_at hl 0 rfl) ?_
    refine lv_if_ge (tgt := 39) hx hb d_S_askThen_34 (by decide) (fun c11 => ?_) (fun c11 => ?_)
    · have c11 : ¬ r8 < 0 := Int32.not_lt.mpr c11
      refine lv_aload_n hx hb d_S_askThen_39 rfl (lv_at hl 2 rfl) ?_
      refine va_get (D := (dC, dI)) (ci := 1) (v := .ref (a 10)) (C := R_S) (T := T_S) (N := 12) hx hb ht in_S hown hK hP 1 rfl rfl 1 (by decide) (ht _ k_63) (fun _ h => h) rfl d_S_askThen_40 ?_
      refine lv_iload_n hx hb d_S_askThen_43 rfl (lv_at hl 3 rfl) ?_
      refine lv_iconst (v := 2) hx hb d_S_askThen_44 (by decide) ?_
      refine va_iast hx hb hK hP hD hS 10 7 rfl rfl he d_S_askThen_45 (fun H locs hP hD hS => ?_)
      have hP : va_P (dC, dI) vwCl (wS a k X (s_st u9 e 2)) H := cP_S_st hP
      have hD : va_D A (wS a k X (s_st u9 e 2)) := cD_S_st hD
      refine lv_aload_n hx hb d_S_askThen_46 rfl (lv_at hl 2 rfl) ?_
      refine lv_iload_n hx hb d_S_askThen_47 rfl (lv_at hl 1 rfl) ?_
      refine call_v (As := [.int (f_y (x_F X) (ix e))]) (rest := []) (ci := 1) (q0 := 1) (c_S_start l dC dI a k X (s_st u9 e 2) (f_y (x_F X) (ix e)) (Tr_in ty) (wk_st hW10)) k_185 k_187 s_S_start k_2 k_188 ⟨rfl, pc_S_start.1, pc_S_start.2, pd_S_start⟩ rfl rfl rfl rfl rfl (rm_le (by omega) (by decide)) (Nat.le_of_ble_eq_true rfl) rfl hx hb hml hown ht hl.1 hP hK hD hS hA hN d_S_askThen_48 (fun u13 H locs q14 hP hD hS => ?_)
      obtain ⟨rfl, hW14⟩ := q14
      have hP : va_P (dC, dI) vwCl (wS a k X (s_st (s_st u9 e 2) (f_y (x_F X) (ix e)) 0)) H := hP
      have hD : va_D A (wS a k X (s_st (s_st u9 e 2) (f_y (x_F X) (ix e)) 0)) := hD
      refine lv_aload_n hx hb d_S_askThen_51 rfl (lv_at hl 2 rfl) ?_
      refine lv_iload_n hx hb d_S_askThen_52 rfl (lv_at hl 3 rfl) ?_
      refine lv_iload_n hx hb d_S_askThen_53 rfl (lv_at hl 1 rfl) ?_
      refine lv_aload_n hx hb d_S_askThen_54 rfl (lv_at hl 2 rfl) ?_
      refine lv_iload_n hx hb d_S_askThen_55 rfl (lv_at hl 1 rfl) ?_
      refine call_i (As := [.int (f_y (x_F X) (ix e))]) (rest := [.int (f_y (x_F X) (ix e)), .int e, .ref (a 1)]) (ci := 1) (q0 := 1) (hAsk (f_y (x_F X) (ix e)) (s_st (s_st u9 e 2) (f_y (x_F X) (ix e)) 0) ty hW14) k_197 k_199 s_S_ask k_2 k_200 ⟨rfl, pc_S_ask.1, pc_S_ask.2, pd_S_ask⟩ rfl rfl rfl rfl rfl (rm_le (by omega) (by decide)) (Nat.le_of_ble_eq_true rfl) rfl hx hb hml hown ht hl.1 hP hK hD hS hA hN d_S_askThen_56 (fun r15 u16 H locs q17 hP hD hS => ?_)
      obtain ⟨q17, hW17⟩ := q17
      have hP : va_P (dC, dI) vwCl (wS a k X u16) H := hP
      have hD : va_D A (wS a k X u16) := hD
      refine call_i (As := [.int e, .int (f_y (x_F X) (ix e)), .int r15]) (rest := []) (ci := 1) (q0 := 1) (c_S_handUp l dC dI a k X u16 e (f_y (x_F X) (ix e)) r15 he (Tr_in ty) hW17) k_221 k_223 s_S_handUp k_2 k_224 ⟨rfl, pc_S_handUp.1, pc_S_handUp.2, pd_S_handUp⟩ rfl rfl rfl rfl rfl (rm_le (by omega) (by decide)) (Nat.le_of_ble_eq_true rfl) rfl hx hb hml hown ht hl.1 hP hK hD hS hA hN d_S_askThen_59 (fun r18 u19 H locs q20 hP hD hS => ?_)
      obtain ⟨q20, hW20⟩ := q20
      have hP : va_P (dC, dI) vwCl (wS a k X u19) H := hP
      have hD : va_D A (wS a k X u19) := hD
      exact ret_i (v := r18) hx hb hr hlocks hP hK hD hS d_S_askThen_62 ⟨by simp [p_then, c1, c11, q10, q17, q20], hW20⟩
    · have c11 : r8 < 0 := Int32.not_le.mp c11
      refine lv_iload_n hx hb d_S_askThen_37 rfl (lv_at hl 0 rfl) ?_
      exact ret_i (v := r8) hx hb hr hlocks hP hK hD hS d_S_askThen_38 ⟨by simp [p_then, c1, c11, q10], hW10⟩
set_option maxRecDepth 100000 in
set_option maxHeartbeats 4000000 in
theorem c_S_branch (l : Launch) (dC : Nat → ClassId) (dI : Nat → Nat → Nat) (a : Nat → Nat) (k : Nat → ClassId) (X : zX) (s : zC) (e : Int32) (he : vp_in e 60) : MetI l y_S_branch w_S_branch (rmN (0)) dC dI (yX k) (wS a k X) [.ref (a 1), .int e] s (fun r u => r = p_branch (x_F X) e s ∧ u = s) := by
  refine metI_of (cc := b_S_branch) (maxL := 2) (ret := (some .int)) (by decide) rfl (Nat.le_of_ble_eq_true rfl) ?_
  intro p e9 s9 m args below meth c A ls hx hb hr hts hown hlocks hml hA hP hK hD hS hN hl
  have ht : ∀ w ∈ lw_g, w.before args s9 = true := fun w h => hts w (List.mem_cons_of_mem _ h)
  have hl : lv_has ls 2 [(0, .ref (a 1)), (1, .int e)] := hl
  refine lv_aload_n hx hb d_S_branch_0 rfl (lv_at hl 0 rfl) ?_
  refine va_get (D := (dC, dI)) (ci := 1) (v := .ref (a 10)) (C := R_S) (T := T_S) (N := 12) hx hb ht in_S hown hK hP 1 rfl rfl 1 (by decide) (ht _ k_63) (fun _ h => h) rfl d_S_branch_1 ?_
  refine lv_iload_n hx hb d_S_branch_4 rfl (lv_at hl 1 rfl) ?_
  refine va_iald hx hb hK hP 10 7 rfl rfl he d_S_branch_5 ?_
  refine lv_iconst (v := 2) hx hb d_S_branch_6 (by decide) ?_
  refine lv_icmp_ne (tgt := 22) hx hb d_S_branch_7 (by decide) (fun c1 => ?_) (fun c1 => ?_)
  · have c1 : ¬ c_st s (ix e) = 2 := c1
    refine lv_aload_n hx hb d_S_branch_22 rfl (lv_at hl 0 rfl) ?_
    refine va_get (D := (dC, dI)) (ci := 1) (v := .ref (a 2)) (C := R_S) (T := T_S) (N := 12) hx hb ht in_S hown hK hP 1 rfl rfl 0 (by decide) (ht _ k_61) (fun _ h => h) rfl d_S_branch_23 ?_
    refine va_get (D := (dC, dI)) (ci := 0) (v := .ref (a 7)) (C := R_F) (T := T_F) (N := 8) hx hb ht in_F hown hK hP 2 rfl rfl 4 (by decide) (ht _ k_35) (fun _ h => h) rfl d_S_branch_26 ?_
    refine lv_iload_n hx hb d_S_branch_29 rfl (lv_at hl 1 rfl) ?_
    refine va_iald hx hb hK hP 7 4 rfl rfl he d_S_branch_30 ?_
    exact ret_i (v := f_z (x_F X) (ix e)) hx hb hr hlocks hP hK hD hS d_S_branch_31 ⟨by simp [p_branch, c1], rfl⟩
  · have c1 : c_st s (ix e) = 2 := c1
    refine lv_aload_n hx hb d_S_branch_10 rfl (lv_at hl 0 rfl) ?_
    refine va_get (D := (dC, dI)) (ci := 1) (v := .ref (a 2)) (C := R_S) (T := T_S) (N := 12) hx hb ht in_S hown hK hP 1 rfl rfl 0 (by decide) (ht _ k_61) (fun _ h => h) rfl d_S_branch_11 ?_
    refine va_get (D := (dC, dI)) (ci := 0) (v := .ref (a 6)) (C := R_F) (T := T_F) (N := 8) hx hb ht in_F hown hK hP 2 rfl rfl 3 (by decide) (ht _ k_33) (fun _ h => h) rfl d_S_branch_14 ?_
    refine lv_iload_n hx hb d_S_branch_17 rfl (lv_at hl 1 rfl) ?_
    refine va_iald hx hb hK hP 6 3 rfl rfl he d_S_branch_18 ?_
    refine lv_goto (tgt := 31) hx hb d_S_branch_19 (by decide) ?_
    exact ret_i (v := f_y (x_F X) (ix e)) hx hb hr hlocks hP hK hD hS d_S_branch_31 ⟨by simp [p_branch, c1], rfl⟩
set_option maxRecDepth 100000 in
set_option maxHeartbeats 4000000 in
theorem c_S_calculate (l : Launch) (dC : Nat → ClassId) (dI : Nat → Nat → Nat) (a : Nat → Nat) (k : Nat → ClassId) (X : zX) (s : zC) (kd : Int32) (x : Int64) (y : Int64)  : MetJ l y_S_calculate w_S_calculate (rmN (0)) dC dI (yX k) (wS a k X) [.int kd, .long x, .long y] s (fun r u => r = p_calc kd x y ∧ u = s) := by
  refine metJ_of (cc := b_S_calculate) (maxL := 5) (ret := (some .long)) (by decide) rfl (Nat.le_of_ble_eq_true rfl) ?_
  intro p e9 s9 m args below meth c A ls hx hb hr hts hown hlocks hml hA hP hK hD hS hN hl
  have ht : ∀ w ∈ lw_g, w.before args s9 = true := fun w h => hts w (List.mem_cons_of_mem _ h)
  have hl : lv_has ls 5 [(0, .int kd), (1, .long x), (3, .long y)] := hl
  refine lv_iload_n hx hb d_S_calculate_0 rfl (lv_at hl 0 rfl) ?_
  refine lv_bipush (v := 8) hx hb d_S_calculate_1 (by decide) ?_
  refine lv_icmp_ne (tgt := 10) hx hb d_S_calculate_3 (by decide) (fun c1 => ?_) (fun c1 => ?_)
  · have c1 : ¬ kd = 8 := c1
    refine lv_iload_n hx hb d_S_calculate_10 rfl (lv_at hl 0 rfl) ?_
    refine lv_bipush (v := 9) hx hb d_S_calculate_11 (by decide) ?_
    refine lv_icmp_ne (tgt := 22) hx hb d_S_calculate_13 (by decide) (fun c2 => ?_) (fun c2 => ?_)
    · have c2 : ¬ kd = 9 := c2
      refine lv_lload_n hx hb d_S_calculate_22 rfl (lv_at hl 1 rfl) ?_
      refine lv_lload_n hx hb d_S_calculate_23 rfl (lv_at hl 2 rfl) ?_
      refine lv_lmul hx hb d_S_calculate_24 ?_
      exact ret_l (v := (x * y)) hx hb hr hlocks hP hK hD hS d_S_calculate_25 ⟨by simp [p_calc, c1, c2], rfl⟩
    · have c2 : kd = 9 := c2
      refine lv_lload_n hx hb d_S_calculate_16 rfl (lv_at hl 1 rfl) ?_
      refine lv_lload_n hx hb d_S_calculate_17 rfl (lv_at hl 2 rfl) ?_
      refine lv_lsub hx hb d_S_calculate_18 ?_
      refine lv_goto (tgt := 25) hx hb d_S_calculate_19 (by decide) ?_
      exact ret_l (v := (x - y)) hx hb hr hlocks hP hK hD hS d_S_calculate_25 ⟨by simp [p_calc, c1, c2], rfl⟩
  · have c1 : kd = 8 := c1
    refine lv_lload_n hx hb d_S_calculate_6 rfl (lv_at hl 1 rfl) ?_
    refine lv_lload_n hx hb d_S_calculate_7 rfl (lv_at hl 2 rfl) ?_
    refine lv_ladd hx hb d_S_calculate_8 ?_
    exact ret_l (v := (x + y)) hx hb hr hlocks hP hK hD hS d_S_calculate_9 ⟨by simp [p_calc, c1], rfl⟩
set_option maxRecDepth 100000 in
set_option maxHeartbeats 4000000 in
theorem c_S_holds (l : Launch) (dC : Nat → ClassId) (dI : Nat → Nat → Nat) (a : Nat → Nat) (k : Nat → ClassId) (X : zX) (s : zC) (kd : Int32) (x : Int32) (y : Int32)  : MetI l y_S_holds w_S_holds (rmN (0)) dC dI (yX k) (wS a k X) [.int kd, .int x, .int y] s (fun r u => (p_holds kd x y = true ∧ r = 1 ∨ p_holds kd x y = false ∧ r = 0) ∧ u = s) := by
  refine metI_of (cc := b_S_holds) (maxL := 3) (ret := (some .boolean)) (by decide) rfl (Nat.le_of_ble_eq_true rfl) ?_
  intro p e9 s9 m args below meth c A ls hx hb hr hts hown hlocks hml hA hP hK hD hS hN hl
  have ht : ∀ w ∈ lw_g, w.before args s9 = true := fun w h => hts w (List.mem_cons_of_mem _ h)
  have hl : lv_has ls 3 [(0, .int kd), (1, .int x), (2, .int y)] := hl
  refine lv_iload_n hx hb d_S_holds_0 rfl (lv_at hl 0 rfl) ?_
  refine lv_bipush (v := 11) hx hb d_S_holds_1 (by decide) ?_
  refine lv_icmp_ne (tgt := 17) hx hb d_S_holds_3 (by decide) (fun c1 => ?_) (fun c1 => ?_)
  · have c1 : ¬ kd = 11 := c1
    refine lv_iload_n hx hb d_S_holds_17 rfl (lv_at hl 0 rfl) ?_
    refine lv_bipush (v := 12) hx hb d_S_holds_18 (by decide) ?_
    refine lv_icmp_ne (tgt := 27) hx hb d_S_holds_20 (by decide) (fun c2 => ?_) (fun c2 => ?_)
    · have c2 : ¬ kd = 12 := c2
      refine lv_iconst (v := 0) hx hb d_S_holds_27 (by decide) ?_
      refine lv_iload_n hx hb d_S_holds_28 rfl (lv_at hl 1 rfl) ?_
      refine lv_iload_n hx hb d_S_holds_29 rfl (lv_at hl 2 rfl) ?_
      refine lv_icmp_ne (tgt := 37) hx hb d_S_holds_30 (by decide) (fun c3 => ?_) (fun c3 => ?_)
      · have c3 : ¬ x = y := c3
        refine lv_iconst (v := 0) hx hb d_S_holds_37 (by decide) ?_
        refine lv_icmp_ne (tgt := 45) hx hb d_S_holds_38 (by decide) (fun c4 => ?_) (fun c4 => ?_)
        · have c4 : ¬ (0 : Int32) = 0 := c4
          exact absurd c4 (by decide)
        · have c4 : (0 : Int32) = 0 := c4
          refine lv_iconst (v := 1) hx hb d_S_holds_41 (by decide) ?_
          refine lv_goto (tgt := 46) hx hb d_S_holds_42 (by decide) ?_
          exact ret_z hx hb hr hlocks hP hK hD hS d_S_holds_46 rfl ⟨Or.inl ⟨by simp [p_holds, c1, c2, c3], rfl⟩, rfl⟩
      · have c3 : x = y := c3
        refine lv_iconst (v := 1) hx hb d_S_holds_33 (by decide) ?_
        refine lv_goto (tgt := 38) hx hb d_S_holds_34 (by decide) ?_
        refine lv_icmp_ne (tgt := 45) hx hb d_S_holds_38 (by decide) (fun c5 => ?_) (fun c5 => ?_)
        · have c5 : ¬ (0 : Int32) = 1 := c5
          refine lv_iconst (v := 0) hx hb d_S_holds_45 (by decide) ?_
          exact ret_z hx hb hr hlocks hP hK hD hS d_S_holds_46 rfl ⟨Or.inr ⟨by simp [p_holds, c1, c2, c3], rfl⟩, rfl⟩
        · have c5 : (0 : Int32) = 1 := c5
          exact absurd c5 (by decide)
    · have c2 : kd = 12 := c2
      refine lv_iconst (v := 1) hx hb d_S_holds_23 (by decide) ?_
      refine lv_goto (tgt := 28) hx hb d_S_holds_24 (by decide) ?_
      refine lv_iload_n hx hb d_S_holds_28 rfl (lv_at hl 1 rfl) ?_
      refine lv_iload_n hx hb d_S_holds_29 rfl (lv_at hl 2 rfl) ?_
      refine lv_icmp_ne (tgt := 37) hx hb d_S_holds_30 (by decide) (fun c6 => ?_) (fun c6 => ?_)
      · have c6 : ¬ x = y := c6
        refine lv_iconst (v := 0) hx hb d_S_holds_37 (by decide) ?_
        refine lv_icmp_ne (tgt := 45) hx hb d_S_holds_38 (by decide) (fun c7 => ?_) (fun c7 => ?_)
        · have c7 : ¬ (1 : Int32) = 0 := c7
          refine lv_iconst (v := 0) hx hb d_S_holds_45 (by decide) ?_
          exact ret_z hx hb hr hlocks hP hK hD hS d_S_holds_46 rfl ⟨Or.inr ⟨by simp [p_holds, c1, c2, c6], rfl⟩, rfl⟩
        · have c7 : (1 : Int32) = 0 := c7
          exact absurd c7 (by decide)
      · have c6 : x = y := c6
        refine lv_iconst (v := 1) hx hb d_S_holds_33 (by decide) ?_
        refine lv_goto (tgt := 38) hx hb d_S_holds_34 (by decide) ?_
        refine lv_icmp_ne (tgt := 45) hx hb d_S_holds_38 (by decide) (fun c8 => ?_) (fun c8 => ?_)
        · have c8 : ¬ (1 : Int32) = 1 := c8
          exact absurd c8 (by decide)
        · have c8 : (1 : Int32) = 1 := c8
          refine lv_iconst (v := 1) hx hb d_S_holds_41 (by decide) ?_
          refine lv_goto (tgt := 46) hx hb d_S_holds_42 (by decide) ?_
          exact ret_z hx hb hr hlocks hP hK hD hS d_S_holds_46 rfl ⟨Or.inl ⟨by simp [p_holds, c1, c2, c6], rfl⟩, rfl⟩
  · have c1 : kd = 11 := c1
    refine lv_iload_n hx hb d_S_holds_6 rfl (lv_at hl 1 rfl) ?_
    refine lv_iload_n hx hb d_S_holds_7 rfl (lv_at hl 2 rfl) ?_
    refine lv_icmp_ge (tgt := 15) hx hb d_S_holds_8 (by decide) (fun c9 => ?_) (fun c9 => ?_)
    · have c9 : ¬ x < y := Int32.not_lt.mpr c9
      refine lv_iconst (v := 0) hx hb d_S_holds_15 (by decide) ?_
      exact ret_z hx hb hr hlocks hP hK hD hS d_S_holds_16 rfl ⟨Or.inr ⟨by simp [p_holds, c1, c9], rfl⟩, rfl⟩
    · have c9 : x < y := Int32.not_le.mp c9
      refine lv_iconst (v := 1) hx hb d_S_holds_11 (by decide) ?_
      refine lv_goto (tgt := 16) hx hb d_S_holds_12 (by decide) ?_
      exact ret_z hx hb hr hlocks hP hK hD hS d_S_holds_16 rfl ⟨Or.inl ⟨by simp [p_holds, c1, c9], rfl⟩, rfl⟩
set_option maxRecDepth 100000 in
set_option maxHeartbeats 4000000 in
theorem c_S_isUpToEnd (l : Launch) (dC : Nat → ClassId) (dI : Nat → Nat → Nat) (a : Nat → Nat) (k : Nat → ClassId) (X : zX) (s : zC) (e : Int32) (he : vp_in e 60) (hy0 : vp_in (f_y (x_F X) (ix e)) 60) (hz0 : vp_in (f_z (x_F X) (ix e)) 60) : MetI l y_S_isUpToEnd w_S_isUpToEnd (rmN (0)) dC dI (yX k) (wS a k X) [.ref (a 1), .int e] s (fun r u => (p_upto (x_F X) e s = true ∧ r = 1 ∨ p_upto (x_F X) e s = false ∧ r = 0) ∧ u = s) := by
  refine metI_of (cc := b_S_isUpToEnd) (maxL := 3) (ret := (some .boolean)) (by decide) rfl (Nat.le_of_ble_eq_true rfl) ?_
  intro p e9 s9 m args below meth c A ls hx hb hr hts hown hlocks hml hA hP hK hD hS hN hl
  have ht : ∀ w ∈ lw_g, w.before args s9 = true := fun w h => hts w (List.mem_cons_of_mem _ h)
  have hl : lv_has ls 3 [(0, .ref (a 1)), (1, .int e)] := hl
  refine lv_aload_n hx hb d_S_isUpToEnd_0 rfl (lv_at hl 0 rfl) ?_
  refine va_get (D := (dC, dI)) (ci := 1) (v := .ref (a 11)) (C := R_S) (T := T_S) (N := 12) hx hb ht in_S hown hK hP 1 rfl rfl 2 (by decide) (ht _ k_64) (fun _ h => h) rfl d_S_isUpToEnd_1 ?_
  refine lv_aload_n hx hb d_S_isUpToEnd_4 rfl (lv_at hl 0 rfl) ?_
  refine va_get (D := (dC, dI)) (ci := 1) (v := .ref (a 2)) (C := R_S) (T := T_S) (N := 12) hx hb ht in_S hown hK hP 1 rfl rfl 0 (by decide) (ht _ k_61) (fun _ h => h) rfl d_S_isUpToEnd_5 ?_
  refine va_get (D := (dC, dI)) (ci := 0) (v := .ref (a 6)) (C := R_F) (T := T_F) (N := 8) hx hb ht in_F hown hK hP 2 rfl rfl 3 (by decide) (ht _ k_33) (fun _ h => h) rfl d_S_isUpToEnd_8 ?_
  refine lv_iload_n hx hb d_S_isUpToEnd_11 rfl (lv_at hl 1 rfl) ?_
  refine va_iald hx hb hK hP 6 3 rfl rfl he d_S_isUpToEnd_12 ?_
  refine va_iald hx hb hK hP 11 8 rfl rfl hy0 d_S_isUpToEnd_13 ?_
  refine lv_istore_n hx hb d_S_isUpToEnd_14 rfl hl (by decide) (lv' := [(2, .int (c_rs s (ix (f_y (x_F X) (ix e))))), (0, .ref (a 1)), (1, .int e)]) rfl (fun ls hl => ?_)
  refine lv_aload_n hx hb d_S_isUpToEnd_15 rfl (lv_at hl 1 rfl) ?_
  refine va_get (D := (dC, dI)) (ci := 1) (v := .ref (a 11)) (C := R_S) (T := T_S) (N := 12) hx hb ht in_S hown hK hP 1 rfl rfl 2 (by decide) (ht _ k_64) (fun _ h => h) rfl d_S_isUpToEnd_16 ?_
  refine lv_aload_n hx hb d_S_isUpToEnd_19 rfl (lv_at hl 1 rfl) ?_
  refine va_get (D := (dC, dI)) (ci := 1) (v := .ref (a 2)) (C := R_S) (T := T_S) (N := 12) hx hb ht in_S hown hK hP 1 rfl rfl 0 (by decide) (ht _ k_61) (fun _ h => h) rfl d_S_isUpToEnd_20 ?_
  refine va_get (D := (dC, dI)) (ci := 0) (v := .ref (a 7)) (C := R_F) (T := T_F) (N := 8) hx hb ht in_F hown hK hP 2 rfl rfl 4 (by decide) (ht _ k_35) (fun _ h => h) rfl d_S_isUpToEnd_23 ?_
  refine lv_iload_n hx hb d_S_isUpToEnd_26 rfl (lv_at hl 2 rfl) ?_
  refine va_iald hx hb hK hP 7 4 rfl rfl he d_S_isUpToEnd_27 ?_
  refine va_iald hx hb hK hP 11 8 rfl rfl hz0 d_S_isUpToEnd_28 ?_
  refine lv_if_le (tgt := 52) hx hb d_S_isUpToEnd_29 (by decide) (fun c1 => ?_) (fun c1 => ?_)
  · have c1 : ¬ (0 : Int32) < c_rs s (ix (f_z (x_F X) (ix e))) := Int32.not_lt.mpr c1
    refine lv_aload_n hx hb d_S_isUpToEnd_52 rfl (lv_at hl 1 rfl) ?_
    refine va_get (D := (dC, dI)) (ci := 1) (v := .ref (a 12)) (C := R_S) (T := T_S) (N := 12) hx hb ht in_S hown hK hP 1 rfl rfl 3 (by decide) (ht _ k_65) (fun _ h => h) rfl d_S_isUpToEnd_53 ?_
    refine lv_iload_n hx hb d_S_isUpToEnd_56 rfl (lv_at hl 2 rfl) ?_
    refine va_lald hx hb hK hP 12 9 rfl rfl he d_S_isUpToEnd_57 ?_
    refine lv_iload_n hx hb d_S_isUpToEnd_58 rfl (lv_at hl 0 rfl) ?_
    refine lv_i2l hx hb d_S_isUpToEnd_59 rfl ?_
    refine W.lcmp hx hb d_S_isUpToEnd_60 ?_
    refine lv_if_lt (tgt := 68) hx hb d_S_isUpToEnd_61 (by decide) (fun c2 => ?_) (fun c2 => ?_)
    · have c2 : c_ct s (ix e) < (c_rs s (ix (f_y (x_F X) (ix e)))).toInt64 := (lg_cmp_lt _ _).mp c2
      refine lv_iconst (v := 0) hx hb d_S_isUpToEnd_68 (by decide) ?_
      exact ret_z hx hb hr hlocks hP hK hD hS d_S_isUpToEnd_69 rfl ⟨Or.inr ⟨by simp [p_upto, c1, c2], rfl⟩, rfl⟩
    · have c2 : ¬ c_ct s (ix e) < (c_rs s (ix (f_y (x_F X) (ix e)))).toInt64 := fun q => c2 ((lg_cmp_lt _ _).mpr q)
      refine lv_iconst (v := 1) hx hb d_S_isUpToEnd_64 (by decide) ?_
      refine lv_goto (tgt := 69) hx hb d_S_isUpToEnd_65 (by decide) ?_
      exact ret_z hx hb hr hlocks hP hK hD hS d_S_isUpToEnd_69 rfl ⟨Or.inl ⟨by simp [p_upto, c1, c2], rfl⟩, rfl⟩
  · have c1 : (0 : Int32) < c_rs s (ix (f_z (x_F X) (ix e))) := Int32.not_le.mp c1
    refine lv_aload_n hx hb d_S_isUpToEnd_32 rfl (lv_at hl 1 rfl) ?_
    refine va_get (D := (dC, dI)) (ci := 1) (v := .ref (a 12)) (C := R_S) (T := T_S) (N := 12) hx hb ht in_S hown hK hP 1 rfl rfl 3 (by decide) (ht _ k_65) (fun _ h => h) rfl d_S_isUpToEnd_33 ?_
    refine lv_iload_n hx hb d_S_isUpToEnd_36 rfl (lv_at hl 2 rfl) ?_
    refine va_lald hx hb hK hP 12 9 rfl rfl he d_S_isUpToEnd_37 ?_
    refine lv_iload_n hx hb d_S_isUpToEnd_38 rfl (lv_at hl 0 rfl) ?_
    refine lv_i2l hx hb d_S_isUpToEnd_39 rfl ?_
    refine W.lcmp hx hb d_S_isUpToEnd_40 ?_
    refine lv_if_gt (tgt := 48) hx hb d_S_isUpToEnd_41 (by decide) (fun c3 => ?_) (fun c3 => ?_)
    · have c3 : (c_rs s (ix (f_y (x_F X) (ix e)))).toInt64 < c_ct s (ix e) := (lg_cmp_gt _ _).mp c3
      refine lv_iconst (v := 0) hx hb d_S_isUpToEnd_48 (by decide) ?_
      refine lv_goto (tgt := 69) hx hb d_S_isUpToEnd_49 (by decide) ?_
      exact ret_z hx hb hr hlocks hP hK hD hS d_S_isUpToEnd_69 rfl ⟨Or.inr ⟨by simp [p_upto, c1, c3], rfl⟩, rfl⟩
    · have c3 : ¬ (c_rs s (ix (f_y (x_F X) (ix e)))).toInt64 < c_ct s (ix e) := fun q => c3 ((lg_cmp_gt _ _).mpr q)
      refine lv_iconst (v := 1) hx hb d_S_isUpToEnd_44 (by decide) ?_
      refine lv_goto (tgt := 69) hx hb d_S_isUpToEnd_45 (by decide) ?_
      exact ret_z hx hb hr hlocks hP hK hD hS d_S_isUpToEnd_69 rfl ⟨Or.inl ⟨by simp [p_upto, c1, c3], rfl⟩, rfl⟩
