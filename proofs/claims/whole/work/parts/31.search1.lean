set_option maxRecDepth 100000 in
set_option maxHeartbeats 4000000 in
theorem c_S_start (l : Launch) (dC : Nat → ClassId) (dI : Nat → Nat → Nat) (a : Nat → Nat) (k : Nat → ClassId) (X : zX) (s : zC) (e : Int32) (he : vp_in e 60) (hW : Wk s) : MetV l y_S_start w_S_start (rmN (0)) dC dI (yX k) (wS a k X) [.ref (a 1), .int e] s (fun u => u = s_st s e 0 ∧ Wk u) := by
  refine metV_of (cc := b_S_start) (maxL := 2) (ret := none) (by decide) rfl (Nat.le_of_ble_eq_true rfl) ?_
  intro p e9 s9 m args below meth c A ls hx hb hr hts hown hlocks hml hA hP hK hD hS hN hl
  have ht : ∀ w ∈ lw_g, w.before args s9 = true := fun w h => hts w (List.mem_cons_of_mem _ h)
  have hl : lv_has ls 2 [(0, .ref (a 1)), (1, .int e)] := hl
  refine lv_aload_n hx hb d_S_start_0 rfl (lv_at hl 0 rfl) ?_
  refine va_get (D := (dC, dI)) (ci := 1) (v := .ref (a 10)) (C := R_S) (T := T_S) (N := 12) hx hb ht in_S hown hK hP 1 rfl rfl 1 (by decide) (ht _ k_63) (fun _ h => h) rfl d_S_start_1 ?_
  refine lv_iload_n hx hb d_S_start_4 rfl (lv_at hl 1 rfl) ?_
  refine lv_iconst (v := 0) hx hb d_S_start_5 (by decide) ?_
  refine va_iast hx hb hK hP hD hS 10 7 rfl rfl he d_S_start_6 (fun H locs hP hD hS => ?_)
  have hP : va_P (dC, dI) vwCl (wS a k X (s_st s e 0)) H := cP_S_st hP
  have hD : va_D A (wS a k X (s_st s e 0)) := cD_S_st hD
  exact ret_v hx hb hr hlocks hP hK hD hS d_S_start_7 ⟨rfl, (wk_st hW)⟩
set_option maxRecDepth 100000 in
set_option maxHeartbeats 4000000 in
theorem c_S_give (l : Launch) (dC : Nat → ClassId) (dI : Nat → Nat → Nat) (a : Nat → Nat) (k : Nat → ClassId) (X : zX) (s : zC) (e : Int32) (v : Int32) (he : vp_in e 60) (hW : Wk s) : MetI l y_S_give w_S_give (rmN (0)) dC dI (yX k) (wS a k X) [.ref (a 1), .int e, .int v] s (fun r u => p_give e v s = (r, u) ∧ Wk u) := by
  refine metI_of (cc := b_S_give) (maxL := 3) (ret := (some .int)) (by decide) rfl (Nat.le_of_ble_eq_true rfl) ?_
  intro p e9 s9 m args below meth c A ls hx hb hr hts hown hlocks hml hA hP hK hD hS hN hl
  have ht : ∀ w ∈ lw_g, w.before args s9 = true := fun w h => hts w (List.mem_cons_of_mem _ h)
  have hl : lv_has ls 3 [(0, .ref (a 1)), (1, .int e), (2, .int v)] := hl
  refine lv_aload_n hx hb d_S_give_0 rfl (lv_at hl 0 rfl) ?_
  refine va_get (D := (dC, dI)) (ci := 1) (v := .ref (a 11)) (C := R_S) (T := T_S) (N := 12) hx hb ht in_S hown hK hP 1 rfl rfl 2 (by decide) (ht _ k_64) (fun _ h => h) rfl d_S_give_1 ?_
  refine lv_iload_n hx hb d_S_give_4 rfl (lv_at hl 1 rfl) ?_
  refine lv_iload_n hx hb d_S_give_5 rfl (lv_at hl 2 rfl) ?_
  refine va_iast hx hb hK hP hD hS 11 8 rfl rfl he d_S_give_6 (fun H locs hP hD hS => ?_)
  have hP : va_P (dC, dI) vwCl (wS a k X (s_rs s e v)) H := cP_S_rs hP
  have hD : va_D A (wS a k X (s_rs s e v)) := cD_S_rs hD
  refine lv_iconst (v := 1) hx hb d_S_give_7 (by decide) ?_
  exact ret_i (v := 1) hx hb hr hlocks hP hK hD hS d_S_give_8 ⟨by simp [p_give], (wk_rs hW)⟩
set_option maxRecDepth 100000 in
set_option maxHeartbeats 4000000 in
theorem c_S_giveForFuel (l : Launch) (dC : Nat → ClassId) (dI : Nat → Nat → Nat) (a : Nat → Nat) (k : Nat → ClassId) (X : zX) (s : zC) (e : Int32) (v : Int32) (he : vp_in e 60) (hW : Wk s) : MetI l y_S_giveForFuel w_S_giveForFuel (rmN (1)) dC dI (yX k) (wS a k X) [.ref (a 1), .int e, .int v] s (fun r u => p_fuel (x_F X) e v s = (r, u) ∧ Wk u) := by
  refine metI_of (cc := b_S_giveForFuel) (maxL := 3) (ret := (some .int)) (by decide) rfl (Nat.le_of_ble_eq_true rfl) ?_
  intro p e9 s9 m args below meth c A ls hx hb hr hts hown hlocks hml hA hP hK hD hS hN hl
  have ht : ∀ w ∈ lw_g, w.before args s9 = true := fun w h => hts w (List.mem_cons_of_mem _ h)
  have hl : lv_has ls 3 [(0, .ref (a 1)), (1, .int e), (2, .int v)] := hl
  refine lv_aload_n hx hb d_S_giveForFuel_0 rfl (lv_at hl 0 rfl) ?_
  refine va_get (D := (dC, dI)) (ci := 1) (v := .int (g_sp (c_g s))) (C := R_S) (T := T_S) (N := 12) hx hb ht in_S hown hK hP 1 rfl rfl 7 (by decide) (ht _ k_72) (fun _ h => h) rfl d_S_giveForFuel_1 ?_
  refine lv_aload_n hx hb d_S_giveForFuel_4 rfl (lv_at hl 0 rfl) ?_
  refine va_get (D := (dC, dI)) (ci := 1) (v := .int (f_f (x_F X))) (C := R_S) (T := T_S) (N := 12) hx hb ht in_S hown hK hP 1 rfl rfl 9 (by decide) (ht _ k_76) (fun _ h => h) rfl d_S_giveForFuel_5 ?_
  refine lv_icmp_lt (tgt := 14) hx hb d_S_giveForFuel_8 (by decide) (fun c1 => ?_) (fun c1 => ?_)
  · have c1 : g_sp (c_g s) < f_f (x_F X) := c1
    refine lv_aload_n hx hb d_S_giveForFuel_14 rfl (lv_at hl 0 rfl) ?_
    refine lv_dup hx hb d_S_giveForFuel_15 rfl ?_
    refine va_get (D := (dC, dI)) (ci := 1) (v := .int (g_sp (c_g s))) (C := R_S) (T := T_S) (N := 12) hx hb ht in_S hown hK hP 1 rfl rfl 7 (by decide) (ht _ k_72) (fun _ h => h) rfl d_S_giveForFuel_16 ?_
    refine lv_iconst (v := 1) hx hb d_S_giveForFuel_19 (by decide) ?_
    refine lv_iadd hx hb d_S_giveForFuel_20 ?_
    refine va_put (D := (dC, dI)) (ci := 1) (v := .int (g_sp (c_g s) + 1)) (ty := .int) (C := R_S) (T := T_S) (N := 12) hx hb ht in_S t_S t_S_ok n_S hown hK hP hD hS 1 rfl rfl 7 (by decide) (ht _ k_72) (fun _ h => h) rfl (by decide +kernel) rfl rfl (Nat.le_of_ble_eq_true rfl) d_S_giveForFuel_21 (fun H locs hP hD hS => ?_)
    have hP : va_P (dC, dI) vwCl (wS a k X (s_g s (h_sp (c_g s)))) H := cP_S_sp hP
    have hD : va_D A (wS a k X (s_g s (h_sp (c_g s)))) := cD_S_sp hD
    refine lv_aload_n hx hb d_S_giveForFuel_24 rfl (lv_at hl 0 rfl) ?_
    refine lv_iload_n hx hb d_S_giveForFuel_25 rfl (lv_at hl 1 rfl) ?_
    refine lv_iload_n hx hb d_S_giveForFuel_26 rfl (lv_at hl 2 rfl) ?_
    refine call_i (As := [.int e, .int v]) (rest := []) (ci := 1) (q0 := 1) (c_S_give l dC dI a k X (s_g s (h_sp (c_g s))) e v he (wk_sp hW)) k_209 k_211 s_S_give k_2 k_212 ⟨rfl, pc_S_give.1, pc_S_give.2, pd_S_give⟩ rfl rfl rfl rfl rfl (rm_le (by omega) (by decide)) (Nat.le_of_ble_eq_true rfl) rfl hx hb hml hown ht hl.1 hP hK hD hS hA hN d_S_giveForFuel_27 (fun r2 u3 H locs q4 hP hD hS => ?_)
    obtain ⟨q4, hW4⟩ := q4
    have hP : va_P (dC, dI) vwCl (wS a k X u3) H := hP
    have hD : va_D A (wS a k X u3) := hD
    exact ret_i (v := r2) hx hb hr hlocks hP hK hD hS d_S_giveForFuel_30 ⟨by simp [p_fuel, c1, q4], hW4⟩
  · have c1 : ¬ g_sp (c_g s) < f_f (x_F X) := c1
    refine lv_bipush (v := (-5)) hx hb d_S_giveForFuel_11 (by decide) ?_
    exact ret_i (v := (-5)) hx hb hr hlocks hP hK hD hS d_S_giveForFuel_13 ⟨by simp [p_fuel, c1], hW⟩
set_option maxRecDepth 100000 in
set_option maxHeartbeats 4000000 in
theorem c_S_handUp (l : Launch) (dC : Nat → ClassId) (dI : Nat → Nat → Nat) (a : Nat → Nat) (k : Nat → ClassId) (X : zX) (s : zC) (e : Int32) (x : Int32) (v : Int32) (he : vp_in e 60) (hx0 : vp_in x 60) (hW : Wk s) : MetI l y_S_handUp w_S_handUp (rmN (1)) dC dI (yX k) (wS a k X) [.ref (a 1), .int e, .int x, .int v] s (fun r u => p_up e x (v, s) = (r, u) ∧ Wk u) := by
  refine metI_of (cc := b_S_handUp) (maxL := 4) (ret := (some .int)) (by decide) rfl (Nat.le_of_ble_eq_true rfl) ?_
  intro p e9 s9 m args below meth c A ls hx hb hr hts hown hlocks hml hA hP hK hD hS hN hl
  have ht : ∀ w ∈ lw_g, w.before args s9 = true := fun w h => hts w (List.mem_cons_of_mem _ h)
  have hl : lv_has ls 4 [(0, .ref (a 1)), (1, .int e), (2, .int x), (3, .int v)] := hl
  refine lv_iload_n hx hb d_S_handUp_0 rfl (lv_at hl 3 rfl) ?_
  refine lv_iconst (v := 1) hx hb d_S_handUp_1 (by decide) ?_
  refine lv_icmp_ne (tgt := 19) hx hb d_S_handUp_2 (by decide) (fun c1 => ?_) (fun c1 => ?_)
  · have c1 : ¬ v = 1 := c1
    refine lv_iload_n hx hb d_S_handUp_19 rfl (lv_at hl 3 rfl) ?_
    exact ret_i (v := v) hx hb hr hlocks hP hK hD hS d_S_handUp_20 ⟨by simp [p_up, c1], hW⟩
  · have c1 : v = 1 := c1
    refine lv_aload_n hx hb d_S_handUp_5 rfl (lv_at hl 0 rfl) ?_
    refine lv_iload_n hx hb d_S_handUp_6 rfl (lv_at hl 1 rfl) ?_
    refine lv_aload_n hx hb d_S_handUp_7 rfl (lv_at hl 0 rfl) ?_
    refine va_get (D := (dC, dI)) (ci := 1) (v := .ref (a 11)) (C := R_S) (T := T_S) (N := 12) hx hb ht in_S hown hK hP 1 rfl rfl 2 (by decide) (ht _ k_64) (fun _ h => h) rfl d_S_handUp_8 ?_
    refine lv_iload_n hx hb d_S_handUp_11 rfl (lv_at hl 2 rfl) ?_
    refine va_iald hx hb hK hP 11 8 rfl rfl hx0 d_S_handUp_12 ?_
    refine call_i (As := [.int e, .int (c_rs s (ix x))]) (rest := []) (ci := 1) (q0 := 1) (c_S_give l dC dI a k X s e (c_rs s (ix x)) he hW) k_209 k_211 s_S_give k_2 k_212 ⟨rfl, pc_S_give.1, pc_S_give.2, pd_S_give⟩ rfl rfl rfl rfl rfl (rm_le (by omega) (by decide)) (Nat.le_of_ble_eq_true rfl) rfl hx hb hml hown ht hl.1 hP hK hD hS hA hN d_S_handUp_13 (fun r2 u3 H locs q4 hP hD hS => ?_)
    obtain ⟨q4, hW4⟩ := q4
    have hP : va_P (dC, dI) vwCl (wS a k X u3) H := hP
    have hD : va_D A (wS a k X u3) := hD
    refine lv_goto (tgt := 20) hx hb d_S_handUp_16 (by decide) ?_
    exact ret_i (v := r2) hx hb hr hlocks hP hK hD hS d_S_handUp_20 ⟨by simp [p_up, c1, q4], hW4⟩
set_option maxRecDepth 100000 in
set_option maxHeartbeats 4000000 in
theorem c_S_askLeaf (l : Launch) (dC : Nat → ClassId) (dI : Nat → Nat → Nat) (a : Nat → Nat) (k : Nat → ClassId) (X : zX) (s : zC) (e : Int32) (v : Int32) (he : vp_in e 60) (hW : Wk s) : MetI l y_S_askLeaf w_S_askLeaf (rmN (2)) dC dI (yX k) (wS a k X) [.ref (a 1), .int e, .int v] s (fun r u => p_leaf (x_F X) e v s = (r, u) ∧ Wk u) := by
  refine metI_of (cc := b_S_askLeaf) (maxL := 3) (ret := (some .int)) (by decide) rfl (Nat.le_of_ble_eq_true rfl) ?_
  intro p e9 s9 m args below meth c A ls hx hb hr hts hown hlocks hml hA hP hK hD hS hN hl
  have ht : ∀ w ∈ lw_g, w.before args s9 = true := fun w h => hts w (List.mem_cons_of_mem _ h)
  have hl : lv_has ls 3 [(0, .ref (a 1)), (1, .int e), (2, .int v)] := hl
  refine lv_aload_n hx hb d_S_askLeaf_0 rfl (lv_at hl 0 rfl) ?_
  refine va_get (D := (dC, dI)) (ci := 1) (v := .ref (a 10)) (C := R_S) (T := T_S) (N := 12) hx hb ht in_S hown hK hP 1 rfl rfl 1 (by decide) (ht _ k_63) (fun _ h => h) rfl d_S_askLeaf_1 ?_
  refine lv_iload_n hx hb d_S_askLeaf_4 rfl (lv_at hl 1 rfl) ?_
  refine va_iald hx hb hK hP 10 7 rfl rfl he d_S_askLeaf_5 ?_
  refine lv_if_eq (tgt := 11) hx hb d_S_askLeaf_6 (by decide) (fun c1 => ?_) (fun c1 => ?_)
  · have c1 : c_st s (ix e) = 0 := c1
    refine lv_aload_n hx hb d_S_askLeaf_11 rfl (lv_at hl 0 rfl) ?_
    refine va_get (D := (dC, dI)) (ci := 1) (v := .ref (a 10)) (C := R_S) (T := T_S) (N := 12) hx hb ht in_S hown hK hP 1 rfl rfl 1 (by decide) (ht _ k_63) (fun _ h => h) rfl d_S_askLeaf_12 ?_
    refine lv_iload_n hx hb d_S_askLeaf_15 rfl (lv_at hl 1 rfl) ?_
    refine lv_iconst (v := 5) hx hb d_S_askLeaf_16 (by decide) ?_
    refine va_iast hx hb hK hP hD hS 10 7 rfl rfl he d_S_askLeaf_17 (fun H locs hP hD hS => ?_)
    have hP : va_P (dC, dI) vwCl (wS a k X (s_st s e 5)) H := cP_S_st hP
    have hD : va_D A (wS a k X (s_st s e 5)) := cD_S_st hD
    refine lv_aload_n hx hb d_S_askLeaf_18 rfl (lv_at hl 0 rfl) ?_
    refine lv_iload_n hx hb d_S_askLeaf_19 rfl (lv_at hl 1 rfl) ?_
    refine lv_iload_n hx hb d_S_askLeaf_20 rfl (lv_at hl 2 rfl) ?_
    refine call_i (As := [.int e, .int v]) (rest := []) (ci := 1) (q0 := 1) (c_S_giveForFuel l dC dI a k X (s_st s e 5) e v he (wk_st hW)) k_205 k_207 s_S_giveForFuel k_2 k_208 ⟨rfl, pc_S_giveForFuel.1, pc_S_giveForFuel.2, pd_S_giveForFuel⟩ rfl rfl rfl rfl rfl (rm_le (by omega) (by decide)) (Nat.le_of_ble_eq_true rfl) rfl hx hb hml hown ht hl.1 hP hK hD hS hA hN d_S_askLeaf_21 (fun r2 u3 H locs q4 hP hD hS => ?_)
    obtain ⟨q4, hW4⟩ := q4
    have hP : va_P (dC, dI) vwCl (wS a k X u3) H := hP
    have hD : va_D A (wS a k X u3) := hD
    exact ret_i (v := r2) hx hb hr hlocks hP hK hD hS d_S_askLeaf_24 ⟨by simp [p_leaf, c1, q4], hW4⟩
  · have c1 : ¬ c_st s (ix e) = 0 := c1
    refine lv_iconst (v := 0) hx hb d_S_askLeaf_9 (by decide) ?_
    exact ret_i (v := 0) hx hb hr hlocks hP hK hD hS d_S_askLeaf_10 ⟨by simp [p_leaf, c1], hW⟩
set_option maxRecDepth 100000 in
set_option maxHeartbeats 4000000 in
theorem c_S_tryOnce (l : Launch) (dC : Nat → ClassId) (dI : Nat → Nat → Nat) (a : Nat → Nat) (k : Nat → ClassId) (X : zX) (T : zT) (M d : Nat) (hAsk : AskOK l dC dI a k X T M d) (s : zC) (e : Int32) (te : Tr (x_F X) T d e) (hW : Wk s) : MetI l y_S_tryOnce w_S_tryOnce (rmN (5 * d + 4)) dC dI (yX k) (wS a k X) [.ref (a 1), .int e] s (fun r u => p_try (p_all (x_F X) M d) e s = (r, u) ∧ Wk u) := by
  refine metI_of (cc := b_S_tryOnce) (maxL := 2) (ret := (some .int)) (by decide) rfl (Nat.le_of_ble_eq_true rfl) ?_
  intro p e9 s9 m args below meth c A ls hx hb hr hts hown hlocks hml hA hP hK hD hS hN hl
  have ht : ∀ w ∈ lw_g, w.before args s9 = true := fun w h => hts w (List.mem_cons_of_mem _ h)
  have hl : lv_has ls 2 [(0, .ref (a 1)), (1, .int e)] := hl
  refine lv_aload_n hx hb d_S_tryOnce_0 rfl (lv_at hl 0 rfl) ?_
  refine lv_iload_n hx hb d_S_tryOnce_1 rfl (lv_at hl 1 rfl) ?_
  refine call_v (As := [.int e]) (rest := []) (ci := 1) (q0 := 1) (c_S_start l dC dI a k X s e (Tr_in te) hW) k_185 k_187 s_S_start k_2 k_188 ⟨rfl, pc_S_start.1, pc_S_start.2, pd_S_start⟩ rfl rfl rfl rfl rfl (rm_le (by omega) (by decide)) (Nat.le_of_ble_eq_true rfl) rfl hx hb hml hown ht hl.1 hP hK hD hS hA hN d_S_tryOnce_2 (fun u2 H locs q3 hP hD hS => ?_)
  obtain ⟨rfl, hW3⟩ := q3
  have hP : va_P (dC, dI) vwCl (wS a k X (s_st s e 0)) H := hP
  have hD : va_D A (wS a k X (s_st s e 0)) := hD
  refine lv_aload_n hx hb d_S_tryOnce_5 rfl (lv_at hl 0 rfl) ?_
  refine lv_iload_n hx hb d_S_tryOnce_6 rfl (lv_at hl 1 rfl) ?_
  refine call_i (As := [.int e]) (rest := []) (ci := 1) (q0 := 1) (hAsk e (s_st s e 0) te hW3) k_197 k_199 s_S_ask k_2 k_200 ⟨rfl, pc_S_ask.1, pc_S_ask.2, pd_S_ask⟩ rfl rfl rfl rfl rfl (rm_le (by omega) (by decide)) (Nat.le_of_ble_eq_true rfl) rfl hx hb hml hown ht hl.1 hP hK hD hS hA hN d_S_tryOnce_7 (fun r4 u5 H locs q6 hP hD hS => ?_)
  obtain ⟨q6, hW6⟩ := q6
  have hP : va_P (dC, dI) vwCl (wS a k X u5) H := hP
  have hD : va_D A (wS a k X u5) := hD
  exact ret_i (v := r4) hx hb hr hlocks hP hK hD hS d_S_tryOnce_10 ⟨by simp [p_try, q6], hW6⟩
set_option maxRecDepth 100000 in
set_option maxHeartbeats 4000000 in
theorem c_S_askX (l : Launch) (dC : Nat → ClassId) (dI : Nat → Nat → Nat) (a : Nat → Nat) (k : Nat → ClassId) (X : zX) (T : zT) (M d : Nat) (hAsk : AskOK l dC dI a k X T M d) (s : zC) (e : Int32) (he : vp_in e 60) (tx : Tr (x_F X) T d (f_x (x_F X) (ix e))) (hW : Wk s) : MetI l y_S_askX w_S_askX (rmN (5 * d + 4)) dC dI (yX k) (wS a k X) [.ref (a 1), .int e] s (fun r u => p_x (x_F X) (p_all (x_F X) M d) e s = (r, u) ∧ Wk u) := by
  refine metI_of (cc := b_S_askX) (maxL := 2) (ret := (some .int)) (by decide) rfl (Nat.le_of_ble_eq_true rfl) ?_
  intro p e9 s9 m args below meth c A ls hx hb hr hts hown hlocks hml hA hP hK hD hS hN hl
  have ht : ∀ w ∈ lw_g, w.before args s9 = true := fun w h => hts w (List.mem_cons_of_mem _ h)
  have hl : lv_has ls 2 [(0, .ref (a 1)), (1, .int e)] := hl
  refine lv_aload_n hx hb d_S_askX_0 rfl (lv_at hl 0 rfl) ?_
  refine va_get (D := (dC, dI)) (ci := 1) (v := .ref (a 10)) (C := R_S) (T := T_S) (N := 12) hx hb ht in_S hown hK hP 1 rfl rfl 1 (by decide) (ht _ k_63) (fun _ h => h) rfl d_S_askX_1 ?_
  refine lv_iload_n hx hb d_S_askX_4 rfl (lv_at hl 1 rfl) ?_
  refine va_iald hx hb hK hP 10 7 rfl rfl he d_S_askX_5 ?_
  refine lv_if_ne (tgt := 22) hx hb d_S_askX_6 (by decide) (fun c1 => ?_) (fun c1 => ?_)
  · have c1 : ¬ c_st s (ix e) = 0 := c1
    refine lv_aload_n hx hb d_S_askX_22 rfl (lv_at hl 0 rfl) ?_
    refine va_get (D := (dC, dI)) (ci := 1) (v := .ref (a 10)) (C := R_S) (T := T_S) (N := 12) hx hb ht in_S hown hK hP 1 rfl rfl 1 (by decide) (ht _ k_63) (fun _ h => h) rfl d_S_askX_23 ?_
    refine lv_iload_n hx hb d_S_askX_26 rfl (lv_at hl 1 rfl) ?_
    refine lv_iconst (v := 1) hx hb d_S_askX_27 (by decide) ?_
    refine va_iast hx hb hK hP hD hS 10 7 rfl rfl he d_S_askX_28 (fun H locs hP hD hS => ?_)
    have hP : va_P (dC, dI) vwCl (wS a k X (s_st s e 1)) H := cP_S_st hP
    have hD : va_D A (wS a k X (s_st s e 1)) := cD_S_st hD
    refine lv_aload_n hx hb d_S_askX_29 rfl (lv_at hl 0 rfl) ?_
    refine lv_aload_n hx hb d_S_askX_30 rfl (lv_at hl 0 rfl) ?_
    refine va_get (D := (dC, dI)) (ci := 1) (v := .ref (a 2)) (C := R_S) (T := T_S) (N := 12) hx hb ht in_S hown hK hP 1 rfl rfl 0 (by decide) (ht _ k_61) (fun _ h => h) rfl d_S_askX_31 ?_
    refine va_get (D := (dC, dI)) (ci := 0) (v := .ref (a 5)) (C := R_F) (T := T_F) (N := 8) hx hb ht in_F hown hK hP 2 rfl rfl 2 (by decide) (ht _ k_31) (fun _ h => h) rfl d_S_askX_34 ?_
    refine lv_iload_n hx hb d_S_askX_37 rfl (lv_at hl 1 rfl) ?_
    refine va_iald hx hb hK hP 5 2 rfl rfl he d_S_askX_38 ?_
    refine call_i (As := [.int (f_x (x_F X) (ix e))]) (rest := []) (ci := 1) (q0 := 1) (hAsk (f_x (x_F X) (ix e)) (s_st s e 1) tx (wk_st hW)) k_197 k_199 s_S_ask k_2 k_200 ⟨rfl, pc_S_ask.1, pc_S_ask.2, pd_S_ask⟩ rfl rfl rfl rfl rfl (rm_le (by omega) (by decide)) (Nat.le_of_ble_eq_true rfl) rfl hx hb hml hown ht hl.1 hP hK hD hS hA hN d_S_askX_39 (fun r2 u3 H locs q4 hP hD hS => ?_)
    obtain ⟨q4, hW4⟩ := q4
    have hP : va_P (dC, dI) vwCl (wS a k X u3) H := hP
    have hD : va_D A (wS a k X u3) := hD
    exact ret_i (v := r2) hx hb hr hlocks hP hK hD hS d_S_askX_42 ⟨by simp [p_x, c1, q4], hW4⟩
  · have c1 : c_st s (ix e) = 0 := c1
    refine lv_aload_n hx hb d_S_askX_9 rfl (lv_at hl 0 rfl) ?_
    refine lv_aload_n hx hb d_S_askX_10 rfl (lv_at hl 0 rfl) ?_
    refine va_get (D := (dC, dI)) (ci := 1) (v := .ref (a 2)) (C := R_S) (T := T_S) (N := 12) hx hb ht in_S hown hK hP 1 rfl rfl 0 (by decide) (ht _ k_61) (fun _ h => h) rfl d_S_askX_11 ?_
    refine va_get (D := (dC, dI)) (ci := 0) (v := .ref (a 5)) (C := R_F) (T := T_F) (N := 8) hx hb ht in_F hown hK hP 2 rfl rfl 2 (by decide) (ht _ k_31) (fun _ h => h) rfl d_S_askX_14 ?_
    refine lv_iload_n hx hb d_S_askX_17 rfl (lv_at hl 1 rfl) ?_
    refine va_iald hx hb hK hP 5 2 rfl rfl he d_S_askX_18 ?_
    refine call_v (As := [.int (f_x (x_F X) (ix e))]) (rest := []) (ci := 1) (q0 := 1) (c_S_start l dC dI a k X s (f_x (x_F X) (ix e)) (Tr_in tx) hW) k_185 k_187 s_S_start k_2 k_188 ⟨rfl, pc_S_start.1, pc_S_start.2, pd_S_start⟩ rfl rfl rfl rfl rfl (rm_le (by omega) (by decide)) (Nat.le_of_ble_eq_true rfl) rfl hx hb hml hown ht hl.1 hP hK hD hS hA hN d_S_askX_19 (fun u6 H locs q7 hP hD hS => ?_)
    obtain ⟨rfl, hW7⟩ := q7
    have hP : va_P (dC, dI) vwCl (wS a k X (s_st s (f_x (x_F X) (ix e)) 0)) H := hP
    have hD : va_D A (wS a k X (s_st s (f_x (x_F X) (ix e)) 0)) := hD
    refine lv_aload_n hx hb d_S_askX_22 rfl (lv_at hl 0 rfl) ?_
    refine va_get (D := (dC, dI)) (ci := 1) (v := .ref (a 10)) (C := R_S) (T := T_S) (N := 12) hx hb ht in_S hown hK hP 1 rfl rfl 1 (by decide) (ht _ k_63) (fun _ h => h) rfl d_S_askX_23 ?_
    refine lv_iload_n hx hb d_S_askX_26 rfl (lv_at hl 1 rfl) ?_
    refine lv_iconst (v := 1) hx hb d_S_askX_27 (by decide) ?_
    refine va_iast hx hb hK hP hD hS 10 7 rfl rfl he d_S_askX_28 (fun H locs hP hD hS => ?_)
    have hP : va_P (dC, dI) vwCl (wS a k X (s_st (s_st s (f_x (x_F X) (ix e)) 0) e 1)) H := cP_S_st hP
    have hD : va_D A (wS a k X (s_st (s_st s (f_x (x_F X) (ix e)) 0) e 1)) := cD_S_st hD
    refine lv_aload_n hx hb d_S_askX_29 rfl (lv_at hl 0 rfl) ?_
    refine lv_aload_n hx hb d_S_askX_30 rfl (lv_at hl 0 rfl) ?_
    refine va_get (D := (dC, dI)) (ci := 1) (v := .ref (a 2)) (C := R_S) (T := T_S) (N := 12) hx hb ht in_S hown hK hP 1 rfl rfl 0 (by decide) (ht _ k_61) (fun _ h => h) rfl d_S_askX_31 ?_
    refine va_get (D := (dC, dI)) (ci := 0) (v := .ref (a 5)) (C := R_F) (T := T_F) (N := 8) hx hb ht in_F hown hK hP 2 rfl rfl 2 (by decide) (ht _ k_31) (fun _ h => h) rfl d_S_askX_34 ?_
    refine lv_iload_n hx hb d_S_askX_37 rfl (lv_at hl 1 rfl) ?_
    refine va_iald hx hb hK hP 5 2 rfl rfl he d_S_askX_38 ?_
    refine call_i (As := [.int (f_x (x_F X) (ix e))]) (rest := []) (ci := 1) (q0 := 1) (hAsk (f_x (x_F X) (ix e)) (s_st (s_st s (f_x (x_F X) (ix e)) 0) e 1) tx (wk_st hW7)) k_197 k_199 s_S_ask k_2 k_200 ⟨rfl, pc_S_ask.1, pc_S_ask.2, pd_S_ask⟩ rfl rfl rfl rfl rfl (rm_le (by omega) (by decide)) (Nat.le_of_ble_eq_true rfl) rfl hx hb hml hown ht hl.1 hP hK hD hS hA hN d_S_askX_39 (fun r8 u9 H locs q10 hP hD hS => ?_)
    obtain ⟨q10, hW10⟩ := q10
    have hP : va_P (dC, dI) vwCl (wS a k X u9) H := hP
    have hD : va_D A (wS a k X u9) := hD
    exact ret_i (v := r8) hx hb hr hlocks hP hK hD hS d_S_askX_42 ⟨by simp [p_x, c1, q10], hW10⟩
