theorem wr_eqR (r : zR) (v : Int32) : u_g (u_g r (h_w0 (r_g r) (g_wc (r_g r)) v)) (h_w1 (r_g (u_g r (h_w0 (r_g r) (g_wc (r_g r)) v)))) = u_g r (h_wr (r_g r) v) := rfl
set_option maxRecDepth 100000 in
set_option maxHeartbeats 4000000 in
theorem c_M_give (l : Launch) (dC : Nat → ClassId) (dI : Nat → Nat → Nat) (b : Nat → Nat) (h : Nat → ClassId) (Y : zY) (r : zR) (v : Int32) : MetI l y_M_give w_M_give (rmN (0)) dC dI (yY h) (wR b h Y) [.ref (b 0), .int v] r (fun z9 u9 => q_give v r = (z9, u9)) := by
  refine metI_of (cc := b_M_give) (maxL := 2) (ret := (some .int)) (by decide) rfl (Nat.le_of_ble_eq_true rfl) ?_
  intro p e9 s9 m args below meth c A ls hx hb hr hts hown hlocks hml hA hP hK hD hS hN hl
  have ht : ∀ w ∈ lw_g, w.before args s9 = true := fun w h => hts w (List.mem_cons_of_mem _ h)
  have hl : lv_has ls 2 [(0, .ref (b 0)), (1, .int v)] := hl
  refine lv_aload_n hx hb d_M_give_0 rfl (lv_at hl 0 rfl) ?_
  refine lv_iload_n hx hb d_M_give_1 rfl (lv_at hl 1 rfl) ?_
  refine va_put (D := (dC, dI)) (ci := 3) (v := .int v) (ty := .int) (C := R_M) (T := T_M) (N := 20) hx hb ht in_M t_M t_M_ok n_M hown hK hP hD hS 0 rfl rfl 18 (by decide) (ht _ k_345) (fun _ h => h) rfl (by decide +kernel) rfl rfl (Nat.le_of_ble_eq_true rfl) d_M_give_2 (fun H locs hP hD hS => ?_)
  have hP : va_P (dC, dI) vwCl (wR b h Y (u_gv r v)) H := cP_R_gv hP
  have hD : va_D A (wR b h Y (u_gv r v)) := cD_R_gv hD
  refine lv_iconst (v := 1) hx hb d_M_give_5 (by decide) ?_
  exact ret_i (v := 1) hx hb hr hlocks hP hK hD hS d_M_give_6 (by rfl)
set_option maxRecDepth 100000 in
set_option maxHeartbeats 4000000 in
theorem c_M_paid (l : Launch) (dC : Nat → ClassId) (dI : Nat → Nat → Nat) (b : Nat → Nat) (h : Nat → ClassId) (Y : zY) (r : zR) (v : Int32) : MetI l y_M_paid w_M_paid (rmN (1)) dC dI (yY h) (wR b h Y) [.ref (b 0), .int v] r (fun z9 u9 => q_paid (y_T Y) v r = (z9, u9)) := by
  refine metI_of (cc := b_M_paid) (maxL := 2) (ret := (some .int)) (by decide) rfl (Nat.le_of_ble_eq_true rfl) ?_
  intro p e9 s9 m args below meth c A ls hx hb hr hts hown hlocks hml hA hP hK hD hS hN hl
  have ht : ∀ w ∈ lw_g, w.before args s9 = true := fun w h => hts w (List.mem_cons_of_mem _ h)
  have hl : lv_has ls 2 [(0, .ref (b 0)), (1, .int v)] := hl
  refine lv_aload_n hx hb d_M_paid_0 rfl (lv_at hl 0 rfl) ?_
  refine va_get (D := (dC, dI)) (ci := 3) (v := .int (g_sp (r_g r))) (C := R_M) (T := T_M) (N := 20) hx hb ht in_M hown hK hP 0 rfl rfl 14 (by decide) (ht _ k_341) (fun _ h => h) rfl d_M_paid_1 ?_
  refine lv_aload_n hx hb d_M_paid_4 rfl (lv_at hl 0 rfl) ?_
  refine va_get (D := (dC, dI)) (ci := 3) (v := .int (t_f (y_T Y))) (C := R_M) (T := T_M) (N := 20) hx hb ht in_M hown hK hP 0 rfl rfl 13 (by decide) (ht _ k_340) (fun _ h => h) rfl d_M_paid_5 ?_
  refine lv_icmp_ne (tgt := 19) hx hb d_M_paid_8 (by decide) (fun c1 => ?_) (fun c1 => ?_)
  · have c1 : ¬ g_sp (r_g r) = t_f (y_T Y) := c1
    refine lv_aload_n hx hb d_M_paid_19 rfl (lv_at hl 0 rfl) ?_
    refine lv_dup hx hb d_M_paid_20 rfl ?_
    refine va_get (D := (dC, dI)) (ci := 3) (v := .int (g_sp (r_g r))) (C := R_M) (T := T_M) (N := 20) hx hb ht in_M hown hK hP 0 rfl rfl 14 (by decide) (ht _ k_341) (fun _ h => h) rfl d_M_paid_21 ?_
    refine lv_iconst (v := 1) hx hb d_M_paid_24 (by decide) ?_
    refine lv_iadd hx hb d_M_paid_25 ?_
    refine va_put (D := (dC, dI)) (ci := 3) (v := .int (g_sp (r_g r) + 1)) (ty := .int) (C := R_M) (T := T_M) (N := 20) hx hb ht in_M t_M t_M_ok n_M hown hK hP hD hS 0 rfl rfl 14 (by decide) (ht _ k_341) (fun _ h => h) rfl (by decide +kernel) rfl rfl (Nat.le_of_ble_eq_true rfl) d_M_paid_26 (fun H locs hP hD hS => ?_)
    have hP : va_P (dC, dI) vwCl (wR b h Y (u_g r (h_sp (r_g r)))) H := cP_R_sp hP
    have hD : va_D A (wR b h Y (u_g r (h_sp (r_g r)))) := cD_R_sp hD
    refine lv_aload_n hx hb d_M_paid_29 rfl (lv_at hl 0 rfl) ?_
    refine lv_iload_n hx hb d_M_paid_30 rfl (lv_at hl 1 rfl) ?_
    refine call_i (As := [.int v]) (rest := []) (ci := 3) (q0 := 0) (c_M_give l dC dI b h Y (u_g r (h_sp (r_g r))) v) k_452 k_454 s_M_give k_4 k_455 ⟨rfl, pc_M_give.1, pc_M_give.2, pd_M_give⟩ rfl rfl rfl rfl rfl (rm_le (by omega) (by decide)) (Nat.le_of_ble_eq_true rfl) rfl hx hb hml hown ht hl.1 hP hK hD hS hA hN d_M_paid_31 (fun r2 u3 H locs q4 hP hD hS => ?_)
    have hP : va_P (dC, dI) vwCl (wR b h Y u3) H := hP
    have hD : va_D A (wR b h Y u3) := hD
    exact ret_i (v := r2) hx hb hr hlocks hP hK hD hS d_M_paid_34 (by simp [q_paid, -Int64.toInt32_mul, -Int64.toInt32_add, -Int64.toInt32_sub, c1, q4])
  · have c1 : g_sp (r_g r) = t_f (y_T Y) := c1
    refine lv_aload_n hx hb d_M_paid_11 rfl (lv_at hl 0 rfl) ?_
    refine lv_bipush (v := (-5)) hx hb d_M_paid_12 (by decide) ?_
    refine va_put (D := (dC, dI)) (ci := 3) (v := .int (-5)) (ty := .int) (C := R_M) (T := T_M) (N := 20) hx hb ht in_M t_M t_M_ok n_M hown hK hP hD hS 0 rfl rfl 19 (by decide) (ht _ k_346) (fun _ h => h) rfl (by decide +kernel) rfl rfl (Nat.le_of_ble_eq_true rfl) d_M_paid_14 (fun H locs hP hD hS => ?_)
    have hP : va_P (dC, dI) vwCl (wR b h Y (u_er r (-5))) H := cP_R_er hP
    have hD : va_D A (wR b h Y (u_er r (-5))) := cD_R_er hD
    refine lv_iconst (v := 0) hx hb d_M_paid_17 (by decide) ?_
    exact ret_i (v := 0) hx hb hr hlocks hP hK hD hS d_M_paid_18 (by simp [q_paid, -Int64.toInt32_mul, -Int64.toInt32_add, -Int64.toInt32_sub, c1])
set_option maxRecDepth 100000 in
set_option maxHeartbeats 4000000 in
theorem c_M_ask (l : Launch) (dC : Nat → ClassId) (dI : Nat → Nat → Nat) (b : Nat → Nat) (h : Nat → ClassId) (Y : zY) (r : zR) (e : Int32) (i : Int32) (th : Int32) (he : vp_in e 60) (hi : vp_in (3 * e + i) 180) (hp : Tp r) : MetI l y_M_ask w_M_ask (rmN (0)) dC dI (yY h) (wR b h Y) [.ref (b 0), .int e, .int i, .int th] r (fun z9 u9 => q_ask (y_T Y) e i th r = (z9, u9)) := by
  refine metI_of (cc := b_M_ask) (maxL := 4) (ret := (some .int)) (by decide) rfl (Nat.le_of_ble_eq_true rfl) ?_
  intro p e9 s9 m args below meth c A ls hx hb hr hts hown hlocks hml hA hP hK hD hS hN hl
  have ht : ∀ w ∈ lw_g, w.before args s9 = true := fun w h => hts w (List.mem_cons_of_mem _ h)
  have hl : lv_has ls 4 [(0, .ref (b 0)), (1, .int e), (2, .int i), (3, .int th)] := hl
  refine lv_aload_n hx hb d_M_ask_0 rfl (lv_at hl 0 rfl) ?_
  refine va_get (D := (dC, dI)) (ci := 3) (v := .ref (b 6)) (C := R_M) (T := T_M) (N := 20) hx hb ht in_M hown hK hP 0 rfl rfl 6 (by decide) (ht _ k_333) (fun _ h => h) rfl d_M_ask_1 ?_
  refine lv_iload_n hx hb d_M_ask_4 rfl (lv_at hl 1 rfl) ?_
  refine lv_iload_n hx hb d_M_ask_5 rfl (lv_at hl 3 rfl) ?_
  refine va_iast hx hb hK hP hD hS 6 5 rfl rfl he d_M_ask_6 (fun H locs hP hD hS => ?_)
  have hP : va_P (dC, dI) vwCl (wR b h Y (u_ph r e th)) H := cP_R_ph hP
  have hD : va_D A (wR b h Y (u_ph r e th)) := cD_R_ph hD
  refine lv_aload_n hx hb d_M_ask_7 rfl (lv_at hl 0 rfl) ?_
  refine va_get (D := (dC, dI)) (ci := 3) (v := .ref (b 10)) (C := R_M) (T := T_M) (N := 20) hx hb ht in_M hown hK hP 0 rfl rfl 16 (by decide) (ht _ k_343) (fun _ h => h) rfl d_M_ask_8 ?_
  refine lv_aload_n hx hb d_M_ask_11 rfl (lv_at hl 0 rfl) ?_
  refine va_get (D := (dC, dI)) (ci := 3) (v := .int (r_tp (u_ph r e th))) (C := R_M) (T := T_M) (N := 20) hx hb ht in_M hown hK hP 0 rfl rfl 17 (by decide) (ht _ k_344) (fun _ h => h) rfl d_M_ask_12 ?_
  refine lv_aload_n hx hb d_M_ask_15 rfl (lv_at hl 0 rfl) ?_
  refine va_get (D := (dC, dI)) (ci := 3) (v := .ref (b 3)) (C := R_M) (T := T_M) (N := 20) hx hb ht in_M hown hK hP 0 rfl rfl 3 (by decide) (ht _ k_330) (fun _ h => h) rfl d_M_ask_16 ?_
  refine lv_iconst (v := 3) hx hb d_M_ask_19 (by decide) ?_
  refine lv_iload_n hx hb d_M_ask_20 rfl (lv_at hl 1 rfl) ?_
  refine lv_imul hx hb d_M_ask_21 ?_
  refine lv_iload_n hx hb d_M_ask_22 rfl (lv_at hl 2 rfl) ?_
  refine lv_iadd hx hb d_M_ask_23 ?_
  refine va_iald hx hb hK hP 3 2 rfl rfl hi d_M_ask_24 ?_
  refine va_iast hx hb hK hP hD hS 10 9 rfl rfl (tp_in hp) d_M_ask_25 (fun H locs hP hD hS => ?_)
  have hP : va_P (dC, dI) vwCl (wR b h Y (u_sk (u_ph r e th) (r_tp (u_ph r e th)) (t_p (y_T Y) (ix ((3 * e) + i))))) H := cP_R_sk hP
  have hD : va_D A (wR b h Y (u_sk (u_ph r e th) (r_tp (u_ph r e th)) (t_p (y_T Y) (ix ((3 * e) + i))))) := cD_R_sk hD
  refine lv_aload_n hx hb d_M_ask_26 rfl (lv_at hl 0 rfl) ?_
  refine lv_dup hx hb d_M_ask_27 rfl ?_
  refine va_get (D := (dC, dI)) (ci := 3) (v := .int (r_tp (u_sk (u_ph r e th) (r_tp (u_ph r e th)) (t_p (y_T Y) (ix ((3 * e) + i)))))) (C := R_M) (T := T_M) (N := 20) hx hb ht in_M hown hK hP 0 rfl rfl 17 (by decide) (ht _ k_344) (fun _ h => h) rfl d_M_ask_28 ?_
  refine lv_iconst (v := 1) hx hb d_M_ask_31 (by decide) ?_
  refine lv_iadd hx hb d_M_ask_32 ?_
  refine va_put (D := (dC, dI)) (ci := 3) (v := .int (r_tp (u_sk (u_ph r e th) (r_tp (u_ph r e th)) (t_p (y_T Y) (ix ((3 * e) + i)))) + 1)) (ty := .int) (C := R_M) (T := T_M) (N := 20) hx hb ht in_M t_M t_M_ok n_M hown hK hP hD hS 0 rfl rfl 17 (by decide) (ht _ k_344) (fun _ h => h) rfl (by decide +kernel) rfl rfl (Nat.le_of_ble_eq_true rfl) d_M_ask_33 (fun H locs hP hD hS => ?_)
  have hP : va_P (dC, dI) vwCl (wR b h Y (u_tp (u_sk (u_ph r e th) (r_tp (u_ph r e th)) (t_p (y_T Y) (ix ((3 * e) + i)))) (r_tp (u_sk (u_ph r e th) (r_tp (u_ph r e th)) (t_p (y_T Y) (ix ((3 * e) + i)))) + 1))) H := cP_R_tp hP
  have hD : va_D A (wR b h Y (u_tp (u_sk (u_ph r e th) (r_tp (u_ph r e th)) (t_p (y_T Y) (ix ((3 * e) + i)))) (r_tp (u_sk (u_ph r e th) (r_tp (u_ph r e th)) (t_p (y_T Y) (ix ((3 * e) + i)))) + 1))) := cD_R_tp hD
  refine lv_iconst (v := 2) hx hb d_M_ask_36 (by decide) ?_
  exact ret_i (v := 2) hx hb hr hlocks hP hK hD hS d_M_ask_37 (by rfl)
set_option maxRecDepth 100000 in
set_option maxHeartbeats 4000000 in
theorem c_M_first (l : Launch) (dC : Nat → ClassId) (dI : Nat → Nat → Nat) (b : Nat → Nat) (h : Nat → ClassId) (Y : zY) (r : zR) (e : Int32) (i : Int32) (th : Int32) (he : vp_in e 60) (hi : vp_in (3 * e + i) 180) (hp : Tp r) (ki : vp_in (t_p (y_T Y) (ix (3 * e + i))) 60) : MetI l y_M_first w_M_first (rmN (1)) dC dI (yY h) (wR b h Y) [.ref (b 0), .int e, .int i, .int th] r (fun z9 u9 => q_first (y_T Y) e i th r = (z9, u9)) := by
  refine metI_of (cc := b_M_first) (maxL := 4) (ret := (some .int)) (by decide) rfl (Nat.le_of_ble_eq_true rfl) ?_
  intro p e9 s9 m args below meth c A ls hx hb hr hts hown hlocks hml hA hP hK hD hS hN hl
  have ht : ∀ w ∈ lw_g, w.before args s9 = true := fun w h => hts w (List.mem_cons_of_mem _ h)
  have hl : lv_has ls 4 [(0, .ref (b 0)), (1, .int e), (2, .int i), (3, .int th)] := hl
  refine lv_aload_n hx hb d_M_first_0 rfl (lv_at hl 0 rfl) ?_
  refine va_get (D := (dC, dI)) (ci := 3) (v := .ref (b 6)) (C := R_M) (T := T_M) (N := 20) hx hb ht in_M hown hK hP 0 rfl rfl 6 (by decide) (ht _ k_333) (fun _ h => h) rfl d_M_first_1 ?_
  refine lv_aload_n hx hb d_M_first_4 rfl (lv_at hl 0 rfl) ?_
  refine va_get (D := (dC, dI)) (ci := 3) (v := .ref (b 3)) (C := R_M) (T := T_M) (N := 20) hx hb ht in_M hown hK hP 0 rfl rfl 3 (by decide) (ht _ k_330) (fun _ h => h) rfl d_M_first_5 ?_
  refine lv_iconst (v := 3) hx hb d_M_first_8 (by decide) ?_
  refine lv_iload_n hx hb d_M_first_9 rfl (lv_at hl 1 rfl) ?_
  refine lv_imul hx hb d_M_first_10 ?_
  refine lv_iload_n hx hb d_M_first_11 rfl (lv_at hl 2 rfl) ?_
  refine lv_iadd hx hb d_M_first_12 ?_
  refine va_iald hx hb hK hP 3 2 rfl rfl hi d_M_first_13 ?_
  refine lv_iconst (v := 0) hx hb d_M_first_14 (by decide) ?_
  refine va_iast hx hb hK hP hD hS 6 5 rfl rfl ki d_M_first_15 (fun H locs hP hD hS => ?_)
  have hP : va_P (dC, dI) vwCl (wR b h Y (u_ph r (t_p (y_T Y) (ix ((3 * e) + i))) 0)) H := cP_R_ph hP
  have hD : va_D A (wR b h Y (u_ph r (t_p (y_T Y) (ix ((3 * e) + i))) 0)) := cD_R_ph hD
  refine lv_aload_n hx hb d_M_first_16 rfl (lv_at hl 0 rfl) ?_
  refine lv_iload_n hx hb d_M_first_17 rfl (lv_at hl 1 rfl) ?_
  refine lv_iload_n hx hb d_M_first_18 rfl (lv_at hl 2 rfl) ?_
  refine lv_iload_n hx hb d_M_first_19 rfl (lv_at hl 3 rfl) ?_
  refine call_i (As := [.int e, .int i, .int th]) (rest := []) (ci := 3) (q0 := 0) (c_M_ask l dC dI b h Y (u_ph r (t_p (y_T Y) (ix ((3 * e) + i))) 0) e i th he hi hp) k_464 k_466 s_M_ask k_4 k_467 ⟨rfl, pc_M_ask.1, pc_M_ask.2, pd_M_ask⟩ rfl rfl rfl rfl rfl (rm_le (by omega) (by decide)) (Nat.le_of_ble_eq_true rfl) rfl hx hb hml hown ht hl.1 hP hK hD hS hA hN d_M_first_20 (fun r1 u2 H locs q3 hP hD hS => ?_)
  have hP : va_P (dC, dI) vwCl (wR b h Y u2) H := hP
  have hD : va_D A (wR b h Y u2) := hD
  exact ret_i (v := r1) hx hb hr hlocks hP hK hD hS d_M_first_23 (by unfold q_first; exact q3)
set_option maxRecDepth 100000 in
set_option maxHeartbeats 4000000 in
theorem c_M_leafStep (l : Launch) (dC : Nat → ClassId) (dI : Nat → Nat → Nat) (b : Nat → Nat) (h : Nat → ClassId) (Y : zY) (r : zR) (e : Int32) (he : vp_in e 60) (kn : ¬ t_k (y_T Y) (ix e) = 0 → vp_in (r_nm r (ix e)) 8) : MetI l y_M_leafStep w_M_leafStep (rmN (2)) dC dI (yY h) (wR b h Y) [.ref (b 0), .int e] r (fun z9 u9 => q_leaf (y_T Y) e r = (z9, u9)) := by
  refine metI_of (cc := b_M_leafStep) (maxL := 2) (ret := (some .int)) (by decide) rfl (Nat.le_of_ble_eq_true rfl) ?_
  intro p e9 s9 m args below meth c A ls hx hb hr hts hown hlocks hml hA hP hK hD hS hN hl
  have ht : ∀ w ∈ lw_g, w.before args s9 = true := fun w h => hts w (List.mem_cons_of_mem _ h)
  have hl : lv_has ls 2 [(0, .ref (b 0)), (1, .int e)] := hl
  refine lv_aload_n hx hb d_M_leafStep_0 rfl (lv_at hl 0 rfl) ?_
  refine va_get (D := (dC, dI)) (ci := 3) (v := .ref (b 6)) (C := R_M) (T := T_M) (N := 20) hx hb ht in_M hown hK hP 0 rfl rfl 6 (by decide) (ht _ k_333) (fun _ h => h) rfl d_M_leafStep_1 ?_
  refine lv_iload_n hx hb d_M_leafStep_4 rfl (lv_at hl 1 rfl) ?_
  refine va_iald hx hb hK hP 6 5 rfl rfl he d_M_leafStep_5 ?_
  refine lv_iconst (v := 1) hx hb d_M_leafStep_6 (by decide) ?_
  refine lv_icmp_ne (tgt := 12) hx hb d_M_leafStep_7 (by decide) (fun c1 => ?_) (fun c1 => ?_)
  · have c1 : ¬ r_ph r (ix e) = 1 := c1
    refine lv_aload_n hx hb d_M_leafStep_12 rfl (lv_at hl 0 rfl) ?_
    refine va_get (D := (dC, dI)) (ci := 3) (v := .ref (b 6)) (C := R_M) (T := T_M) (N := 20) hx hb ht in_M hown hK hP 0 rfl rfl 6 (by decide) (ht _ k_333) (fun _ h => h) rfl d_M_leafStep_13 ?_
    refine lv_iload_n hx hb d_M_leafStep_16 rfl (lv_at hl 1 rfl) ?_
    refine lv_iconst (v := 1) hx hb d_M_leafStep_17 (by decide) ?_
    refine va_iast hx hb hK hP hD hS 6 5 rfl rfl he d_M_leafStep_18 (fun H locs hP hD hS => ?_)
    have hP : va_P (dC, dI) vwCl (wR b h Y (u_ph r e 1)) H := cP_R_ph hP
    have hD : va_D A (wR b h Y (u_ph r e 1)) := cD_R_ph hD
    refine lv_aload_n hx hb d_M_leafStep_19 rfl (lv_at hl 0 rfl) ?_
    refine lv_aload_n hx hb d_M_leafStep_20 rfl (lv_at hl 0 rfl) ?_
    refine va_get (D := (dC, dI)) (ci := 3) (v := .ref (b 1)) (C := R_M) (T := T_M) (N := 20) hx hb ht in_M hown hK hP 0 rfl rfl 1 (by decide) (ht _ k_328) (fun _ h => h) rfl d_M_leafStep_21 ?_
    refine lv_iload_n hx hb d_M_leafStep_24 rfl (lv_at hl 1 rfl) ?_
    refine va_iald hx hb hK hP 1 0 rfl rfl he d_M_leafStep_25 ?_
    refine lv_if_ne (tgt := 38) hx hb d_M_leafStep_26 (by decide) (fun c2 => ?_) (fun c2 => ?_)
    · have c2 : ¬ t_k (y_T Y) (ix e) = 0 := c2
      refine lv_aload_n hx hb d_M_leafStep_38 rfl (lv_at hl 0 rfl) ?_
      refine va_get (D := (dC, dI)) (ci := 3) (v := .ref (b 8)) (C := R_M) (T := T_M) (N := 20) hx hb ht in_M hown hK hP 0 rfl rfl 8 (by decide) (ht _ k_335) (fun _ h => h) rfl d_M_leafStep_39 ?_
      refine lv_aload_n hx hb d_M_leafStep_42 rfl (lv_at hl 0 rfl) ?_
      refine va_get (D := (dC, dI)) (ci := 3) (v := .ref (b 2)) (C := R_M) (T := T_M) (N := 20) hx hb ht in_M hown hK hP 0 rfl rfl 2 (by decide) (ht _ k_329) (fun _ h => h) rfl d_M_leafStep_43 ?_
      refine lv_iload_n hx hb d_M_leafStep_46 rfl (lv_at hl 1 rfl) ?_
      refine va_iald hx hb hK hP 2 1 rfl rfl he d_M_leafStep_47 ?_
      refine va_iald hx hb hK hP 8 7 rfl rfl (kn c2) d_M_leafStep_48 ?_
      refine call_i (As := [.int (g_va (r_g (u_ph r e 1)) (ix (r_nm (u_ph r e 1) (ix e))))]) (rest := []) (ci := 3) (q0 := 0) (c_M_paid l dC dI b h Y (u_ph r e 1) (g_va (r_g (u_ph r e 1)) (ix (r_nm (u_ph r e 1) (ix e))))) k_448 k_450 s_M_paid k_4 k_451 ⟨rfl, pc_M_paid.1, pc_M_paid.2, pd_M_paid⟩ rfl rfl rfl rfl rfl (rm_le (by omega) (by decide)) (Nat.le_of_ble_eq_true rfl) rfl hx hb hml hown ht hl.1 hP hK hD hS hA hN d_M_leafStep_49 (fun r3 u4 H locs q5 hP hD hS => ?_)
      have hP : va_P (dC, dI) vwCl (wR b h Y u4) H := hP
      have hD : va_D A (wR b h Y u4) := hD
      exact ret_i (v := r3) hx hb hr hlocks hP hK hD hS d_M_leafStep_52 (by simp [q_leaf, -Int64.toInt32_mul, -Int64.toInt32_add, -Int64.toInt32_sub, c1, c2, q5])
    · have c2 : t_k (y_T Y) (ix e) = 0 := c2
      refine lv_aload_n hx hb d_M_leafStep_29 rfl (lv_at hl 0 rfl) ?_
      refine va_get (D := (dC, dI)) (ci := 3) (v := .ref (b 2)) (C := R_M) (T := T_M) (N := 20) hx hb ht in_M hown hK hP 0 rfl rfl 2 (by decide) (ht _ k_329) (fun _ h => h) rfl d_M_leafStep_30 ?_
      refine lv_iload_n hx hb d_M_leafStep_33 rfl (lv_at hl 1 rfl) ?_
      refine va_iald hx hb hK hP 2 1 rfl rfl he d_M_leafStep_34 ?_
      refine lv_goto (tgt := 49) hx hb d_M_leafStep_35 (by decide) ?_
      refine call_i (As := [.int (r_nm (u_ph r e 1) (ix e))]) (rest := []) (ci := 3) (q0 := 0) (c_M_paid l dC dI b h Y (u_ph r e 1) (r_nm (u_ph r e 1) (ix e))) k_448 k_450 s_M_paid k_4 k_451 ⟨rfl, pc_M_paid.1, pc_M_paid.2, pd_M_paid⟩ rfl rfl rfl rfl rfl (rm_le (by omega) (by decide)) (Nat.le_of_ble_eq_true rfl) rfl hx hb hml hown ht hl.1 hP hK hD hS hA hN d_M_leafStep_49 (fun r6 u7 H locs q8 hP hD hS => ?_)
      have hP : va_P (dC, dI) vwCl (wR b h Y u7) H := hP
      have hD : va_D A (wR b h Y u7) := hD
      exact ret_i (v := r6) hx hb hr hlocks hP hK hD hS d_M_leafStep_52 (by (try simp only [c2] at q8); simp [q_leaf, -Int64.toInt32_mul, -Int64.toInt32_add, -Int64.toInt32_sub, c1, c2, q8])
  · have c1 : r_ph r (ix e) = 1 := c1
    refine lv_iconst (v := 0) hx hb d_M_leafStep_10 (by decide) ?_
    exact ret_i (v := 0) hx hb hr hlocks hP hK hD hS d_M_leafStep_11 (by simp [q_leaf, -Int64.toInt32_mul, -Int64.toInt32_add, -Int64.toInt32_sub, c1])
set_option maxRecDepth 100000 in
set_option maxHeartbeats 4000000 in
theorem c_M_unaryStep (l : Launch) (dC : Nat → ClassId) (dI : Nat → Nat → Nat) (b : Nat → Nat) (h : Nat → ClassId) (Y : zY) (r : zR) (e : Int32) (w : Int32) (he : vp_in e 60) (hp : Tp r) (kx : vp_in (t_p (y_T Y) (ix (3 * e + 0))) 60) (kn : t_k (y_T Y) (ix e) - 10 = 0 → vp_in (r_nm r (ix e)) 8) (kw : ∃ n : Nat, n ≤ 32 ∧ g_wc (r_g r) = nI n) : MetI l y_M_unaryStep w_M_unaryStep (rmN (2)) dC dI (yY h) (wR b h Y) [.ref (b 0), .int e, .int w] r (fun z9 u9 => q_unary (y_T Y) e w r = (z9, u9)) := by
  refine metI_of (cc := b_M_unaryStep) (maxL := 4) (ret := (some .int)) (by decide) rfl (Nat.le_of_ble_eq_true rfl) ?_
  intro p e9 s9 m args below meth c A ls hx hb hr hts hown hlocks hml hA hP hK hD hS hN hl
  have ht : ∀ w ∈ lw_g, w.before args s9 = true := fun w h => hts w (List.mem_cons_of_mem _ h)
  have hl : lv_has ls 4 [(0, .ref (b 0)), (1, .int e), (2, .int w)] := hl
  refine lv_aload_n hx hb d_M_unaryStep_0 rfl (lv_at hl 0 rfl) ?_
  refine va_get (D := (dC, dI)) (ci := 3) (v := .ref (b 1)) (C := R_M) (T := T_M) (N := 20) hx hb ht in_M hown hK hP 0 rfl rfl 1 (by decide) (ht _ k_328) (fun _ h => h) rfl d_M_unaryStep_1 ?_
  refine lv_iload_n hx hb d_M_unaryStep_4 rfl (lv_at hl 1 rfl) ?_
  refine va_iald hx hb hK hP 1 0 rfl rfl he d_M_unaryStep_5 ?_
  refine lv_bipush (v := 10) hx hb d_M_unaryStep_6 (by decide) ?_
  refine lv_isub hx hb d_M_unaryStep_8 ?_
  refine lv_istore_n hx hb d_M_unaryStep_9 rfl hl (by decide) (lv' := [(3, .int (t_k (y_T Y) (ix e) - 10)), (0, .ref (b 0)), (1, .int e), (2, .int w)]) rfl (fun ls hl => ?_)
  refine lv_iload_n hx hb d_M_unaryStep_10 rfl (lv_at hl 0 rfl) ?_
  refine lv_iconst (v := 2) hx hb d_M_unaryStep_11 (by decide) ?_
  refine lv_icmp_ne (tgt := 61) hx hb d_M_unaryStep_12 (by decide) (fun c1 => ?_) (fun c1 => ?_)
  · have c1 : ¬ (t_k (y_T Y) (ix e) - 10) = 2 := c1
    refine lv_iload_n hx hb d_M_unaryStep_61 rfl (lv_at hl 3 rfl) ?_
    refine lv_if_ne (tgt := 100) hx hb d_M_unaryStep_62 (by decide) (fun c2 => ?_) (fun c2 => ?_)
    · have c2 : ¬ w = 0 := c2
      refine lv_iload_n hx hb d_M_unaryStep_100 rfl (lv_at hl 3 rfl) ?_
      refine lv_iconst (v := 2) hx hb d_M_unaryStep_101 (by decide) ?_
      refine lv_icmp_ne (tgt := 142) hx hb d_M_unaryStep_102 (by decide) (fun c3 => ?_) (fun c3 => ?_)
      · have c3 : ¬ w = 2 := c3
        refine lv_aload_n hx hb d_M_unaryStep_142 rfl (lv_at hl 1 rfl) ?_
        refine va_get (D := (dC, dI)) (ci := 3) (v := .ref (b 7)) (C := R_M) (T := T_M) (N := 20) hx hb ht in_M hown hK hP 0 rfl rfl 7 (by decide) (ht _ k_334) (fun _ h => h) rfl d_M_unaryStep_143 ?_
        refine lv_iconst (v := 3) hx hb d_M_unaryStep_146 (by decide) ?_
        refine lv_iload_n hx hb d_M_unaryStep_147 rfl (lv_at hl 2 rfl) ?_
        refine lv_imul hx hb d_M_unaryStep_148 ?_
        refine lv_lconst (v := 1) hx hb d_M_unaryStep_149 (by decide) ?_
        refine va_last hx hb hK hP hD hS 7 6 rfl rfl (in3_0 he) d_M_unaryStep_150 (fun H locs hP hD hS => ?_)
        have hP : va_P (dC, dI) vwCl (wR b h Y (u_kp r (3 * e) 1)) H := cP_R_kp hP
        have hD : va_D A (wR b h Y (u_kp r (3 * e) 1)) := cD_R_kp hD
        refine lv_iload_n hx hb d_M_unaryStep_151 rfl (lv_at hl 0 rfl) ?_
        refine lv_if_ne (tgt := 170) hx hb d_M_unaryStep_152 (by decide) (fun c4 => ?_) (fun c4 => ?_)
        · have c4 : ¬ (t_k (y_T Y) (ix e) - 10) = 0 := c4
          refine lv_iload_n hx hb d_M_unaryStep_170 rfl (lv_at hl 0 rfl) ?_
          refine lv_iconst (v := 1) hx hb d_M_unaryStep_171 (by decide) ?_
          refine lv_icmp_ne (tgt := 215) hx hb d_M_unaryStep_172 (by decide) (fun c5 => ?_) (fun c5 => ?_)
          · have c5 : ¬ (t_k (y_T Y) (ix e) - 10) = 1 := c5
            refine lv_iconst (v := 1) hx hb d_M_unaryStep_215 (by decide) ?_
            exact ret_i (v := 1) hx hb hr hlocks hP hK hD hS d_M_unaryStep_216 (by simp [q_unary, wr_eqR, -Int64.toInt32_mul, -Int64.toInt32_add, -Int64.toInt32_sub, c1, c2, c3, c4, c5])
          · have c5 : (t_k (y_T Y) (ix e) - 10) = 1 := c5
            refine lv_aload_n hx hb d_M_unaryStep_175 rfl (lv_at hl 1 rfl) ?_
            refine va_get (D := (dC, dI)) (ci := 3) (v := .int (g_wc (r_g (u_kp r (3 * e) 1)))) (C := R_M) (T := T_M) (N := 20) hx hb ht in_M hown hK hP 0 rfl rfl 10 (by decide) (ht _ k_337) (fun _ h => h) rfl d_M_unaryStep_176 ?_
            refine lv_bipush (v := 32) hx hb d_M_unaryStep_179 (by decide) ?_
            refine lv_icmp_ne (tgt := 192) hx hb d_M_unaryStep_181 (by decide) (fun c6 => ?_) (fun c6 => ?_)
            · have c6 : ¬ g_wc (r_g (u_kp r (3 * e) 1)) = 32 := c6
              refine lv_aload_n hx hb d_M_unaryStep_192 rfl (lv_at hl 1 rfl) ?_
              refine va_get (D := (dC, dI)) (ci := 3) (v := .ref (b 9)) (C := R_M) (T := T_M) (N := 20) hx hb ht in_M hown hK hP 0 rfl rfl 9 (by decide) (ht _ k_336) (fun _ h => h) rfl d_M_unaryStep_193 ?_
              refine lv_aload_n hx hb d_M_unaryStep_196 rfl (lv_at hl 1 rfl) ?_
              refine va_get (D := (dC, dI)) (ci := 3) (v := .int (g_wc (r_g (u_kp r (3 * e) 1)))) (C := R_M) (T := T_M) (N := 20) hx hb ht in_M hown hK hP 0 rfl rfl 10 (by decide) (ht _ k_337) (fun _ h => h) rfl d_M_unaryStep_197 ?_
              refine lv_aload_n hx hb d_M_unaryStep_200 rfl (lv_at hl 1 rfl) ?_
              refine va_get (D := (dC, dI)) (ci := 3) (v := .int (r_gv (u_kp r (3 * e) 1))) (C := R_M) (T := T_M) (N := 20) hx hb ht in_M hown hK hP 0 rfl rfl 18 (by decide) (ht _ k_345) (fun _ h => h) rfl d_M_unaryStep_201 ?_
              refine va_iast hx hb hK hP hD hS 9 8 rfl rfl (wr_in kw c6) d_M_unaryStep_204 (fun H locs hP hD hS => ?_)
              have hP : va_P (dC, dI) vwCl (wR b h Y (u_g (u_kp r (3 * e) 1) (h_w0 (r_g (u_kp r (3 * e) 1)) (g_wc (r_g (u_kp r (3 * e) 1))) (r_gv (u_kp r (3 * e) 1))))) H := cP_R_w0 hP
              have hD : va_D A (wR b h Y (u_g (u_kp r (3 * e) 1) (h_w0 (r_g (u_kp r (3 * e) 1)) (g_wc (r_g (u_kp r (3 * e) 1))) (r_gv (u_kp r (3 * e) 1))))) := cD_R_w0 hD
              refine lv_aload_n hx hb d_M_unaryStep_205 rfl (lv_at hl 1 rfl) ?_
              refine lv_dup hx hb d_M_unaryStep_206 rfl ?_
              refine va_get (D := (dC, dI)) (ci := 3) (v := .int (g_wc (r_g (u_g (u_kp r (3 * e) 1) (h_w0 (r_g (u_kp r (3 * e) 1)) (g_wc (r_g (u_kp r (3 * e) 1))) (r_gv (u_kp r (3 * e) 1))))))) (C := R_M) (T := T_M) (N := 20) hx hb ht in_M hown hK hP 0 rfl rfl 10 (by decide) (ht _ k_337) (fun _ h => h) rfl d_M_unaryStep_207 ?_
              refine lv_iconst (v := 1) hx hb d_M_unaryStep_210 (by decide) ?_
              refine lv_iadd hx hb d_M_unaryStep_211 ?_
              refine va_put (D := (dC, dI)) (ci := 3) (v := .int (g_wc (r_g (u_g (u_kp r (3 * e) 1) (h_w0 (r_g (u_kp r (3 * e) 1)) (g_wc (r_g (u_kp r (3 * e) 1))) (r_gv (u_kp r (3 * e) 1))))) + 1)) (ty := .int) (C := R_M) (T := T_M) (N := 20) hx hb ht in_M t_M t_M_ok n_M hown hK hP hD hS 0 rfl rfl 10 (by decide) (ht _ k_337) (fun _ h => h) rfl (by decide +kernel) rfl rfl (Nat.le_of_ble_eq_true rfl) d_M_unaryStep_212 (fun H locs hP hD hS => ?_)
              have hP : va_P (dC, dI) vwCl (wR b h Y (u_g (u_g (u_kp r (3 * e) 1) (h_w0 (r_g (u_kp r (3 * e) 1)) (g_wc (r_g (u_kp r (3 * e) 1))) (r_gv (u_kp r (3 * e) 1)))) (h_w1 (r_g (u_g (u_kp r (3 * e) 1) (h_w0 (r_g (u_kp r (3 * e) 1)) (g_wc (r_g (u_kp r (3 * e) 1))) (r_gv (u_kp r (3 * e) 1)))))))) H := cP_R_w1 hP
              have hD : va_D A (wR b h Y (u_g (u_g (u_kp r (3 * e) 1) (h_w0 (r_g (u_kp r (3 * e) 1)) (g_wc (r_g (u_kp r (3 * e) 1))) (r_gv (u_kp r (3 * e) 1)))) (h_w1 (r_g (u_g (u_kp r (3 * e) 1) (h_w0 (r_g (u_kp r (3 * e) 1)) (g_wc (r_g (u_kp r (3 * e) 1))) (r_gv (u_kp r (3 * e) 1)))))))) := cD_R_w1 hD
              refine lv_iconst (v := 1) hx hb d_M_unaryStep_215 (by decide) ?_
              exact ret_i (v := 1) hx hb hr hlocks hP hK hD hS d_M_unaryStep_216 (by simp [q_unary, wr_eqR, -Int64.toInt32_mul, -Int64.toInt32_add, -Int64.toInt32_sub, c1, c2, c3, c4, c5, c6])
            · have c6 : g_wc (r_g (u_kp r (3 * e) 1)) = 32 := c6
              refine lv_aload_n hx hb d_M_unaryStep_184 rfl (lv_at hl 1 rfl) ?_
              refine lv_bipush (v := (-6)) hx hb d_M_unaryStep_185 (by decide) ?_
              refine va_put (D := (dC, dI)) (ci := 3) (v := .int (-6)) (ty := .int) (C := R_M) (T := T_M) (N := 20) hx hb ht in_M t_M t_M_ok n_M hown hK hP hD hS 0 rfl rfl 19 (by decide) (ht _ k_346) (fun _ h => h) rfl (by decide +kernel) rfl rfl (Nat.le_of_ble_eq_true rfl) d_M_unaryStep_187 (fun H locs hP hD hS => ?_)
              have hP : va_P (dC, dI) vwCl (wR b h Y (u_er (u_kp r (3 * e) 1) (-6))) H := cP_R_er hP
              have hD : va_D A (wR b h Y (u_er (u_kp r (3 * e) 1) (-6))) := cD_R_er hD
              refine lv_iconst (v := 0) hx hb d_M_unaryStep_190 (by decide) ?_
              exact ret_i (v := 0) hx hb hr hlocks hP hK hD hS d_M_unaryStep_191 (by simp [q_unary, wr_eqR, -Int64.toInt32_mul, -Int64.toInt32_add, -Int64.toInt32_sub, c1, c2, c3, c4, c5, c6])
        · have c4 : (t_k (y_T Y) (ix e) - 10) = 0 := c4
          refine lv_aload_n hx hb d_M_unaryStep_155 rfl (lv_at hl 1 rfl) ?_
          refine va_get (D := (dC, dI)) (ci := 3) (v := .ref (b 8)) (C := R_M) (T := T_M) (N := 20) hx hb ht in_M hown hK hP 0 rfl rfl 8 (by decide) (ht _ k_335) (fun _ h => h) rfl d_M_unaryStep_156 ?_
          refine lv_aload_n hx hb d_M_unaryStep_159 rfl (lv_at hl 1 rfl) ?_
          refine va_get (D := (dC, dI)) (ci := 3) (v := .ref (b 2)) (C := R_M) (T := T_M) (N := 20) hx hb ht in_M hown hK hP 0 rfl rfl 2 (by decide) (ht _ k_329) (fun _ h => h) rfl d_M_unaryStep_160 ?_
          refine lv_iload_n hx hb d_M_unaryStep_163 rfl (lv_at hl 2 rfl) ?_
          refine va_iald hx hb hK hP 2 1 rfl rfl he d_M_unaryStep_164 ?_
          refine lv_aload_n hx hb d_M_unaryStep_165 rfl (lv_at hl 1 rfl) ?_
          refine va_get (D := (dC, dI)) (ci := 3) (v := .int (r_gv (u_kp r (3 * e) 1))) (C := R_M) (T := T_M) (N := 20) hx hb ht in_M hown hK hP 0 rfl rfl 18 (by decide) (ht _ k_345) (fun _ h => h) rfl d_M_unaryStep_166 ?_
          refine va_iast hx hb hK hP hD hS 8 7 rfl rfl (kn c4) d_M_unaryStep_169 (fun H locs hP hD hS => ?_)
          have hP : va_P (dC, dI) vwCl (wR b h Y (u_g (u_kp r (3 * e) 1) (h_va (r_g (u_kp r (3 * e) 1)) (r_nm (u_kp r (3 * e) 1) (ix e)) (r_gv (u_kp r (3 * e) 1))))) H := cP_R_va hP
          have hD : va_D A (wR b h Y (u_g (u_kp r (3 * e) 1) (h_va (r_g (u_kp r (3 * e) 1)) (r_nm (u_kp r (3 * e) 1) (ix e)) (r_gv (u_kp r (3 * e) 1))))) := cD_R_va hD
          refine lv_iload_n hx hb d_M_unaryStep_170 rfl (lv_at hl 0 rfl) ?_
          refine lv_iconst (v := 1) hx hb d_M_unaryStep_171 (by decide) ?_
          refine lv_icmp_ne (tgt := 215) hx hb d_M_unaryStep_172 (by decide) (fun c7 => ?_) (fun c7 => ?_)
          · have c7 : ¬ (t_k (y_T Y) (ix e) - 10) = 1 := c7
            refine lv_iconst (v := 1) hx hb d_M_unaryStep_215 (by decide) ?_
            exact ret_i (v := 1) hx hb hr hlocks hP hK hD hS d_M_unaryStep_216 (by simp [q_unary, wr_eqR, -Int64.toInt32_mul, -Int64.toInt32_add, -Int64.toInt32_sub, c1, c2, c3, c4, c7])
          · have c7 : (t_k (y_T Y) (ix e) - 10) = 1 := c7
            exact absurd (c4.symm.trans c7) (by decide)
      · have c3 : w = 2 := c3
        refine lv_iload_n hx hb d_M_unaryStep_105 rfl (lv_at hl 0 rfl) ?_
        refine lv_iconst (v := 3) hx hb d_M_unaryStep_106 (by decide) ?_
        refine lv_icmp_ne (tgt := 123) hx hb d_M_unaryStep_107 (by decide) (fun c8 => ?_) (fun c8 => ?_)
        · have c8 : ¬ (t_k (y_T Y) (ix e) - 10) = 3 := c8
          refine lv_iconst (v := 0) hx hb d_M_unaryStep_123 (by decide) ?_
          exact ret_i (v := 0) hx hb hr hlocks hP hK hD hS d_M_unaryStep_124 (by simp [q_unary, wr_eqR, -Int64.toInt32_mul, -Int64.toInt32_add, -Int64.toInt32_sub, c1, c2, c3, c8])
        · have c8 : (t_k (y_T Y) (ix e) - 10) = 3 := c8
          refine lv_aload_n hx hb d_M_unaryStep_110 rfl (lv_at hl 1 rfl) ?_
          refine va_get (D := (dC, dI)) (ci := 3) (v := .ref (b 7)) (C := R_M) (T := T_M) (N := 20) hx hb ht in_M hown hK hP 0 rfl rfl 7 (by decide) (ht _ k_334) (fun _ h => h) rfl d_M_unaryStep_111 ?_
          refine lv_iconst (v := 3) hx hb d_M_unaryStep_114 (by decide) ?_
          refine lv_iload_n hx hb d_M_unaryStep_115 rfl (lv_at hl 2 rfl) ?_
          refine lv_imul hx hb d_M_unaryStep_116 ?_
          refine va_lald hx hb hK hP 7 6 rfl rfl (in3_0 he) d_M_unaryStep_117 ?_
          refine lv_lconst (v := 0) hx hb d_M_unaryStep_118 (by decide) ?_
          refine W.lcmp hx hb d_M_unaryStep_119 ?_
          refine lv_if_ne (tgt := 125) hx hb d_M_unaryStep_120 (by decide) (fun c9 => ?_) (fun c9 => ?_)
          · have c9 : ¬ r_kp r (ix (3 * e)) = 0 := fun q => c9 ((lg_cmp_eq _ _).mpr q)
            refine lv_aload_n hx hb d_M_unaryStep_125 rfl (lv_at hl 1 rfl) ?_
            refine va_get (D := (dC, dI)) (ci := 3) (v := .ref (b 7)) (C := R_M) (T := T_M) (N := 20) hx hb ht in_M hown hK hP 0 rfl rfl 7 (by decide) (ht _ k_334) (fun _ h => h) rfl d_M_unaryStep_126 ?_
            refine lv_iconst (v := 3) hx hb d_M_unaryStep_129 (by decide) ?_
            refine lv_iload_n hx hb d_M_unaryStep_130 rfl (lv_at hl 2 rfl) ?_
            refine lv_imul hx hb d_M_unaryStep_131 ?_
            refine lv_lconst (v := 0) hx hb d_M_unaryStep_132 (by decide) ?_
            refine va_last hx hb hK hP hD hS 7 6 rfl rfl (in3_0 he) d_M_unaryStep_133 (fun H locs hP hD hS => ?_)
            have hP : va_P (dC, dI) vwCl (wR b h Y (u_kp r (3 * e) 0)) H := cP_R_kp hP
            have hD : va_D A (wR b h Y (u_kp r (3 * e) 0)) := cD_R_kp hD
            refine lv_aload_n hx hb d_M_unaryStep_134 rfl (lv_at hl 1 rfl) ?_
            refine lv_iload_n hx hb d_M_unaryStep_135 rfl (lv_at hl 2 rfl) ?_
            refine lv_iconst (v := 0) hx hb d_M_unaryStep_136 (by decide) ?_
            refine lv_iconst (v := 1) hx hb d_M_unaryStep_137 (by decide) ?_
            refine call_i (As := [.int e, .int 0, .int 1]) (rest := []) (ci := 3) (q0 := 0) (c_M_first l dC dI b h Y (u_kp r (3 * e) 0) e 0 1 he (in3 he in_03) hp kx) k_460 k_462 s_M_first k_4 k_463 ⟨rfl, pc_M_first.1, pc_M_first.2, pd_M_first⟩ rfl rfl rfl rfl rfl (rm_le (by omega) (by decide)) (Nat.le_of_ble_eq_true rfl) rfl hx hb hml hown ht hl.1 hP hK hD hS hA hN d_M_unaryStep_138 (fun r10 u11 H locs q12 hP hD hS => ?_)
            have hP : va_P (dC, dI) vwCl (wR b h Y u11) H := hP
            have hD : va_D A (wR b h Y u11) := hD
            exact ret_i (v := r10) hx hb hr hlocks hP hK hD hS d_M_unaryStep_141 (by (try simp only [c3, c8] at q12); simp [q_unary, wr_eqR, -Int64.toInt32_mul, -Int64.toInt32_add, -Int64.toInt32_sub, c1, c2, c3, c8, c9, q12])
          · have c9 : r_kp r (ix (3 * e)) = 0 := (lg_cmp_eq _ _).mp c9
            refine lv_iconst (v := 0) hx hb d_M_unaryStep_123 (by decide) ?_
            exact ret_i (v := 0) hx hb hr hlocks hP hK hD hS d_M_unaryStep_124 (by simp [q_unary, wr_eqR, -Int64.toInt32_mul, -Int64.toInt32_add, -Int64.toInt32_sub, c1, c2, c3, c8, c9])
    · have c2 : w = 0 := c2
      refine lv_aload_n hx hb d_M_unaryStep_65 rfl (lv_at hl 1 rfl) ?_
      refine va_get (D := (dC, dI)) (ci := 3) (v := .ref (b 6)) (C := R_M) (T := T_M) (N := 20) hx hb ht in_M hown hK hP 0 rfl rfl 6 (by decide) (ht _ k_333) (fun _ h => h) rfl d_M_unaryStep_66 ?_
      refine lv_iload_n hx hb d_M_unaryStep_69 rfl (lv_at hl 2 rfl) ?_
      refine va_iald hx hb hK hP 6 5 rfl rfl he d_M_unaryStep_70 ?_
      refine lv_iconst (v := 1) hx hb d_M_unaryStep_71 (by decide) ?_
      refine lv_icmp_ne (tgt := 83) hx hb d_M_unaryStep_72 (by decide) (fun c13 => ?_) (fun c13 => ?_)
      · have c13 : ¬ r_ph r (ix e) = 1 := c13
        refine lv_aload_n hx hb d_M_unaryStep_83 rfl (lv_at hl 1 rfl) ?_
        refine va_get (D := (dC, dI)) (ci := 3) (v := .ref (b 7)) (C := R_M) (T := T_M) (N := 20) hx hb ht in_M hown hK hP 0 rfl rfl 7 (by decide) (ht _ k_334) (fun _ h => h) rfl d_M_unaryStep_84 ?_
        refine lv_iconst (v := 3) hx hb d_M_unaryStep_87 (by decide) ?_
        refine lv_iload_n hx hb d_M_unaryStep_88 rfl (lv_at hl 2 rfl) ?_
        refine lv_imul hx hb d_M_unaryStep_89 ?_
        refine lv_lconst (v := 0) hx hb d_M_unaryStep_90 (by decide) ?_
        refine va_last hx hb hK hP hD hS 7 6 rfl rfl (in3_0 he) d_M_unaryStep_91 (fun H locs hP hD hS => ?_)
        have hP : va_P (dC, dI) vwCl (wR b h Y (u_kp r (3 * e) 0)) H := cP_R_kp hP
        have hD : va_D A (wR b h Y (u_kp r (3 * e) 0)) := cD_R_kp hD
        refine lv_aload_n hx hb d_M_unaryStep_92 rfl (lv_at hl 1 rfl) ?_
        refine lv_iload_n hx hb d_M_unaryStep_93 rfl (lv_at hl 2 rfl) ?_
        refine lv_iconst (v := 0) hx hb d_M_unaryStep_94 (by decide) ?_
        refine lv_iconst (v := 1) hx hb d_M_unaryStep_95 (by decide) ?_
        refine call_i (As := [.int e, .int 0, .int 1]) (rest := []) (ci := 3) (q0 := 0) (c_M_first l dC dI b h Y (u_kp r (3 * e) 0) e 0 1 he (in3 he in_03) hp kx) k_460 k_462 s_M_first k_4 k_463 ⟨rfl, pc_M_first.1, pc_M_first.2, pd_M_first⟩ rfl rfl rfl rfl rfl (rm_le (by omega) (by decide)) (Nat.le_of_ble_eq_true rfl) rfl hx hb hml hown ht hl.1 hP hK hD hS hA hN d_M_unaryStep_96 (fun r14 u15 H locs q16 hP hD hS => ?_)
        have hP : va_P (dC, dI) vwCl (wR b h Y u15) H := hP
        have hD : va_D A (wR b h Y u15) := hD
        exact ret_i (v := r14) hx hb hr hlocks hP hK hD hS d_M_unaryStep_99 (by (try simp only [c2] at q16); simp [q_unary, wr_eqR, -Int64.toInt32_mul, -Int64.toInt32_add, -Int64.toInt32_sub, c1, c2, c13, q16])
      · have c13 : r_ph r (ix e) = 1 := c13
        refine lv_aload_n hx hb d_M_unaryStep_75 rfl (lv_at hl 1 rfl) ?_
        refine lv_iload_n hx hb d_M_unaryStep_76 rfl (lv_at hl 2 rfl) ?_
        refine lv_iconst (v := 0) hx hb d_M_unaryStep_77 (by decide) ?_
        refine lv_iconst (v := 1) hx hb d_M_unaryStep_78 (by decide) ?_
        refine call_i (As := [.int e, .int 0, .int 1]) (rest := []) (ci := 3) (q0 := 0) (c_M_ask l dC dI b h Y r e 0 1 he (in3 he in_03) hp) k_464 k_466 s_M_ask k_4 k_467 ⟨rfl, pc_M_ask.1, pc_M_ask.2, pd_M_ask⟩ rfl rfl rfl rfl rfl (rm_le (by omega) (by decide)) (Nat.le_of_ble_eq_true rfl) rfl hx hb hml hown ht hl.1 hP hK hD hS hA hN d_M_unaryStep_79 (fun r17 u18 H locs q19 hP hD hS => ?_)
        have hP : va_P (dC, dI) vwCl (wR b h Y u18) H := hP
        have hD : va_D A (wR b h Y u18) := hD
        exact ret_i (v := r17) hx hb hr hlocks hP hK hD hS d_M_unaryStep_82 (by (try simp only [c2, c13] at q19); simp [q_unary, wr_eqR, -Int64.toInt32_mul, -Int64.toInt32_add, -Int64.toInt32_sub, c1, c2, c13, q19])
  · have c1 : (t_k (y_T Y) (ix e) - 10) = 2 := c1
    refine lv_aload_n hx hb d_M_unaryStep_15 rfl (lv_at hl 1 rfl) ?_
    refine va_get (D := (dC, dI)) (ci := 3) (v := .ref (b 6)) (C := R_M) (T := T_M) (N := 20) hx hb ht in_M hown hK hP 0 rfl rfl 6 (by decide) (ht _ k_333) (fun _ h => h) rfl d_M_unaryStep_16 ?_
    refine lv_iload_n hx hb d_M_unaryStep_19 rfl (lv_at hl 2 rfl) ?_
    refine va_iald hx hb hK hP 6 5 rfl rfl he d_M_unaryStep_20 ?_
    refine lv_iconst (v := 2) hx hb d_M_unaryStep_21 (by decide) ?_
    refine lv_icmp_ne (tgt := 27) hx hb d_M_unaryStep_22 (by decide) (fun c20 => ?_) (fun c20 => ?_)
    · have c20 : ¬ r_ph r (ix e) = 2 := c20
      refine lv_iload_n hx hb d_M_unaryStep_27 rfl (lv_at hl 3 rfl) ?_
      refine lv_if_ne (tgt := 39) hx hb d_M_unaryStep_28 (by decide) (fun c21 => ?_) (fun c21 => ?_)
      · have c21 : ¬ w = 0 := c21
        refine lv_aload_n hx hb d_M_unaryStep_39 rfl (lv_at hl 1 rfl) ?_
        refine va_get (D := (dC, dI)) (ci := 3) (v := .ref (b 6)) (C := R_M) (T := T_M) (N := 20) hx hb ht in_M hown hK hP 0 rfl rfl 6 (by decide) (ht _ k_333) (fun _ h => h) rfl d_M_unaryStep_40 ?_
        refine lv_iload_n hx hb d_M_unaryStep_43 rfl (lv_at hl 2 rfl) ?_
        refine lv_iconst (v := 2) hx hb d_M_unaryStep_44 (by decide) ?_
        refine va_iast hx hb hK hP hD hS 6 5 rfl rfl he d_M_unaryStep_45 (fun H locs hP hD hS => ?_)
        have hP : va_P (dC, dI) vwCl (wR b h Y (u_ph r e 2)) H := cP_R_ph hP
        have hD : va_D A (wR b h Y (u_ph r e 2)) := cD_R_ph hD
        refine lv_iload_n hx hb d_M_unaryStep_46 rfl (lv_at hl 3 rfl) ?_
        refine lv_iconst (v := 1) hx hb d_M_unaryStep_47 (by decide) ?_
        refine lv_icmp_ne (tgt := 55) hx hb d_M_unaryStep_48 (by decide) (fun c22 => ?_) (fun c22 => ?_)
        · have c22 : ¬ w = 1 := c22
          refine lv_aload_n hx hb d_M_unaryStep_55 rfl (lv_at hl 1 rfl) ?_
          refine lv_iconst (v := 0) hx hb d_M_unaryStep_56 (by decide) ?_
          refine call_i (As := [.int 0]) (rest := []) (ci := 3) (q0 := 0) (c_M_give l dC dI b h Y (u_ph r e 2) 0) k_452 k_454 s_M_give k_4 k_455 ⟨rfl, pc_M_give.1, pc_M_give.2, pd_M_give⟩ rfl rfl rfl rfl rfl (rm_le (by omega) (by decide)) (Nat.le_of_ble_eq_true rfl) rfl hx hb hml hown ht hl.1 hP hK hD hS hA hN d_M_unaryStep_57 (fun r23 u24 H locs q25 hP hD hS => ?_)
          have hP : va_P (dC, dI) vwCl (wR b h Y u24) H := hP
          have hD : va_D A (wR b h Y u24) := hD
          exact ret_i (v := r23) hx hb hr hlocks hP hK hD hS d_M_unaryStep_60 (by (try simp only [c1] at q25); simp [q_unary, wr_eqR, -Int64.toInt32_mul, -Int64.toInt32_add, -Int64.toInt32_sub, c1, c20, c21, c22, q25])
        · have c22 : w = 1 := c22
          refine lv_iconst (v := 0) hx hb d_M_unaryStep_51 (by decide) ?_
          refine lv_goto (tgt := 60) hx hb d_M_unaryStep_52 (by decide) ?_
          exact ret_i (v := 0) hx hb hr hlocks hP hK hD hS d_M_unaryStep_60 (by simp [q_unary, wr_eqR, -Int64.toInt32_mul, -Int64.toInt32_add, -Int64.toInt32_sub, c1, c20, c21, c22])
      · have c21 : w = 0 := c21
        refine lv_aload_n hx hb d_M_unaryStep_31 rfl (lv_at hl 1 rfl) ?_
        refine lv_iload_n hx hb d_M_unaryStep_32 rfl (lv_at hl 2 rfl) ?_
        refine lv_iconst (v := 0) hx hb d_M_unaryStep_33 (by decide) ?_
        refine lv_iconst (v := 1) hx hb d_M_unaryStep_34 (by decide) ?_
        refine call_i (As := [.int e, .int 0, .int 1]) (rest := []) (ci := 3) (q0 := 0) (c_M_first l dC dI b h Y r e 0 1 he (in3 he in_03) hp kx) k_460 k_462 s_M_first k_4 k_463 ⟨rfl, pc_M_first.1, pc_M_first.2, pd_M_first⟩ rfl rfl rfl rfl rfl (rm_le (by omega) (by decide)) (Nat.le_of_ble_eq_true rfl) rfl hx hb hml hown ht hl.1 hP hK hD hS hA hN d_M_unaryStep_35 (fun r26 u27 H locs q28 hP hD hS => ?_)
        have hP : va_P (dC, dI) vwCl (wR b h Y u27) H := hP
        have hD : va_D A (wR b h Y u27) := hD
        exact ret_i (v := r26) hx hb hr hlocks hP hK hD hS d_M_unaryStep_38 (by (try simp only [c1, c21] at q28); simp [q_unary, wr_eqR, -Int64.toInt32_mul, -Int64.toInt32_add, -Int64.toInt32_sub, c1, c20, c21, q28])
    · have c20 : r_ph r (ix e) = 2 := c20
      refine lv_iconst (v := 0) hx hb d_M_unaryStep_25 (by decide) ?_
      exact ret_i (v := 0) hx hb hr hlocks hP hK hD hS d_M_unaryStep_26 (by simp [q_unary, wr_eqR, -Int64.toInt32_mul, -Int64.toInt32_add, -Int64.toInt32_sub, c1, c20])
set_option maxRecDepth 100000 in
set_option maxHeartbeats 4000000 in
theorem c_M_pairStep (l : Launch) (dC : Nat → ClassId) (dI : Nat → Nat → Nat) (b : Nat → Nat) (h : Nat → ClassId) (Y : zY) (r : zR) (e : Int32) (w : Int32) (he : vp_in e 60) (hp : Tp r) (kx : vp_in (t_p (y_T Y) (ix (3 * e + 0))) 60) (ky : vp_in (t_p (y_T Y) (ix (3 * e + 1))) 60) : MetI l y_M_pairStep w_M_pairStep (rmN (2)) dC dI (yY h) (wR b h Y) [.ref (b 0), .int e, .int w] r (fun z9 u9 => q_pair (y_T Y) e w r = (z9, u9)) := by
  refine metI_of (cc := b_M_pairStep) (maxL := 8) (ret := (some .int)) (by decide) rfl (Nat.le_of_ble_eq_true rfl) ?_
  intro p e9 s9 m args below meth c A ls hx hb hr hts hown hlocks hml hA hP hK hD hS hN hl
  have ht : ∀ w ∈ lw_g, w.before args s9 = true := fun w h => hts w (List.mem_cons_of_mem _ h)
  have hl : lv_has ls 8 [(0, .ref (b 0)), (1, .int e), (2, .int w)] := hl
  refine lv_iload_n hx hb d_M_pairStep_0 rfl (lv_at hl 2 rfl) ?_
  refine lv_if_ne (tgt := 31) hx hb d_M_pairStep_1 (by decide) (fun c1 => ?_) (fun c1 => ?_)
  · have c1 : ¬ w = 0 := c1
    refine lv_aload_n hx hb d_M_pairStep_31 rfl (lv_at hl 0 rfl) ?_
    refine va_get (D := (dC, dI)) (ci := 3) (v := .ref (b 6)) (C := R_M) (T := T_M) (N := 20) hx hb ht in_M hown hK hP 0 rfl rfl 6 (by decide) (ht _ k_333) (fun _ h => h) rfl d_M_pairStep_32 ?_
    refine lv_iload_n hx hb d_M_pairStep_35 rfl (lv_at hl 1 rfl) ?_
    refine va_iald hx hb hK hP 6 5 rfl rfl he d_M_pairStep_36 ?_
    refine lv_iconst (v := 1) hx hb d_M_pairStep_37 (by decide) ?_
    refine lv_icmp_ne (tgt := 69) hx hb d_M_pairStep_38 (by decide) (fun c2 => ?_) (fun c2 => ?_)
    · have c2 : ¬ r_ph r (ix e) = 1 := c2
      refine lv_iload_n hx hb d_M_pairStep_69 rfl (lv_at hl 2 rfl) ?_
      refine lv_iconst (v := 2) hx hb d_M_pairStep_70 (by decide) ?_
      refine lv_icmp_ne (tgt := 82) hx hb d_M_pairStep_71 (by decide) (fun c3 => ?_) (fun c3 => ?_)
      · have c3 : ¬ w = 2 := c3
        refine lv_aload_n hx hb d_M_pairStep_82 rfl (lv_at hl 0 rfl) ?_
        refine va_get (D := (dC, dI)) (ci := 3) (v := .ref (b 1)) (C := R_M) (T := T_M) (N := 20) hx hb ht in_M hown hK hP 0 rfl rfl 1 (by decide) (ht _ k_328) (fun _ h => h) rfl d_M_pairStep_83 ?_
        refine lv_iload_n hx hb d_M_pairStep_86 rfl (lv_at hl 1 rfl) ?_
        refine va_iald hx hb hK hP 1 0 rfl rfl he d_M_pairStep_87 ?_
        refine lv_bipush (v := 20) hx hb d_M_pairStep_88 (by decide) ?_
        refine lv_isub hx hb d_M_pairStep_90 ?_
        refine lv_istore_n hx hb d_M_pairStep_91 rfl hl (by decide) (lv' := [(3, .int (t_k (y_T Y) (ix e) - 20)), (0, .ref (b 0)), (1, .int e), (2, .int w)]) rfl (fun ls hl => ?_)
        refine lv_aload_n hx hb d_M_pairStep_92 rfl (lv_at hl 1 rfl) ?_
        refine va_get (D := (dC, dI)) (ci := 3) (v := .ref (b 7)) (C := R_M) (T := T_M) (N := 20) hx hb ht in_M hown hK hP 0 rfl rfl 7 (by decide) (ht _ k_334) (fun _ h => h) rfl d_M_pairStep_93 ?_
        refine lv_iconst (v := 3) hx hb d_M_pairStep_96 (by decide) ?_
        refine lv_iload_n hx hb d_M_pairStep_97 rfl (lv_at hl 2 rfl) ?_
        refine lv_imul hx hb d_M_pairStep_98 ?_
        refine va_lald hx hb hK hP 7 6 rfl rfl (in3_0 he) d_M_pairStep_99 ?_
        refine lv_lstore hx hb d_M_pairStep_100 hl (by decide) (lv' := [(4, .long (r_kp r (ix (3 * e)))), (3, .int (t_k (y_T Y) (ix e) - 20)), (0, .ref (b 0)), (1, .int e), (2, .int w)]) rfl (fun ls hl => ?_)
        refine lv_iload_n hx hb d_M_pairStep_102 rfl (lv_at hl 1 rfl) ?_
        refine lv_iconst (v := 5) hx hb d_M_pairStep_103 (by decide) ?_
        refine lv_icmp_lt (tgt := 191) hx hb d_M_pairStep_104 (by decide) (fun c4 => ?_) (fun c4 => ?_)
        · have c4 : (t_k (y_T Y) (ix e) - 20) < 5 := c4
          refine lv_iload_n hx hb d_M_pairStep_191 rfl (lv_at hl 1 rfl) ?_
          refine lv_iconst (v := 1) hx hb d_M_pairStep_192 (by decide) ?_
          refine lv_icmp_ne (tgt := 198) hx hb d_M_pairStep_193 (by decide) (fun c5 => ?_) (fun c5 => ?_)
          · have c5 : ¬ (t_k (y_T Y) (ix e) - 20) = 1 := c5
            refine lv_iload_n hx hb d_M_pairStep_198 rfl (lv_at hl 1 rfl) ?_
            refine lv_iconst (v := 2) hx hb d_M_pairStep_199 (by decide) ?_
            refine lv_icmp_ne (tgt := 214) hx hb d_M_pairStep_200 (by decide) (fun c6 => ?_) (fun c6 => ?_)
            · have c6 : ¬ (t_k (y_T Y) (ix e) - 20) = 2 := c6
              refine lv_iload_n hx hb d_M_pairStep_214 rfl (lv_at hl 1 rfl) ?_
              refine lv_iconst (v := 3) hx hb d_M_pairStep_215 (by decide) ?_
              refine lv_icmp_ne (tgt := 230) hx hb d_M_pairStep_216 (by decide) (fun c7 => ?_) (fun c7 => ?_)
              · have c7 : ¬ (t_k (y_T Y) (ix e) - 20) = 3 := c7
                refine lv_lload hx hb d_M_pairStep_230 (lv_at hl 0 rfl) ?_
                refine lv_aload_n hx hb d_M_pairStep_232 rfl (lv_at hl 2 rfl) ?_
                refine va_get (D := (dC, dI)) (ci := 3) (v := .int (r_gv r)) (C := R_M) (T := T_M) (N := 20) hx hb ht in_M hown hK hP 0 rfl rfl 18 (by decide) (ht _ k_345) (fun _ h => h) rfl d_M_pairStep_233 ?_
                refine lv_i2l hx hb d_M_pairStep_236 rfl ?_
                refine lv_lmul hx hb d_M_pairStep_237 ?_
                refine lv_lstore hx hb d_M_pairStep_238 hl (by decide) (lv' := [(6, .long (r_kp r (ix (3 * e)) * (r_gv r).toInt64)), (4, .long (r_kp r (ix (3 * e)))), (3, .int (t_k (y_T Y) (ix e) - 20)), (0, .ref (b 0)), (1, .int e), (2, .int w)]) rfl (fun ls hl => ?_)
                refine lv_lload hx hb d_M_pairStep_240 (lv_at hl 0 rfl) ?_
                refine lv_lload hx hb d_M_pairStep_242 (lv_at hl 0 rfl) ?_
                refine lv_l2i hx hb d_M_pairStep_244 rfl ?_
                refine lv_i2l hx hb d_M_pairStep_245 rfl ?_
                refine W.lcmp hx hb d_M_pairStep_246 ?_
                refine lv_if_eq (tgt := 258) hx hb d_M_pairStep_247 (by decide) (fun c8 => ?_) (fun c8 => ?_)
                · have c8 : (r_kp r (ix (3 * e)) * (r_gv r).toInt64) = ((r_kp r (ix (3 * e)) * (r_gv r).toInt64).toInt32).toInt64 := (lg_cmp_eq _ _).mp c8
                  refine lv_aload_n hx hb d_M_pairStep_258 rfl (lv_at hl 3 rfl) ?_
                  refine lv_lload hx hb d_M_pairStep_259 (lv_at hl 0 rfl) ?_
                  refine lv_l2i hx hb d_M_pairStep_261 rfl ?_
                  refine call_i (As := [.int ((r_kp r (ix (3 * e)) * (r_gv r).toInt64).toInt32)]) (rest := []) (ci := 3) (q0 := 0) (c_M_give l dC dI b h Y r ((r_kp r (ix (3 * e)) * (r_gv r).toInt64).toInt32)) k_452 k_454 s_M_give k_4 k_455 ⟨rfl, pc_M_give.1, pc_M_give.2, pd_M_give⟩ rfl rfl rfl rfl rfl (rm_le (by omega) (by decide)) (Nat.le_of_ble_eq_true rfl) rfl hx hb hml hown ht hl.1 hP hK hD hS hA hN d_M_pairStep_262 (fun r9 u10 H locs q11 hP hD hS => ?_)
                  have hP : va_P (dC, dI) vwCl (wR b h Y u10) H := hP
                  have hD : va_D A (wR b h Y u10) := hD
                  exact ret_i (v := r9) hx hb hr hlocks hP hK hD hS d_M_pairStep_265 (by simp [q_pair, -Int64.toInt32_mul, -Int64.toInt32_add, -Int64.toInt32_sub, c1, c2, c3, c4, c5, c6, c7, eq_true c8, Int32.not_le.mpr c4, q11])
                · have c8 : ¬ (r_kp r (ix (3 * e)) * (r_gv r).toInt64) = ((r_kp r (ix (3 * e)) * (r_gv r).toInt64).toInt32).toInt64 := fun q => c8 ((lg_cmp_eq _ _).mpr q)
                  refine lv_aload_n hx hb d_M_pairStep_250 rfl (lv_at hl 3 rfl) ?_
                  refine lv_bipush (v := (-4)) hx hb d_M_pairStep_251 (by decide) ?_
                  refine va_put (D := (dC, dI)) (ci := 3) (v := .int (-4)) (ty := .int) (C := R_M) (T := T_M) (N := 20) hx hb ht in_M t_M t_M_ok n_M hown hK hP hD hS 0 rfl rfl 19 (by decide) (ht _ k_346) (fun _ h => h) rfl (by decide +kernel) rfl rfl (Nat.le_of_ble_eq_true rfl) d_M_pairStep_253 (fun H locs hP hD hS => ?_)
                  have hP : va_P (dC, dI) vwCl (wR b h Y (u_er r (-4))) H := cP_R_er hP
                  have hD : va_D A (wR b h Y (u_er r (-4))) := cD_R_er hD
                  refine lv_iconst (v := 0) hx hb d_M_pairStep_256 (by decide) ?_
                  exact ret_i (v := 0) hx hb hr hlocks hP hK hD hS d_M_pairStep_257 (by simp [q_pair, -Int64.toInt32_mul, -Int64.toInt32_add, -Int64.toInt32_sub, c1, c2, c3, c4, c5, c6, c7, c8, Int32.not_le.mpr c4])
              · have c7 : (t_k (y_T Y) (ix e) - 20) = 3 := c7
                refine lv_lload hx hb d_M_pairStep_219 (lv_at hl 0 rfl) ?_
                refine lv_aload_n hx hb d_M_pairStep_221 rfl (lv_at hl 2 rfl) ?_
                refine va_get (D := (dC, dI)) (ci := 3) (v := .int (r_gv r)) (C := R_M) (T := T_M) (N := 20) hx hb ht in_M hown hK hP 0 rfl rfl 18 (by decide) (ht _ k_345) (fun _ h => h) rfl d_M_pairStep_222 ?_
                refine lv_i2l hx hb d_M_pairStep_225 rfl ?_
                refine lv_lsub hx hb d_M_pairStep_226 ?_
                refine lv_goto (tgt := 238) hx hb d_M_pairStep_227 (by decide) ?_
                refine lv_lstore hx hb d_M_pairStep_238 hl (by decide) (lv' := [(6, .long (r_kp r (ix (3 * e)) - (r_gv r).toInt64)), (4, .long (r_kp r (ix (3 * e)))), (3, .int (t_k (y_T Y) (ix e) - 20)), (0, .ref (b 0)), (1, .int e), (2, .int w)]) rfl (fun ls hl => ?_)
                refine lv_lload hx hb d_M_pairStep_240 (lv_at hl 0 rfl) ?_
                refine lv_lload hx hb d_M_pairStep_242 (lv_at hl 0 rfl) ?_
                refine lv_l2i hx hb d_M_pairStep_244 rfl ?_
                refine lv_i2l hx hb d_M_pairStep_245 rfl ?_
                refine W.lcmp hx hb d_M_pairStep_246 ?_
                refine lv_if_eq (tgt := 258) hx hb d_M_pairStep_247 (by decide) (fun c12 => ?_) (fun c12 => ?_)
                · have c12 : (r_kp r (ix (3 * e)) - (r_gv r).toInt64) = ((r_kp r (ix (3 * e)) - (r_gv r).toInt64).toInt32).toInt64 := (lg_cmp_eq _ _).mp c12
                  refine lv_aload_n hx hb d_M_pairStep_258 rfl (lv_at hl 3 rfl) ?_
                  refine lv_lload hx hb d_M_pairStep_259 (lv_at hl 0 rfl) ?_
                  refine lv_l2i hx hb d_M_pairStep_261 rfl ?_
                  refine call_i (As := [.int ((r_kp r (ix (3 * e)) - (r_gv r).toInt64).toInt32)]) (rest := []) (ci := 3) (q0 := 0) (c_M_give l dC dI b h Y r ((r_kp r (ix (3 * e)) - (r_gv r).toInt64).toInt32)) k_452 k_454 s_M_give k_4 k_455 ⟨rfl, pc_M_give.1, pc_M_give.2, pd_M_give⟩ rfl rfl rfl rfl rfl (rm_le (by omega) (by decide)) (Nat.le_of_ble_eq_true rfl) rfl hx hb hml hown ht hl.1 hP hK hD hS hA hN d_M_pairStep_262 (fun r13 u14 H locs q15 hP hD hS => ?_)
                  have hP : va_P (dC, dI) vwCl (wR b h Y u14) H := hP
                  have hD : va_D A (wR b h Y u14) := hD
                  exact ret_i (v := r13) hx hb hr hlocks hP hK hD hS d_M_pairStep_265 (by (try simp only [c7] at q15); simp [q_pair, -Int64.toInt32_mul, -Int64.toInt32_add, -Int64.toInt32_sub, c1, c2, c3, c4, c5, c6, c7, eq_true c12, Int32.not_le.mpr c4, q15])
                · have c12 : ¬ (r_kp r (ix (3 * e)) - (r_gv r).toInt64) = ((r_kp r (ix (3 * e)) - (r_gv r).toInt64).toInt32).toInt64 := fun q => c12 ((lg_cmp_eq _ _).mpr q)
                  refine lv_aload_n hx hb d_M_pairStep_250 rfl (lv_at hl 3 rfl) ?_
                  refine lv_bipush (v := (-4)) hx hb d_M_pairStep_251 (by decide) ?_
                  refine va_put (D := (dC, dI)) (ci := 3) (v := .int (-4)) (ty := .int) (C := R_M) (T := T_M) (N := 20) hx hb ht in_M t_M t_M_ok n_M hown hK hP hD hS 0 rfl rfl 19 (by decide) (ht _ k_346) (fun _ h => h) rfl (by decide +kernel) rfl rfl (Nat.le_of_ble_eq_true rfl) d_M_pairStep_253 (fun H locs hP hD hS => ?_)
                  have hP : va_P (dC, dI) vwCl (wR b h Y (u_er r (-4))) H := cP_R_er hP
                  have hD : va_D A (wR b h Y (u_er r (-4))) := cD_R_er hD
                  refine lv_iconst (v := 0) hx hb d_M_pairStep_256 (by decide) ?_
                  exact ret_i (v := 0) hx hb hr hlocks hP hK hD hS d_M_pairStep_257 (by simp [q_pair, -Int64.toInt32_mul, -Int64.toInt32_add, -Int64.toInt32_sub, c1, c2, c3, c4, c5, c6, c7, c12, Int32.not_le.mpr c4])
            · have c6 : (t_k (y_T Y) (ix e) - 20) = 2 := c6
              refine lv_lload hx hb d_M_pairStep_203 (lv_at hl 0 rfl) ?_
              refine lv_aload_n hx hb d_M_pairStep_205 rfl (lv_at hl 2 rfl) ?_
              refine va_get (D := (dC, dI)) (ci := 3) (v := .int (r_gv r)) (C := R_M) (T := T_M) (N := 20) hx hb ht in_M hown hK hP 0 rfl rfl 18 (by decide) (ht _ k_345) (fun _ h => h) rfl d_M_pairStep_206 ?_
              refine lv_i2l hx hb d_M_pairStep_209 rfl ?_
              refine lv_ladd hx hb d_M_pairStep_210 ?_
              refine lv_goto (tgt := 238) hx hb d_M_pairStep_211 (by decide) ?_
              refine lv_lstore hx hb d_M_pairStep_238 hl (by decide) (lv' := [(6, .long (r_kp r (ix (3 * e)) + (r_gv r).toInt64)), (4, .long (r_kp r (ix (3 * e)))), (3, .int (t_k (y_T Y) (ix e) - 20)), (0, .ref (b 0)), (1, .int e), (2, .int w)]) rfl (fun ls hl => ?_)
              refine lv_lload hx hb d_M_pairStep_240 (lv_at hl 0 rfl) ?_
              refine lv_lload hx hb d_M_pairStep_242 (lv_at hl 0 rfl) ?_
              refine lv_l2i hx hb d_M_pairStep_244 rfl ?_
              refine lv_i2l hx hb d_M_pairStep_245 rfl ?_
              refine W.lcmp hx hb d_M_pairStep_246 ?_
              refine lv_if_eq (tgt := 258) hx hb d_M_pairStep_247 (by decide) (fun c16 => ?_) (fun c16 => ?_)
              · have c16 : (r_kp r (ix (3 * e)) + (r_gv r).toInt64) = ((r_kp r (ix (3 * e)) + (r_gv r).toInt64).toInt32).toInt64 := (lg_cmp_eq _ _).mp c16
                refine lv_aload_n hx hb d_M_pairStep_258 rfl (lv_at hl 3 rfl) ?_
                refine lv_lload hx hb d_M_pairStep_259 (lv_at hl 0 rfl) ?_
                refine lv_l2i hx hb d_M_pairStep_261 rfl ?_
                refine call_i (As := [.int ((r_kp r (ix (3 * e)) + (r_gv r).toInt64).toInt32)]) (rest := []) (ci := 3) (q0 := 0) (c_M_give l dC dI b h Y r ((r_kp r (ix (3 * e)) + (r_gv r).toInt64).toInt32)) k_452 k_454 s_M_give k_4 k_455 ⟨rfl, pc_M_give.1, pc_M_give.2, pd_M_give⟩ rfl rfl rfl rfl rfl (rm_le (by omega) (by decide)) (Nat.le_of_ble_eq_true rfl) rfl hx hb hml hown ht hl.1 hP hK hD hS hA hN d_M_pairStep_262 (fun r17 u18 H locs q19 hP hD hS => ?_)
                have hP : va_P (dC, dI) vwCl (wR b h Y u18) H := hP
                have hD : va_D A (wR b h Y u18) := hD
                exact ret_i (v := r17) hx hb hr hlocks hP hK hD hS d_M_pairStep_265 (by (try simp only [c6] at q19); simp [q_pair, -Int64.toInt32_mul, -Int64.toInt32_add, -Int64.toInt32_sub, c1, c2, c3, c4, c5, c6, eq_true c16, Int32.not_le.mpr c4, q19])
              · have c16 : ¬ (r_kp r (ix (3 * e)) + (r_gv r).toInt64) = ((r_kp r (ix (3 * e)) + (r_gv r).toInt64).toInt32).toInt64 := fun q => c16 ((lg_cmp_eq _ _).mpr q)
                refine lv_aload_n hx hb d_M_pairStep_250 rfl (lv_at hl 3 rfl) ?_
                refine lv_bipush (v := (-4)) hx hb d_M_pairStep_251 (by decide) ?_
                refine va_put (D := (dC, dI)) (ci := 3) (v := .int (-4)) (ty := .int) (C := R_M) (T := T_M) (N := 20) hx hb ht in_M t_M t_M_ok n_M hown hK hP hD hS 0 rfl rfl 19 (by decide) (ht _ k_346) (fun _ h => h) rfl (by decide +kernel) rfl rfl (Nat.le_of_ble_eq_true rfl) d_M_pairStep_253 (fun H locs hP hD hS => ?_)
                have hP : va_P (dC, dI) vwCl (wR b h Y (u_er r (-4))) H := cP_R_er hP
                have hD : va_D A (wR b h Y (u_er r (-4))) := cD_R_er hD
                refine lv_iconst (v := 0) hx hb d_M_pairStep_256 (by decide) ?_
                exact ret_i (v := 0) hx hb hr hlocks hP hK hD hS d_M_pairStep_257 (by simp [q_pair, -Int64.toInt32_mul, -Int64.toInt32_add, -Int64.toInt32_sub, c1, c2, c3, c4, c5, c6, c16, Int32.not_le.mpr c4])
          · have c5 : (t_k (y_T Y) (ix e) - 20) = 1 := c5
            refine lv_iconst (v := 1) hx hb d_M_pairStep_196 (by decide) ?_
            exact ret_i (v := 1) hx hb hr hlocks hP hK hD hS d_M_pairStep_197 (by simp [q_pair, -Int64.toInt32_mul, -Int64.toInt32_add, -Int64.toInt32_sub, c1, c2, c3, c4, c5, Int32.not_le.mpr c4])
        · have c4 : ¬ (t_k (y_T Y) (ix e) - 20) < 5 := c4
          refine lv_iload_n hx hb d_M_pairStep_107 rfl (lv_at hl 1 rfl) ?_
          refine lv_iconst (v := 5) hx hb d_M_pairStep_108 (by decide) ?_
          refine lv_icmp_ne (tgt := 131) hx hb d_M_pairStep_109 (by decide) (fun c20 => ?_) (fun c20 => ?_)
          · have c20 : ¬ (t_k (y_T Y) (ix e) - 20) = 5 := c20
            refine lv_iload_n hx hb d_M_pairStep_131 rfl (lv_at hl 1 rfl) ?_
            refine lv_bipush (v := 6) hx hb d_M_pairStep_132 (by decide) ?_
            refine lv_icmp_ne (tgt := 156) hx hb d_M_pairStep_134 (by decide) (fun c21 => ?_) (fun c21 => ?_)
            · have c21 : ¬ (t_k (y_T Y) (ix e) - 20) = 6 := c21
              refine lv_lload hx hb d_M_pairStep_156 (lv_at hl 0 rfl) ?_
              refine lv_aload_n hx hb d_M_pairStep_158 rfl (lv_at hl 2 rfl) ?_
              refine va_get (D := (dC, dI)) (ci := 3) (v := .int (r_gv r)) (C := R_M) (T := T_M) (N := 20) hx hb ht in_M hown hK hP 0 rfl rfl 18 (by decide) (ht _ k_345) (fun _ h => h) rfl d_M_pairStep_159 ?_
              refine lv_i2l hx hb d_M_pairStep_162 rfl ?_
              refine W.lcmp hx hb d_M_pairStep_163 ?_
              refine lv_if_eq (tgt := 171) hx hb d_M_pairStep_164 (by decide) (fun c22 => ?_) (fun c22 => ?_)
              · have c22 : r_kp r (ix (3 * e)) = (r_gv r).toInt64 := (lg_cmp_eq _ _).mp c22
                refine lv_iconst (v := 0) hx hb d_M_pairStep_171 (by decide) ?_
                refine lv_istore hx hb d_M_pairStep_172 hl (by decide) (lv' := [(6, .int 0), (4, .long (r_kp r (ix (3 * e)))), (3, .int (t_k (y_T Y) (ix e) - 20)), (0, .ref (b 0)), (1, .int e), (2, .int w)]) rfl (fun ls hl => ?_)
                refine lv_iload hx hb d_M_pairStep_174 (lv_at hl 0 rfl) ?_
                refine lv_if_eq (tgt := 183) hx hb d_M_pairStep_176 (by decide) (fun c23 => ?_) (fun c23 => ?_)
                · have c23 : (0 : Int32) = 0 := c23
                  refine lv_aload_n hx hb d_M_pairStep_183 rfl (lv_at hl 3 rfl) ?_
                  refine lv_iload_n hx hb d_M_pairStep_184 rfl (lv_at hl 4 rfl) ?_
                  refine lv_iconst (v := 1) hx hb d_M_pairStep_185 (by decide) ?_
                  refine lv_iconst (v := 2) hx hb d_M_pairStep_186 (by decide) ?_
                  refine call_i (As := [.int e, .int 1, .int 2]) (rest := []) (ci := 3) (q0 := 0) (c_M_ask l dC dI b h Y r e 1 2 he (in3 he in_13) hp) k_464 k_466 s_M_ask k_4 k_467 ⟨rfl, pc_M_ask.1, pc_M_ask.2, pd_M_ask⟩ rfl rfl rfl rfl rfl (rm_le (by omega) (by decide)) (Nat.le_of_ble_eq_true rfl) rfl hx hb hml hown ht hl.1 hP hK hD hS hA hN d_M_pairStep_187 (fun r24 u25 H locs q26 hP hD hS => ?_)
                  have hP : va_P (dC, dI) vwCl (wR b h Y u25) H := hP
                  have hD : va_D A (wR b h Y u25) := hD
                  exact ret_i (v := r24) hx hb hr hlocks hP hK hD hS d_M_pairStep_190 (by simp [q_pair, -Int64.toInt32_mul, -Int64.toInt32_add, -Int64.toInt32_sub, c1, c2, c3, c4, c20, c21, c22, Int32.not_lt.mp c4, q26])
                · have c23 : ¬ (0 : Int32) = 0 := c23
                  exact absurd c23 (by decide)
              · have c22 : ¬ r_kp r (ix (3 * e)) = (r_gv r).toInt64 := fun q => c22 ((lg_cmp_eq _ _).mpr q)
                refine lv_iconst (v := 1) hx hb d_M_pairStep_167 (by decide) ?_
                refine lv_goto (tgt := 172) hx hb d_M_pairStep_168 (by decide) ?_
                refine lv_istore hx hb d_M_pairStep_172 hl (by decide) (lv' := [(6, .int 1), (4, .long (r_kp r (ix (3 * e)))), (3, .int (t_k (y_T Y) (ix e) - 20)), (0, .ref (b 0)), (1, .int e), (2, .int w)]) rfl (fun ls hl => ?_)
                refine lv_iload hx hb d_M_pairStep_174 (lv_at hl 0 rfl) ?_
                refine lv_if_eq (tgt := 183) hx hb d_M_pairStep_176 (by decide) (fun c27 => ?_) (fun c27 => ?_)
                · have c27 : (1 : Int32) = 0 := c27
                  exact absurd c27 (by decide)
                · have c27 : ¬ (1 : Int32) = 0 := c27
                  refine lv_iconst (v := 1) hx hb d_M_pairStep_179 (by decide) ?_
                  refine lv_goto (tgt := 190) hx hb d_M_pairStep_180 (by decide) ?_
                  exact ret_i (v := 1) hx hb hr hlocks hP hK hD hS d_M_pairStep_190 (by simp [q_pair, -Int64.toInt32_mul, -Int64.toInt32_add, -Int64.toInt32_sub, c1, c2, c3, c4, c20, c21, c22, Int32.not_lt.mp c4])
            · have c21 : (t_k (y_T Y) (ix e) - 20) = 6 := c21
              refine lv_lload hx hb d_M_pairStep_137 (lv_at hl 0 rfl) ?_
              refine lv_aload_n hx hb d_M_pairStep_139 rfl (lv_at hl 2 rfl) ?_
              refine va_get (D := (dC, dI)) (ci := 3) (v := .int (r_gv r)) (C := R_M) (T := T_M) (N := 20) hx hb ht in_M hown hK hP 0 rfl rfl 18 (by decide) (ht _ k_345) (fun _ h => h) rfl d_M_pairStep_140 ?_
              refine lv_i2l hx hb d_M_pairStep_143 rfl ?_
              refine W.lcmp hx hb d_M_pairStep_144 ?_
              refine lv_if_ne (tgt := 152) hx hb d_M_pairStep_145 (by decide) (fun c28 => ?_) (fun c28 => ?_)
              · have c28 : ¬ r_kp r (ix (3 * e)) = (r_gv r).toInt64 := fun q => c28 ((lg_cmp_eq _ _).mpr q)
                refine lv_iconst (v := 0) hx hb d_M_pairStep_152 (by decide) ?_
                refine lv_goto (tgt := 172) hx hb d_M_pairStep_153 (by decide) ?_
                refine lv_istore hx hb d_M_pairStep_172 hl (by decide) (lv' := [(6, .int 0), (4, .long (r_kp r (ix (3 * e)))), (3, .int (t_k (y_T Y) (ix e) - 20)), (0, .ref (b 0)), (1, .int e), (2, .int w)]) rfl (fun ls hl => ?_)
                refine lv_iload hx hb d_M_pairStep_174 (lv_at hl 0 rfl) ?_
                refine lv_if_eq (tgt := 183) hx hb d_M_pairStep_176 (by decide) (fun c29 => ?_) (fun c29 => ?_)
                · have c29 : (0 : Int32) = 0 := c29
                  refine lv_aload_n hx hb d_M_pairStep_183 rfl (lv_at hl 3 rfl) ?_
                  refine lv_iload_n hx hb d_M_pairStep_184 rfl (lv_at hl 4 rfl) ?_
                  refine lv_iconst (v := 1) hx hb d_M_pairStep_185 (by decide) ?_
                  refine lv_iconst (v := 2) hx hb d_M_pairStep_186 (by decide) ?_
                  refine call_i (As := [.int e, .int 1, .int 2]) (rest := []) (ci := 3) (q0 := 0) (c_M_ask l dC dI b h Y r e 1 2 he (in3 he in_13) hp) k_464 k_466 s_M_ask k_4 k_467 ⟨rfl, pc_M_ask.1, pc_M_ask.2, pd_M_ask⟩ rfl rfl rfl rfl rfl (rm_le (by omega) (by decide)) (Nat.le_of_ble_eq_true rfl) rfl hx hb hml hown ht hl.1 hP hK hD hS hA hN d_M_pairStep_187 (fun r30 u31 H locs q32 hP hD hS => ?_)
                  have hP : va_P (dC, dI) vwCl (wR b h Y u31) H := hP
                  have hD : va_D A (wR b h Y u31) := hD
                  exact ret_i (v := r30) hx hb hr hlocks hP hK hD hS d_M_pairStep_190 (by (try simp only [c21] at q32); simp [q_pair, -Int64.toInt32_mul, -Int64.toInt32_add, -Int64.toInt32_sub, c1, c2, c3, c4, c20, c21, c28, Int32.not_lt.mp c4, q32])
                · have c29 : ¬ (0 : Int32) = 0 := c29
                  exact absurd c29 (by decide)
              · have c28 : r_kp r (ix (3 * e)) = (r_gv r).toInt64 := (lg_cmp_eq _ _).mp c28
                refine lv_iconst (v := 1) hx hb d_M_pairStep_148 (by decide) ?_
                refine lv_goto (tgt := 172) hx hb d_M_pairStep_149 (by decide) ?_
                refine lv_istore hx hb d_M_pairStep_172 hl (by decide) (lv' := [(6, .int 1), (4, .long (r_kp r (ix (3 * e)))), (3, .int (t_k (y_T Y) (ix e) - 20)), (0, .ref (b 0)), (1, .int e), (2, .int w)]) rfl (fun ls hl => ?_)
                refine lv_iload hx hb d_M_pairStep_174 (lv_at hl 0 rfl) ?_
                refine lv_if_eq (tgt := 183) hx hb d_M_pairStep_176 (by decide) (fun c33 => ?_) (fun c33 => ?_)
                · have c33 : (1 : Int32) = 0 := c33
                  exact absurd c33 (by decide)
                · have c33 : ¬ (1 : Int32) = 0 := c33
                  refine lv_iconst (v := 1) hx hb d_M_pairStep_179 (by decide) ?_
                  refine lv_goto (tgt := 190) hx hb d_M_pairStep_180 (by decide) ?_
                  exact ret_i (v := 1) hx hb hr hlocks hP hK hD hS d_M_pairStep_190 (by simp [q_pair, -Int64.toInt32_mul, -Int64.toInt32_add, -Int64.toInt32_sub, c1, c2, c3, c4, c20, c21, c28, Int32.not_lt.mp c4])
          · have c20 : (t_k (y_T Y) (ix e) - 20) = 5 := c20
            refine lv_lload hx hb d_M_pairStep_112 (lv_at hl 0 rfl) ?_
            refine lv_aload_n hx hb d_M_pairStep_114 rfl (lv_at hl 2 rfl) ?_
            refine va_get (D := (dC, dI)) (ci := 3) (v := .int (r_gv r)) (C := R_M) (T := T_M) (N := 20) hx hb ht in_M hown hK hP 0 rfl rfl 18 (by decide) (ht _ k_345) (fun _ h => h) rfl d_M_pairStep_115 ?_
            refine lv_i2l hx hb d_M_pairStep_118 rfl ?_
            refine W.lcmp hx hb d_M_pairStep_119 ?_
            refine lv_if_ge (tgt := 127) hx hb d_M_pairStep_120 (by decide) (fun c34 => ?_) (fun c34 => ?_)
            · have c34 : ¬ r_kp r (ix (3 * e)) < (r_gv r).toInt64 := i64_nlt ((lg_cmp_ge _ _).mp c34)
              refine lv_iconst (v := 0) hx hb d_M_pairStep_127 (by decide) ?_
              refine lv_goto (tgt := 172) hx hb d_M_pairStep_128 (by decide) ?_
              refine lv_istore hx hb d_M_pairStep_172 hl (by decide) (lv' := [(6, .int 0), (4, .long (r_kp r (ix (3 * e)))), (3, .int (t_k (y_T Y) (ix e) - 20)), (0, .ref (b 0)), (1, .int e), (2, .int w)]) rfl (fun ls hl => ?_)
              refine lv_iload hx hb d_M_pairStep_174 (lv_at hl 0 rfl) ?_
              refine lv_if_eq (tgt := 183) hx hb d_M_pairStep_176 (by decide) (fun c35 => ?_) (fun c35 => ?_)
              · have c35 : (0 : Int32) = 0 := c35
                refine lv_aload_n hx hb d_M_pairStep_183 rfl (lv_at hl 3 rfl) ?_
                refine lv_iload_n hx hb d_M_pairStep_184 rfl (lv_at hl 4 rfl) ?_
                refine lv_iconst (v := 1) hx hb d_M_pairStep_185 (by decide) ?_
                refine lv_iconst (v := 2) hx hb d_M_pairStep_186 (by decide) ?_
                refine call_i (As := [.int e, .int 1, .int 2]) (rest := []) (ci := 3) (q0 := 0) (c_M_ask l dC dI b h Y r e 1 2 he (in3 he in_13) hp) k_464 k_466 s_M_ask k_4 k_467 ⟨rfl, pc_M_ask.1, pc_M_ask.2, pd_M_ask⟩ rfl rfl rfl rfl rfl (rm_le (by omega) (by decide)) (Nat.le_of_ble_eq_true rfl) rfl hx hb hml hown ht hl.1 hP hK hD hS hA hN d_M_pairStep_187 (fun r36 u37 H locs q38 hP hD hS => ?_)
                have hP : va_P (dC, dI) vwCl (wR b h Y u37) H := hP
                have hD : va_D A (wR b h Y u37) := hD
                exact ret_i (v := r36) hx hb hr hlocks hP hK hD hS d_M_pairStep_190 (by (try simp only [c20] at q38); simp [q_pair, -Int64.toInt32_mul, -Int64.toInt32_add, -Int64.toInt32_sub, c1, c2, c3, c4, c20, c34, Int32.not_lt.mp c4, Int64.not_lt.mp c34, q38])
              · have c35 : ¬ (0 : Int32) = 0 := c35
                exact absurd c35 (by decide)
            · have c34 : r_kp r (ix (3 * e)) < (r_gv r).toInt64 := i64_nle (fun q => c34 ((lg_cmp_ge _ _).mpr q))
              refine lv_iconst (v := 1) hx hb d_M_pairStep_123 (by decide) ?_
              refine lv_goto (tgt := 172) hx hb d_M_pairStep_124 (by decide) ?_
              refine lv_istore hx hb d_M_pairStep_172 hl (by decide) (lv' := [(6, .int 1), (4, .long (r_kp r (ix (3 * e)))), (3, .int (t_k (y_T Y) (ix e) - 20)), (0, .ref (b 0)), (1, .int e), (2, .int w)]) rfl (fun ls hl => ?_)
              refine lv_iload hx hb d_M_pairStep_174 (lv_at hl 0 rfl) ?_
              refine lv_if_eq (tgt := 183) hx hb d_M_pairStep_176 (by decide) (fun c39 => ?_) (fun c39 => ?_)
              · have c39 : (1 : Int32) = 0 := c39
                exact absurd c39 (by decide)
              · have c39 : ¬ (1 : Int32) = 0 := c39
                refine lv_iconst (v := 1) hx hb d_M_pairStep_179 (by decide) ?_
                refine lv_goto (tgt := 190) hx hb d_M_pairStep_180 (by decide) ?_
                exact ret_i (v := 1) hx hb hr hlocks hP hK hD hS d_M_pairStep_190 (by simp [q_pair, -Int64.toInt32_mul, -Int64.toInt32_add, -Int64.toInt32_sub, c1, c2, c3, c4, c20, c34, Int32.not_lt.mp c4, Int64.not_le.mpr c34])
      · have c3 : w = 2 := c3
        refine lv_aload_n hx hb d_M_pairStep_74 rfl (lv_at hl 0 rfl) ?_
        refine lv_iload_n hx hb d_M_pairStep_75 rfl (lv_at hl 1 rfl) ?_
        refine lv_iconst (v := 0) hx hb d_M_pairStep_76 (by decide) ?_
        refine lv_iconst (v := 1) hx hb d_M_pairStep_77 (by decide) ?_
        refine call_i (As := [.int e, .int 0, .int 1]) (rest := []) (ci := 3) (q0 := 0) (c_M_ask l dC dI b h Y r e 0 1 he (in3 he in_03) hp) k_464 k_466 s_M_ask k_4 k_467 ⟨rfl, pc_M_ask.1, pc_M_ask.2, pd_M_ask⟩ rfl rfl rfl rfl rfl (rm_le (by omega) (by decide)) (Nat.le_of_ble_eq_true rfl) rfl hx hb hml hown ht hl.1 hP hK hD hS hA hN d_M_pairStep_78 (fun r40 u41 H locs q42 hP hD hS => ?_)
        have hP : va_P (dC, dI) vwCl (wR b h Y u41) H := hP
        have hD : va_D A (wR b h Y u41) := hD
        exact ret_i (v := r40) hx hb hr hlocks hP hK hD hS d_M_pairStep_81 (by (try simp only [c3] at q42); simp [q_pair, -Int64.toInt32_mul, -Int64.toInt32_add, -Int64.toInt32_sub, c1, c2, c3, q42])
    · have c2 : r_ph r (ix e) = 1 := c2
      refine lv_iload_n hx hb d_M_pairStep_41 rfl (lv_at hl 2 rfl) ?_
      refine lv_iconst (v := 2) hx hb d_M_pairStep_42 (by decide) ?_
      refine lv_icmp_ne (tgt := 48) hx hb d_M_pairStep_43 (by decide) (fun c43 => ?_) (fun c43 => ?_)
      · have c43 : ¬ w = 2 := c43
        refine lv_aload_n hx hb d_M_pairStep_48 rfl (lv_at hl 0 rfl) ?_
        refine va_get (D := (dC, dI)) (ci := 3) (v := .ref (b 7)) (C := R_M) (T := T_M) (N := 20) hx hb ht in_M hown hK hP 0 rfl rfl 7 (by decide) (ht _ k_334) (fun _ h => h) rfl d_M_pairStep_49 ?_
        refine lv_iconst (v := 3) hx hb d_M_pairStep_52 (by decide) ?_
        refine lv_iload_n hx hb d_M_pairStep_53 rfl (lv_at hl 1 rfl) ?_
        refine lv_imul hx hb d_M_pairStep_54 ?_
        refine lv_aload_n hx hb d_M_pairStep_55 rfl (lv_at hl 0 rfl) ?_
        refine va_get (D := (dC, dI)) (ci := 3) (v := .int (r_gv r)) (C := R_M) (T := T_M) (N := 20) hx hb ht in_M hown hK hP 0 rfl rfl 18 (by decide) (ht _ k_345) (fun _ h => h) rfl d_M_pairStep_56 ?_
        refine lv_i2l hx hb d_M_pairStep_59 rfl ?_
        refine va_last hx hb hK hP hD hS 7 6 rfl rfl (in3_0 he) d_M_pairStep_60 (fun H locs hP hD hS => ?_)
        have hP : va_P (dC, dI) vwCl (wR b h Y (u_kp r (3 * e) ((r_gv r).toInt64))) H := cP_R_kp hP
        have hD : va_D A (wR b h Y (u_kp r (3 * e) ((r_gv r).toInt64))) := cD_R_kp hD
        refine lv_aload_n hx hb d_M_pairStep_61 rfl (lv_at hl 0 rfl) ?_
        refine lv_iload_n hx hb d_M_pairStep_62 rfl (lv_at hl 1 rfl) ?_
        refine lv_iconst (v := 1) hx hb d_M_pairStep_63 (by decide) ?_
        refine lv_iconst (v := 2) hx hb d_M_pairStep_64 (by decide) ?_
        refine call_i (As := [.int e, .int 1, .int 2]) (rest := []) (ci := 3) (q0 := 0) (c_M_first l dC dI b h Y (u_kp r (3 * e) ((r_gv r).toInt64)) e 1 2 he (in3 he in_13) hp ky) k_460 k_462 s_M_first k_4 k_463 ⟨rfl, pc_M_first.1, pc_M_first.2, pd_M_first⟩ rfl rfl rfl rfl rfl (rm_le (by omega) (by decide)) (Nat.le_of_ble_eq_true rfl) rfl hx hb hml hown ht hl.1 hP hK hD hS hA hN d_M_pairStep_65 (fun r44 u45 H locs q46 hP hD hS => ?_)
        have hP : va_P (dC, dI) vwCl (wR b h Y u45) H := hP
        have hD : va_D A (wR b h Y u45) := hD
        exact ret_i (v := r44) hx hb hr hlocks hP hK hD hS d_M_pairStep_68 (by (try simp only [c2] at q46); simp [q_pair, -Int64.toInt32_mul, -Int64.toInt32_add, -Int64.toInt32_sub, c1, c2, c43, q46])
      · have c43 : w = 2 := c43
        refine lv_iconst (v := 0) hx hb d_M_pairStep_46 (by decide) ?_
        exact ret_i (v := 0) hx hb hr hlocks hP hK hD hS d_M_pairStep_47 (by simp [q_pair, -Int64.toInt32_mul, -Int64.toInt32_add, -Int64.toInt32_sub, c1, c2, c43])
  · have c1 : w = 0 := c1
    refine lv_aload_n hx hb d_M_pairStep_4 rfl (lv_at hl 0 rfl) ?_
    refine va_get (D := (dC, dI)) (ci := 3) (v := .ref (b 6)) (C := R_M) (T := T_M) (N := 20) hx hb ht in_M hown hK hP 0 rfl rfl 6 (by decide) (ht _ k_333) (fun _ h => h) rfl d_M_pairStep_5 ?_
    refine lv_iload_n hx hb d_M_pairStep_8 rfl (lv_at hl 1 rfl) ?_
    refine va_iald hx hb hK hP 6 5 rfl rfl he d_M_pairStep_9 ?_
    refine lv_if_ne (tgt := 23) hx hb d_M_pairStep_10 (by decide) (fun c47 => ?_) (fun c47 => ?_)
    · have c47 : ¬ r_ph r (ix e) = 0 := c47
      refine lv_aload_n hx hb d_M_pairStep_23 rfl (lv_at hl 0 rfl) ?_
      refine lv_iload_n hx hb d_M_pairStep_24 rfl (lv_at hl 1 rfl) ?_
      refine lv_iconst (v := 1) hx hb d_M_pairStep_25 (by decide) ?_
      refine lv_iconst (v := 2) hx hb d_M_pairStep_26 (by decide) ?_
      refine call_i (As := [.int e, .int 1, .int 2]) (rest := []) (ci := 3) (q0 := 0) (c_M_ask l dC dI b h Y r e 1 2 he (in3 he in_13) hp) k_464 k_466 s_M_ask k_4 k_467 ⟨rfl, pc_M_ask.1, pc_M_ask.2, pd_M_ask⟩ rfl rfl rfl rfl rfl (rm_le (by omega) (by decide)) (Nat.le_of_ble_eq_true rfl) rfl hx hb hml hown ht hl.1 hP hK hD hS hA hN d_M_pairStep_27 (fun r48 u49 H locs q50 hP hD hS => ?_)
      have hP : va_P (dC, dI) vwCl (wR b h Y u49) H := hP
      have hD : va_D A (wR b h Y u49) := hD
      exact ret_i (v := r48) hx hb hr hlocks hP hK hD hS d_M_pairStep_30 (by (try simp only [c1] at q50); simp [q_pair, -Int64.toInt32_mul, -Int64.toInt32_add, -Int64.toInt32_sub, c1, c47, q50])
    · have c47 : r_ph r (ix e) = 0 := c47
      refine lv_aload_n hx hb d_M_pairStep_13 rfl (lv_at hl 0 rfl) ?_
      refine lv_iload_n hx hb d_M_pairStep_14 rfl (lv_at hl 1 rfl) ?_
      refine lv_iconst (v := 0) hx hb d_M_pairStep_15 (by decide) ?_
      refine lv_iconst (v := 1) hx hb d_M_pairStep_16 (by decide) ?_
      refine call_i (As := [.int e, .int 0, .int 1]) (rest := []) (ci := 3) (q0 := 0) (c_M_first l dC dI b h Y r e 0 1 he (in3 he in_03) hp kx) k_460 k_462 s_M_first k_4 k_463 ⟨rfl, pc_M_first.1, pc_M_first.2, pd_M_first⟩ rfl rfl rfl rfl rfl (rm_le (by omega) (by decide)) (Nat.le_of_ble_eq_true rfl) rfl hx hb hml hown ht hl.1 hP hK hD hS hA hN d_M_pairStep_17 (fun r51 u52 H locs q53 hP hD hS => ?_)
      have hP : va_P (dC, dI) vwCl (wR b h Y u52) H := hP
      have hD : va_D A (wR b h Y u52) := hD
      refine lv_goto (tgt := 30) hx hb d_M_pairStep_20 (by decide) ?_
      exact ret_i (v := r51) hx hb hr hlocks hP hK hD hS d_M_pairStep_30 (by (try simp only [c1, c47] at q53); simp [q_pair, -Int64.toInt32_mul, -Int64.toInt32_add, -Int64.toInt32_sub, c1, c47, q53])
set_option maxRecDepth 100000 in
set_option maxHeartbeats 4000000 in
theorem c_M_limit (l : Launch) (dC : Nat → ClassId) (dI : Nat → Nat → Nat) (b : Nat → Nat) (h : Nat → ClassId) (Y : zY) (r : zR) (e : Int32) (w : Int32) (he : vp_in e 60) (hp : Tp r) (kx : vp_in (t_p (y_T Y) (ix (3 * e + 0))) 60) (ky : vp_in (t_p (y_T Y) (ix (3 * e + 1))) 60) : MetI l y_M_limit w_M_limit (rmN (2)) dC dI (yY h) (wR b h Y) [.ref (b 0), .int e, .int w] r (fun z9 u9 => q_limit (y_T Y) e w r = (z9, u9)) := by
  refine metI_of (cc := b_M_limit) (maxL := 3) (ret := (some .int)) (by decide) rfl (Nat.le_of_ble_eq_true rfl) ?_
  intro p e9 s9 m args below meth c A ls hx hb hr hts hown hlocks hml hA hP hK hD hS hN hl
  have ht : ∀ w ∈ lw_g, w.before args s9 = true := fun w h => hts w (List.mem_cons_of_mem _ h)
  have hl : lv_has ls 3 [(0, .ref (b 0)), (1, .int e), (2, .int w)] := hl
  refine lv_iload_n hx hb d_M_limit_0 rfl (lv_at hl 2 rfl) ?_
  refine lv_if_ne (tgt := 21) hx hb d_M_limit_1 (by decide) (fun c1 => ?_) (fun c1 => ?_)
  · have c1 : ¬ w = 0 := c1
    refine lv_iload_n hx hb d_M_limit_21 rfl (lv_at hl 2 rfl) ?_
    refine lv_if_ne (tgt := 56) hx hb d_M_limit_22 (by decide) (fun c2 => ?_) (fun c2 => ?_)
    · have c2 : ¬ w = 0 := c2
      refine lv_aload_n hx hb d_M_limit_56 rfl (lv_at hl 0 rfl) ?_
      refine va_get (D := (dC, dI)) (ci := 3) (v := .ref (b 6)) (C := R_M) (T := T_M) (N := 20) hx hb ht in_M hown hK hP 0 rfl rfl 6 (by decide) (ht _ k_333) (fun _ h => h) rfl d_M_limit_57 ?_
      refine lv_iload_n hx hb d_M_limit_60 rfl (lv_at hl 1 rfl) ?_
      refine va_iald hx hb hK hP 6 5 rfl rfl he d_M_limit_61 ?_
      refine lv_iconst (v := 2) hx hb d_M_limit_62 (by decide) ?_
      refine lv_icmp_ne (tgt := 93) hx hb d_M_limit_63 (by decide) (fun c3 => ?_) (fun c3 => ?_)
      · have c3 : ¬ r_ph r (ix e) = 2 := c3
        refine lv_iload_n hx hb d_M_limit_93 rfl (lv_at hl 2 rfl) ?_
        refine lv_iconst (v := 2) hx hb d_M_limit_94 (by decide) ?_
        refine lv_icmp_ne (tgt := 100) hx hb d_M_limit_95 (by decide) (fun c4 => ?_) (fun c4 => ?_)
        · have c4 : ¬ w = 2 := c4
          refine lv_aload_n hx hb d_M_limit_100 rfl (lv_at hl 0 rfl) ?_
          refine va_get (D := (dC, dI)) (ci := 3) (v := .ref (b 7)) (C := R_M) (T := T_M) (N := 20) hx hb ht in_M hown hK hP 0 rfl rfl 7 (by decide) (ht _ k_334) (fun _ h => h) rfl d_M_limit_101 ?_
          refine lv_iconst (v := 3) hx hb d_M_limit_104 (by decide) ?_
          refine lv_iload_n hx hb d_M_limit_105 rfl (lv_at hl 1 rfl) ?_
          refine lv_imul hx hb d_M_limit_106 ?_
          refine lv_aload_n hx hb d_M_limit_107 rfl (lv_at hl 0 rfl) ?_
          refine va_get (D := (dC, dI)) (ci := 3) (v := .int (r_gv r)) (C := R_M) (T := T_M) (N := 20) hx hb ht in_M hown hK hP 0 rfl rfl 18 (by decide) (ht _ k_345) (fun _ h => h) rfl d_M_limit_108 ?_
          refine lv_i2l hx hb d_M_limit_111 rfl ?_
          refine va_last hx hb hK hP hD hS 7 6 rfl rfl (in3_0 he) d_M_limit_112 (fun H locs hP hD hS => ?_)
          have hP : va_P (dC, dI) vwCl (wR b h Y (u_kp r (3 * e) ((r_gv r).toInt64))) H := cP_R_kp hP
          have hD : va_D A (wR b h Y (u_kp r (3 * e) ((r_gv r).toInt64))) := cD_R_kp hD
          refine lv_aload_n hx hb d_M_limit_113 rfl (lv_at hl 0 rfl) ?_
          refine va_get (D := (dC, dI)) (ci := 3) (v := .int (r_gv (u_kp r (3 * e) ((r_gv r).toInt64)))) (C := R_M) (T := T_M) (N := 20) hx hb ht in_M hown hK hP 0 rfl rfl 18 (by decide) (ht _ k_345) (fun _ h => h) rfl d_M_limit_114 ?_
          refine lv_if_le (tgt := 130) hx hb d_M_limit_117 (by decide) (fun c5 => ?_) (fun c5 => ?_)
          · have c5 : ¬ (0 : Int32) < r_gv (u_kp r (3 * e) ((r_gv r).toInt64)) := Int32.not_lt.mpr c5
            refine lv_aload_n hx hb d_M_limit_130 rfl (lv_at hl 0 rfl) ?_
            refine lv_iload_n hx hb d_M_limit_131 rfl (lv_at hl 1 rfl) ?_
            refine lv_iconst (v := 1) hx hb d_M_limit_132 (by decide) ?_
            refine lv_iconst (v := 1) hx hb d_M_limit_133 (by decide) ?_
            refine call_i (As := [.int e, .int 1, .int 1]) (rest := []) (ci := 3) (q0 := 0) (c_M_ask l dC dI b h Y (u_kp r (3 * e) ((r_gv r).toInt64)) e 1 1 he (in3 he in_13) hp) k_464 k_466 s_M_ask k_4 k_467 ⟨rfl, pc_M_ask.1, pc_M_ask.2, pd_M_ask⟩ rfl rfl rfl rfl rfl (rm_le (by omega) (by decide)) (Nat.le_of_ble_eq_true rfl) rfl hx hb hml hown ht hl.1 hP hK hD hS hA hN d_M_limit_134 (fun r6 u7 H locs q8 hP hD hS => ?_)
            have hP : va_P (dC, dI) vwCl (wR b h Y u7) H := hP
            have hD : va_D A (wR b h Y u7) := hD
            exact ret_i (v := r6) hx hb hr hlocks hP hK hD hS d_M_limit_137 (by simp [q_limit, -Int64.toInt32_mul, -Int64.toInt32_add, -Int64.toInt32_sub, c1, c2, c3, c4, c5, Int32.not_lt.mp c5, q8])
          · have c5 : (0 : Int32) < r_gv (u_kp r (3 * e) ((r_gv r).toInt64)) := Int32.not_le.mp c5
            refine lv_aload_n hx hb d_M_limit_120 rfl (lv_at hl 0 rfl) ?_
            refine lv_iload_n hx hb d_M_limit_121 rfl (lv_at hl 1 rfl) ?_
            refine lv_iconst (v := 0) hx hb d_M_limit_122 (by decide) ?_
            refine lv_iconst (v := 2) hx hb d_M_limit_123 (by decide) ?_
            refine call_i (As := [.int e, .int 0, .int 2]) (rest := []) (ci := 3) (q0 := 0) (c_M_first l dC dI b h Y (u_kp r (3 * e) ((r_gv r).toInt64)) e 0 2 he (in3 he in_03) hp kx) k_460 k_462 s_M_first k_4 k_463 ⟨rfl, pc_M_first.1, pc_M_first.2, pd_M_first⟩ rfl rfl rfl rfl rfl (rm_le (by omega) (by decide)) (Nat.le_of_ble_eq_true rfl) rfl hx hb hml hown ht hl.1 hP hK hD hS hA hN d_M_limit_124 (fun r9 u10 H locs q11 hP hD hS => ?_)
            have hP : va_P (dC, dI) vwCl (wR b h Y u10) H := hP
            have hD : va_D A (wR b h Y u10) := hD
            refine lv_goto (tgt := 137) hx hb d_M_limit_127 (by decide) ?_
            exact ret_i (v := r9) hx hb hr hlocks hP hK hD hS d_M_limit_137 (by simp [q_limit, -Int64.toInt32_mul, -Int64.toInt32_add, -Int64.toInt32_sub, c1, c2, c3, c4, c5, Int32.not_le.mpr c5, q11])
        · have c4 : w = 2 := c4
          refine lv_iconst (v := 0) hx hb d_M_limit_98 (by decide) ?_
          exact ret_i (v := 0) hx hb hr hlocks hP hK hD hS d_M_limit_99 (by simp [q_limit, -Int64.toInt32_mul, -Int64.toInt32_add, -Int64.toInt32_sub, c1, c2, c3, c4])
      · have c3 : r_ph r (ix e) = 2 := c3
        refine lv_iload_n hx hb d_M_limit_66 rfl (lv_at hl 2 rfl) ?_
        refine lv_iconst (v := 2) hx hb d_M_limit_67 (by decide) ?_
        refine lv_icmp_ne (tgt := 79) hx hb d_M_limit_68 (by decide) (fun c12 => ?_) (fun c12 => ?_)
        · have c12 : ¬ w = 2 := c12
          refine lv_aload_n hx hb d_M_limit_79 rfl (lv_at hl 0 rfl) ?_
          refine va_get (D := (dC, dI)) (ci := 3) (v := .ref (b 7)) (C := R_M) (T := T_M) (N := 20) hx hb ht in_M hown hK hP 0 rfl rfl 7 (by decide) (ht _ k_334) (fun _ h => h) rfl d_M_limit_80 ?_
          refine lv_iconst (v := 3) hx hb d_M_limit_83 (by decide) ?_
          refine lv_iload_n hx hb d_M_limit_84 rfl (lv_at hl 1 rfl) ?_
          refine lv_imul hx hb d_M_limit_85 ?_
          refine lv_dup2_11 hx hb d_M_limit_86 rfl rfl ?_
          refine va_lald hx hb hK hP 7 6 rfl rfl (in3_0 he) d_M_limit_87 ?_
          refine lv_lconst (v := 1) hx hb d_M_limit_88 (by decide) ?_
          refine lv_lsub hx hb d_M_limit_89 ?_
          refine va_last hx hb hK hP hD hS 7 6 rfl rfl (in3_0 he) d_M_limit_90 (fun H locs hP hD hS => ?_)
          have hP : va_P (dC, dI) vwCl (wR b h Y (u_kp r (3 * e) (r_kp r (ix (3 * e)) - 1))) H := cP_R_kp hP
          have hD : va_D A (wR b h Y (u_kp r (3 * e) (r_kp r (ix (3 * e)) - 1))) := cD_R_kp hD
          refine lv_iconst (v := 1) hx hb d_M_limit_91 (by decide) ?_
          exact ret_i (v := 1) hx hb hr hlocks hP hK hD hS d_M_limit_92 (by simp [q_limit, -Int64.toInt32_mul, -Int64.toInt32_add, -Int64.toInt32_sub, c1, c2, c3, c12])
        · have c12 : w = 2 := c12
          refine lv_aload_n hx hb d_M_limit_71 rfl (lv_at hl 0 rfl) ?_
          refine lv_iload_n hx hb d_M_limit_72 rfl (lv_at hl 1 rfl) ?_
          refine lv_iconst (v := 1) hx hb d_M_limit_73 (by decide) ?_
          refine lv_iconst (v := 1) hx hb d_M_limit_74 (by decide) ?_
          refine call_i (As := [.int e, .int 1, .int 1]) (rest := []) (ci := 3) (q0 := 0) (c_M_ask l dC dI b h Y r e 1 1 he (in3 he in_13) hp) k_464 k_466 s_M_ask k_4 k_467 ⟨rfl, pc_M_ask.1, pc_M_ask.2, pd_M_ask⟩ rfl rfl rfl rfl rfl (rm_le (by omega) (by decide)) (Nat.le_of_ble_eq_true rfl) rfl hx hb hml hown ht hl.1 hP hK hD hS hA hN d_M_limit_75 (fun r13 u14 H locs q15 hP hD hS => ?_)
          have hP : va_P (dC, dI) vwCl (wR b h Y u14) H := hP
          have hD : va_D A (wR b h Y u14) := hD
          exact ret_i (v := r13) hx hb hr hlocks hP hK hD hS d_M_limit_78 (by (try simp only [c3, c12] at q15); simp [q_limit, -Int64.toInt32_mul, -Int64.toInt32_add, -Int64.toInt32_sub, c1, c2, c3, c12, q15])
    · have c2 : w = 0 := c2
      exact absurd c2 c1
  · have c1 : w = 0 := c1
    refine lv_aload_n hx hb d_M_limit_4 rfl (lv_at hl 0 rfl) ?_
    refine va_get (D := (dC, dI)) (ci := 3) (v := .ref (b 6)) (C := R_M) (T := T_M) (N := 20) hx hb ht in_M hown hK hP 0 rfl rfl 6 (by decide) (ht _ k_333) (fun _ h => h) rfl d_M_limit_5 ?_
    refine lv_iload_n hx hb d_M_limit_8 rfl (lv_at hl 1 rfl) ?_
    refine va_iald hx hb hK hP 6 5 rfl rfl he d_M_limit_9 ?_
    refine lv_if_ne (tgt := 21) hx hb d_M_limit_10 (by decide) (fun c16 => ?_) (fun c16 => ?_)
    · have c16 : ¬ r_ph r (ix e) = 0 := c16
      refine lv_iload_n hx hb d_M_limit_21 rfl (lv_at hl 2 rfl) ?_
      refine lv_if_ne (tgt := 56) hx hb d_M_limit_22 (by decide) (fun c17 => ?_) (fun c17 => ?_)
      · have c17 : ¬ w = 0 := c17
        exact absurd c1 c17
      · have c17 : w = 0 := c17
        refine lv_aload_n hx hb d_M_limit_25 rfl (lv_at hl 0 rfl) ?_
        refine va_get (D := (dC, dI)) (ci := 3) (v := .ref (b 7)) (C := R_M) (T := T_M) (N := 20) hx hb ht in_M hown hK hP 0 rfl rfl 7 (by decide) (ht _ k_334) (fun _ h => h) rfl d_M_limit_26 ?_
        refine lv_iconst (v := 3) hx hb d_M_limit_29 (by decide) ?_
        refine lv_iload_n hx hb d_M_limit_30 rfl (lv_at hl 1 rfl) ?_
        refine lv_imul hx hb d_M_limit_31 ?_
        refine va_lald hx hb hK hP 7 6 rfl rfl (in3_0 he) d_M_limit_32 ?_
        refine lv_lconst (v := 0) hx hb d_M_limit_33 (by decide) ?_
        refine W.lcmp hx hb d_M_limit_34 ?_
        refine lv_if_le (tgt := 48) hx hb d_M_limit_35 (by decide) (fun c18 => ?_) (fun c18 => ?_)
        · have c18 : ¬ 0 < r_kp r (ix (3 * e)) := i64_nlt ((lg_cmp_le _ _).mp c18)
          refine lv_aload_n hx hb d_M_limit_48 rfl (lv_at hl 0 rfl) ?_
          refine lv_iload_n hx hb d_M_limit_49 rfl (lv_at hl 1 rfl) ?_
          refine lv_iconst (v := 1) hx hb d_M_limit_50 (by decide) ?_
          refine lv_iconst (v := 1) hx hb d_M_limit_51 (by decide) ?_
          refine call_i (As := [.int e, .int 1, .int 1]) (rest := []) (ci := 3) (q0 := 0) (c_M_ask l dC dI b h Y r e 1 1 he (in3 he in_13) hp) k_464 k_466 s_M_ask k_4 k_467 ⟨rfl, pc_M_ask.1, pc_M_ask.2, pd_M_ask⟩ rfl rfl rfl rfl rfl (rm_le (by omega) (by decide)) (Nat.le_of_ble_eq_true rfl) rfl hx hb hml hown ht hl.1 hP hK hD hS hA hN d_M_limit_52 (fun r19 u20 H locs q21 hP hD hS => ?_)
          have hP : va_P (dC, dI) vwCl (wR b h Y u20) H := hP
          have hD : va_D A (wR b h Y u20) := hD
          exact ret_i (v := r19) hx hb hr hlocks hP hK hD hS d_M_limit_55 (by (try simp only [c1, c17] at q21); simp [q_limit, -Int64.toInt32_mul, -Int64.toInt32_add, -Int64.toInt32_sub, c1, c16, c17, c18, Int64.not_lt.mp c18, q21])
        · have c18 : 0 < r_kp r (ix (3 * e)) := i64_nle (fun q => c18 ((lg_cmp_le _ _).mpr q))
          refine lv_aload_n hx hb d_M_limit_38 rfl (lv_at hl 0 rfl) ?_
          refine lv_iload_n hx hb d_M_limit_39 rfl (lv_at hl 1 rfl) ?_
          refine lv_iconst (v := 0) hx hb d_M_limit_40 (by decide) ?_
          refine lv_iconst (v := 2) hx hb d_M_limit_41 (by decide) ?_
          refine call_i (As := [.int e, .int 0, .int 2]) (rest := []) (ci := 3) (q0 := 0) (c_M_ask l dC dI b h Y r e 0 2 he (in3 he in_03) hp) k_464 k_466 s_M_ask k_4 k_467 ⟨rfl, pc_M_ask.1, pc_M_ask.2, pd_M_ask⟩ rfl rfl rfl rfl rfl (rm_le (by omega) (by decide)) (Nat.le_of_ble_eq_true rfl) rfl hx hb hml hown ht hl.1 hP hK hD hS hA hN d_M_limit_42 (fun r22 u23 H locs q24 hP hD hS => ?_)
          have hP : va_P (dC, dI) vwCl (wR b h Y u23) H := hP
          have hD : va_D A (wR b h Y u23) := hD
          refine lv_goto (tgt := 55) hx hb d_M_limit_45 (by decide) ?_
          exact ret_i (v := r22) hx hb hr hlocks hP hK hD hS d_M_limit_55 (by (try simp only [c1, c17] at q24); simp [q_limit, -Int64.toInt32_mul, -Int64.toInt32_add, -Int64.toInt32_sub, c1, c16, c17, c18, Int64.not_le.mpr c18, q24])
    · have c16 : r_ph r (ix e) = 0 := c16
      refine lv_aload_n hx hb d_M_limit_13 rfl (lv_at hl 0 rfl) ?_
      refine lv_iload_n hx hb d_M_limit_14 rfl (lv_at hl 1 rfl) ?_
      refine lv_iconst (v := 1) hx hb d_M_limit_15 (by decide) ?_
      refine lv_iconst (v := 1) hx hb d_M_limit_16 (by decide) ?_
      refine call_i (As := [.int e, .int 1, .int 1]) (rest := []) (ci := 3) (q0 := 0) (c_M_first l dC dI b h Y r e 1 1 he (in3 he in_13) hp ky) k_460 k_462 s_M_first k_4 k_463 ⟨rfl, pc_M_first.1, pc_M_first.2, pd_M_first⟩ rfl rfl rfl rfl rfl (rm_le (by omega) (by decide)) (Nat.le_of_ble_eq_true rfl) rfl hx hb hml hown ht hl.1 hP hK hD hS hA hN d_M_limit_17 (fun r25 u26 H locs q27 hP hD hS => ?_)
      have hP : va_P (dC, dI) vwCl (wR b h Y u26) H := hP
      have hD : va_D A (wR b h Y u26) := hD
      exact ret_i (v := r25) hx hb hr hlocks hP hK hD hS d_M_limit_20 (by (try simp only [c1, c16] at q27); simp [q_limit, -Int64.toInt32_mul, -Int64.toInt32_add, -Int64.toInt32_sub, c1, c16, q27])
set_option maxRecDepth 100000 in
set_option maxHeartbeats 4000000 in
theorem c_M_binaryStep (l : Launch) (dC : Nat → ClassId) (dI : Nat → Nat → Nat) (b : Nat → Nat) (h : Nat → ClassId) (Y : zY) (r : zR) (e : Int32) (w : Int32) (he : vp_in e 60) (hp : Tp r) (kx : vp_in (t_p (y_T Y) (ix (3 * e + 0))) 60) (ky : vp_in (t_p (y_T Y) (ix (3 * e + 1))) 60) (kh : t_k (y_T Y) (ix e) - 20 = 0 → w = 0 → (r_ph r (ix e) = 0 ∨ r_ph r (ix e) = 1 ∨ r_ph r (ix e) = 2 ∨ r_ph r (ix e) = 3)) : MetI l y_M_binaryStep w_M_binaryStep (rmN (3)) dC dI (yY h) (wR b h Y) [.ref (b 0), .int e, .int w] r (fun z9 u9 => q_binary (y_T Y) e w r = (z9, u9)) := by
  refine metI_of (cc := b_M_binaryStep) (maxL := 5) (ret := (some .int)) (by decide) rfl (Nat.le_of_ble_eq_true rfl) ?_
  intro p e9 s9 m args below meth c A ls hx hb hr hts hown hlocks hml hA hP hK hD hS hN hl
  have ht : ∀ w ∈ lw_g, w.before args s9 = true := fun w h => hts w (List.mem_cons_of_mem _ h)
  have hl : lv_has ls 5 [(0, .ref (b 0)), (1, .int e), (2, .int w)] := hl
  refine lv_aload_n hx hb d_M_binaryStep_0 rfl (lv_at hl 0 rfl) ?_
  refine va_get (D := (dC, dI)) (ci := 3) (v := .ref (b 1)) (C := R_M) (T := T_M) (N := 20) hx hb ht in_M hown hK hP 0 rfl rfl 1 (by decide) (ht _ k_328) (fun _ h => h) rfl d_M_binaryStep_1 ?_
  refine lv_iload_n hx hb d_M_binaryStep_4 rfl (lv_at hl 1 rfl) ?_
  refine va_iald hx hb hK hP 1 0 rfl rfl he d_M_binaryStep_5 ?_
  refine lv_bipush (v := 20) hx hb d_M_binaryStep_6 (by decide) ?_
  refine lv_isub hx hb d_M_binaryStep_8 ?_
  refine lv_istore_n hx hb d_M_binaryStep_9 rfl hl (by decide) (lv' := [(3, .int (t_k (y_T Y) (ix e) - 20)), (0, .ref (b 0)), (1, .int e), (2, .int w)]) rfl (fun ls hl => ?_)
  refine lv_aload_n hx hb d_M_binaryStep_10 rfl (lv_at hl 1 rfl) ?_
  refine va_get (D := (dC, dI)) (ci := 3) (v := .ref (b 6)) (C := R_M) (T := T_M) (N := 20) hx hb ht in_M hown hK hP 0 rfl rfl 6 (by decide) (ht _ k_333) (fun _ h => h) rfl d_M_binaryStep_11 ?_
  refine lv_iload_n hx hb d_M_binaryStep_14 rfl (lv_at hl 2 rfl) ?_
  refine va_iald hx hb hK hP 6 5 rfl rfl he d_M_binaryStep_15 ?_
  refine lv_istore hx hb d_M_binaryStep_16 hl (by decide) (lv' := [(4, .int (r_ph r (ix e))), (3, .int (t_k (y_T Y) (ix e) - 20)), (0, .ref (b 0)), (1, .int e), (2, .int w)]) rfl (fun ls hl => ?_)
  refine lv_iload_n hx hb d_M_binaryStep_18 rfl (lv_at hl 1 rfl) ?_
  refine lv_if_ne (tgt := 78) hx hb d_M_binaryStep_19 (by decide) (fun c1 => ?_) (fun c1 => ?_)
  · have c1 : ¬ (t_k (y_T Y) (ix e) - 20) = 0 := c1
    refine lv_iload_n hx hb d_M_binaryStep_78 rfl (lv_at hl 1 rfl) ?_
    refine lv_bipush (v := 8) hx hb d_M_binaryStep_79 (by decide) ?_
    refine lv_icmp_ne (tgt := 91) hx hb d_M_binaryStep_81 (by decide) (fun c2 => ?_) (fun c2 => ?_)
    · have c2 : ¬ (t_k (y_T Y) (ix e) - 20) = 8 := c2
      refine lv_iload_n hx hb d_M_binaryStep_91 rfl (lv_at hl 1 rfl) ?_
      refine lv_bipush (v := 9) hx hb d_M_binaryStep_92 (by decide) ?_
      refine lv_icmp_ne (tgt := 140) hx hb d_M_binaryStep_94 (by decide) (fun c3 => ?_) (fun c3 => ?_)
      · have c3 : ¬ (t_k (y_T Y) (ix e) - 20) = 9 := c3
        refine lv_iload_n hx hb d_M_binaryStep_140 rfl (lv_at hl 1 rfl) ?_
        refine lv_bipush (v := 10) hx hb d_M_binaryStep_141 (by decide) ?_
        refine lv_icmp_ne (tgt := 181) hx hb d_M_binaryStep_143 (by decide) (fun c4 => ?_) (fun c4 => ?_)
        · have c4 : ¬ (t_k (y_T Y) (ix e) - 20) = 10 := c4
          refine lv_iload_n hx hb d_M_binaryStep_181 rfl (lv_at hl 4 rfl) ?_
          refine lv_if_ne (tgt := 208) hx hb d_M_binaryStep_182 (by decide) (fun c5 => ?_) (fun c5 => ?_)
          · have c5 : ¬ w = 0 := c5
            refine lv_iload hx hb d_M_binaryStep_208 (lv_at hl 0 rfl) ?_
            refine lv_iconst (v := 1) hx hb d_M_binaryStep_210 (by decide) ?_
            refine lv_icmp_ne (tgt := 222) hx hb d_M_binaryStep_211 (by decide) (fun c6 => ?_) (fun c6 => ?_)
            · have c6 : ¬ r_ph r (ix e) = 1 := c6
              refine lv_iload_n hx hb d_M_binaryStep_222 rfl (lv_at hl 4 rfl) ?_
              refine lv_iconst (v := 1) hx hb d_M_binaryStep_223 (by decide) ?_
              refine lv_icmp_ne (tgt := 231) hx hb d_M_binaryStep_224 (by decide) (fun c7 => ?_) (fun c7 => ?_)
              · have c7 : ¬ w = 1 := c7
                refine lv_iconst (v := 0) hx hb d_M_binaryStep_231 (by decide) ?_
                exact ret_i (v := 0) hx hb hr hlocks hP hK hD hS d_M_binaryStep_232 (by simp [q_binary, -Int64.toInt32_mul, -Int64.toInt32_add, -Int64.toInt32_sub, c1, c2, c3, c4, c5, c6, c7])
              · have c7 : w = 1 := c7
                refine lv_iconst (v := 1) hx hb d_M_binaryStep_227 (by decide) ?_
                refine lv_goto (tgt := 232) hx hb d_M_binaryStep_228 (by decide) ?_
                exact ret_i (v := 1) hx hb hr hlocks hP hK hD hS d_M_binaryStep_232 (by simp [q_binary, -Int64.toInt32_mul, -Int64.toInt32_add, -Int64.toInt32_sub, c1, c2, c3, c4, c5, c6, c7])
            · have c6 : r_ph r (ix e) = 1 := c6
              refine lv_aload_n hx hb d_M_binaryStep_214 rfl (lv_at hl 2 rfl) ?_
              refine lv_iload_n hx hb d_M_binaryStep_215 rfl (lv_at hl 3 rfl) ?_
              refine lv_iconst (v := 1) hx hb d_M_binaryStep_216 (by decide) ?_
              refine lv_iconst (v := 2) hx hb d_M_binaryStep_217 (by decide) ?_
              refine call_i (As := [.int e, .int 1, .int 2]) (rest := []) (ci := 3) (q0 := 0) (c_M_first l dC dI b h Y r e 1 2 he (in3 he in_13) hp ky) k_460 k_462 s_M_first k_4 k_463 ⟨rfl, pc_M_first.1, pc_M_first.2, pd_M_first⟩ rfl rfl rfl rfl rfl (rm_le (by omega) (by decide)) (Nat.le_of_ble_eq_true rfl) rfl hx hb hml hown ht hl.1 hP hK hD hS hA hN d_M_binaryStep_218 (fun r8 u9 H locs q10 hP hD hS => ?_)
              have hP : va_P (dC, dI) vwCl (wR b h Y u9) H := hP
              have hD : va_D A (wR b h Y u9) := hD
              exact ret_i (v := r8) hx hb hr hlocks hP hK hD hS d_M_binaryStep_221 (by (try simp only [c6] at q10); simp [q_binary, -Int64.toInt32_mul, -Int64.toInt32_add, -Int64.toInt32_sub, c1, c2, c3, c4, c5, c6, q10])
          · have c5 : w = 0 := c5
            refine lv_iload hx hb d_M_binaryStep_185 (lv_at hl 0 rfl) ?_
            refine lv_if_ne (tgt := 200) hx hb d_M_binaryStep_187 (by decide) (fun c11 => ?_) (fun c11 => ?_)
            · have c11 : ¬ r_ph r (ix e) = 0 := c11
              refine lv_aload_n hx hb d_M_binaryStep_200 rfl (lv_at hl 2 rfl) ?_
              refine lv_iload_n hx hb d_M_binaryStep_201 rfl (lv_at hl 3 rfl) ?_
              refine lv_iconst (v := 1) hx hb d_M_binaryStep_202 (by decide) ?_
              refine lv_iconst (v := 2) hx hb d_M_binaryStep_203 (by decide) ?_
              refine call_i (As := [.int e, .int 1, .int 2]) (rest := []) (ci := 3) (q0 := 0) (c_M_ask l dC dI b h Y r e 1 2 he (in3 he in_13) hp) k_464 k_466 s_M_ask k_4 k_467 ⟨rfl, pc_M_ask.1, pc_M_ask.2, pd_M_ask⟩ rfl rfl rfl rfl rfl (rm_le (by omega) (by decide)) (Nat.le_of_ble_eq_true rfl) rfl hx hb hml hown ht hl.1 hP hK hD hS hA hN d_M_binaryStep_204 (fun r12 u13 H locs q14 hP hD hS => ?_)
              have hP : va_P (dC, dI) vwCl (wR b h Y u13) H := hP
              have hD : va_D A (wR b h Y u13) := hD
              exact ret_i (v := r12) hx hb hr hlocks hP hK hD hS d_M_binaryStep_207 (by (try simp only [c5] at q14); simp [q_binary, -Int64.toInt32_mul, -Int64.toInt32_add, -Int64.toInt32_sub, c1, c2, c3, c4, c5, c11, q14])
            · have c11 : r_ph r (ix e) = 0 := c11
              refine lv_aload_n hx hb d_M_binaryStep_190 rfl (lv_at hl 2 rfl) ?_
              refine lv_iload_n hx hb d_M_binaryStep_191 rfl (lv_at hl 3 rfl) ?_
              refine lv_iconst (v := 0) hx hb d_M_binaryStep_192 (by decide) ?_
              refine lv_iconst (v := 1) hx hb d_M_binaryStep_193 (by decide) ?_
              refine call_i (As := [.int e, .int 0, .int 1]) (rest := []) (ci := 3) (q0 := 0) (c_M_first l dC dI b h Y r e 0 1 he (in3 he in_03) hp kx) k_460 k_462 s_M_first k_4 k_463 ⟨rfl, pc_M_first.1, pc_M_first.2, pd_M_first⟩ rfl rfl rfl rfl rfl (rm_le (by omega) (by decide)) (Nat.le_of_ble_eq_true rfl) rfl hx hb hml hown ht hl.1 hP hK hD hS hA hN d_M_binaryStep_194 (fun r15 u16 H locs q17 hP hD hS => ?_)
              have hP : va_P (dC, dI) vwCl (wR b h Y u16) H := hP
              have hD : va_D A (wR b h Y u16) := hD
              refine lv_goto (tgt := 207) hx hb d_M_binaryStep_197 (by decide) ?_
              exact ret_i (v := r15) hx hb hr hlocks hP hK hD hS d_M_binaryStep_207 (by (try simp only [c5, c11] at q17); simp [q_binary, -Int64.toInt32_mul, -Int64.toInt32_add, -Int64.toInt32_sub, c1, c2, c3, c4, c5, c11, q17])
        · have c4 : (t_k (y_T Y) (ix e) - 20) = 10 := c4
          refine lv_iload_n hx hb d_M_binaryStep_146 rfl (lv_at hl 4 rfl) ?_
          refine lv_if_eq (tgt := 156) hx hb d_M_binaryStep_147 (by decide) (fun c18 => ?_) (fun c18 => ?_)
          · have c18 : w = 0 := c18
            refine lv_aload_n hx hb d_M_binaryStep_156 rfl (lv_at hl 2 rfl) ?_
            refine lv_iload_n hx hb d_M_binaryStep_157 rfl (lv_at hl 3 rfl) ?_
            refine lv_iconst (v := 0) hx hb d_M_binaryStep_158 (by decide) ?_
            refine lv_iconst (v := 1) hx hb d_M_binaryStep_159 (by decide) ?_
            refine call_i (As := [.int e, .int 0, .int 1]) (rest := []) (ci := 3) (q0 := 0) (c_M_first l dC dI b h Y r e 0 1 he (in3 he in_03) hp kx) k_460 k_462 s_M_first k_4 k_463 ⟨rfl, pc_M_first.1, pc_M_first.2, pd_M_first⟩ rfl rfl rfl rfl rfl (rm_le (by omega) (by decide)) (Nat.le_of_ble_eq_true rfl) rfl hx hb hml hown ht hl.1 hP hK hD hS hA hN d_M_binaryStep_160 (fun r19 u20 H locs q21 hP hD hS => ?_)
            have hP : va_P (dC, dI) vwCl (wR b h Y u20) H := hP
            have hD : va_D A (wR b h Y u20) := hD
            exact ret_i (v := r19) hx hb hr hlocks hP hK hD hS d_M_binaryStep_163 (by (try simp only [c4, c18] at q21); simp [q_binary, -Int64.toInt32_mul, -Int64.toInt32_add, -Int64.toInt32_sub, c1, c2, c3, c4, c18, q21])
          · have c18 : ¬ w = 0 := c18
            refine lv_iload hx hb d_M_binaryStep_150 (lv_at hl 0 rfl) ?_
            refine lv_iconst (v := 2) hx hb d_M_binaryStep_152 (by decide) ?_
            refine lv_icmp_ne (tgt := 164) hx hb d_M_binaryStep_153 (by decide) (fun c22 => ?_) (fun c22 => ?_)
            · have c22 : ¬ r_ph r (ix e) = 2 := c22
              refine lv_iload_n hx hb d_M_binaryStep_164 rfl (lv_at hl 4 rfl) ?_
              refine lv_iconst (v := 1) hx hb d_M_binaryStep_165 (by decide) ?_
              refine lv_icmp_ne (tgt := 179) hx hb d_M_binaryStep_166 (by decide) (fun c23 => ?_) (fun c23 => ?_)
              · have c23 : ¬ w = 1 := c23
                refine lv_iconst (v := 0) hx hb d_M_binaryStep_179 (by decide) ?_
                exact ret_i (v := 0) hx hb hr hlocks hP hK hD hS d_M_binaryStep_180 (by simp [q_binary, -Int64.toInt32_mul, -Int64.toInt32_add, -Int64.toInt32_sub, c1, c2, c3, c4, c18, c22, c23])
              · have c23 : w = 1 := c23
                refine lv_aload_n hx hb d_M_binaryStep_169 rfl (lv_at hl 2 rfl) ?_
                refine lv_iload_n hx hb d_M_binaryStep_170 rfl (lv_at hl 3 rfl) ?_
                refine lv_iconst (v := 1) hx hb d_M_binaryStep_171 (by decide) ?_
                refine lv_iconst (v := 2) hx hb d_M_binaryStep_172 (by decide) ?_
                refine call_i (As := [.int e, .int 1, .int 2]) (rest := []) (ci := 3) (q0 := 0) (c_M_first l dC dI b h Y r e 1 2 he (in3 he in_13) hp ky) k_460 k_462 s_M_first k_4 k_463 ⟨rfl, pc_M_first.1, pc_M_first.2, pd_M_first⟩ rfl rfl rfl rfl rfl (rm_le (by omega) (by decide)) (Nat.le_of_ble_eq_true rfl) rfl hx hb hml hown ht hl.1 hP hK hD hS hA hN d_M_binaryStep_173 (fun r24 u25 H locs q26 hP hD hS => ?_)
                have hP : va_P (dC, dI) vwCl (wR b h Y u25) H := hP
                have hD : va_D A (wR b h Y u25) := hD
                refine lv_goto (tgt := 180) hx hb d_M_binaryStep_176 (by decide) ?_
                exact ret_i (v := r24) hx hb hr hlocks hP hK hD hS d_M_binaryStep_180 (by (try simp only [c4, c23] at q26); simp [q_binary, -Int64.toInt32_mul, -Int64.toInt32_add, -Int64.toInt32_sub, c1, c2, c3, c4, c18, c22, c23, q26])
            · have c22 : r_ph r (ix e) = 2 := c22
              refine lv_aload_n hx hb d_M_binaryStep_156 rfl (lv_at hl 2 rfl) ?_
              refine lv_iload_n hx hb d_M_binaryStep_157 rfl (lv_at hl 3 rfl) ?_
              refine lv_iconst (v := 0) hx hb d_M_binaryStep_158 (by decide) ?_
              refine lv_iconst (v := 1) hx hb d_M_binaryStep_159 (by decide) ?_
              refine call_i (As := [.int e, .int 0, .int 1]) (rest := []) (ci := 3) (q0 := 0) (c_M_first l dC dI b h Y r e 0 1 he (in3 he in_03) hp kx) k_460 k_462 s_M_first k_4 k_463 ⟨rfl, pc_M_first.1, pc_M_first.2, pd_M_first⟩ rfl rfl rfl rfl rfl (rm_le (by omega) (by decide)) (Nat.le_of_ble_eq_true rfl) rfl hx hb hml hown ht hl.1 hP hK hD hS hA hN d_M_binaryStep_160 (fun r27 u28 H locs q29 hP hD hS => ?_)
              have hP : va_P (dC, dI) vwCl (wR b h Y u28) H := hP
              have hD : va_D A (wR b h Y u28) := hD
              exact ret_i (v := r27) hx hb hr hlocks hP hK hD hS d_M_binaryStep_163 (by (try simp only [c4, c22] at q29); simp [q_binary, -Int64.toInt32_mul, -Int64.toInt32_add, -Int64.toInt32_sub, c1, c2, c3, c4, c18, c22, q29])
      · have c3 : (t_k (y_T Y) (ix e) - 20) = 9 := c3
        refine lv_iload_n hx hb d_M_binaryStep_97 rfl (lv_at hl 4 rfl) ?_
        refine lv_if_ne (tgt := 109) hx hb d_M_binaryStep_98 (by decide) (fun c30 => ?_) (fun c30 => ?_)
        · have c30 : ¬ w = 0 := c30
          refine lv_iload hx hb d_M_binaryStep_109 (lv_at hl 0 rfl) ?_
          refine lv_iconst (v := 2) hx hb d_M_binaryStep_111 (by decide) ?_
          refine lv_icmp_ne (tgt := 123) hx hb d_M_binaryStep_112 (by decide) (fun c31 => ?_) (fun c31 => ?_)
          · have c31 : ¬ r_ph r (ix e) = 2 := c31
            refine lv_iload_n hx hb d_M_binaryStep_123 rfl (lv_at hl 4 rfl) ?_
            refine lv_iconst (v := 1) hx hb d_M_binaryStep_124 (by decide) ?_
            refine lv_icmp_ne (tgt := 138) hx hb d_M_binaryStep_125 (by decide) (fun c32 => ?_) (fun c32 => ?_)
            · have c32 : ¬ w = 1 := c32
              refine lv_iconst (v := 0) hx hb d_M_binaryStep_138 (by decide) ?_
              exact ret_i (v := 0) hx hb hr hlocks hP hK hD hS d_M_binaryStep_139 (by simp [q_binary, -Int64.toInt32_mul, -Int64.toInt32_add, -Int64.toInt32_sub, c1, c2, c3, c30, c31, c32])
            · have c32 : w = 1 := c32
              refine lv_aload_n hx hb d_M_binaryStep_128 rfl (lv_at hl 2 rfl) ?_
              refine lv_iload_n hx hb d_M_binaryStep_129 rfl (lv_at hl 3 rfl) ?_
              refine lv_iconst (v := 1) hx hb d_M_binaryStep_130 (by decide) ?_
              refine lv_iconst (v := 2) hx hb d_M_binaryStep_131 (by decide) ?_
              refine call_i (As := [.int e, .int 1, .int 2]) (rest := []) (ci := 3) (q0 := 0) (c_M_first l dC dI b h Y r e 1 2 he (in3 he in_13) hp ky) k_460 k_462 s_M_first k_4 k_463 ⟨rfl, pc_M_first.1, pc_M_first.2, pd_M_first⟩ rfl rfl rfl rfl rfl (rm_le (by omega) (by decide)) (Nat.le_of_ble_eq_true rfl) rfl hx hb hml hown ht hl.1 hP hK hD hS hA hN d_M_binaryStep_132 (fun r33 u34 H locs q35 hP hD hS => ?_)
              have hP : va_P (dC, dI) vwCl (wR b h Y u34) H := hP
              have hD : va_D A (wR b h Y u34) := hD
              refine lv_goto (tgt := 139) hx hb d_M_binaryStep_135 (by decide) ?_
              exact ret_i (v := r33) hx hb hr hlocks hP hK hD hS d_M_binaryStep_139 (by (try simp only [c3, c32] at q35); simp [q_binary, -Int64.toInt32_mul, -Int64.toInt32_add, -Int64.toInt32_sub, c1, c2, c3, c30, c31, c32, q35])
          · have c31 : r_ph r (ix e) = 2 := c31
            refine lv_aload_n hx hb d_M_binaryStep_115 rfl (lv_at hl 2 rfl) ?_
            refine lv_iload_n hx hb d_M_binaryStep_116 rfl (lv_at hl 3 rfl) ?_
            refine lv_iconst (v := 0) hx hb d_M_binaryStep_117 (by decide) ?_
            refine lv_iconst (v := 1) hx hb d_M_binaryStep_118 (by decide) ?_
            refine call_i (As := [.int e, .int 0, .int 1]) (rest := []) (ci := 3) (q0 := 0) (c_M_ask l dC dI b h Y r e 0 1 he (in3 he in_03) hp) k_464 k_466 s_M_ask k_4 k_467 ⟨rfl, pc_M_ask.1, pc_M_ask.2, pd_M_ask⟩ rfl rfl rfl rfl rfl (rm_le (by omega) (by decide)) (Nat.le_of_ble_eq_true rfl) rfl hx hb hml hown ht hl.1 hP hK hD hS hA hN d_M_binaryStep_119 (fun r36 u37 H locs q38 hP hD hS => ?_)
            have hP : va_P (dC, dI) vwCl (wR b h Y u37) H := hP
            have hD : va_D A (wR b h Y u37) := hD
            exact ret_i (v := r36) hx hb hr hlocks hP hK hD hS d_M_binaryStep_122 (by (try simp only [c3, c31] at q38); simp [q_binary, -Int64.toInt32_mul, -Int64.toInt32_add, -Int64.toInt32_sub, c1, c2, c3, c30, c31, q38])
        · have c30 : w = 0 := c30
          refine lv_aload_n hx hb d_M_binaryStep_101 rfl (lv_at hl 2 rfl) ?_
          refine lv_iload_n hx hb d_M_binaryStep_102 rfl (lv_at hl 3 rfl) ?_
          refine lv_iconst (v := 0) hx hb d_M_binaryStep_103 (by decide) ?_
          refine lv_iconst (v := 1) hx hb d_M_binaryStep_104 (by decide) ?_
          refine call_i (As := [.int e, .int 0, .int 1]) (rest := []) (ci := 3) (q0 := 0) (c_M_first l dC dI b h Y r e 0 1 he (in3 he in_03) hp kx) k_460 k_462 s_M_first k_4 k_463 ⟨rfl, pc_M_first.1, pc_M_first.2, pd_M_first⟩ rfl rfl rfl rfl rfl (rm_le (by omega) (by decide)) (Nat.le_of_ble_eq_true rfl) rfl hx hb hml hown ht hl.1 hP hK hD hS hA hN d_M_binaryStep_105 (fun r39 u40 H locs q41 hP hD hS => ?_)
          have hP : va_P (dC, dI) vwCl (wR b h Y u40) H := hP
          have hD : va_D A (wR b h Y u40) := hD
          exact ret_i (v := r39) hx hb hr hlocks hP hK hD hS d_M_binaryStep_108 (by (try simp only [c3, c30] at q41); simp [q_binary, -Int64.toInt32_mul, -Int64.toInt32_add, -Int64.toInt32_sub, c1, c2, c3, c30, q41])
    · have c2 : (t_k (y_T Y) (ix e) - 20) = 8 := c2
      refine lv_aload_n hx hb d_M_binaryStep_84 rfl (lv_at hl 2 rfl) ?_
      refine lv_iload_n hx hb d_M_binaryStep_85 rfl (lv_at hl 3 rfl) ?_
      refine lv_iload_n hx hb d_M_binaryStep_86 rfl (lv_at hl 4 rfl) ?_
      refine call_i (As := [.int e, .int w]) (rest := []) (ci := 3) (q0 := 0) (c_M_limit l dC dI b h Y r e w he hp kx ky) k_476 k_478 s_M_limit k_4 k_479 ⟨rfl, pc_M_limit.1, pc_M_limit.2, pd_M_limit⟩ rfl rfl rfl rfl rfl (rm_le (by omega) (by decide)) (Nat.le_of_ble_eq_true rfl) rfl hx hb hml hown ht hl.1 hP hK hD hS hA hN d_M_binaryStep_87 (fun r42 u43 H locs q44 hP hD hS => ?_)
      have hP : va_P (dC, dI) vwCl (wR b h Y u43) H := hP
      have hD : va_D A (wR b h Y u43) := hD
      exact ret_i (v := r42) hx hb hr hlocks hP hK hD hS d_M_binaryStep_90 (by (try simp only [c2] at q44); simp [q_binary, -Int64.toInt32_mul, -Int64.toInt32_add, -Int64.toInt32_sub, c1, c2, q44])
  · have c1 : (t_k (y_T Y) (ix e) - 20) = 0 := c1
    refine lv_iload_n hx hb d_M_binaryStep_22 rfl (lv_at hl 4 rfl) ?_
    refine lv_if_ne (tgt := 53) hx hb d_M_binaryStep_23 (by decide) (fun c45 => ?_) (fun c45 => ?_)
    · have c45 : ¬ w = 0 := c45
      refine lv_iload_n hx hb d_M_binaryStep_53 rfl (lv_at hl 4 rfl) ?_
      refine lv_iconst (v := 1) hx hb d_M_binaryStep_54 (by decide) ?_
      refine lv_icmp_ne (tgt := 60) hx hb d_M_binaryStep_55 (by decide) (fun c46 => ?_) (fun c46 => ?_)
      · have c46 : ¬ w = 1 := c46
        refine lv_iload hx hb d_M_binaryStep_60 (lv_at hl 0 rfl) ?_
        refine lv_iconst (v := 1) hx hb d_M_binaryStep_62 (by decide) ?_
        refine lv_icmp_ne (tgt := 76) hx hb d_M_binaryStep_63 (by decide) (fun c47 => ?_) (fun c47 => ?_)
        · have c47 : ¬ r_ph r (ix e) = 1 := c47
          refine lv_iconst (v := 0) hx hb d_M_binaryStep_76 (by decide) ?_
          exact ret_i (v := 0) hx hb hr hlocks hP hK hD hS d_M_binaryStep_77 (by simp [q_binary, -Int64.toInt32_mul, -Int64.toInt32_add, -Int64.toInt32_sub, c1, c45, c46, c47])
        · have c47 : r_ph r (ix e) = 1 := c47
          refine lv_aload_n hx hb d_M_binaryStep_66 rfl (lv_at hl 2 rfl) ?_
          refine lv_iload_n hx hb d_M_binaryStep_67 rfl (lv_at hl 3 rfl) ?_
          refine lv_iconst (v := 1) hx hb d_M_binaryStep_68 (by decide) ?_
          refine lv_iconst (v := 2) hx hb d_M_binaryStep_69 (by decide) ?_
          refine call_i (As := [.int e, .int 1, .int 2]) (rest := []) (ci := 3) (q0 := 0) (c_M_first l dC dI b h Y r e 1 2 he (in3 he in_13) hp ky) k_460 k_462 s_M_first k_4 k_463 ⟨rfl, pc_M_first.1, pc_M_first.2, pd_M_first⟩ rfl rfl rfl rfl rfl (rm_le (by omega) (by decide)) (Nat.le_of_ble_eq_true rfl) rfl hx hb hml hown ht hl.1 hP hK hD hS hA hN d_M_binaryStep_70 (fun r48 u49 H locs q50 hP hD hS => ?_)
          have hP : va_P (dC, dI) vwCl (wR b h Y u49) H := hP
          have hD : va_D A (wR b h Y u49) := hD
          refine lv_goto (tgt := 77) hx hb d_M_binaryStep_73 (by decide) ?_
          exact ret_i (v := r48) hx hb hr hlocks hP hK hD hS d_M_binaryStep_77 (by (try simp only [c1, c47] at q50); simp [q_binary, -Int64.toInt32_mul, -Int64.toInt32_add, -Int64.toInt32_sub, c1, c45, c46, c47, q50])
      · have c46 : w = 1 := c46
        refine lv_iconst (v := 1) hx hb d_M_binaryStep_58 (by decide) ?_
        exact ret_i (v := 1) hx hb hr hlocks hP hK hD hS d_M_binaryStep_59 (by simp [q_binary, -Int64.toInt32_mul, -Int64.toInt32_add, -Int64.toInt32_sub, c1, c45, c46])
    · have c45 : w = 0 := c45
      refine lv_iload hx hb d_M_binaryStep_26 (lv_at hl 0 rfl) ?_
      refine lv_if_ne (tgt := 41) hx hb d_M_binaryStep_28 (by decide) (fun c51 => ?_) (fun c51 => ?_)
      · have c51 : ¬ r_ph r (ix e) = 0 := c51
        refine lv_aload_n hx hb d_M_binaryStep_41 rfl (lv_at hl 2 rfl) ?_
        refine lv_iload_n hx hb d_M_binaryStep_42 rfl (lv_at hl 3 rfl) ?_
        refine lv_iload hx hb d_M_binaryStep_43 (lv_at hl 0 rfl) ?_
        refine lv_iconst (v := 1) hx hb d_M_binaryStep_45 (by decide) ?_
        refine lv_isub hx hb d_M_binaryStep_46 ?_
        refine lv_iload hx hb d_M_binaryStep_47 (lv_at hl 0 rfl) ?_
        refine call_i (As := [.int e, .int (r_ph r (ix e) - 1), .int (r_ph r (ix e))]) (rest := []) (ci := 3) (q0 := 0) (c_M_ask l dC dI b h Y r e (r_ph r (ix e) - 1) (r_ph r (ix e)) he (in3 he (ph_1 (kh c1 c45) c51)) hp) k_464 k_466 s_M_ask k_4 k_467 ⟨rfl, pc_M_ask.1, pc_M_ask.2, pd_M_ask⟩ rfl rfl rfl rfl rfl (rm_le (by omega) (by decide)) (Nat.le_of_ble_eq_true rfl) rfl hx hb hml hown ht hl.1 hP hK hD hS hA hN d_M_binaryStep_49 (fun r52 u53 H locs q54 hP hD hS => ?_)
        have hP : va_P (dC, dI) vwCl (wR b h Y u53) H := hP
        have hD : va_D A (wR b h Y u53) := hD
        exact ret_i (v := r52) hx hb hr hlocks hP hK hD hS d_M_binaryStep_52 (by (try simp only [c1, c45] at q54); simp [q_binary, -Int64.toInt32_mul, -Int64.toInt32_add, -Int64.toInt32_sub, c1, c45, c51, q54])
      · have c51 : r_ph r (ix e) = 0 := c51
        refine lv_aload_n hx hb d_M_binaryStep_31 rfl (lv_at hl 2 rfl) ?_
        refine lv_iload_n hx hb d_M_binaryStep_32 rfl (lv_at hl 3 rfl) ?_
        refine lv_iconst (v := 0) hx hb d_M_binaryStep_33 (by decide) ?_
        refine lv_iconst (v := 1) hx hb d_M_binaryStep_34 (by decide) ?_
        refine call_i (As := [.int e, .int 0, .int 1]) (rest := []) (ci := 3) (q0 := 0) (c_M_first l dC dI b h Y r e 0 1 he (in3 he in_03) hp kx) k_460 k_462 s_M_first k_4 k_463 ⟨rfl, pc_M_first.1, pc_M_first.2, pd_M_first⟩ rfl rfl rfl rfl rfl (rm_le (by omega) (by decide)) (Nat.le_of_ble_eq_true rfl) rfl hx hb hml hown ht hl.1 hP hK hD hS hA hN d_M_binaryStep_35 (fun r55 u56 H locs q57 hP hD hS => ?_)
        have hP : va_P (dC, dI) vwCl (wR b h Y u56) H := hP
        have hD : va_D A (wR b h Y u56) := hD
        refine lv_goto (tgt := 52) hx hb d_M_binaryStep_38 (by decide) ?_
        exact ret_i (v := r55) hx hb hr hlocks hP hK hD hS d_M_binaryStep_52 (by (try simp only [c1, c45, c51] at q57); simp [q_binary, -Int64.toInt32_mul, -Int64.toInt32_add, -Int64.toInt32_sub, c1, c45, c51, q57])
set_option maxRecDepth 100000 in
set_option maxHeartbeats 4000000 in
theorem c_M_onward (l : Launch) (dC : Nat → ClassId) (dI : Nat → Nat → Nat) (b : Nat → Nat) (h : Nat → ClassId) (Y : zY) (r : zR) (e : Int32) (he : vp_in e 60) (hp : Tp r) : MetI l y_M_onward w_M_onward (rmN (2)) dC dI (yY h) (wR b h Y) [.ref (b 0), .int e] r (fun z9 u9 => q_on (y_T Y) e r = (z9, u9)) := by
  refine metI_of (cc := b_M_onward) (maxL := 6) (ret := (some .int)) (by decide) rfl (Nat.le_of_ble_eq_true rfl) ?_
  intro p e9 s9 m args below meth c A ls hx hb hr hts hown hlocks hml hA hP hK hD hS hN hl
  have ht : ∀ w ∈ lw_g, w.before args s9 = true := fun w h => hts w (List.mem_cons_of_mem _ h)
  have hl : lv_has ls 6 [(0, .ref (b 0)), (1, .int e)] := hl
  refine lv_aload_n hx hb d_M_onward_0 rfl (lv_at hl 0 rfl) ?_
  refine va_get (D := (dC, dI)) (ci := 3) (v := .ref (b 7)) (C := R_M) (T := T_M) (N := 20) hx hb ht in_M hown hK hP 0 rfl rfl 7 (by decide) (ht _ k_334) (fun _ h => h) rfl d_M_onward_1 ?_
  refine lv_iconst (v := 3) hx hb d_M_onward_4 (by decide) ?_
  refine lv_iload_n hx hb d_M_onward_5 rfl (lv_at hl 1 rfl) ?_
  refine lv_imul hx hb d_M_onward_6 ?_
  refine va_lald hx hb hK hP 7 6 rfl rfl (in3_0 he) d_M_onward_7 ?_
  refine lv_lstore_n hx hb d_M_onward_8 rfl hl (by decide) (lv' := [(2, .long (r_kp r (ix (3 * e)))), (0, .ref (b 0)), (1, .int e)]) rfl (fun ls hl => ?_)
  refine lv_aload_n hx hb d_M_onward_9 rfl (lv_at hl 1 rfl) ?_
  refine va_get (D := (dC, dI)) (ci := 3) (v := .ref (b 7)) (C := R_M) (T := T_M) (N := 20) hx hb ht in_M hown hK hP 0 rfl rfl 7 (by decide) (ht _ k_334) (fun _ h => h) rfl d_M_onward_10 ?_
  refine lv_iconst (v := 3) hx hb d_M_onward_13 (by decide) ?_
  refine lv_iload_n hx hb d_M_onward_14 rfl (lv_at hl 2 rfl) ?_
  refine lv_imul hx hb d_M_onward_15 ?_
  refine lv_iconst (v := 2) hx hb d_M_onward_16 (by decide) ?_
  refine lv_iadd hx hb d_M_onward_17 ?_
  refine va_lald hx hb hK hP 7 6 rfl rfl (in3 he in_23) d_M_onward_18 ?_
  refine lv_lstore hx hb d_M_onward_19 hl (by decide) (lv' := [(4, .long (r_kp r (ix ((3 * e) + 2)))), (2, .long (r_kp r (ix (3 * e)))), (0, .ref (b 0)), (1, .int e)]) rfl (fun ls hl => ?_)
  refine lv_lload hx hb d_M_onward_21 (lv_at hl 0 rfl) ?_
  refine lv_lconst (v := 0) hx hb d_M_onward_23 (by decide) ?_
  refine W.lcmp hx hb d_M_onward_24 ?_
  refine lv_if_le (tgt := 46) hx hb d_M_onward_25 (by decide) (fun c1 => ?_) (fun c1 => ?_)
  · have c1 : ¬ 0 < r_kp r (ix ((3 * e) + 2)) := i64_nlt ((lg_cmp_le _ _).mp c1)
    refine lv_lload_n hx hb d_M_onward_46 rfl (lv_at hl 1 rfl) ?_
    refine lv_aload_n hx hb d_M_onward_47 rfl (lv_at hl 2 rfl) ?_
    refine va_get (D := (dC, dI)) (ci := 3) (v := .ref (b 7)) (C := R_M) (T := T_M) (N := 20) hx hb ht in_M hown hK hP 0 rfl rfl 7 (by decide) (ht _ k_334) (fun _ h => h) rfl d_M_onward_48 ?_
    refine lv_iconst (v := 3) hx hb d_M_onward_51 (by decide) ?_
    refine lv_iload_n hx hb d_M_onward_52 rfl (lv_at hl 3 rfl) ?_
    refine lv_imul hx hb d_M_onward_53 ?_
    refine lv_iconst (v := 1) hx hb d_M_onward_54 (by decide) ?_
    refine lv_iadd hx hb d_M_onward_55 ?_
    refine va_lald hx hb hK hP 7 6 rfl rfl (in3 he in_13) d_M_onward_56 ?_
    refine W.lcmp hx hb d_M_onward_57 ?_
    refine lv_if_ge (tgt := 69) hx hb d_M_onward_58 (by decide) (fun c2 => ?_) (fun c2 => ?_)
    · have c2 : ¬ r_kp r (ix (3 * e)) < r_kp r (ix ((3 * e) + 1)) := i64_nlt ((lg_cmp_ge _ _).mp c2)
      refine lv_aload_n hx hb d_M_onward_69 rfl (lv_at hl 2 rfl) ?_
      refine va_get (D := (dC, dI)) (ci := 3) (v := .ref (b 6)) (C := R_M) (T := T_M) (N := 20) hx hb ht in_M hown hK hP 0 rfl rfl 6 (by decide) (ht _ k_333) (fun _ h => h) rfl d_M_onward_70 ?_
      refine lv_iload_n hx hb d_M_onward_73 rfl (lv_at hl 3 rfl) ?_
      refine lv_iconst (v := 4) hx hb d_M_onward_74 (by decide) ?_
      refine va_iast hx hb hK hP hD hS 6 5 rfl rfl he d_M_onward_75 (fun H locs hP hD hS => ?_)
      have hP : va_P (dC, dI) vwCl (wR b h Y (u_ph r e 4)) H := cP_R_ph hP
      have hD : va_D A (wR b h Y (u_ph r e 4)) := cD_R_ph hD
      refine lv_aload_n hx hb d_M_onward_76 rfl (lv_at hl 2 rfl) ?_
      refine va_get (D := (dC, dI)) (ci := 3) (v := .ref (b 7)) (C := R_M) (T := T_M) (N := 20) hx hb ht in_M hown hK hP 0 rfl rfl 7 (by decide) (ht _ k_334) (fun _ h => h) rfl d_M_onward_77 ?_
      refine lv_iconst (v := 3) hx hb d_M_onward_80 (by decide) ?_
      refine lv_iload_n hx hb d_M_onward_81 rfl (lv_at hl 3 rfl) ?_
      refine lv_imul hx hb d_M_onward_82 ?_
      refine lv_lload_n hx hb d_M_onward_83 rfl (lv_at hl 1 rfl) ?_
      refine lv_lload hx hb d_M_onward_84 (lv_at hl 0 rfl) ?_
      refine lv_ladd hx hb d_M_onward_86 ?_
      refine va_last hx hb hK hP hD hS 7 6 rfl rfl (in3_0 he) d_M_onward_87 (fun H locs hP hD hS => ?_)
      have hP : va_P (dC, dI) vwCl (wR b h Y (u_kp (u_ph r e 4) (3 * e) (r_kp r (ix (3 * e)) + r_kp r (ix ((3 * e) + 2))))) H := cP_R_kp hP
      have hD : va_D A (wR b h Y (u_kp (u_ph r e 4) (3 * e) (r_kp r (ix (3 * e)) + r_kp r (ix ((3 * e) + 2))))) := cD_R_kp hD
      refine lv_aload_n hx hb d_M_onward_88 rfl (lv_at hl 2 rfl) ?_
      refine lv_lload_n hx hb d_M_onward_89 rfl (lv_at hl 1 rfl) ?_
      refine lv_l2i hx hb d_M_onward_90 rfl ?_
      refine call_i (As := [.int ((r_kp r (ix (3 * e))).toInt32)]) (rest := []) (ci := 3) (q0 := 0) (c_M_paid l dC dI b h Y (u_kp (u_ph r e 4) (3 * e) (r_kp r (ix (3 * e)) + r_kp r (ix ((3 * e) + 2)))) ((r_kp r (ix (3 * e))).toInt32)) k_448 k_450 s_M_paid k_4 k_451 ⟨rfl, pc_M_paid.1, pc_M_paid.2, pd_M_paid⟩ rfl rfl rfl rfl rfl (rm_le (by omega) (by decide)) (Nat.le_of_ble_eq_true rfl) rfl hx hb hml hown ht hl.1 hP hK hD hS hA hN d_M_onward_91 (fun r3 u4 H locs q5 hP hD hS => ?_)
      have hP : va_P (dC, dI) vwCl (wR b h Y u4) H := hP
      have hD : va_D A (wR b h Y u4) := hD
      exact ret_i (v := r3) hx hb hr hlocks hP hK hD hS d_M_onward_94 (by simp [q_on, -Int64.toInt32_mul, -Int64.toInt32_add, -Int64.toInt32_sub, c1, c2, Int64.not_lt.mp c1, Int64.not_lt.mp c2, q5])
    · have c2 : r_kp r (ix (3 * e)) < r_kp r (ix ((3 * e) + 1)) := i64_nle (fun q => c2 ((lg_cmp_ge _ _).mpr q))
      refine lv_aload_n hx hb d_M_onward_61 rfl (lv_at hl 2 rfl) ?_
      refine lv_iload_n hx hb d_M_onward_62 rfl (lv_at hl 3 rfl) ?_
      refine lv_iconst (v := 2) hx hb d_M_onward_63 (by decide) ?_
      refine lv_iconst (v := 3) hx hb d_M_onward_64 (by decide) ?_
      refine call_i (As := [.int e, .int 2, .int 3]) (rest := []) (ci := 3) (q0 := 0) (c_M_ask l dC dI b h Y r e 2 3 he (in3 he in_23) hp) k_464 k_466 s_M_ask k_4 k_467 ⟨rfl, pc_M_ask.1, pc_M_ask.2, pd_M_ask⟩ rfl rfl rfl rfl rfl (rm_le (by omega) (by decide)) (Nat.le_of_ble_eq_true rfl) rfl hx hb hml hown ht hl.1 hP hK hD hS hA hN d_M_onward_65 (fun r6 u7 H locs q8 hP hD hS => ?_)
      have hP : va_P (dC, dI) vwCl (wR b h Y u7) H := hP
      have hD : va_D A (wR b h Y u7) := hD
      exact ret_i (v := r6) hx hb hr hlocks hP hK hD hS d_M_onward_68 (by simp [q_on, -Int64.toInt32_mul, -Int64.toInt32_add, -Int64.toInt32_sub, c1, c2, Int64.not_lt.mp c1, Int64.not_le.mpr c2, q8])
  · have c1 : 0 < r_kp r (ix ((3 * e) + 2)) := i64_nle (fun q => c1 ((lg_cmp_le _ _).mpr q))
    refine lv_lload_n hx hb d_M_onward_28 rfl (lv_at hl 1 rfl) ?_
    refine lv_aload_n hx hb d_M_onward_29 rfl (lv_at hl 2 rfl) ?_
    refine va_get (D := (dC, dI)) (ci := 3) (v := .ref (b 7)) (C := R_M) (T := T_M) (N := 20) hx hb ht in_M hown hK hP 0 rfl rfl 7 (by decide) (ht _ k_334) (fun _ h => h) rfl d_M_onward_30 ?_
    refine lv_iconst (v := 3) hx hb d_M_onward_33 (by decide) ?_
    refine lv_iload_n hx hb d_M_onward_34 rfl (lv_at hl 3 rfl) ?_
    refine lv_imul hx hb d_M_onward_35 ?_
    refine lv_iconst (v := 1) hx hb d_M_onward_36 (by decide) ?_
    refine lv_iadd hx hb d_M_onward_37 ?_
    refine va_lald hx hb hK hP 7 6 rfl rfl (in3 he in_13) d_M_onward_38 ?_
    refine W.lcmp hx hb d_M_onward_39 ?_
    refine lv_if_le (tgt := 69) hx hb d_M_onward_40 (by decide) (fun c9 => ?_) (fun c9 => ?_)
    · have c9 : ¬ r_kp r (ix ((3 * e) + 1)) < r_kp r (ix (3 * e)) := i64_nlt ((lg_cmp_le _ _).mp c9)
      refine lv_aload_n hx hb d_M_onward_69 rfl (lv_at hl 2 rfl) ?_
      refine va_get (D := (dC, dI)) (ci := 3) (v := .ref (b 6)) (C := R_M) (T := T_M) (N := 20) hx hb ht in_M hown hK hP 0 rfl rfl 6 (by decide) (ht _ k_333) (fun _ h => h) rfl d_M_onward_70 ?_
      refine lv_iload_n hx hb d_M_onward_73 rfl (lv_at hl 3 rfl) ?_
      refine lv_iconst (v := 4) hx hb d_M_onward_74 (by decide) ?_
      refine va_iast hx hb hK hP hD hS 6 5 rfl rfl he d_M_onward_75 (fun H locs hP hD hS => ?_)
      have hP : va_P (dC, dI) vwCl (wR b h Y (u_ph r e 4)) H := cP_R_ph hP
      have hD : va_D A (wR b h Y (u_ph r e 4)) := cD_R_ph hD
      refine lv_aload_n hx hb d_M_onward_76 rfl (lv_at hl 2 rfl) ?_
      refine va_get (D := (dC, dI)) (ci := 3) (v := .ref (b 7)) (C := R_M) (T := T_M) (N := 20) hx hb ht in_M hown hK hP 0 rfl rfl 7 (by decide) (ht _ k_334) (fun _ h => h) rfl d_M_onward_77 ?_
      refine lv_iconst (v := 3) hx hb d_M_onward_80 (by decide) ?_
      refine lv_iload_n hx hb d_M_onward_81 rfl (lv_at hl 3 rfl) ?_
      refine lv_imul hx hb d_M_onward_82 ?_
      refine lv_lload_n hx hb d_M_onward_83 rfl (lv_at hl 1 rfl) ?_
      refine lv_lload hx hb d_M_onward_84 (lv_at hl 0 rfl) ?_
      refine lv_ladd hx hb d_M_onward_86 ?_
      refine va_last hx hb hK hP hD hS 7 6 rfl rfl (in3_0 he) d_M_onward_87 (fun H locs hP hD hS => ?_)
      have hP : va_P (dC, dI) vwCl (wR b h Y (u_kp (u_ph r e 4) (3 * e) (r_kp r (ix (3 * e)) + r_kp r (ix ((3 * e) + 2))))) H := cP_R_kp hP
      have hD : va_D A (wR b h Y (u_kp (u_ph r e 4) (3 * e) (r_kp r (ix (3 * e)) + r_kp r (ix ((3 * e) + 2))))) := cD_R_kp hD
      refine lv_aload_n hx hb d_M_onward_88 rfl (lv_at hl 2 rfl) ?_
      refine lv_lload_n hx hb d_M_onward_89 rfl (lv_at hl 1 rfl) ?_
      refine lv_l2i hx hb d_M_onward_90 rfl ?_
      refine call_i (As := [.int ((r_kp r (ix (3 * e))).toInt32)]) (rest := []) (ci := 3) (q0 := 0) (c_M_paid l dC dI b h Y (u_kp (u_ph r e 4) (3 * e) (r_kp r (ix (3 * e)) + r_kp r (ix ((3 * e) + 2)))) ((r_kp r (ix (3 * e))).toInt32)) k_448 k_450 s_M_paid k_4 k_451 ⟨rfl, pc_M_paid.1, pc_M_paid.2, pd_M_paid⟩ rfl rfl rfl rfl rfl (rm_le (by omega) (by decide)) (Nat.le_of_ble_eq_true rfl) rfl hx hb hml hown ht hl.1 hP hK hD hS hA hN d_M_onward_91 (fun r10 u11 H locs q12 hP hD hS => ?_)
      have hP : va_P (dC, dI) vwCl (wR b h Y u11) H := hP
      have hD : va_D A (wR b h Y u11) := hD
      exact ret_i (v := r10) hx hb hr hlocks hP hK hD hS d_M_onward_94 (by simp [q_on, -Int64.toInt32_mul, -Int64.toInt32_add, -Int64.toInt32_sub, c1, c9, Int64.not_le.mpr c1, Int64.not_lt.mp c9, q12])
    · have c9 : r_kp r (ix ((3 * e) + 1)) < r_kp r (ix (3 * e)) := i64_nle (fun q => c9 ((lg_cmp_le _ _).mpr q))
      refine lv_goto (tgt := 61) hx hb d_M_onward_43 (by decide) ?_
      refine lv_aload_n hx hb d_M_onward_61 rfl (lv_at hl 2 rfl) ?_
      refine lv_iload_n hx hb d_M_onward_62 rfl (lv_at hl 3 rfl) ?_
      refine lv_iconst (v := 2) hx hb d_M_onward_63 (by decide) ?_
      refine lv_iconst (v := 3) hx hb d_M_onward_64 (by decide) ?_
      refine call_i (As := [.int e, .int 2, .int 3]) (rest := []) (ci := 3) (q0 := 0) (c_M_ask l dC dI b h Y r e 2 3 he (in3 he in_23) hp) k_464 k_466 s_M_ask k_4 k_467 ⟨rfl, pc_M_ask.1, pc_M_ask.2, pd_M_ask⟩ rfl rfl rfl rfl rfl (rm_le (by omega) (by decide)) (Nat.le_of_ble_eq_true rfl) rfl hx hb hml hown ht hl.1 hP hK hD hS hA hN d_M_onward_65 (fun r13 u14 H locs q15 hP hD hS => ?_)
      have hP : va_P (dC, dI) vwCl (wR b h Y u14) H := hP
      have hD : va_D A (wR b h Y u14) := hD
      exact ret_i (v := r13) hx hb hr hlocks hP hK hD hS d_M_onward_68 (by simp [q_on, -Int64.toInt32_mul, -Int64.toInt32_add, -Int64.toInt32_sub, c1, c9, Int64.not_le.mpr c1, Int64.not_le.mpr c9, q15])
set_option maxRecDepth 100000 in
set_option maxHeartbeats 4000000 in
theorem c_M_toStep (l : Launch) (dC : Nat → ClassId) (dI : Nat → Nat → Nat) (b : Nat → Nat) (h : Nat → ClassId) (Y : zY) (r : zR) (e : Int32) (w : Int32) (he : vp_in e 60) (hp : Tp r) (kx : vp_in (t_p (y_T Y) (ix (3 * e + 0))) 60) (ky : vp_in (t_p (y_T Y) (ix (3 * e + 1))) 60) (kz : vp_in (t_p (y_T Y) (ix (3 * e + 2))) 60) (kh : ¬ w = 0 → r_ph r (ix e) = 1 ∨ r_ph r (ix e) = 2 ∨ r_ph r (ix e) = 3) : MetI l y_M_toStep w_M_toStep (rmN (3)) dC dI (yY h) (wR b h Y) [.ref (b 0), .int e, .int w] r (fun z9 u9 => q_to (y_T Y) e w r = (z9, u9)) := by
  refine metI_of (cc := b_M_toStep) (maxL := 4) (ret := (some .int)) (by decide) rfl (Nat.le_of_ble_eq_true rfl) ?_
  intro p e9 s9 m args below meth c A ls hx hb hr hts hown hlocks hml hA hP hK hD hS hN hl
  have ht : ∀ w ∈ lw_g, w.before args s9 = true := fun w h => hts w (List.mem_cons_of_mem _ h)
  have hl : lv_has ls 4 [(0, .ref (b 0)), (1, .int e), (2, .int w)] := hl
  refine lv_aload_n hx hb d_M_toStep_0 rfl (lv_at hl 0 rfl) ?_
  refine va_get (D := (dC, dI)) (ci := 3) (v := .ref (b 6)) (C := R_M) (T := T_M) (N := 20) hx hb ht in_M hown hK hP 0 rfl rfl 6 (by decide) (ht _ k_333) (fun _ h => h) rfl d_M_toStep_1 ?_
  refine lv_iload_n hx hb d_M_toStep_4 rfl (lv_at hl 1 rfl) ?_
  refine va_iald hx hb hK hP 6 5 rfl rfl he d_M_toStep_5 ?_
  refine lv_istore_n hx hb d_M_toStep_6 rfl hl (by decide) (lv' := [(3, .int (r_ph r (ix e))), (0, .ref (b 0)), (1, .int e), (2, .int w)]) rfl (fun ls hl => ?_)
  refine lv_iload_n hx hb d_M_toStep_7 rfl (lv_at hl 3 rfl) ?_
  refine lv_if_ne (tgt := 31) hx hb d_M_toStep_8 (by decide) (fun c1 => ?_) (fun c1 => ?_)
  · have c1 : ¬ w = 0 := c1
    refine lv_iload_n hx hb d_M_toStep_31 rfl (lv_at hl 3 rfl) ?_
    refine lv_iconst (v := 2) hx hb d_M_toStep_32 (by decide) ?_
    refine lv_icmp_ne (tgt := 57) hx hb d_M_toStep_33 (by decide) (fun c2 => ?_) (fun c2 => ?_)
    · have c2 : ¬ w = 2 := c2
      refine lv_iload_n hx hb d_M_toStep_57 rfl (lv_at hl 0 rfl) ?_
      refine lv_iconst (v := 1) hx hb d_M_toStep_58 (by decide) ?_
      refine lv_icmp_ne (tgt := 80) hx hb d_M_toStep_59 (by decide) (fun c3 => ?_) (fun c3 => ?_)
      · have c3 : ¬ r_ph r (ix e) = 1 := c3
        refine lv_aload_n hx hb d_M_toStep_80 rfl (lv_at hl 1 rfl) ?_
        refine va_get (D := (dC, dI)) (ci := 3) (v := .ref (b 7)) (C := R_M) (T := T_M) (N := 20) hx hb ht in_M hown hK hP 0 rfl rfl 7 (by decide) (ht _ k_334) (fun _ h => h) rfl d_M_toStep_81 ?_
        refine lv_iconst (v := 3) hx hb d_M_toStep_84 (by decide) ?_
        refine lv_iload_n hx hb d_M_toStep_85 rfl (lv_at hl 2 rfl) ?_
        refine lv_imul hx hb d_M_toStep_86 ?_
        refine lv_iload_n hx hb d_M_toStep_87 rfl (lv_at hl 0 rfl) ?_
        refine lv_iadd hx hb d_M_toStep_88 ?_
        refine lv_iconst (v := 1) hx hb d_M_toStep_89 (by decide) ?_
        refine lv_isub hx hb d_M_toStep_90 ?_
        refine lv_aload_n hx hb d_M_toStep_91 rfl (lv_at hl 1 rfl) ?_
        refine va_get (D := (dC, dI)) (ci := 3) (v := .int (r_gv r)) (C := R_M) (T := T_M) (N := 20) hx hb ht in_M hown hK hP 0 rfl rfl 18 (by decide) (ht _ k_345) (fun _ h => h) rfl d_M_toStep_92 ?_
        refine lv_i2l hx hb d_M_toStep_95 rfl ?_
        refine va_last hx hb hK hP hD hS 7 6 rfl rfl (in3_p he (kh c1)) d_M_toStep_96 (fun H locs hP hD hS => ?_)
        have hP : va_P (dC, dI) vwCl (wR b h Y (u_kp r (((3 * e) + r_ph r (ix e)) - 1) ((r_gv r).toInt64))) H := cP_R_kp hP
        have hD : va_D A (wR b h Y (u_kp r (((3 * e) + r_ph r (ix e)) - 1) ((r_gv r).toInt64))) := cD_R_kp hD
        refine lv_iload_n hx hb d_M_toStep_97 rfl (lv_at hl 0 rfl) ?_
        refine lv_iconst (v := 2) hx hb d_M_toStep_98 (by decide) ?_
        refine lv_icmp_ne (tgt := 110) hx hb d_M_toStep_99 (by decide) (fun c4 => ?_) (fun c4 => ?_)
        · have c4 : ¬ r_ph r (ix e) = 2 := c4
          refine lv_aload_n hx hb d_M_toStep_110 rfl (lv_at hl 1 rfl) ?_
          refine va_get (D := (dC, dI)) (ci := 3) (v := .int (r_gv (u_kp r (((3 * e) + r_ph r (ix e)) - 1) ((r_gv r).toInt64)))) (C := R_M) (T := T_M) (N := 20) hx hb ht in_M hown hK hP 0 rfl rfl 18 (by decide) (ht _ k_345) (fun _ h => h) rfl d_M_toStep_111 ?_
          refine lv_if_ne (tgt := 125) hx hb d_M_toStep_114 (by decide) (fun c5 => ?_) (fun c5 => ?_)
          · have c5 : ¬ r_gv (u_kp r (((3 * e) + r_ph r (ix e)) - 1) ((r_gv r).toInt64)) = 0 := c5
            refine lv_aload_n hx hb d_M_toStep_125 rfl (lv_at hl 1 rfl) ?_
            refine va_get (D := (dC, dI)) (ci := 3) (v := .ref (b 7)) (C := R_M) (T := T_M) (N := 20) hx hb ht in_M hown hK hP 0 rfl rfl 7 (by decide) (ht _ k_334) (fun _ h => h) rfl d_M_toStep_126 ?_
            refine lv_iconst (v := 3) hx hb d_M_toStep_129 (by decide) ?_
            refine lv_iload_n hx hb d_M_toStep_130 rfl (lv_at hl 2 rfl) ?_
            refine lv_imul hx hb d_M_toStep_131 ?_
            refine lv_aload_n hx hb d_M_toStep_132 rfl (lv_at hl 1 rfl) ?_
            refine va_get (D := (dC, dI)) (ci := 3) (v := .ref (b 2)) (C := R_M) (T := T_M) (N := 20) hx hb ht in_M hown hK hP 0 rfl rfl 2 (by decide) (ht _ k_329) (fun _ h => h) rfl d_M_toStep_133 ?_
            refine lv_iload_n hx hb d_M_toStep_136 rfl (lv_at hl 2 rfl) ?_
            refine va_iald hx hb hK hP 2 1 rfl rfl he d_M_toStep_137 ?_
            refine lv_i2l hx hb d_M_toStep_138 rfl ?_
            refine va_last hx hb hK hP hD hS 7 6 rfl rfl (in3_0 he) d_M_toStep_139 (fun H locs hP hD hS => ?_)
            have hP : va_P (dC, dI) vwCl (wR b h Y (u_kp (u_kp r (((3 * e) + r_ph r (ix e)) - 1) ((r_gv r).toInt64)) (3 * e) ((r_nm (u_kp r (((3 * e) + r_ph r (ix e)) - 1) ((r_gv r).toInt64)) (ix e)).toInt64))) H := cP_R_kp hP
            have hD : va_D A (wR b h Y (u_kp (u_kp r (((3 * e) + r_ph r (ix e)) - 1) ((r_gv r).toInt64)) (3 * e) ((r_nm (u_kp r (((3 * e) + r_ph r (ix e)) - 1) ((r_gv r).toInt64)) (ix e)).toInt64))) := cD_R_kp hD
            refine lv_aload_n hx hb d_M_toStep_140 rfl (lv_at hl 1 rfl) ?_
            refine lv_iload_n hx hb d_M_toStep_141 rfl (lv_at hl 2 rfl) ?_
            refine call_i (As := [.int e]) (rest := []) (ci := 3) (q0 := 0) (c_M_onward l dC dI b h Y (u_kp (u_kp r (((3 * e) + r_ph r (ix e)) - 1) ((r_gv r).toInt64)) (3 * e) ((r_nm (u_kp r (((3 * e) + r_ph r (ix e)) - 1) ((r_gv r).toInt64)) (ix e)).toInt64)) e he hp) k_484 k_486 s_M_onward k_4 k_487 ⟨rfl, pc_M_onward.1, pc_M_onward.2, pd_M_onward⟩ rfl rfl rfl rfl rfl (rm_le (by omega) (by decide)) (Nat.le_of_ble_eq_true rfl) rfl hx hb hml hown ht hl.1 hP hK hD hS hA hN d_M_toStep_142 (fun r6 u7 H locs q8 hP hD hS => ?_)
            have hP : va_P (dC, dI) vwCl (wR b h Y u7) H := hP
            have hD : va_D A (wR b h Y u7) := hD
            exact ret_i (v := r6) hx hb hr hlocks hP hK hD hS d_M_toStep_145 (by simp [q_to, -Int64.toInt32_mul, -Int64.toInt32_add, -Int64.toInt32_sub, c1, c2, c3, c4, c5, q8])
          · have c5 : r_gv (u_kp r (((3 * e) + r_ph r (ix e)) - 1) ((r_gv r).toInt64)) = 0 := c5
            refine lv_aload_n hx hb d_M_toStep_117 rfl (lv_at hl 1 rfl) ?_
            refine lv_bipush (v := (-3)) hx hb d_M_toStep_118 (by decide) ?_
            refine va_put (D := (dC, dI)) (ci := 3) (v := .int (-3)) (ty := .int) (C := R_M) (T := T_M) (N := 20) hx hb ht in_M t_M t_M_ok n_M hown hK hP hD hS 0 rfl rfl 19 (by decide) (ht _ k_346) (fun _ h => h) rfl (by decide +kernel) rfl rfl (Nat.le_of_ble_eq_true rfl) d_M_toStep_120 (fun H locs hP hD hS => ?_)
            have hP : va_P (dC, dI) vwCl (wR b h Y (u_er (u_kp r (((3 * e) + r_ph r (ix e)) - 1) ((r_gv r).toInt64)) (-3))) H := cP_R_er hP
            have hD : va_D A (wR b h Y (u_er (u_kp r (((3 * e) + r_ph r (ix e)) - 1) ((r_gv r).toInt64)) (-3))) := cD_R_er hD
            refine lv_iconst (v := 0) hx hb d_M_toStep_123 (by decide) ?_
            exact ret_i (v := 0) hx hb hr hlocks hP hK hD hS d_M_toStep_124 (by simp [q_to, -Int64.toInt32_mul, -Int64.toInt32_add, -Int64.toInt32_sub, c1, c2, c3, c4, c5])
        · have c4 : r_ph r (ix e) = 2 := c4
          refine lv_aload_n hx hb d_M_toStep_102 rfl (lv_at hl 1 rfl) ?_
          refine lv_iload_n hx hb d_M_toStep_103 rfl (lv_at hl 2 rfl) ?_
          refine lv_iconst (v := 2) hx hb d_M_toStep_104 (by decide) ?_
          refine lv_iconst (v := 3) hx hb d_M_toStep_105 (by decide) ?_
          refine call_i (As := [.int e, .int 2, .int 3]) (rest := []) (ci := 3) (q0 := 0) (c_M_first l dC dI b h Y (u_kp r (((3 * e) + r_ph r (ix e)) - 1) ((r_gv r).toInt64)) e 2 3 he (in3 he in_23) hp kz) k_460 k_462 s_M_first k_4 k_463 ⟨rfl, pc_M_first.1, pc_M_first.2, pd_M_first⟩ rfl rfl rfl rfl rfl (rm_le (by omega) (by decide)) (Nat.le_of_ble_eq_true rfl) rfl hx hb hml hown ht hl.1 hP hK hD hS hA hN d_M_toStep_106 (fun r9 u10 H locs q11 hP hD hS => ?_)
          have hP : va_P (dC, dI) vwCl (wR b h Y u10) H := hP
          have hD : va_D A (wR b h Y u10) := hD
          exact ret_i (v := r9) hx hb hr hlocks hP hK hD hS d_M_toStep_109 (by (try simp only [c4] at q11); simp [q_to, -Int64.toInt32_mul, -Int64.toInt32_add, -Int64.toInt32_sub, c1, c2, c3, c4, q11])
      · have c3 : r_ph r (ix e) = 1 := c3
        refine lv_aload_n hx hb d_M_toStep_62 rfl (lv_at hl 1 rfl) ?_
        refine va_get (D := (dC, dI)) (ci := 3) (v := .ref (b 2)) (C := R_M) (T := T_M) (N := 20) hx hb ht in_M hown hK hP 0 rfl rfl 2 (by decide) (ht _ k_329) (fun _ h => h) rfl d_M_toStep_63 ?_
        refine lv_iload_n hx hb d_M_toStep_66 rfl (lv_at hl 2 rfl) ?_
        refine lv_aload_n hx hb d_M_toStep_67 rfl (lv_at hl 1 rfl) ?_
        refine va_get (D := (dC, dI)) (ci := 3) (v := .int (r_gv r)) (C := R_M) (T := T_M) (N := 20) hx hb ht in_M hown hK hP 0 rfl rfl 18 (by decide) (ht _ k_345) (fun _ h => h) rfl d_M_toStep_68 ?_
        refine va_iast hx hb hK hP hD hS 2 1 rfl rfl he d_M_toStep_71 (fun H locs hP hD hS => ?_)
        have hP : va_P (dC, dI) vwCl (wR b h Y (u_nm r e (r_gv r))) H := cP_R_nm hP
        have hD : va_D A (wR b h Y (u_nm r e (r_gv r))) := cD_R_nm hD
        refine lv_aload_n hx hb d_M_toStep_72 rfl (lv_at hl 1 rfl) ?_
        refine lv_iload_n hx hb d_M_toStep_73 rfl (lv_at hl 2 rfl) ?_
        refine lv_iconst (v := 1) hx hb d_M_toStep_74 (by decide) ?_
        refine lv_iconst (v := 2) hx hb d_M_toStep_75 (by decide) ?_
        refine call_i (As := [.int e, .int 1, .int 2]) (rest := []) (ci := 3) (q0 := 0) (c_M_first l dC dI b h Y (u_nm r e (r_gv r)) e 1 2 he (in3 he in_13) hp ky) k_460 k_462 s_M_first k_4 k_463 ⟨rfl, pc_M_first.1, pc_M_first.2, pd_M_first⟩ rfl rfl rfl rfl rfl (rm_le (by omega) (by decide)) (Nat.le_of_ble_eq_true rfl) rfl hx hb hml hown ht hl.1 hP hK hD hS hA hN d_M_toStep_76 (fun r12 u13 H locs q14 hP hD hS => ?_)
        have hP : va_P (dC, dI) vwCl (wR b h Y u13) H := hP
        have hD : va_D A (wR b h Y u13) := hD
        exact ret_i (v := r12) hx hb hr hlocks hP hK hD hS d_M_toStep_79 (by (try simp only [c3] at q14); simp [q_to, -Int64.toInt32_mul, -Int64.toInt32_add, -Int64.toInt32_sub, c1, c2, c3, q14])
    · have c2 : w = 2 := c2
      refine lv_iload_n hx hb d_M_toStep_36 rfl (lv_at hl 0 rfl) ?_
      refine lv_iconst (v := 1) hx hb d_M_toStep_37 (by decide) ?_
      refine lv_icmp_ne (tgt := 45) hx hb d_M_toStep_38 (by decide) (fun c15 => ?_) (fun c15 => ?_)
      · have c15 : ¬ r_ph r (ix e) = 1 := c15
        refine lv_aload_n hx hb d_M_toStep_45 rfl (lv_at hl 1 rfl) ?_
        refine lv_iload_n hx hb d_M_toStep_46 rfl (lv_at hl 2 rfl) ?_
        refine lv_iload_n hx hb d_M_toStep_47 rfl (lv_at hl 0 rfl) ?_
        refine lv_iconst (v := 2) hx hb d_M_toStep_48 (by decide) ?_
        refine lv_isub hx hb d_M_toStep_49 ?_
        refine lv_iload_n hx hb d_M_toStep_50 rfl (lv_at hl 0 rfl) ?_
        refine lv_iconst (v := 1) hx hb d_M_toStep_51 (by decide) ?_
        refine lv_isub hx hb d_M_toStep_52 ?_
        refine call_i (As := [.int e, .int (r_ph r (ix e) - 2), .int (r_ph r (ix e) - 1)]) (rest := []) (ci := 3) (q0 := 0) (c_M_ask l dC dI b h Y r e (r_ph r (ix e) - 2) (r_ph r (ix e) - 1) he (in3 he (ph_2 (kh c1) c15)) hp) k_464 k_466 s_M_ask k_4 k_467 ⟨rfl, pc_M_ask.1, pc_M_ask.2, pd_M_ask⟩ rfl rfl rfl rfl rfl (rm_le (by omega) (by decide)) (Nat.le_of_ble_eq_true rfl) rfl hx hb hml hown ht hl.1 hP hK hD hS hA hN d_M_toStep_53 (fun r16 u17 H locs q18 hP hD hS => ?_)
        have hP : va_P (dC, dI) vwCl (wR b h Y u17) H := hP
        have hD : va_D A (wR b h Y u17) := hD
        exact ret_i (v := r16) hx hb hr hlocks hP hK hD hS d_M_toStep_56 (by (try simp only [c2] at q18); simp [q_to, -Int64.toInt32_mul, -Int64.toInt32_add, -Int64.toInt32_sub, c1, c2, c15, q18])
      · have c15 : r_ph r (ix e) = 1 := c15
        refine lv_iconst (v := 0) hx hb d_M_toStep_41 (by decide) ?_
        refine lv_goto (tgt := 56) hx hb d_M_toStep_42 (by decide) ?_
        exact ret_i (v := 0) hx hb hr hlocks hP hK hD hS d_M_toStep_56 (by simp [q_to, -Int64.toInt32_mul, -Int64.toInt32_add, -Int64.toInt32_sub, c1, c2, c15])
  · have c1 : w = 0 := c1
    refine lv_iload_n hx hb d_M_toStep_11 rfl (lv_at hl 0 rfl) ?_
    refine lv_if_ne (tgt := 25) hx hb d_M_toStep_12 (by decide) (fun c19 => ?_) (fun c19 => ?_)
    · have c19 : ¬ r_ph r (ix e) = 0 := c19
      refine lv_aload_n hx hb d_M_toStep_25 rfl (lv_at hl 1 rfl) ?_
      refine lv_iload_n hx hb d_M_toStep_26 rfl (lv_at hl 2 rfl) ?_
      refine call_i (As := [.int e]) (rest := []) (ci := 3) (q0 := 0) (c_M_onward l dC dI b h Y r e he hp) k_484 k_486 s_M_onward k_4 k_487 ⟨rfl, pc_M_onward.1, pc_M_onward.2, pd_M_onward⟩ rfl rfl rfl rfl rfl (rm_le (by omega) (by decide)) (Nat.le_of_ble_eq_true rfl) rfl hx hb hml hown ht hl.1 hP hK hD hS hA hN d_M_toStep_27 (fun r20 u21 H locs q22 hP hD hS => ?_)
      have hP : va_P (dC, dI) vwCl (wR b h Y u21) H := hP
      have hD : va_D A (wR b h Y u21) := hD
      exact ret_i (v := r20) hx hb hr hlocks hP hK hD hS d_M_toStep_30 (by (try simp only [c1] at q22); simp [q_to, -Int64.toInt32_mul, -Int64.toInt32_add, -Int64.toInt32_sub, c1, c19, q22])
    · have c19 : r_ph r (ix e) = 0 := c19
      refine lv_aload_n hx hb d_M_toStep_15 rfl (lv_at hl 1 rfl) ?_
      refine lv_iload_n hx hb d_M_toStep_16 rfl (lv_at hl 2 rfl) ?_
      refine lv_iconst (v := 0) hx hb d_M_toStep_17 (by decide) ?_
      refine lv_iconst (v := 1) hx hb d_M_toStep_18 (by decide) ?_
      refine call_i (As := [.int e, .int 0, .int 1]) (rest := []) (ci := 3) (q0 := 0) (c_M_first l dC dI b h Y r e 0 1 he (in3 he in_03) hp kx) k_460 k_462 s_M_first k_4 k_463 ⟨rfl, pc_M_first.1, pc_M_first.2, pd_M_first⟩ rfl rfl rfl rfl rfl (rm_le (by omega) (by decide)) (Nat.le_of_ble_eq_true rfl) rfl hx hb hml hown ht hl.1 hP hK hD hS hA hN d_M_toStep_19 (fun r23 u24 H locs q25 hP hD hS => ?_)
      have hP : va_P (dC, dI) vwCl (wR b h Y u24) H := hP
      have hD : va_D A (wR b h Y u24) := hD
      refine lv_goto (tgt := 30) hx hb d_M_toStep_22 (by decide) ?_
      exact ret_i (v := r23) hx hb hr hlocks hP hK hD hS d_M_toStep_30 (by (try simp only [c1, c19] at q25); simp [q_to, -Int64.toInt32_mul, -Int64.toInt32_add, -Int64.toInt32_sub, c1, c19, q25])
set_option maxRecDepth 100000 in
set_option maxHeartbeats 4000000 in
theorem c_M_choose (l : Launch) (dC : Nat → ClassId) (dI : Nat → Nat → Nat) (b : Nat → Nat) (h : Nat → ClassId) (Y : zY) (r : zR) (e : Int32) (w : Int32) (he : vp_in e 60) (hp : Tp r) (kx : vp_in (t_p (y_T Y) (ix (3 * e + 0))) 60) (ky : vp_in (t_p (y_T Y) (ix (3 * e + 1))) 60) (kz : vp_in (t_p (y_T Y) (ix (3 * e + 2))) 60) (kh : w = 0 → (r_ph r (ix e) = 0 ∨ r_ph r (ix e) = 1 ∨ r_ph r (ix e) = 2 ∨ r_ph r (ix e) = 3)) : MetI l y_M_choose w_M_choose (rmN (2)) dC dI (yY h) (wR b h Y) [.ref (b 0), .int e, .int w] r (fun z9 u9 => q_if (y_T Y) e w r = (z9, u9)) := by
  refine metI_of (cc := b_M_choose) (maxL := 4) (ret := (some .int)) (by decide) rfl (Nat.le_of_ble_eq_true rfl) ?_
  intro p e9 s9 m args below meth c A ls hx hb hr hts hown hlocks hml hA hP hK hD hS hN hl
  have ht : ∀ w ∈ lw_g, w.before args s9 = true := fun w h => hts w (List.mem_cons_of_mem _ h)
  have hl : lv_has ls 4 [(0, .ref (b 0)), (1, .int e), (2, .int w)] := hl
  refine lv_aload_n hx hb d_M_choose_0 rfl (lv_at hl 0 rfl) ?_
  refine va_get (D := (dC, dI)) (ci := 3) (v := .ref (b 6)) (C := R_M) (T := T_M) (N := 20) hx hb ht in_M hown hK hP 0 rfl rfl 6 (by decide) (ht _ k_333) (fun _ h => h) rfl d_M_choose_1 ?_
  refine lv_iload_n hx hb d_M_choose_4 rfl (lv_at hl 1 rfl) ?_
  refine va_iald hx hb hK hP 6 5 rfl rfl he d_M_choose_5 ?_
  refine lv_istore_n hx hb d_M_choose_6 rfl hl (by decide) (lv' := [(3, .int (r_ph r (ix e))), (0, .ref (b 0)), (1, .int e), (2, .int w)]) rfl (fun ls hl => ?_)
  refine lv_iload_n hx hb d_M_choose_7 rfl (lv_at hl 3 rfl) ?_
  refine lv_if_ne (tgt := 35) hx hb d_M_choose_8 (by decide) (fun c1 => ?_) (fun c1 => ?_)
  · have c1 : ¬ w = 0 := c1
    refine lv_iload_n hx hb d_M_choose_35 rfl (lv_at hl 0 rfl) ?_
    refine lv_iconst (v := 1) hx hb d_M_choose_36 (by decide) ?_
    refine lv_icmp_ne (tgt := 63) hx hb d_M_choose_37 (by decide) (fun c2 => ?_) (fun c2 => ?_)
    · have c2 : ¬ r_ph r (ix e) = 1 := c2
      refine lv_iload_n hx hb d_M_choose_63 rfl (lv_at hl 3 rfl) ?_
      refine lv_iconst (v := 1) hx hb d_M_choose_64 (by decide) ?_
      refine lv_icmp_ne (tgt := 72) hx hb d_M_choose_65 (by decide) (fun c3 => ?_) (fun c3 => ?_)
      · have c3 : ¬ w = 1 := c3
        refine lv_iconst (v := 0) hx hb d_M_choose_72 (by decide) ?_
        exact ret_i (v := 0) hx hb hr hlocks hP hK hD hS d_M_choose_73 (by simp [q_if, -Int64.toInt32_mul, -Int64.toInt32_add, -Int64.toInt32_sub, c1, c2, c3])
      · have c3 : w = 1 := c3
        refine lv_iconst (v := 1) hx hb d_M_choose_68 (by decide) ?_
        refine lv_goto (tgt := 73) hx hb d_M_choose_69 (by decide) ?_
        exact ret_i (v := 1) hx hb hr hlocks hP hK hD hS d_M_choose_73 (by simp [q_if, -Int64.toInt32_mul, -Int64.toInt32_add, -Int64.toInt32_sub, c1, c2, c3])
    · have c2 : r_ph r (ix e) = 1 := c2
      refine lv_iload_n hx hb d_M_choose_40 rfl (lv_at hl 3 rfl) ?_
      refine lv_iconst (v := 1) hx hb d_M_choose_41 (by decide) ?_
      refine lv_icmp_ne (tgt := 55) hx hb d_M_choose_42 (by decide) (fun c4 => ?_) (fun c4 => ?_)
      · have c4 : ¬ w = 1 := c4
        refine lv_aload_n hx hb d_M_choose_55 rfl (lv_at hl 1 rfl) ?_
        refine lv_iload_n hx hb d_M_choose_56 rfl (lv_at hl 2 rfl) ?_
        refine lv_iconst (v := 2) hx hb d_M_choose_57 (by decide) ?_
        refine lv_iconst (v := 3) hx hb d_M_choose_58 (by decide) ?_
        refine call_i (As := [.int e, .int 2, .int 3]) (rest := []) (ci := 3) (q0 := 0) (c_M_first l dC dI b h Y r e 2 3 he (in3 he in_23) hp kz) k_460 k_462 s_M_first k_4 k_463 ⟨rfl, pc_M_first.1, pc_M_first.2, pd_M_first⟩ rfl rfl rfl rfl rfl (rm_le (by omega) (by decide)) (Nat.le_of_ble_eq_true rfl) rfl hx hb hml hown ht hl.1 hP hK hD hS hA hN d_M_choose_59 (fun r5 u6 H locs q7 hP hD hS => ?_)
        have hP : va_P (dC, dI) vwCl (wR b h Y u6) H := hP
        have hD : va_D A (wR b h Y u6) := hD
        exact ret_i (v := r5) hx hb hr hlocks hP hK hD hS d_M_choose_62 (by (try simp only [c2] at q7); simp [q_if, -Int64.toInt32_mul, -Int64.toInt32_add, -Int64.toInt32_sub, c1, c2, c4, q7])
      · have c4 : w = 1 := c4
        refine lv_aload_n hx hb d_M_choose_45 rfl (lv_at hl 1 rfl) ?_
        refine lv_iload_n hx hb d_M_choose_46 rfl (lv_at hl 2 rfl) ?_
        refine lv_iconst (v := 1) hx hb d_M_choose_47 (by decide) ?_
        refine lv_iconst (v := 2) hx hb d_M_choose_48 (by decide) ?_
        refine call_i (As := [.int e, .int 1, .int 2]) (rest := []) (ci := 3) (q0 := 0) (c_M_first l dC dI b h Y r e 1 2 he (in3 he in_13) hp ky) k_460 k_462 s_M_first k_4 k_463 ⟨rfl, pc_M_first.1, pc_M_first.2, pd_M_first⟩ rfl rfl rfl rfl rfl (rm_le (by omega) (by decide)) (Nat.le_of_ble_eq_true rfl) rfl hx hb hml hown ht hl.1 hP hK hD hS hA hN d_M_choose_49 (fun r8 u9 H locs q10 hP hD hS => ?_)
        have hP : va_P (dC, dI) vwCl (wR b h Y u9) H := hP
        have hD : va_D A (wR b h Y u9) := hD
        refine lv_goto (tgt := 62) hx hb d_M_choose_52 (by decide) ?_
        exact ret_i (v := r8) hx hb hr hlocks hP hK hD hS d_M_choose_62 (by (try simp only [c2, c4] at q10); simp [q_if, -Int64.toInt32_mul, -Int64.toInt32_add, -Int64.toInt32_sub, c1, c2, c4, q10])
  · have c1 : w = 0 := c1
    refine lv_iload_n hx hb d_M_choose_11 rfl (lv_at hl 0 rfl) ?_
    refine lv_if_ne (tgt := 25) hx hb d_M_choose_12 (by decide) (fun c11 => ?_) (fun c11 => ?_)
    · have c11 : ¬ r_ph r (ix e) = 0 := c11
      refine lv_aload_n hx hb d_M_choose_25 rfl (lv_at hl 1 rfl) ?_
      refine lv_iload_n hx hb d_M_choose_26 rfl (lv_at hl 2 rfl) ?_
      refine lv_iload_n hx hb d_M_choose_27 rfl (lv_at hl 0 rfl) ?_
      refine lv_iconst (v := 1) hx hb d_M_choose_28 (by decide) ?_
      refine lv_isub hx hb d_M_choose_29 ?_
      refine lv_iload_n hx hb d_M_choose_30 rfl (lv_at hl 0 rfl) ?_
      refine call_i (As := [.int e, .int (r_ph r (ix e) - 1), .int (r_ph r (ix e))]) (rest := []) (ci := 3) (q0 := 0) (c_M_ask l dC dI b h Y r e (r_ph r (ix e) - 1) (r_ph r (ix e)) he (in3 he (ph_1 (kh c1) c11)) hp) k_464 k_466 s_M_ask k_4 k_467 ⟨rfl, pc_M_ask.1, pc_M_ask.2, pd_M_ask⟩ rfl rfl rfl rfl rfl (rm_le (by omega) (by decide)) (Nat.le_of_ble_eq_true rfl) rfl hx hb hml hown ht hl.1 hP hK hD hS hA hN d_M_choose_31 (fun r12 u13 H locs q14 hP hD hS => ?_)
      have hP : va_P (dC, dI) vwCl (wR b h Y u13) H := hP
      have hD : va_D A (wR b h Y u13) := hD
      exact ret_i (v := r12) hx hb hr hlocks hP hK hD hS d_M_choose_34 (by (try simp only [c1] at q14); simp [q_if, -Int64.toInt32_mul, -Int64.toInt32_add, -Int64.toInt32_sub, c1, c11, q14])
    · have c11 : r_ph r (ix e) = 0 := c11
      refine lv_aload_n hx hb d_M_choose_15 rfl (lv_at hl 1 rfl) ?_
      refine lv_iload_n hx hb d_M_choose_16 rfl (lv_at hl 2 rfl) ?_
      refine lv_iconst (v := 0) hx hb d_M_choose_17 (by decide) ?_
      refine lv_iconst (v := 1) hx hb d_M_choose_18 (by decide) ?_
      refine call_i (As := [.int e, .int 0, .int 1]) (rest := []) (ci := 3) (q0 := 0) (c_M_first l dC dI b h Y r e 0 1 he (in3 he in_03) hp kx) k_460 k_462 s_M_first k_4 k_463 ⟨rfl, pc_M_first.1, pc_M_first.2, pd_M_first⟩ rfl rfl rfl rfl rfl (rm_le (by omega) (by decide)) (Nat.le_of_ble_eq_true rfl) rfl hx hb hml hown ht hl.1 hP hK hD hS hA hN d_M_choose_19 (fun r15 u16 H locs q17 hP hD hS => ?_)
      have hP : va_P (dC, dI) vwCl (wR b h Y u16) H := hP
      have hD : va_D A (wR b h Y u16) := hD
      refine lv_goto (tgt := 34) hx hb d_M_choose_22 (by decide) ?_
      exact ret_i (v := r15) hx hb hr hlocks hP hK hD hS d_M_choose_34 (by (try simp only [c1, c11] at q17); simp [q_if, -Int64.toInt32_mul, -Int64.toInt32_add, -Int64.toInt32_sub, c1, c11, q17])
set_option maxRecDepth 100000 in
set_option maxHeartbeats 4000000 in
theorem c_M_step (l : Launch) (dC : Nat → ClassId) (dI : Nat → Nat → Nat) (b : Nat → Nat) (h : Nat → ClassId) (Y : zY) (r : zR) (e : Int32) (w : Int32) (he : vp_in e 60) (hp : Tp r) (ho : q_ok (y_T Y) e w r) : MetI l y_M_step w_M_step (rmN (4)) dC dI (yY h) (wR b h Y) [.ref (b 0), .int e, .int w] r (fun z9 u9 => q_step (y_T Y) e w r = (z9, u9)) := by
  refine metI_of (cc := b_M_step) (maxL := 4) (ret := (some .int)) (by decide) rfl (Nat.le_of_ble_eq_true rfl) ?_
  intro p e9 s9 m args below meth c A ls hx hb hr hts hown hlocks hml hA hP hK hD hS hN hl
  have ht : ∀ w ∈ lw_g, w.before args s9 = true := fun w h => hts w (List.mem_cons_of_mem _ h)
  have hl : lv_has ls 4 [(0, .ref (b 0)), (1, .int e), (2, .int w)] := hl
  refine lv_aload_n hx hb d_M_step_0 rfl (lv_at hl 0 rfl) ?_
  refine va_get (D := (dC, dI)) (ci := 3) (v := .ref (b 1)) (C := R_M) (T := T_M) (N := 20) hx hb ht in_M hown hK hP 0 rfl rfl 1 (by decide) (ht _ k_328) (fun _ h => h) rfl d_M_step_1 ?_
  refine lv_iload_n hx hb d_M_step_4 rfl (lv_at hl 1 rfl) ?_
  refine va_iald hx hb hK hP 1 0 rfl rfl he d_M_step_5 ?_
  refine lv_istore_n hx hb d_M_step_6 rfl hl (by decide) (lv' := [(3, .int (t_k (y_T Y) (ix e))), (0, .ref (b 0)), (1, .int e), (2, .int w)]) rfl (fun ls hl => ?_)
  refine lv_iload_n hx hb d_M_step_7 rfl (lv_at hl 0 rfl) ?_
  refine lv_bipush (v := 10) hx hb d_M_step_8 (by decide) ?_
  refine lv_icmp_ge (tgt := 19) hx hb d_M_step_10 (by decide) (fun c1 => ?_) (fun c1 => ?_)
  · have c1 : ¬ t_k (y_T Y) (ix e) < 10 := Int32.not_lt.mpr c1
    refine lv_iload_n hx hb d_M_step_19 rfl (lv_at hl 0 rfl) ?_
    refine lv_bipush (v := 20) hx hb d_M_step_20 (by decide) ?_
    refine lv_icmp_ge (tgt := 32) hx hb d_M_step_22 (by decide) (fun c2 => ?_) (fun c2 => ?_)
    · have c2 : ¬ t_k (y_T Y) (ix e) < 20 := Int32.not_lt.mpr c2
      refine lv_iload_n hx hb d_M_step_32 rfl (lv_at hl 0 rfl) ?_
      refine lv_bipush (v := 21) hx hb d_M_step_33 (by decide) ?_
      refine lv_icmp_lt (tgt := 51) hx hb d_M_step_35 (by decide) (fun c3 => ?_) (fun c3 => ?_)
      · have c3 : t_k (y_T Y) (ix e) < 21 := c3
        refine lv_iload_n hx hb d_M_step_51 rfl (lv_at hl 0 rfl) ?_
        refine lv_bipush (v := 40) hx hb d_M_step_52 (by decide) ?_
        refine lv_icmp_ge (tgt := 64) hx hb d_M_step_54 (by decide) (fun c4 => ?_) (fun c4 => ?_)
        · have c4 : ¬ t_k (y_T Y) (ix e) < 40 := Int32.not_lt.mpr c4
          refine lv_iload_n hx hb d_M_step_64 rfl (lv_at hl 0 rfl) ?_
          refine lv_bipush (v := 40) hx hb d_M_step_65 (by decide) ?_
          refine lv_icmp_ne (tgt := 79) hx hb d_M_step_67 (by decide) (fun c5 => ?_) (fun c5 => ?_)
          · have c5 : ¬ t_k (y_T Y) (ix e) = 40 := c5
            refine lv_aload_n hx hb d_M_step_79 rfl (lv_at hl 1 rfl) ?_
            refine lv_iload_n hx hb d_M_step_80 rfl (lv_at hl 2 rfl) ?_
            refine lv_iload_n hx hb d_M_step_81 rfl (lv_at hl 3 rfl) ?_
            refine call_i (As := [.int e, .int w]) (rest := []) (ci := 3) (q0 := 0) (c_M_choose l dC dI b h Y r e w he hp (ho.2.2.2.1 c1) (ho.2.2.2.2.1 c2) (ho.2.2.2.2.2.1 c4) (ho.2.2.2.2.2.2.2.1 c4 c5)) k_488 k_490 s_M_choose k_4 k_491 ⟨rfl, pc_M_choose.1, pc_M_choose.2, pd_M_choose⟩ rfl rfl rfl rfl rfl (rm_le (by omega) (by decide)) (Nat.le_of_ble_eq_true rfl) rfl hx hb hml hown ht hl.1 hP hK hD hS hA hN d_M_step_82 (fun r6 u7 H locs q8 hP hD hS => ?_)
            have hP : va_P (dC, dI) vwCl (wR b h Y u7) H := hP
            have hD : va_D A (wR b h Y u7) := hD
            exact ret_i (v := r6) hx hb hr hlocks hP hK hD hS d_M_step_85 (by simp [q_step, -Int64.toInt32_mul, -Int64.toInt32_add, -Int64.toInt32_sub, c1, c2, c3, c4, c5, Int32.not_lt.mp c1, Int32.not_lt.mp c2, Int32.not_le.mpr c3, Int32.not_lt.mp c4, q8])
          · have c5 : t_k (y_T Y) (ix e) = 40 := c5
            refine lv_aload_n hx hb d_M_step_70 rfl (lv_at hl 1 rfl) ?_
            refine lv_iload_n hx hb d_M_step_71 rfl (lv_at hl 2 rfl) ?_
            refine lv_iload_n hx hb d_M_step_72 rfl (lv_at hl 3 rfl) ?_
            refine call_i (As := [.int e, .int w]) (rest := []) (ci := 3) (q0 := 0) (c_M_toStep l dC dI b h Y r e w he hp (ho.2.2.2.1 c1) (ho.2.2.2.2.1 c2) (ho.2.2.2.2.2.1 c4) (ho.2.2.2.2.2.2.2.2 c5)) k_480 k_482 s_M_toStep k_4 k_483 ⟨rfl, pc_M_toStep.1, pc_M_toStep.2, pd_M_toStep⟩ rfl rfl rfl rfl rfl (rm_le (by omega) (by decide)) (Nat.le_of_ble_eq_true rfl) rfl hx hb hml hown ht hl.1 hP hK hD hS hA hN d_M_step_73 (fun r9 u10 H locs q11 hP hD hS => ?_)
            have hP : va_P (dC, dI) vwCl (wR b h Y u10) H := hP
            have hD : va_D A (wR b h Y u10) := hD
            refine lv_goto (tgt := 85) hx hb d_M_step_76 (by decide) ?_
            exact ret_i (v := r9) hx hb hr hlocks hP hK hD hS d_M_step_85 (by (try simp only [c5] at q11); simp [q_step, -Int64.toInt32_mul, -Int64.toInt32_add, -Int64.toInt32_sub, c1, c2, c3, c4, c5, Int32.not_lt.mp c1, Int32.not_lt.mp c2, Int32.not_le.mpr c3, Int32.not_lt.mp c4, q11])
        · have c4 : t_k (y_T Y) (ix e) < 40 := Int32.not_le.mp c4
          refine lv_aload_n hx hb d_M_step_57 rfl (lv_at hl 1 rfl) ?_
          refine lv_iload_n hx hb d_M_step_58 rfl (lv_at hl 2 rfl) ?_
          refine lv_iload_n hx hb d_M_step_59 rfl (lv_at hl 3 rfl) ?_
          refine call_i (As := [.int e, .int w]) (rest := []) (ci := 3) (q0 := 0) (c_M_binaryStep l dC dI b h Y r e w he hp (ho.2.2.2.1 c1) (ho.2.2.2.2.1 c2) ho.2.2.2.2.2.2.1) k_472 k_474 s_M_binaryStep k_4 k_475 ⟨rfl, pc_M_binaryStep.1, pc_M_binaryStep.2, pd_M_binaryStep⟩ rfl rfl rfl rfl rfl (rm_le (by omega) (by decide)) (Nat.le_of_ble_eq_true rfl) rfl hx hb hml hown ht hl.1 hP hK hD hS hA hN d_M_step_60 (fun r12 u13 H locs q14 hP hD hS => ?_)
          have hP : va_P (dC, dI) vwCl (wR b h Y u13) H := hP
          have hD : va_D A (wR b h Y u13) := hD
          exact ret_i (v := r12) hx hb hr hlocks hP hK hD hS d_M_step_63 (by simp [q_step, -Int64.toInt32_mul, -Int64.toInt32_add, -Int64.toInt32_sub, c1, c2, c3, c4, Int32.not_lt.mp c1, Int32.not_lt.mp c2, Int32.not_le.mpr c3, Int32.not_le.mpr c4, q14])
      · have c3 : ¬ t_k (y_T Y) (ix e) < 21 := c3
        refine lv_iload_n hx hb d_M_step_38 rfl (lv_at hl 0 rfl) ?_
        refine lv_bipush (v := 27) hx hb d_M_step_39 (by decide) ?_
        refine lv_icmp_gt (tgt := 51) hx hb d_M_step_41 (by decide) (fun c15 => ?_) (fun c15 => ?_)
        · have c15 : (27 : Int32) < t_k (y_T Y) (ix e) := c15
          refine lv_iload_n hx hb d_M_step_51 rfl (lv_at hl 0 rfl) ?_
          refine lv_bipush (v := 40) hx hb d_M_step_52 (by decide) ?_
          refine lv_icmp_ge (tgt := 64) hx hb d_M_step_54 (by decide) (fun c16 => ?_) (fun c16 => ?_)
          · have c16 : ¬ t_k (y_T Y) (ix e) < 40 := Int32.not_lt.mpr c16
            refine lv_iload_n hx hb d_M_step_64 rfl (lv_at hl 0 rfl) ?_
            refine lv_bipush (v := 40) hx hb d_M_step_65 (by decide) ?_
            refine lv_icmp_ne (tgt := 79) hx hb d_M_step_67 (by decide) (fun c17 => ?_) (fun c17 => ?_)
            · have c17 : ¬ t_k (y_T Y) (ix e) = 40 := c17
              refine lv_aload_n hx hb d_M_step_79 rfl (lv_at hl 1 rfl) ?_
              refine lv_iload_n hx hb d_M_step_80 rfl (lv_at hl 2 rfl) ?_
              refine lv_iload_n hx hb d_M_step_81 rfl (lv_at hl 3 rfl) ?_
              refine call_i (As := [.int e, .int w]) (rest := []) (ci := 3) (q0 := 0) (c_M_choose l dC dI b h Y r e w he hp (ho.2.2.2.1 c1) (ho.2.2.2.2.1 c2) (ho.2.2.2.2.2.1 c16) (ho.2.2.2.2.2.2.2.1 c16 c17)) k_488 k_490 s_M_choose k_4 k_491 ⟨rfl, pc_M_choose.1, pc_M_choose.2, pd_M_choose⟩ rfl rfl rfl rfl rfl (rm_le (by omega) (by decide)) (Nat.le_of_ble_eq_true rfl) rfl hx hb hml hown ht hl.1 hP hK hD hS hA hN d_M_step_82 (fun r18 u19 H locs q20 hP hD hS => ?_)
              have hP : va_P (dC, dI) vwCl (wR b h Y u19) H := hP
              have hD : va_D A (wR b h Y u19) := hD
              exact ret_i (v := r18) hx hb hr hlocks hP hK hD hS d_M_step_85 (by simp [q_step, -Int64.toInt32_mul, -Int64.toInt32_add, -Int64.toInt32_sub, c1, c2, c3, c15, c16, c17, Int32.not_lt.mp c1, Int32.not_lt.mp c2, Int32.not_lt.mp c3, Int32.not_le.mpr c15, Int32.not_lt.mp c16, q20])
            · have c17 : t_k (y_T Y) (ix e) = 40 := c17
              refine lv_aload_n hx hb d_M_step_70 rfl (lv_at hl 1 rfl) ?_
              refine lv_iload_n hx hb d_M_step_71 rfl (lv_at hl 2 rfl) ?_
              refine lv_iload_n hx hb d_M_step_72 rfl (lv_at hl 3 rfl) ?_
              refine call_i (As := [.int e, .int w]) (rest := []) (ci := 3) (q0 := 0) (c_M_toStep l dC dI b h Y r e w he hp (ho.2.2.2.1 c1) (ho.2.2.2.2.1 c2) (ho.2.2.2.2.2.1 c16) (ho.2.2.2.2.2.2.2.2 c17)) k_480 k_482 s_M_toStep k_4 k_483 ⟨rfl, pc_M_toStep.1, pc_M_toStep.2, pd_M_toStep⟩ rfl rfl rfl rfl rfl (rm_le (by omega) (by decide)) (Nat.le_of_ble_eq_true rfl) rfl hx hb hml hown ht hl.1 hP hK hD hS hA hN d_M_step_73 (fun r21 u22 H locs q23 hP hD hS => ?_)
              have hP : va_P (dC, dI) vwCl (wR b h Y u22) H := hP
              have hD : va_D A (wR b h Y u22) := hD
              refine lv_goto (tgt := 85) hx hb d_M_step_76 (by decide) ?_
              exact ret_i (v := r21) hx hb hr hlocks hP hK hD hS d_M_step_85 (by (try simp only [c17] at q23); simp [q_step, -Int64.toInt32_mul, -Int64.toInt32_add, -Int64.toInt32_sub, c1, c2, c3, c15, c16, c17, Int32.not_lt.mp c1, Int32.not_lt.mp c2, Int32.not_lt.mp c3, Int32.not_le.mpr c15, Int32.not_lt.mp c16, q23])
          · have c16 : t_k (y_T Y) (ix e) < 40 := Int32.not_le.mp c16
            refine lv_aload_n hx hb d_M_step_57 rfl (lv_at hl 1 rfl) ?_
            refine lv_iload_n hx hb d_M_step_58 rfl (lv_at hl 2 rfl) ?_
            refine lv_iload_n hx hb d_M_step_59 rfl (lv_at hl 3 rfl) ?_
            refine call_i (As := [.int e, .int w]) (rest := []) (ci := 3) (q0 := 0) (c_M_binaryStep l dC dI b h Y r e w he hp (ho.2.2.2.1 c1) (ho.2.2.2.2.1 c2) ho.2.2.2.2.2.2.1) k_472 k_474 s_M_binaryStep k_4 k_475 ⟨rfl, pc_M_binaryStep.1, pc_M_binaryStep.2, pd_M_binaryStep⟩ rfl rfl rfl rfl rfl (rm_le (by omega) (by decide)) (Nat.le_of_ble_eq_true rfl) rfl hx hb hml hown ht hl.1 hP hK hD hS hA hN d_M_step_60 (fun r24 u25 H locs q26 hP hD hS => ?_)
            have hP : va_P (dC, dI) vwCl (wR b h Y u25) H := hP
            have hD : va_D A (wR b h Y u25) := hD
            exact ret_i (v := r24) hx hb hr hlocks hP hK hD hS d_M_step_63 (by simp [q_step, -Int64.toInt32_mul, -Int64.toInt32_add, -Int64.toInt32_sub, c1, c2, c3, c15, c16, Int32.not_lt.mp c1, Int32.not_lt.mp c2, Int32.not_lt.mp c3, Int32.not_le.mpr c15, Int32.not_le.mpr c16, q26])
        · have c15 : ¬ (27 : Int32) < t_k (y_T Y) (ix e) := c15
          refine lv_aload_n hx hb d_M_step_44 rfl (lv_at hl 1 rfl) ?_
          refine lv_iload_n hx hb d_M_step_45 rfl (lv_at hl 2 rfl) ?_
          refine lv_iload_n hx hb d_M_step_46 rfl (lv_at hl 3 rfl) ?_
          refine call_i (As := [.int e, .int w]) (rest := []) (ci := 3) (q0 := 0) (c_M_pairStep l dC dI b h Y r e w he hp (ho.2.2.2.1 c1) (ho.2.2.2.2.1 c2)) k_468 k_470 s_M_pairStep k_4 k_471 ⟨rfl, pc_M_pairStep.1, pc_M_pairStep.2, pd_M_pairStep⟩ rfl rfl rfl rfl rfl (rm_le (by omega) (by decide)) (Nat.le_of_ble_eq_true rfl) rfl hx hb hml hown ht hl.1 hP hK hD hS hA hN d_M_step_47 (fun r27 u28 H locs q29 hP hD hS => ?_)
          have hP : va_P (dC, dI) vwCl (wR b h Y u28) H := hP
          have hD : va_D A (wR b h Y u28) := hD
          exact ret_i (v := r27) hx hb hr hlocks hP hK hD hS d_M_step_50 (by simp [q_step, -Int64.toInt32_mul, -Int64.toInt32_add, -Int64.toInt32_sub, c1, c2, c3, c15, Int32.not_lt.mp c1, Int32.not_lt.mp c2, Int32.not_lt.mp c3, Int32.not_lt.mp c15, q29])
    · have c2 : t_k (y_T Y) (ix e) < 20 := Int32.not_le.mp c2
      refine lv_aload_n hx hb d_M_step_25 rfl (lv_at hl 1 rfl) ?_
      refine lv_iload_n hx hb d_M_step_26 rfl (lv_at hl 2 rfl) ?_
      refine lv_iload_n hx hb d_M_step_27 rfl (lv_at hl 3 rfl) ?_
      refine call_i (As := [.int e, .int w]) (rest := []) (ci := 3) (q0 := 0) (c_M_unaryStep l dC dI b h Y r e w he hp (ho.2.2.2.1 c1) ho.2.2.1 ho.1) k_456 k_458 s_M_unaryStep k_4 k_459 ⟨rfl, pc_M_unaryStep.1, pc_M_unaryStep.2, pd_M_unaryStep⟩ rfl rfl rfl rfl rfl (rm_le (by omega) (by decide)) (Nat.le_of_ble_eq_true rfl) rfl hx hb hml hown ht hl.1 hP hK hD hS hA hN d_M_step_28 (fun r30 u31 H locs q32 hP hD hS => ?_)
      have hP : va_P (dC, dI) vwCl (wR b h Y u31) H := hP
      have hD : va_D A (wR b h Y u31) := hD
      exact ret_i (v := r30) hx hb hr hlocks hP hK hD hS d_M_step_31 (by simp [q_step, -Int64.toInt32_mul, -Int64.toInt32_add, -Int64.toInt32_sub, c1, c2, Int32.not_lt.mp c1, Int32.not_le.mpr c2, q32])
  · have c1 : t_k (y_T Y) (ix e) < 10 := Int32.not_le.mp c1
    refine lv_aload_n hx hb d_M_step_13 rfl (lv_at hl 1 rfl) ?_
    refine lv_iload_n hx hb d_M_step_14 rfl (lv_at hl 2 rfl) ?_
    refine call_i (As := [.int e]) (rest := []) (ci := 3) (q0 := 0) (c_M_leafStep l dC dI b h Y r e he (ho.2.1 c1)) k_444 k_446 s_M_leafStep k_4 k_447 ⟨rfl, pc_M_leafStep.1, pc_M_leafStep.2, pd_M_leafStep⟩ rfl rfl rfl rfl rfl (rm_le (by omega) (by decide)) (Nat.le_of_ble_eq_true rfl) rfl hx hb hml hown ht hl.1 hP hK hD hS hA hN d_M_step_15 (fun r33 u34 H locs q35 hP hD hS => ?_)
    have hP : va_P (dC, dI) vwCl (wR b h Y u34) H := hP
    have hD : va_D A (wR b h Y u34) := hD
    exact ret_i (v := r33) hx hb hr hlocks hP hK hD hS d_M_step_18 (by simp [q_step, -Int64.toInt32_mul, -Int64.toInt32_add, -Int64.toInt32_sub, c1, Int32.not_le.mpr c1, q35])
