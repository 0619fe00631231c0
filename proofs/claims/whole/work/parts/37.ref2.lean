set_option maxRecDepth 100000 in
set_option maxHeartbeats 4000000 in
theorem c_M_within (l : Launch) (dC : Nat → ClassId) (dI : Nat → Nat → Nat) (b : Nat → Nat) (h : Nat → ClassId) (Y : zY) (x : Int32) (lo : Int32) (hi : Int32) : MetI l y_M_within w_M_within (rmN (0)) dC dI (yY h) (wY b h) [.int x, .int lo, .int hi] Y (fun z9 u9 => (p_with x lo hi = true ∧ z9 = 1 ∨ p_with x lo hi = false ∧ z9 = 0) ∧ u9 = Y) := by
  refine metI_of (cc := b_M_within) (maxL := 3) (ret := (some .boolean)) (by decide) rfl (Nat.le_of_ble_eq_true rfl) ?_
  intro p e9 s9 m args below meth c A ls hx hb hr hts hown hlocks hml hA hP hK hD hS hN hl
  have ht : ∀ w ∈ lw_g, w.before args s9 = true := fun w h => hts w (List.mem_cons_of_mem _ h)
  have hl : lv_has ls 3 [(0, .int x), (1, .int lo), (2, .int hi)] := hl
  refine lv_iload_n hx hb d_M_within_0 rfl (lv_at hl 0 rfl) ?_
  refine lv_iload_n hx hb d_M_within_1 rfl (lv_at hl 1 rfl) ?_
  refine lv_icmp_lt (tgt := 14) hx hb d_M_within_2 (by decide) (fun c1 => ?_) (fun c1 => ?_)
  · have c1 : x < lo := c1
    refine lv_iconst (v := 0) hx hb d_M_within_14 (by decide) ?_
    exact ret_z hx hb hr hlocks hP hK hD hS d_M_within_15 rfl ⟨Or.inr ⟨by simp only [p_with, c1, if_true, if_false, Bool.false_eq_true, reduceIte], rfl⟩, rfl⟩
  · have c1 : ¬ x < lo := c1
    refine lv_iload_n hx hb d_M_within_5 rfl (lv_at hl 0 rfl) ?_
    refine lv_iload_n hx hb d_M_within_6 rfl (lv_at hl 2 rfl) ?_
    refine lv_icmp_gt (tgt := 14) hx hb d_M_within_7 (by decide) (fun c2 => ?_) (fun c2 => ?_)
    · have c2 : hi < x := c2
      refine lv_iconst (v := 0) hx hb d_M_within_14 (by decide) ?_
      exact ret_z hx hb hr hlocks hP hK hD hS d_M_within_15 rfl ⟨Or.inr ⟨by simp only [p_with, c1, c2, if_true, if_false, Bool.false_eq_true, reduceIte], rfl⟩, rfl⟩
    · have c2 : ¬ hi < x := c2
      refine lv_iconst (v := 1) hx hb d_M_within_10 (by decide) ?_
      refine lv_goto (tgt := 15) hx hb d_M_within_11 (by decide) ?_
      exact ret_z hx hb hr hlocks hP hK hD hS d_M_within_15 rfl ⟨Or.inl ⟨by simp only [p_with, c1, c2, if_true, if_false, Bool.false_eq_true, reduceIte], rfl⟩, rfl⟩
set_option maxRecDepth 100000 in
set_option maxHeartbeats 4000000 in
theorem c_M_is (l : Launch) (dC : Nat → ClassId) (dI : Nat → Nat → Nat) (b : Nat → Nat) (h : Nat → ClassId) (Y : zY) (x : Int32) : MetI l y_M_is w_M_is (rmN (1)) dC dI (yY h) (wY b h) [.ref (b 0), .int x] Y (fun z9 u9 => (p_with x 0 (y_n Y - 1) = true ∧ z9 = 1 ∨ p_with x 0 (y_n Y - 1) = false ∧ z9 = 0) ∧ u9 = Y) := by
  refine metI_of (cc := b_M_is) (maxL := 2) (ret := (some .boolean)) (by decide) rfl (Nat.le_of_ble_eq_true rfl) ?_
  intro p e9 s9 m args below meth c A ls hx hb hr hts hown hlocks hml hA hP hK hD hS hN hl
  have ht : ∀ w ∈ lw_g, w.before args s9 = true := fun w h => hts w (List.mem_cons_of_mem _ h)
  have hl : lv_has ls 2 [(0, .ref (b 0)), (1, .int x)] := hl
  refine lv_iload_n hx hb d_M_is_0 rfl (lv_at hl 1 rfl) ?_
  refine lv_iconst (v := 0) hx hb d_M_is_1 (by decide) ?_
  refine lv_aload_n hx hb d_M_is_2 rfl (lv_at hl 0 rfl) ?_
  refine va_get (D := (dC, dI)) (ci := 3) (v := .int (y_n Y)) (C := R_M) (T := T_M) (N := 20) hx hb ht in_M hown hK hP 0 rfl rfl 0 (by decide) (ht _ k_327) (fun _ h => h) rfl d_M_is_3 ?_
  refine lv_iconst (v := 1) hx hb d_M_is_6 (by decide) ?_
  refine lv_isub hx hb d_M_is_7 ?_
  refine call_s (As := [.int x, .int 0, .int (y_n Y - 1)]) (rest := []) (c_M_within l dC dI b h Y x 0 (y_n Y - 1)) k_392 k_393 k_4 k_394 ⟨rfl, pc_M_within.1, pc_M_within.2, pd_M_within⟩ rfl rfl (rm_le (by omega) (by decide)) (Nat.le_of_ble_eq_true rfl) rfl hx hb hml hown ht hl.1 hP hK hD hS hA hN d_M_is_8 (fun r1 u2 H locs q3 hP hD hS => ?_)
  obtain ⟨⟨b4, rfl⟩ | ⟨b4, rfl⟩, q3⟩ := q3
  · rw [q3] at hP hD
    have hP : va_P (dC, dI) vwCl (wY b h Y) H := hP
    have hD : va_D A (wY b h Y) := hD
    exact ret_z hx hb hr hlocks hP hK hD hS d_M_is_11 rfl ⟨Or.inl ⟨by exact b4, rfl⟩, rfl⟩
  · rw [q3] at hP hD
    have hP : va_P (dC, dI) vwCl (wY b h Y) H := hP
    have hD : va_D A (wY b h Y) := hD
    exact ret_z hx hb hr hlocks hP hK hD hS d_M_is_11 rfl ⟨Or.inr ⟨by exact b4, rfl⟩, rfl⟩
set_option maxRecDepth 100000 in
set_option maxHeartbeats 4000000 in
theorem c_M_make (l : Launch) (dC : Nat → ClassId) (dI : Nat → Nat → Nat) (b : Nat → Nat) (h : Nat → ClassId) (Y : zY) (kd : Int32) (v : Int32) (x : Int32) (y : Int32) (z : Int32) (dp : Int32) (jn : vp_in (y_n Y) 60) (jx : ¬ x < 0 → vp_in x 60) (jy : ¬ y < 0 → vp_in y 60) (jz : ¬ z < 0 → vp_in z 60) : MetI l y_M_make w_M_make (rmN (0)) dC dI (yY h) (wY b h) [.ref (b 0), .int kd, .int v, .int x, .int y, .int z, .int dp] Y (fun z9 u9 => m_make Y kd v x y z dp = (z9, u9)) := by
  refine metI_of (cc := b_M_make) (maxL := 8) (ret := (some .int)) (by decide) rfl (Nat.le_of_ble_eq_true rfl) ?_
  intro p e9 s9 m args below meth c A ls hx hb hr hts hown hlocks hml hA hP hK hD hS hN hl
  have ht : ∀ w ∈ lw_g, w.before args s9 = true := fun w h => hts w (List.mem_cons_of_mem _ h)
  have hl : lv_has ls 8 [(0, .ref (b 0)), (1, .int kd), (2, .int v), (3, .int x), (4, .int y), (5, .int z), (6, .int dp)] := hl
  refine lv_aload_n hx hb d_M_make_0 rfl (lv_at hl 0 rfl) ?_
  refine va_get (D := (dC, dI)) (ci := 3) (v := .int (y_n Y)) (C := R_M) (T := T_M) (N := 20) hx hb ht in_M hown hK hP 0 rfl rfl 0 (by decide) (ht _ k_327) (fun _ h => h) rfl d_M_make_1 ?_
  refine lv_istore hx hb d_M_make_4 hl (by decide) (lv' := [(7, .int (y_n Y)), (0, .ref (b 0)), (1, .int kd), (2, .int v), (3, .int x), (4, .int y), (5, .int z), (6, .int dp)]) rfl (fun ls hl => ?_)
  refine lv_aload_n hx hb d_M_make_6 rfl (lv_at hl 1 rfl) ?_
  refine lv_dup hx hb d_M_make_7 rfl ?_
  refine va_get (D := (dC, dI)) (ci := 3) (v := .int (y_n Y)) (C := R_M) (T := T_M) (N := 20) hx hb ht in_M hown hK hP 0 rfl rfl 0 (by decide) (ht _ k_327) (fun _ h => h) rfl d_M_make_8 ?_
  refine lv_iconst (v := 1) hx hb d_M_make_11 (by decide) ?_
  refine lv_iadd hx hb d_M_make_12 ?_
  refine va_put (D := (dC, dI)) (ci := 3) (v := .int (y_n Y + 1)) (ty := .int) (C := R_M) (T := T_M) (N := 20) hx hb ht in_M t_M t_M_ok n_M hown hK hP hD hS 0 rfl rfl 0 (by decide) (ht _ k_327) (fun _ h => h) rfl (by decide +kernel) rfl rfl (Nat.le_of_ble_eq_true rfl) d_M_make_13 (fun H locs hP hD hS => ?_)
  have hP : va_P (dC, dI) vwCl (wY b h (Y_n Y (y_n Y + 1))) H := cP_Y_n hP
  have hD : va_D A (wY b h (Y_n Y (y_n Y + 1))) := cD_Y_n hD
  refine lv_aload_n hx hb d_M_make_16 rfl (lv_at hl 1 rfl) ?_
  refine va_get (D := (dC, dI)) (ci := 3) (v := .ref (b 1)) (C := R_M) (T := T_M) (N := 20) hx hb ht in_M hown hK hP 0 rfl rfl 1 (by decide) (ht _ k_328) (fun _ h => h) rfl d_M_make_17 ?_
  refine lv_iload hx hb d_M_make_20 (lv_at hl 0 rfl) ?_
  refine lv_iload_n hx hb d_M_make_22 rfl (lv_at hl 2 rfl) ?_
  refine va_iast hx hb hK hP hD hS 1 0 rfl rfl jn d_M_make_23 (fun H locs hP hD hS => ?_)
  have hP : va_P (dC, dI) vwCl (wY b h (Y_k (Y_n Y (y_n Y + 1)) (y_n Y) kd)) H := cP_Y_k hP
  have hD : va_D A (wY b h (Y_k (Y_n Y (y_n Y + 1)) (y_n Y) kd)) := cD_Y_k hD
  refine lv_aload_n hx hb d_M_make_24 rfl (lv_at hl 1 rfl) ?_
  refine va_get (D := (dC, dI)) (ci := 3) (v := .ref (b 2)) (C := R_M) (T := T_M) (N := 20) hx hb ht in_M hown hK hP 0 rfl rfl 2 (by decide) (ht _ k_329) (fun _ h => h) rfl d_M_make_25 ?_
  refine lv_iload hx hb d_M_make_28 (lv_at hl 0 rfl) ?_
  refine lv_iload_n hx hb d_M_make_30 rfl (lv_at hl 3 rfl) ?_
  refine va_iast hx hb hK hP hD hS 2 1 rfl rfl jn d_M_make_31 (fun H locs hP hD hS => ?_)
  have hP : va_P (dC, dI) vwCl (wY b h (Y_q (Y_k (Y_n Y (y_n Y + 1)) (y_n Y) kd) (fun r => u_nm r (y_n Y) v))) H := cP_Y_nm hP
  have hD : va_D A (wY b h (Y_q (Y_k (Y_n Y (y_n Y + 1)) (y_n Y) kd) (fun r => u_nm r (y_n Y) v))) := cD_Y_nm hD
  refine lv_aload_n hx hb d_M_make_32 rfl (lv_at hl 1 rfl) ?_
  refine va_get (D := (dC, dI)) (ci := 3) (v := .ref (b 3)) (C := R_M) (T := T_M) (N := 20) hx hb ht in_M hown hK hP 0 rfl rfl 3 (by decide) (ht _ k_330) (fun _ h => h) rfl d_M_make_33 ?_
  refine lv_iconst (v := 3) hx hb d_M_make_36 (by decide) ?_
  refine lv_iload hx hb d_M_make_37 (lv_at hl 0 rfl) ?_
  refine lv_imul hx hb d_M_make_39 ?_
  refine lv_iload_n hx hb d_M_make_40 rfl (lv_at hl 4 rfl) ?_
  refine va_iast hx hb hK hP hD hS 3 2 rfl rfl (in3_0 jn) d_M_make_41 (fun H locs hP hD hS => ?_)
  have hP : va_P (dC, dI) vwCl (wY b h (Y_p (Y_q (Y_k (Y_n Y (y_n Y + 1)) (y_n Y) kd) (fun r => u_nm r (y_n Y) v)) (3 * y_n Y) x)) H := cP_Y_p hP
  have hD : va_D A (wY b h (Y_p (Y_q (Y_k (Y_n Y (y_n Y + 1)) (y_n Y) kd) (fun r => u_nm r (y_n Y) v)) (3 * y_n Y) x)) := cD_Y_p hD
  refine lv_aload_n hx hb d_M_make_42 rfl (lv_at hl 1 rfl) ?_
  refine va_get (D := (dC, dI)) (ci := 3) (v := .ref (b 3)) (C := R_M) (T := T_M) (N := 20) hx hb ht in_M hown hK hP 0 rfl rfl 3 (by decide) (ht _ k_330) (fun _ h => h) rfl d_M_make_43 ?_
  refine lv_iconst (v := 3) hx hb d_M_make_46 (by decide) ?_
  refine lv_iload hx hb d_M_make_47 (lv_at hl 0 rfl) ?_
  refine lv_imul hx hb d_M_make_49 ?_
  refine lv_iconst (v := 1) hx hb d_M_make_50 (by decide) ?_
  refine lv_iadd hx hb d_M_make_51 ?_
  refine lv_iload hx hb d_M_make_52 (lv_at hl 5 rfl) ?_
  refine va_iast hx hb hK hP hD hS 3 2 rfl rfl (in3 jn in_13) d_M_make_54 (fun H locs hP hD hS => ?_)
  have hP : va_P (dC, dI) vwCl (wY b h (Y_p (Y_p (Y_q (Y_k (Y_n Y (y_n Y + 1)) (y_n Y) kd) (fun r => u_nm r (y_n Y) v)) (3 * y_n Y) x) ((3 * y_n Y) + 1) y)) H := cP_Y_p hP
  have hD : va_D A (wY b h (Y_p (Y_p (Y_q (Y_k (Y_n Y (y_n Y + 1)) (y_n Y) kd) (fun r => u_nm r (y_n Y) v)) (3 * y_n Y) x) ((3 * y_n Y) + 1) y)) := cD_Y_p hD
  refine lv_aload_n hx hb d_M_make_55 rfl (lv_at hl 1 rfl) ?_
  refine va_get (D := (dC, dI)) (ci := 3) (v := .ref (b 3)) (C := R_M) (T := T_M) (N := 20) hx hb ht in_M hown hK hP 0 rfl rfl 3 (by decide) (ht _ k_330) (fun _ h => h) rfl d_M_make_56 ?_
  refine lv_iconst (v := 3) hx hb d_M_make_59 (by decide) ?_
  refine lv_iload hx hb d_M_make_60 (lv_at hl 0 rfl) ?_
  refine lv_imul hx hb d_M_make_62 ?_
  refine lv_iconst (v := 2) hx hb d_M_make_63 (by decide) ?_
  refine lv_iadd hx hb d_M_make_64 ?_
  refine lv_iload hx hb d_M_make_65 (lv_at hl 6 rfl) ?_
  refine va_iast hx hb hK hP hD hS 3 2 rfl rfl (in3 jn in_23) d_M_make_67 (fun H locs hP hD hS => ?_)
  have hP : va_P (dC, dI) vwCl (wY b h (Y_p (Y_p (Y_p (Y_q (Y_k (Y_n Y (y_n Y + 1)) (y_n Y) kd) (fun r => u_nm r (y_n Y) v)) (3 * y_n Y) x) ((3 * y_n Y) + 1) y) ((3 * y_n Y) + 2) z)) H := cP_Y_p hP
  have hD : va_D A (wY b h (Y_p (Y_p (Y_p (Y_q (Y_k (Y_n Y (y_n Y + 1)) (y_n Y) kd) (fun r => u_nm r (y_n Y) v)) (3 * y_n Y) x) ((3 * y_n Y) + 1) y) ((3 * y_n Y) + 2) z)) := cD_Y_p hD
  refine lv_aload_n hx hb d_M_make_68 rfl (lv_at hl 1 rfl) ?_
  refine va_get (D := (dC, dI)) (ci := 3) (v := .ref (b 4)) (C := R_M) (T := T_M) (N := 20) hx hb ht in_M hown hK hP 0 rfl rfl 4 (by decide) (ht _ k_331) (fun _ h => h) rfl d_M_make_69 ?_
  refine lv_iload hx hb d_M_make_72 (lv_at hl 0 rfl) ?_
  refine lv_iload hx hb d_M_make_74 (lv_at hl 7 rfl) ?_
  refine va_iast hx hb hK hP hD hS 4 3 rfl rfl jn d_M_make_76 (fun H locs hP hD hS => ?_)
  have hP : va_P (dC, dI) vwCl (wY b h (Y_d (Y_p (Y_p (Y_p (Y_q (Y_k (Y_n Y (y_n Y + 1)) (y_n Y) kd) (fun r => u_nm r (y_n Y) v)) (3 * y_n Y) x) ((3 * y_n Y) + 1) y) ((3 * y_n Y) + 2) z) (y_n Y) dp)) H := cP_Y_d hP
  have hD : va_D A (wY b h (Y_d (Y_p (Y_p (Y_p (Y_q (Y_k (Y_n Y (y_n Y + 1)) (y_n Y) kd) (fun r => u_nm r (y_n Y) v)) (3 * y_n Y) x) ((3 * y_n Y) + 1) y) ((3 * y_n Y) + 2) z) (y_n Y) dp)) := cD_Y_d hD
  refine lv_aload_n hx hb d_M_make_77 rfl (lv_at hl 1 rfl) ?_
  refine va_get (D := (dC, dI)) (ci := 3) (v := .ref (b 5)) (C := R_M) (T := T_M) (N := 20) hx hb ht in_M hown hK hP 0 rfl rfl 5 (by decide) (ht _ k_332) (fun _ h => h) rfl d_M_make_78 ?_
  refine lv_iload hx hb d_M_make_81 (lv_at hl 0 rfl) ?_
  refine lv_iconst (v := 0) hx hb d_M_make_83 (by decide) ?_
  refine va_zast hx hb hK hP hD hS 5 4 rfl rfl jn d_M_make_84 (fun H locs hP hD hS => ?_)
  have hP : va_P (dC, dI) vwCl (wY b h (Y_u (Y_d (Y_p (Y_p (Y_p (Y_q (Y_k (Y_n Y (y_n Y + 1)) (y_n Y) kd) (fun r => u_nm r (y_n Y) v)) (3 * y_n Y) x) ((3 * y_n Y) + 1) y) ((3 * y_n Y) + 2) z) (y_n Y) dp) (y_n Y) 0)) H := cP_Y_u hP
  have hD : va_D A (wY b h (Y_u (Y_d (Y_p (Y_p (Y_p (Y_q (Y_k (Y_n Y (y_n Y + 1)) (y_n Y) kd) (fun r => u_nm r (y_n Y) v)) (3 * y_n Y) x) ((3 * y_n Y) + 1) y) ((3 * y_n Y) + 2) z) (y_n Y) dp) (y_n Y) 0)) := cD_Y_u hD
  refine lv_iload_n hx hb d_M_make_85 rfl (lv_at hl 4 rfl) ?_
  refine lv_if_lt (tgt := 96) hx hb d_M_make_86 (by decide) (fun c1 => ?_) (fun c1 => ?_)
  · have c1 : x < 0 := c1
    refine lv_iload hx hb d_M_make_96 (lv_at hl 5 rfl) ?_
    refine lv_if_lt (tgt := 109) hx hb d_M_make_98 (by decide) (fun c2 => ?_) (fun c2 => ?_)
    · have c2 : y < 0 := c2
      refine lv_iload hx hb d_M_make_109 (lv_at hl 6 rfl) ?_
      refine lv_if_lt (tgt := 122) hx hb d_M_make_111 (by decide) (fun c3 => ?_) (fun c3 => ?_)
      · have c3 : z < 0 := c3
        refine lv_iload hx hb d_M_make_122 (lv_at hl 0 rfl) ?_
        exact ret_i (v := y_n Y) hx hb hr hlocks hP hK hD hS d_M_make_124 (by simp only [m_make, c1, c2, c3, if_true, if_false, Bool.false_eq_true, reduceIte])
      · have c3 : ¬ z < 0 := c3
        refine lv_aload_n hx hb d_M_make_114 rfl (lv_at hl 1 rfl) ?_
        refine va_get (D := (dC, dI)) (ci := 3) (v := .ref (b 5)) (C := R_M) (T := T_M) (N := 20) hx hb ht in_M hown hK hP 0 rfl rfl 5 (by decide) (ht _ k_332) (fun _ h => h) rfl d_M_make_115 ?_
        refine lv_iload hx hb d_M_make_118 (lv_at hl 6 rfl) ?_
        refine lv_iconst (v := 1) hx hb d_M_make_120 (by decide) ?_
        refine va_zast hx hb hK hP hD hS 5 4 rfl rfl (jz c3) d_M_make_121 (fun H locs hP hD hS => ?_)
        have hP : va_P (dC, dI) vwCl (wY b h (Y_u (Y_u (Y_d (Y_p (Y_p (Y_p (Y_q (Y_k (Y_n Y (y_n Y + 1)) (y_n Y) kd) (fun r => u_nm r (y_n Y) v)) (3 * y_n Y) x) ((3 * y_n Y) + 1) y) ((3 * y_n Y) + 2) z) (y_n Y) dp) (y_n Y) 0) z 1)) H := cP_Y_u hP
        have hD : va_D A (wY b h (Y_u (Y_u (Y_d (Y_p (Y_p (Y_p (Y_q (Y_k (Y_n Y (y_n Y + 1)) (y_n Y) kd) (fun r => u_nm r (y_n Y) v)) (3 * y_n Y) x) ((3 * y_n Y) + 1) y) ((3 * y_n Y) + 2) z) (y_n Y) dp) (y_n Y) 0) z 1)) := cD_Y_u hD
        refine lv_iload hx hb d_M_make_122 (lv_at hl 0 rfl) ?_
        exact ret_i (v := y_n Y) hx hb hr hlocks hP hK hD hS d_M_make_124 (by simp only [m_make, c1, c2, c3, if_true, if_false, Bool.false_eq_true, reduceIte])
    · have c2 : ¬ y < 0 := c2
      refine lv_aload_n hx hb d_M_make_101 rfl (lv_at hl 1 rfl) ?_
      refine va_get (D := (dC, dI)) (ci := 3) (v := .ref (b 5)) (C := R_M) (T := T_M) (N := 20) hx hb ht in_M hown hK hP 0 rfl rfl 5 (by decide) (ht _ k_332) (fun _ h => h) rfl d_M_make_102 ?_
      refine lv_iload hx hb d_M_make_105 (lv_at hl 5 rfl) ?_
      refine lv_iconst (v := 1) hx hb d_M_make_107 (by decide) ?_
      refine va_zast hx hb hK hP hD hS 5 4 rfl rfl (jy c2) d_M_make_108 (fun H locs hP hD hS => ?_)
      have hP : va_P (dC, dI) vwCl (wY b h (Y_u (Y_u (Y_d (Y_p (Y_p (Y_p (Y_q (Y_k (Y_n Y (y_n Y + 1)) (y_n Y) kd) (fun r => u_nm r (y_n Y) v)) (3 * y_n Y) x) ((3 * y_n Y) + 1) y) ((3 * y_n Y) + 2) z) (y_n Y) dp) (y_n Y) 0) y 1)) H := cP_Y_u hP
      have hD : va_D A (wY b h (Y_u (Y_u (Y_d (Y_p (Y_p (Y_p (Y_q (Y_k (Y_n Y (y_n Y + 1)) (y_n Y) kd) (fun r => u_nm r (y_n Y) v)) (3 * y_n Y) x) ((3 * y_n Y) + 1) y) ((3 * y_n Y) + 2) z) (y_n Y) dp) (y_n Y) 0) y 1)) := cD_Y_u hD
      refine lv_iload hx hb d_M_make_109 (lv_at hl 6 rfl) ?_
      refine lv_if_lt (tgt := 122) hx hb d_M_make_111 (by decide) (fun c4 => ?_) (fun c4 => ?_)
      · have c4 : z < 0 := c4
        refine lv_iload hx hb d_M_make_122 (lv_at hl 0 rfl) ?_
        exact ret_i (v := y_n Y) hx hb hr hlocks hP hK hD hS d_M_make_124 (by simp only [m_make, c1, c2, c4, if_true, if_false, Bool.false_eq_true, reduceIte])
      · have c4 : ¬ z < 0 := c4
        refine lv_aload_n hx hb d_M_make_114 rfl (lv_at hl 1 rfl) ?_
        refine va_get (D := (dC, dI)) (ci := 3) (v := .ref (b 5)) (C := R_M) (T := T_M) (N := 20) hx hb ht in_M hown hK hP 0 rfl rfl 5 (by decide) (ht _ k_332) (fun _ h => h) rfl d_M_make_115 ?_
        refine lv_iload hx hb d_M_make_118 (lv_at hl 6 rfl) ?_
        refine lv_iconst (v := 1) hx hb d_M_make_120 (by decide) ?_
        refine va_zast hx hb hK hP hD hS 5 4 rfl rfl (jz c4) d_M_make_121 (fun H locs hP hD hS => ?_)
        have hP : va_P (dC, dI) vwCl (wY b h (Y_u (Y_u (Y_u (Y_d (Y_p (Y_p (Y_p (Y_q (Y_k (Y_n Y (y_n Y + 1)) (y_n Y) kd) (fun r => u_nm r (y_n Y) v)) (3 * y_n Y) x) ((3 * y_n Y) + 1) y) ((3 * y_n Y) + 2) z) (y_n Y) dp) (y_n Y) 0) y 1) z 1)) H := cP_Y_u hP
        have hD : va_D A (wY b h (Y_u (Y_u (Y_u (Y_d (Y_p (Y_p (Y_p (Y_q (Y_k (Y_n Y (y_n Y + 1)) (y_n Y) kd) (fun r => u_nm r (y_n Y) v)) (3 * y_n Y) x) ((3 * y_n Y) + 1) y) ((3 * y_n Y) + 2) z) (y_n Y) dp) (y_n Y) 0) y 1) z 1)) := cD_Y_u hD
        refine lv_iload hx hb d_M_make_122 (lv_at hl 0 rfl) ?_
        exact ret_i (v := y_n Y) hx hb hr hlocks hP hK hD hS d_M_make_124 (by simp only [m_make, c1, c2, c4, if_true, if_false, Bool.false_eq_true, reduceIte])
  · have c1 : ¬ x < 0 := c1
    refine lv_aload_n hx hb d_M_make_89 rfl (lv_at hl 1 rfl) ?_
    refine va_get (D := (dC, dI)) (ci := 3) (v := .ref (b 5)) (C := R_M) (T := T_M) (N := 20) hx hb ht in_M hown hK hP 0 rfl rfl 5 (by decide) (ht _ k_332) (fun _ h => h) rfl d_M_make_90 ?_
    refine lv_iload_n hx hb d_M_make_93 rfl (lv_at hl 4 rfl) ?_
    refine lv_iconst (v := 1) hx hb d_M_make_94 (by decide) ?_
    refine va_zast hx hb hK hP hD hS 5 4 rfl rfl (jx c1) d_M_make_95 (fun H locs hP hD hS => ?_)
    have hP : va_P (dC, dI) vwCl (wY b h (Y_u (Y_u (Y_d (Y_p (Y_p (Y_p (Y_q (Y_k (Y_n Y (y_n Y + 1)) (y_n Y) kd) (fun r => u_nm r (y_n Y) v)) (3 * y_n Y) x) ((3 * y_n Y) + 1) y) ((3 * y_n Y) + 2) z) (y_n Y) dp) (y_n Y) 0) x 1)) H := cP_Y_u hP
    have hD : va_D A (wY b h (Y_u (Y_u (Y_d (Y_p (Y_p (Y_p (Y_q (Y_k (Y_n Y (y_n Y + 1)) (y_n Y) kd) (fun r => u_nm r (y_n Y) v)) (3 * y_n Y) x) ((3 * y_n Y) + 1) y) ((3 * y_n Y) + 2) z) (y_n Y) dp) (y_n Y) 0) x 1)) := cD_Y_u hD
    refine lv_iload hx hb d_M_make_96 (lv_at hl 5 rfl) ?_
    refine lv_if_lt (tgt := 109) hx hb d_M_make_98 (by decide) (fun c5 => ?_) (fun c5 => ?_)
    · have c5 : y < 0 := c5
      refine lv_iload hx hb d_M_make_109 (lv_at hl 6 rfl) ?_
      refine lv_if_lt (tgt := 122) hx hb d_M_make_111 (by decide) (fun c6 => ?_) (fun c6 => ?_)
      · have c6 : z < 0 := c6
        refine lv_iload hx hb d_M_make_122 (lv_at hl 0 rfl) ?_
        exact ret_i (v := y_n Y) hx hb hr hlocks hP hK hD hS d_M_make_124 (by simp only [m_make, c1, c5, c6, if_true, if_false, Bool.false_eq_true, reduceIte])
      · have c6 : ¬ z < 0 := c6
        refine lv_aload_n hx hb d_M_make_114 rfl (lv_at hl 1 rfl) ?_
        refine va_get (D := (dC, dI)) (ci := 3) (v := .ref (b 5)) (C := R_M) (T := T_M) (N := 20) hx hb ht in_M hown hK hP 0 rfl rfl 5 (by decide) (ht _ k_332) (fun _ h => h) rfl d_M_make_115 ?_
        refine lv_iload hx hb d_M_make_118 (lv_at hl 6 rfl) ?_
        refine lv_iconst (v := 1) hx hb d_M_make_120 (by decide) ?_
        refine va_zast hx hb hK hP hD hS 5 4 rfl rfl (jz c6) d_M_make_121 (fun H locs hP hD hS => ?_)
        have hP : va_P (dC, dI) vwCl (wY b h (Y_u (Y_u (Y_u (Y_d (Y_p (Y_p (Y_p (Y_q (Y_k (Y_n Y (y_n Y + 1)) (y_n Y) kd) (fun r => u_nm r (y_n Y) v)) (3 * y_n Y) x) ((3 * y_n Y) + 1) y) ((3 * y_n Y) + 2) z) (y_n Y) dp) (y_n Y) 0) x 1) z 1)) H := cP_Y_u hP
        have hD : va_D A (wY b h (Y_u (Y_u (Y_u (Y_d (Y_p (Y_p (Y_p (Y_q (Y_k (Y_n Y (y_n Y + 1)) (y_n Y) kd) (fun r => u_nm r (y_n Y) v)) (3 * y_n Y) x) ((3 * y_n Y) + 1) y) ((3 * y_n Y) + 2) z) (y_n Y) dp) (y_n Y) 0) x 1) z 1)) := cD_Y_u hD
        refine lv_iload hx hb d_M_make_122 (lv_at hl 0 rfl) ?_
        exact ret_i (v := y_n Y) hx hb hr hlocks hP hK hD hS d_M_make_124 (by simp only [m_make, c1, c5, c6, if_true, if_false, Bool.false_eq_true, reduceIte])
    · have c5 : ¬ y < 0 := c5
      refine lv_aload_n hx hb d_M_make_101 rfl (lv_at hl 1 rfl) ?_
      refine va_get (D := (dC, dI)) (ci := 3) (v := .ref (b 5)) (C := R_M) (T := T_M) (N := 20) hx hb ht in_M hown hK hP 0 rfl rfl 5 (by decide) (ht _ k_332) (fun _ h => h) rfl d_M_make_102 ?_
      refine lv_iload hx hb d_M_make_105 (lv_at hl 5 rfl) ?_
      refine lv_iconst (v := 1) hx hb d_M_make_107 (by decide) ?_
      refine va_zast hx hb hK hP hD hS 5 4 rfl rfl (jy c5) d_M_make_108 (fun H locs hP hD hS => ?_)
      have hP : va_P (dC, dI) vwCl (wY b h (Y_u (Y_u (Y_u (Y_d (Y_p (Y_p (Y_p (Y_q (Y_k (Y_n Y (y_n Y + 1)) (y_n Y) kd) (fun r => u_nm r (y_n Y) v)) (3 * y_n Y) x) ((3 * y_n Y) + 1) y) ((3 * y_n Y) + 2) z) (y_n Y) dp) (y_n Y) 0) x 1) y 1)) H := cP_Y_u hP
      have hD : va_D A (wY b h (Y_u (Y_u (Y_u (Y_d (Y_p (Y_p (Y_p (Y_q (Y_k (Y_n Y (y_n Y + 1)) (y_n Y) kd) (fun r => u_nm r (y_n Y) v)) (3 * y_n Y) x) ((3 * y_n Y) + 1) y) ((3 * y_n Y) + 2) z) (y_n Y) dp) (y_n Y) 0) x 1) y 1)) := cD_Y_u hD
      refine lv_iload hx hb d_M_make_109 (lv_at hl 6 rfl) ?_
      refine lv_if_lt (tgt := 122) hx hb d_M_make_111 (by decide) (fun c7 => ?_) (fun c7 => ?_)
      · have c7 : z < 0 := c7
        refine lv_iload hx hb d_M_make_122 (lv_at hl 0 rfl) ?_
        exact ret_i (v := y_n Y) hx hb hr hlocks hP hK hD hS d_M_make_124 (by simp only [m_make, c1, c5, c7, if_true, if_false, Bool.false_eq_true, reduceIte])
      · have c7 : ¬ z < 0 := c7
        refine lv_aload_n hx hb d_M_make_114 rfl (lv_at hl 1 rfl) ?_
        refine va_get (D := (dC, dI)) (ci := 3) (v := .ref (b 5)) (C := R_M) (T := T_M) (N := 20) hx hb ht in_M hown hK hP 0 rfl rfl 5 (by decide) (ht _ k_332) (fun _ h => h) rfl d_M_make_115 ?_
        refine lv_iload hx hb d_M_make_118 (lv_at hl 6 rfl) ?_
        refine lv_iconst (v := 1) hx hb d_M_make_120 (by decide) ?_
        refine va_zast hx hb hK hP hD hS 5 4 rfl rfl (jz c7) d_M_make_121 (fun H locs hP hD hS => ?_)
        have hP : va_P (dC, dI) vwCl (wY b h (Y_u (Y_u (Y_u (Y_u (Y_d (Y_p (Y_p (Y_p (Y_q (Y_k (Y_n Y (y_n Y + 1)) (y_n Y) kd) (fun r => u_nm r (y_n Y) v)) (3 * y_n Y) x) ((3 * y_n Y) + 1) y) ((3 * y_n Y) + 2) z) (y_n Y) dp) (y_n Y) 0) x 1) y 1) z 1)) H := cP_Y_u hP
        have hD : va_D A (wY b h (Y_u (Y_u (Y_u (Y_u (Y_d (Y_p (Y_p (Y_p (Y_q (Y_k (Y_n Y (y_n Y + 1)) (y_n Y) kd) (fun r => u_nm r (y_n Y) v)) (3 * y_n Y) x) ((3 * y_n Y) + 1) y) ((3 * y_n Y) + 2) z) (y_n Y) dp) (y_n Y) 0) x 1) y 1) z 1)) := cD_Y_u hD
        refine lv_iload hx hb d_M_make_122 (lv_at hl 0 rfl) ?_
        exact ret_i (v := y_n Y) hx hb hr hlocks hP hK hD hS d_M_make_124 (by simp only [m_make, c1, c5, c7, if_true, if_false, Bool.false_eq_true, reduceIte])
set_option maxRecDepth 100000 in
set_option maxHeartbeats 4000000 in
theorem c_M_leaf (l : Launch) (dC : Nat → ClassId) (dI : Nat → Nat → Nat) (b : Nat → Nat) (h : Nat → ClassId) (Y : zY) (kd : Int32) (v : Int32) (hV : VY Y) : MetI l y_M_leaf w_M_leaf (rmN (3)) dC dI (yY h) (wY b h) [.ref (b 0), .int kd, .int v] Y (fun z9 u9 => m_leaf Y kd v = (z9, u9)) := by
  refine metI_of (cc := b_M_leaf) (maxL := 3) (ret := (some .int)) (by decide) rfl (Nat.le_of_ble_eq_true rfl) ?_
  intro p e9 s9 m args below meth c A ls hx hb hr hts hown hlocks hml hA hP hK hD hS hN hl
  have ht : ∀ w ∈ lw_g, w.before args s9 = true := fun w h => hts w (List.mem_cons_of_mem _ h)
  have hl : lv_has ls 3 [(0, .ref (b 0)), (1, .int kd), (2, .int v)] := hl
  refine lv_iload_n hx hb d_M_leaf_0 rfl (lv_at hl 1 rfl) ?_
  refine lv_iconst (v := 0) hx hb d_M_leaf_1 (by decide) ?_
  refine lv_iconst (v := 1) hx hb d_M_leaf_2 (by decide) ?_
  refine call_s (As := [.int kd, .int 0, .int 1]) (rest := []) (c_M_within l dC dI b h Y kd 0 1) k_392 k_393 k_4 k_394 ⟨rfl, pc_M_within.1, pc_M_within.2, pd_M_within⟩ rfl rfl (rm_le (by omega) (by decide)) (Nat.le_of_ble_eq_true rfl) rfl hx hb hml hown ht hl.1 hP hK hD hS hA hN d_M_leaf_3 (fun r1 u2 H locs q3 hP hD hS => ?_)
  obtain ⟨⟨b4, rfl⟩ | ⟨b4, rfl⟩, q3⟩ := q3
  · rw [q3] at hP hD
    have hP : va_P (dC, dI) vwCl (wY b h Y) H := hP
    have hD : va_D A (wY b h Y) := hD
    refine lv_if_eq (tgt := 24) hx hb d_M_leaf_6 (by decide) (fun c5 => ?_) (fun c5 => ?_)
    · have c5 : (1 : Int32) = 0 := c5
      exact absurd c5 (by decide)
    · have c5 : ¬ (1 : Int32) = 0 := c5
      refine lv_iload_n hx hb d_M_leaf_9 rfl (lv_at hl 1 rfl) ?_
      refine lv_iconst (v := 1) hx hb d_M_leaf_10 (by decide) ?_
      refine lv_icmp_ne (tgt := 26) hx hb d_M_leaf_11 (by decide) (fun c6 => ?_) (fun c6 => ?_)
      · have c6 : ¬ kd = 1 := c6
        refine lv_aload_n hx hb d_M_leaf_26 rfl (lv_at hl 0 rfl) ?_
        refine va_get (D := (dC, dI)) (ci := 3) (v := .int (y_n Y)) (C := R_M) (T := T_M) (N := 20) hx hb ht in_M hown hK hP 0 rfl rfl 0 (by decide) (ht _ k_327) (fun _ h => h) rfl d_M_leaf_27 ?_
        refine lv_bipush (v := 60) hx hb d_M_leaf_30 (by decide) ?_
        refine lv_icmp_ne (tgt := 40) hx hb d_M_leaf_32 (by decide) (fun c7 => ?_) (fun c7 => ?_)
        · have c7 : ¬ y_n Y = 60 := c7
          refine lv_aload_n hx hb d_M_leaf_40 rfl (lv_at hl 0 rfl) ?_
          refine lv_iload_n hx hb d_M_leaf_41 rfl (lv_at hl 1 rfl) ?_
          refine lv_iload_n hx hb d_M_leaf_42 rfl (lv_at hl 2 rfl) ?_
          refine lv_iconst (v := (-1)) hx hb d_M_leaf_43 (by decide) ?_
          refine lv_iconst (v := (-1)) hx hb d_M_leaf_44 (by decide) ?_
          refine lv_iconst (v := (-1)) hx hb d_M_leaf_45 (by decide) ?_
          refine lv_iconst (v := 1) hx hb d_M_leaf_46 (by decide) ?_
          refine call_i (As := [.int kd, .int v, .int (-1), .int (-1), .int (-1), .int 1]) (rest := []) (ci := 3) (q0 := 0) (c_M_make l dC dI b h Y kd v (-1) (-1) (-1) 1 (cnt_in hV.1 c7) neg_in neg_in neg_in) k_395 k_397 s_M_make k_4 k_398 ⟨rfl, pc_M_make.1, pc_M_make.2, pd_M_make⟩ rfl rfl rfl rfl rfl (rm_le (by omega) (by decide)) (Nat.le_of_ble_eq_true rfl) rfl hx hb hml hown ht hl.1 hP hK hD hS hA hN d_M_leaf_47 (fun r8 u9 H locs q10 hP hD hS => ?_)
          have hP : va_P (dC, dI) vwCl (wY b h u9) H := hP
          have hD : va_D A (wY b h u9) := hD
          exact ret_i (v := r8) hx hb hr hlocks hP hK hD hS d_M_leaf_50 (by simp only [m_leaf, b4, c6, c7, q10, if_true, if_false, Bool.false_eq_true, reduceIte])
        · have c7 : y_n Y = 60 := c7
          refine lv_bipush (v := (-4)) hx hb d_M_leaf_35 (by decide) ?_
          refine lv_goto (tgt := 50) hx hb d_M_leaf_37 (by decide) ?_
          exact ret_i (v := (-4)) hx hb hr hlocks hP hK hD hS d_M_leaf_50 (by simp only [m_leaf, b4, c6, eq_true c7, if_true, if_false, Bool.false_eq_true, reduceIte])
      · have c6 : kd = 1 := c6
        refine lv_iload_n hx hb d_M_leaf_14 rfl (lv_at hl 2 rfl) ?_
        refine lv_iconst (v := 0) hx hb d_M_leaf_15 (by decide) ?_
        refine lv_bipush (v := 7) hx hb d_M_leaf_16 (by decide) ?_
        refine call_s (As := [.int v, .int 0, .int 7]) (rest := []) (c_M_within l dC dI b h Y v 0 7) k_392 k_393 k_4 k_394 ⟨rfl, pc_M_within.1, pc_M_within.2, pd_M_within⟩ rfl rfl (rm_le (by omega) (by decide)) (Nat.le_of_ble_eq_true rfl) rfl hx hb hml hown ht hl.1 hP hK hD hS hA hN d_M_leaf_18 (fun r11 u12 H locs q13 hP hD hS => ?_)
        obtain ⟨⟨b14, rfl⟩ | ⟨b14, rfl⟩, q13⟩ := q13
        · rw [q13] at hP hD
          have hP : va_P (dC, dI) vwCl (wY b h Y) H := hP
          have hD : va_D A (wY b h Y) := hD
          refine lv_if_ne (tgt := 26) hx hb d_M_leaf_21 (by decide) (fun c15 => ?_) (fun c15 => ?_)
          · have c15 : ¬ (1 : Int32) = 0 := c15
            refine lv_aload_n hx hb d_M_leaf_26 rfl (lv_at hl 0 rfl) ?_
            refine va_get (D := (dC, dI)) (ci := 3) (v := .int (y_n Y)) (C := R_M) (T := T_M) (N := 20) hx hb ht in_M hown hK hP 0 rfl rfl 0 (by decide) (ht _ k_327) (fun _ h => h) rfl d_M_leaf_27 ?_
            refine lv_bipush (v := 60) hx hb d_M_leaf_30 (by decide) ?_
            refine lv_icmp_ne (tgt := 40) hx hb d_M_leaf_32 (by decide) (fun c16 => ?_) (fun c16 => ?_)
            · have c16 : ¬ y_n Y = 60 := c16
              refine lv_aload_n hx hb d_M_leaf_40 rfl (lv_at hl 0 rfl) ?_
              refine lv_iload_n hx hb d_M_leaf_41 rfl (lv_at hl 1 rfl) ?_
              refine lv_iload_n hx hb d_M_leaf_42 rfl (lv_at hl 2 rfl) ?_
              refine lv_iconst (v := (-1)) hx hb d_M_leaf_43 (by decide) ?_
              refine lv_iconst (v := (-1)) hx hb d_M_leaf_44 (by decide) ?_
              refine lv_iconst (v := (-1)) hx hb d_M_leaf_45 (by decide) ?_
              refine lv_iconst (v := 1) hx hb d_M_leaf_46 (by decide) ?_
              refine call_i (As := [.int kd, .int v, .int (-1), .int (-1), .int (-1), .int 1]) (rest := []) (ci := 3) (q0 := 0) (c_M_make l dC dI b h Y kd v (-1) (-1) (-1) 1 (cnt_in hV.1 c16) neg_in neg_in neg_in) k_395 k_397 s_M_make k_4 k_398 ⟨rfl, pc_M_make.1, pc_M_make.2, pd_M_make⟩ rfl rfl rfl rfl rfl (rm_le (by omega) (by decide)) (Nat.le_of_ble_eq_true rfl) rfl hx hb hml hown ht hl.1 hP hK hD hS hA hN d_M_leaf_47 (fun r17 u18 H locs q19 hP hD hS => ?_)
              have hP : va_P (dC, dI) vwCl (wY b h u18) H := hP
              have hD : va_D A (wY b h u18) := hD
              exact ret_i (v := r17) hx hb hr hlocks hP hK hD hS d_M_leaf_50 (by simp only [m_leaf, b4, eq_true c6, b14, c16, q19, if_true, if_false, Bool.false_eq_true, reduceIte])
            · have c16 : y_n Y = 60 := c16
              refine lv_bipush (v := (-4)) hx hb d_M_leaf_35 (by decide) ?_
              refine lv_goto (tgt := 50) hx hb d_M_leaf_37 (by decide) ?_
              exact ret_i (v := (-4)) hx hb hr hlocks hP hK hD hS d_M_leaf_50 (by simp only [m_leaf, b4, eq_true c6, b14, eq_true c16, if_true, if_false, Bool.false_eq_true, reduceIte])
          · have c15 : (1 : Int32) = 0 := c15
            exact absurd c15 (by decide)
        · rw [q13] at hP hD
          have hP : va_P (dC, dI) vwCl (wY b h Y) H := hP
          have hD : va_D A (wY b h Y) := hD
          refine lv_if_ne (tgt := 26) hx hb d_M_leaf_21 (by decide) (fun c20 => ?_) (fun c20 => ?_)
          · have c20 : ¬ (0 : Int32) = 0 := c20
            exact absurd c20 (by decide)
          · have c20 : (0 : Int32) = 0 := c20
            refine lv_iconst (v := (-1)) hx hb d_M_leaf_24 (by decide) ?_
            exact ret_i (v := (-1)) hx hb hr hlocks hP hK hD hS d_M_leaf_25 (by simp only [m_leaf, b4, eq_true c6, b14, if_true, if_false, Bool.false_eq_true, reduceIte])
  · rw [q3] at hP hD
    have hP : va_P (dC, dI) vwCl (wY b h Y) H := hP
    have hD : va_D A (wY b h Y) := hD
    refine lv_if_eq (tgt := 24) hx hb d_M_leaf_6 (by decide) (fun c21 => ?_) (fun c21 => ?_)
    · have c21 : (0 : Int32) = 0 := c21
      refine lv_iconst (v := (-1)) hx hb d_M_leaf_24 (by decide) ?_
      exact ret_i (v := (-1)) hx hb hr hlocks hP hK hD hS d_M_leaf_25 (by simp only [m_leaf, b4, if_true, if_false, Bool.false_eq_true, reduceIte])
    · have c21 : ¬ (0 : Int32) = 0 := c21
      exact absurd c21 (by decide)
set_option maxRecDepth 100000 in
set_option maxHeartbeats 4000000 in
theorem c_M_unary (l : Launch) (dC : Nat → ClassId) (dI : Nat → Nat → Nat) (b : Nat → Nat) (h : Nat → ClassId) (Y : zY) (kd : Int32) (v : Int32) (x : Int32) (hV : VY Y) : MetI l y_M_unary w_M_unary (rmN (3)) dC dI (yY h) (wY b h) [.ref (b 0), .int kd, .int v, .int x] Y (fun z9 u9 => m_unary Y kd v x = (z9, u9)) := by
  refine metI_of (cc := b_M_unary) (maxL := 4) (ret := (some .int)) (by decide) rfl (Nat.le_of_ble_eq_true rfl) ?_
  intro p e9 s9 m args below meth c A ls hx hb hr hts hown hlocks hml hA hP hK hD hS hN hl
  have ht : ∀ w ∈ lw_g, w.before args s9 = true := fun w h => hts w (List.mem_cons_of_mem _ h)
  have hl : lv_has ls 4 [(0, .ref (b 0)), (1, .int kd), (2, .int v), (3, .int x)] := hl
  refine lv_iload_n hx hb d_M_unary_0 rfl (lv_at hl 1 rfl) ?_
  refine lv_iconst (v := 0) hx hb d_M_unary_1 (by decide) ?_
  refine lv_iconst (v := 3) hx hb d_M_unary_2 (by decide) ?_
  refine call_s (As := [.int kd, .int 0, .int 3]) (rest := []) (c_M_within l dC dI b h Y kd 0 3) k_392 k_393 k_4 k_394 ⟨rfl, pc_M_within.1, pc_M_within.2, pd_M_within⟩ rfl rfl (rm_le (by omega) (by decide)) (Nat.le_of_ble_eq_true rfl) rfl hx hb hml hown ht hl.1 hP hK hD hS hA hN d_M_unary_3 (fun r1 u2 H locs q3 hP hD hS => ?_)
  obtain ⟨⟨b4, rfl⟩ | ⟨b4, rfl⟩, q3⟩ := q3
  · rw [q3] at hP hD
    have hP : va_P (dC, dI) vwCl (wY b h Y) H := hP
    have hD : va_D A (wY b h Y) := hD
    refine lv_if_eq (tgt := 23) hx hb d_M_unary_6 (by decide) (fun c5 => ?_) (fun c5 => ?_)
    · have c5 : (1 : Int32) = 0 := c5
      exact absurd c5 (by decide)
    · have c5 : ¬ (1 : Int32) = 0 := c5
      refine lv_iload_n hx hb d_M_unary_9 rfl (lv_at hl 1 rfl) ?_
      refine lv_if_ne (tgt := 25) hx hb d_M_unary_10 (by decide) (fun c6 => ?_) (fun c6 => ?_)
      · have c6 : ¬ kd = 0 := c6
        refine lv_aload_n hx hb d_M_unary_25 rfl (lv_at hl 0 rfl) ?_
        refine lv_iload_n hx hb d_M_unary_26 rfl (lv_at hl 3 rfl) ?_
        refine call_i (As := [.int x]) (rest := []) (ci := 3) (q0 := 0) (c_M_is l dC dI b h Y x) k_403 k_405 s_M_is k_4 k_406 ⟨rfl, pc_M_is.1, pc_M_is.2, pd_M_is⟩ rfl rfl rfl rfl rfl (rm_le (by omega) (by decide)) (Nat.le_of_ble_eq_true rfl) rfl hx hb hml hown ht hl.1 hP hK hD hS hA hN d_M_unary_27 (fun r7 u8 H locs q9 hP hD hS => ?_)
        obtain ⟨⟨b10, rfl⟩ | ⟨b10, rfl⟩, q9⟩ := q9
        · rw [q9] at hP hD
          have hP : va_P (dC, dI) vwCl (wY b h Y) H := hP
          have hD : va_D A (wY b h Y) := hD
          refine lv_if_ne (tgt := 36) hx hb d_M_unary_30 (by decide) (fun c11 => ?_) (fun c11 => ?_)
          · have c11 : ¬ (1 : Int32) = 0 := c11
            refine lv_aload_n hx hb d_M_unary_36 rfl (lv_at hl 0 rfl) ?_
            refine va_get (D := (dC, dI)) (ci := 3) (v := .ref (b 5)) (C := R_M) (T := T_M) (N := 20) hx hb ht in_M hown hK hP 0 rfl rfl 5 (by decide) (ht _ k_332) (fun _ h => h) rfl d_M_unary_37 ?_
            refine lv_iload_n hx hb d_M_unary_40 rfl (lv_at hl 3 rfl) ?_
            refine va_zald hx hb hK hP 5 4 rfl rfl (with_n hV.1 b10) d_M_unary_41 ?_
            refine lv_if_eq (tgt := 48) hx hb d_M_unary_42 (by decide) (fun c12 => ?_) (fun c12 => ?_)
            · have c12 : y_u Y (ix x) = 0 := c12
              refine lv_aload_n hx hb d_M_unary_48 rfl (lv_at hl 0 rfl) ?_
              refine va_get (D := (dC, dI)) (ci := 3) (v := .int (y_n Y)) (C := R_M) (T := T_M) (N := 20) hx hb ht in_M hown hK hP 0 rfl rfl 0 (by decide) (ht _ k_327) (fun _ h => h) rfl d_M_unary_49 ?_
              refine lv_bipush (v := 60) hx hb d_M_unary_52 (by decide) ?_
              refine lv_icmp_ne (tgt := 60) hx hb d_M_unary_54 (by decide) (fun c13 => ?_) (fun c13 => ?_)
              · have c13 : ¬ y_n Y = 60 := c13
                refine lv_aload_n hx hb d_M_unary_60 rfl (lv_at hl 0 rfl) ?_
                refine va_get (D := (dC, dI)) (ci := 3) (v := .ref (b 4)) (C := R_M) (T := T_M) (N := 20) hx hb ht in_M hown hK hP 0 rfl rfl 4 (by decide) (ht _ k_331) (fun _ h => h) rfl d_M_unary_61 ?_
                refine lv_iload_n hx hb d_M_unary_64 rfl (lv_at hl 3 rfl) ?_
                refine va_iald hx hb hK hP 4 3 rfl rfl (with_n hV.1 b10) d_M_unary_65 ?_
                refine lv_bipush (v := 12) hx hb d_M_unary_66 (by decide) ?_
                refine lv_icmp_ne (tgt := 76) hx hb d_M_unary_68 (by decide) (fun c14 => ?_) (fun c14 => ?_)
                · have c14 : ¬ y_d Y (ix x) = 12 := c14
                  refine lv_aload_n hx hb d_M_unary_76 rfl (lv_at hl 0 rfl) ?_
                  refine lv_bipush (v := 10) hx hb d_M_unary_77 (by decide) ?_
                  refine lv_iload_n hx hb d_M_unary_79 rfl (lv_at hl 1 rfl) ?_
                  refine lv_iadd hx hb d_M_unary_80 ?_
                  refine lv_iload_n hx hb d_M_unary_81 rfl (lv_at hl 2 rfl) ?_
                  refine lv_iload_n hx hb d_M_unary_82 rfl (lv_at hl 3 rfl) ?_
                  refine lv_iconst (v := (-1)) hx hb d_M_unary_83 (by decide) ?_
                  refine lv_iconst (v := (-1)) hx hb d_M_unary_84 (by decide) ?_
                  refine lv_aload_n hx hb d_M_unary_85 rfl (lv_at hl 0 rfl) ?_
                  refine va_get (D := (dC, dI)) (ci := 3) (v := .ref (b 4)) (C := R_M) (T := T_M) (N := 20) hx hb ht in_M hown hK hP 0 rfl rfl 4 (by decide) (ht _ k_331) (fun _ h => h) rfl d_M_unary_86 ?_
                  refine lv_iload_n hx hb d_M_unary_89 rfl (lv_at hl 3 rfl) ?_
                  refine va_iald hx hb hK hP 4 3 rfl rfl (with_n hV.1 b10) d_M_unary_90 ?_
                  refine lv_iconst (v := 1) hx hb d_M_unary_91 (by decide) ?_
                  refine lv_iadd hx hb d_M_unary_92 ?_
                  refine call_i (As := [.int (10 + kd), .int v, .int x, .int (-1), .int (-1), .int (y_d Y (ix x) + 1)]) (rest := []) (ci := 3) (q0 := 0) (c_M_make l dC dI b h Y (10 + kd) v x (-1) (-1) (y_d Y (ix x) + 1) (cnt_in hV.1 c13) (fun _ => (with_n hV.1 b10)) neg_in neg_in) k_395 k_397 s_M_make k_4 k_398 ⟨rfl, pc_M_make.1, pc_M_make.2, pd_M_make⟩ rfl rfl rfl rfl rfl (rm_le (by omega) (by decide)) (Nat.le_of_ble_eq_true rfl) rfl hx hb hml hown ht hl.1 hP hK hD hS hA hN d_M_unary_93 (fun r15 u16 H locs q17 hP hD hS => ?_)
                  have hP : va_P (dC, dI) vwCl (wY b h u16) H := hP
                  have hD : va_D A (wY b h u16) := hD
                  exact ret_i (v := r15) hx hb hr hlocks hP hK hD hS d_M_unary_96 (by simp only [m_unary, m_un1, b4, c6, b10, eq_true c12, c13, c14, q17, if_true, if_false, Bool.false_eq_true, reduceIte])
                · have c14 : y_d Y (ix x) = 12 := c14
                  refine lv_bipush (v := (-5)) hx hb d_M_unary_71 (by decide) ?_
                  refine lv_goto (tgt := 96) hx hb d_M_unary_73 (by decide) ?_
                  exact ret_i (v := (-5)) hx hb hr hlocks hP hK hD hS d_M_unary_96 (by simp only [m_unary, m_un1, b4, c6, b10, eq_true c12, c13, eq_true c14, if_true, if_false, Bool.false_eq_true, reduceIte])
              · have c13 : y_n Y = 60 := c13
                refine lv_bipush (v := (-4)) hx hb d_M_unary_57 (by decide) ?_
                exact ret_i (v := (-4)) hx hb hr hlocks hP hK hD hS d_M_unary_59 (by simp only [m_unary, m_un1, b4, c6, b10, eq_true c12, eq_true c13, if_true, if_false, Bool.false_eq_true, reduceIte])
            · have c12 : ¬ y_u Y (ix x) = 0 := c12
              refine lv_bipush (v := (-3)) hx hb d_M_unary_45 (by decide) ?_
              exact ret_i (v := (-3)) hx hb hr hlocks hP hK hD hS d_M_unary_47 (by simp only [m_unary, m_un1, b4, c6, b10, c12, if_true, if_false, Bool.false_eq_true, reduceIte])
          · have c11 : (1 : Int32) = 0 := c11
            exact absurd c11 (by decide)
        · rw [q9] at hP hD
          have hP : va_P (dC, dI) vwCl (wY b h Y) H := hP
          have hD : va_D A (wY b h Y) := hD
          refine lv_if_ne (tgt := 36) hx hb d_M_unary_30 (by decide) (fun c18 => ?_) (fun c18 => ?_)
          · have c18 : ¬ (0 : Int32) = 0 := c18
            exact absurd c18 (by decide)
          · have c18 : (0 : Int32) = 0 := c18
            refine lv_bipush (v := (-2)) hx hb d_M_unary_33 (by decide) ?_
            exact ret_i (v := (-2)) hx hb hr hlocks hP hK hD hS d_M_unary_35 (by simp only [m_unary, m_un1, b4, c6, b10, if_true, if_false, Bool.false_eq_true, reduceIte])
      · have c6 : kd = 0 := c6
        refine lv_iload_n hx hb d_M_unary_13 rfl (lv_at hl 2 rfl) ?_
        refine lv_iconst (v := 0) hx hb d_M_unary_14 (by decide) ?_
        refine lv_bipush (v := 7) hx hb d_M_unary_15 (by decide) ?_
        refine call_s (As := [.int v, .int 0, .int 7]) (rest := []) (c_M_within l dC dI b h Y v 0 7) k_392 k_393 k_4 k_394 ⟨rfl, pc_M_within.1, pc_M_within.2, pd_M_within⟩ rfl rfl (rm_le (by omega) (by decide)) (Nat.le_of_ble_eq_true rfl) rfl hx hb hml hown ht hl.1 hP hK hD hS hA hN d_M_unary_17 (fun r19 u20 H locs q21 hP hD hS => ?_)
        obtain ⟨⟨b22, rfl⟩ | ⟨b22, rfl⟩, q21⟩ := q21
        · rw [q21] at hP hD
          have hP : va_P (dC, dI) vwCl (wY b h Y) H := hP
          have hD : va_D A (wY b h Y) := hD
          refine lv_if_ne (tgt := 25) hx hb d_M_unary_20 (by decide) (fun c23 => ?_) (fun c23 => ?_)
          · have c23 : ¬ (1 : Int32) = 0 := c23
            refine lv_aload_n hx hb d_M_unary_25 rfl (lv_at hl 0 rfl) ?_
            refine lv_iload_n hx hb d_M_unary_26 rfl (lv_at hl 3 rfl) ?_
            refine call_i (As := [.int x]) (rest := []) (ci := 3) (q0 := 0) (c_M_is l dC dI b h Y x) k_403 k_405 s_M_is k_4 k_406 ⟨rfl, pc_M_is.1, pc_M_is.2, pd_M_is⟩ rfl rfl rfl rfl rfl (rm_le (by omega) (by decide)) (Nat.le_of_ble_eq_true rfl) rfl hx hb hml hown ht hl.1 hP hK hD hS hA hN d_M_unary_27 (fun r24 u25 H locs q26 hP hD hS => ?_)
            obtain ⟨⟨b27, rfl⟩ | ⟨b27, rfl⟩, q26⟩ := q26
            · rw [q26] at hP hD
              have hP : va_P (dC, dI) vwCl (wY b h Y) H := hP
              have hD : va_D A (wY b h Y) := hD
              refine lv_if_ne (tgt := 36) hx hb d_M_unary_30 (by decide) (fun c28 => ?_) (fun c28 => ?_)
              · have c28 : ¬ (1 : Int32) = 0 := c28
                refine lv_aload_n hx hb d_M_unary_36 rfl (lv_at hl 0 rfl) ?_
                refine va_get (D := (dC, dI)) (ci := 3) (v := .ref (b 5)) (C := R_M) (T := T_M) (N := 20) hx hb ht in_M hown hK hP 0 rfl rfl 5 (by decide) (ht _ k_332) (fun _ h => h) rfl d_M_unary_37 ?_
                refine lv_iload_n hx hb d_M_unary_40 rfl (lv_at hl 3 rfl) ?_
                refine va_zald hx hb hK hP 5 4 rfl rfl (with_n hV.1 b27) d_M_unary_41 ?_
                refine lv_if_eq (tgt := 48) hx hb d_M_unary_42 (by decide) (fun c29 => ?_) (fun c29 => ?_)
                · have c29 : y_u Y (ix x) = 0 := c29
                  refine lv_aload_n hx hb d_M_unary_48 rfl (lv_at hl 0 rfl) ?_
                  refine va_get (D := (dC, dI)) (ci := 3) (v := .int (y_n Y)) (C := R_M) (T := T_M) (N := 20) hx hb ht in_M hown hK hP 0 rfl rfl 0 (by decide) (ht _ k_327) (fun _ h => h) rfl d_M_unary_49 ?_
                  refine lv_bipush (v := 60) hx hb d_M_unary_52 (by decide) ?_
                  refine lv_icmp_ne (tgt := 60) hx hb d_M_unary_54 (by decide) (fun c30 => ?_) (fun c30 => ?_)
                  · have c30 : ¬ y_n Y = 60 := c30
                    refine lv_aload_n hx hb d_M_unary_60 rfl (lv_at hl 0 rfl) ?_
                    refine va_get (D := (dC, dI)) (ci := 3) (v := .ref (b 4)) (C := R_M) (T := T_M) (N := 20) hx hb ht in_M hown hK hP 0 rfl rfl 4 (by decide) (ht _ k_331) (fun _ h => h) rfl d_M_unary_61 ?_
                    refine lv_iload_n hx hb d_M_unary_64 rfl (lv_at hl 3 rfl) ?_
                    refine va_iald hx hb hK hP 4 3 rfl rfl (with_n hV.1 b27) d_M_unary_65 ?_
                    refine lv_bipush (v := 12) hx hb d_M_unary_66 (by decide) ?_
                    refine lv_icmp_ne (tgt := 76) hx hb d_M_unary_68 (by decide) (fun c31 => ?_) (fun c31 => ?_)
                    · have c31 : ¬ y_d Y (ix x) = 12 := c31
                      refine lv_aload_n hx hb d_M_unary_76 rfl (lv_at hl 0 rfl) ?_
                      refine lv_bipush (v := 10) hx hb d_M_unary_77 (by decide) ?_
                      refine lv_iload_n hx hb d_M_unary_79 rfl (lv_at hl 1 rfl) ?_
                      refine lv_iadd hx hb d_M_unary_80 ?_
                      refine lv_iload_n hx hb d_M_unary_81 rfl (lv_at hl 2 rfl) ?_
                      refine lv_iload_n hx hb d_M_unary_82 rfl (lv_at hl 3 rfl) ?_
                      refine lv_iconst (v := (-1)) hx hb d_M_unary_83 (by decide) ?_
                      refine lv_iconst (v := (-1)) hx hb d_M_unary_84 (by decide) ?_
                      refine lv_aload_n hx hb d_M_unary_85 rfl (lv_at hl 0 rfl) ?_
                      refine va_get (D := (dC, dI)) (ci := 3) (v := .ref (b 4)) (C := R_M) (T := T_M) (N := 20) hx hb ht in_M hown hK hP 0 rfl rfl 4 (by decide) (ht _ k_331) (fun _ h => h) rfl d_M_unary_86 ?_
                      refine lv_iload_n hx hb d_M_unary_89 rfl (lv_at hl 3 rfl) ?_
                      refine va_iald hx hb hK hP 4 3 rfl rfl (with_n hV.1 b27) d_M_unary_90 ?_
                      refine lv_iconst (v := 1) hx hb d_M_unary_91 (by decide) ?_
                      refine lv_iadd hx hb d_M_unary_92 ?_
                      refine call_i (As := [.int (10 + kd), .int v, .int x, .int (-1), .int (-1), .int (y_d Y (ix x) + 1)]) (rest := []) (ci := 3) (q0 := 0) (c_M_make l dC dI b h Y (10 + kd) v x (-1) (-1) (y_d Y (ix x) + 1) (cnt_in hV.1 c30) (fun _ => (with_n hV.1 b27)) neg_in neg_in) k_395 k_397 s_M_make k_4 k_398 ⟨rfl, pc_M_make.1, pc_M_make.2, pd_M_make⟩ rfl rfl rfl rfl rfl (rm_le (by omega) (by decide)) (Nat.le_of_ble_eq_true rfl) rfl hx hb hml hown ht hl.1 hP hK hD hS hA hN d_M_unary_93 (fun r32 u33 H locs q34 hP hD hS => ?_)
                      have hP : va_P (dC, dI) vwCl (wY b h u33) H := hP
                      have hD : va_D A (wY b h u33) := hD
                      exact ret_i (v := r32) hx hb hr hlocks hP hK hD hS d_M_unary_96 (by simp only [m_unary, m_un1, b4, eq_true c6, b22, b27, eq_true c29, c30, c31, q34, if_true, if_false, Bool.false_eq_true, reduceIte])
                    · have c31 : y_d Y (ix x) = 12 := c31
                      refine lv_bipush (v := (-5)) hx hb d_M_unary_71 (by decide) ?_
                      refine lv_goto (tgt := 96) hx hb d_M_unary_73 (by decide) ?_
                      exact ret_i (v := (-5)) hx hb hr hlocks hP hK hD hS d_M_unary_96 (by simp only [m_unary, m_un1, b4, eq_true c6, b22, b27, eq_true c29, c30, eq_true c31, if_true, if_false, Bool.false_eq_true, reduceIte])
                  · have c30 : y_n Y = 60 := c30
                    refine lv_bipush (v := (-4)) hx hb d_M_unary_57 (by decide) ?_
                    exact ret_i (v := (-4)) hx hb hr hlocks hP hK hD hS d_M_unary_59 (by simp only [m_unary, m_un1, b4, eq_true c6, b22, b27, eq_true c29, eq_true c30, if_true, if_false, Bool.false_eq_true, reduceIte])
                · have c29 : ¬ y_u Y (ix x) = 0 := c29
                  refine lv_bipush (v := (-3)) hx hb d_M_unary_45 (by decide) ?_
                  exact ret_i (v := (-3)) hx hb hr hlocks hP hK hD hS d_M_unary_47 (by simp only [m_unary, m_un1, b4, eq_true c6, b22, b27, c29, if_true, if_false, Bool.false_eq_true, reduceIte])
              · have c28 : (1 : Int32) = 0 := c28
                exact absurd c28 (by decide)
            · rw [q26] at hP hD
              have hP : va_P (dC, dI) vwCl (wY b h Y) H := hP
              have hD : va_D A (wY b h Y) := hD
              refine lv_if_ne (tgt := 36) hx hb d_M_unary_30 (by decide) (fun c35 => ?_) (fun c35 => ?_)
              · have c35 : ¬ (0 : Int32) = 0 := c35
                exact absurd c35 (by decide)
              · have c35 : (0 : Int32) = 0 := c35
                refine lv_bipush (v := (-2)) hx hb d_M_unary_33 (by decide) ?_
                exact ret_i (v := (-2)) hx hb hr hlocks hP hK hD hS d_M_unary_35 (by simp only [m_unary, m_un1, b4, eq_true c6, b22, b27, if_true, if_false, Bool.false_eq_true, reduceIte])
          · have c23 : (1 : Int32) = 0 := c23
            exact absurd c23 (by decide)
        · rw [q21] at hP hD
          have hP : va_P (dC, dI) vwCl (wY b h Y) H := hP
          have hD : va_D A (wY b h Y) := hD
          refine lv_if_ne (tgt := 25) hx hb d_M_unary_20 (by decide) (fun c36 => ?_) (fun c36 => ?_)
          · have c36 : ¬ (0 : Int32) = 0 := c36
            exact absurd c36 (by decide)
          · have c36 : (0 : Int32) = 0 := c36
            refine lv_iconst (v := (-1)) hx hb d_M_unary_23 (by decide) ?_
            exact ret_i (v := (-1)) hx hb hr hlocks hP hK hD hS d_M_unary_24 (by simp only [m_unary, m_un1, b4, eq_true c6, b22, if_true, if_false, Bool.false_eq_true, reduceIte])
  · rw [q3] at hP hD
    have hP : va_P (dC, dI) vwCl (wY b h Y) H := hP
    have hD : va_D A (wY b h Y) := hD
    refine lv_if_eq (tgt := 23) hx hb d_M_unary_6 (by decide) (fun c37 => ?_) (fun c37 => ?_)
    · have c37 : (0 : Int32) = 0 := c37
      refine lv_iconst (v := (-1)) hx hb d_M_unary_23 (by decide) ?_
      exact ret_i (v := (-1)) hx hb hr hlocks hP hK hD hS d_M_unary_24 (by simp only [m_unary, m_un1, b4, if_true, if_false, Bool.false_eq_true, reduceIte])
    · have c37 : ¬ (0 : Int32) = 0 := c37
      exact absurd c37 (by decide)
set_option maxRecDepth 100000 in
set_option maxHeartbeats 4000000 in
theorem c_M_binary (l : Launch) (dC : Nat → ClassId) (dI : Nat → Nat → Nat) (b : Nat → Nat) (h : Nat → ClassId) (Y : zY) (kd : Int32) (x : Int32) (y : Int32) (hV : VY Y) : MetI l y_M_binary w_M_binary (rmN (3)) dC dI (yY h) (wY b h) [.ref (b 0), .int kd, .int x, .int y] Y (fun z9 u9 => m_binary Y kd x y = (z9, u9)) := by
  refine metI_of (cc := b_M_binary) (maxL := 5) (ret := (some .int)) (by decide) rfl (Nat.le_of_ble_eq_true rfl) ?_
  intro p e9 s9 m args below meth c A ls hx hb hr hts hown hlocks hml hA hP hK hD hS hN hl
  have ht : ∀ w ∈ lw_g, w.before args s9 = true := fun w h => hts w (List.mem_cons_of_mem _ h)
  have hl : lv_has ls 5 [(0, .ref (b 0)), (1, .int kd), (2, .int x), (3, .int y)] := hl
  refine lv_iload_n hx hb d_M_binary_0 rfl (lv_at hl 1 rfl) ?_
  refine lv_iconst (v := 0) hx hb d_M_binary_1 (by decide) ?_
  refine lv_bipush (v := 11) hx hb d_M_binary_2 (by decide) ?_
  refine call_s (As := [.int kd, .int 0, .int 11]) (rest := []) (c_M_within l dC dI b h Y kd 0 11) k_392 k_393 k_4 k_394 ⟨rfl, pc_M_within.1, pc_M_within.2, pd_M_within⟩ rfl rfl (rm_le (by omega) (by decide)) (Nat.le_of_ble_eq_true rfl) rfl hx hb hml hown ht hl.1 hP hK hD hS hA hN d_M_binary_4 (fun r1 u2 H locs q3 hP hD hS => ?_)
  obtain ⟨⟨b4, rfl⟩ | ⟨b4, rfl⟩, q3⟩ := q3
  · rw [q3] at hP hD
    have hP : va_P (dC, dI) vwCl (wY b h Y) H := hP
    have hD : va_D A (wY b h Y) := hD
    refine lv_if_ne (tgt := 12) hx hb d_M_binary_7 (by decide) (fun c5 => ?_) (fun c5 => ?_)
    · have c5 : ¬ (1 : Int32) = 0 := c5
      refine lv_aload_n hx hb d_M_binary_12 rfl (lv_at hl 0 rfl) ?_
      refine lv_iload_n hx hb d_M_binary_13 rfl (lv_at hl 2 rfl) ?_
      refine call_i (As := [.int x]) (rest := []) (ci := 3) (q0 := 0) (c_M_is l dC dI b h Y x) k_403 k_405 s_M_is k_4 k_406 ⟨rfl, pc_M_is.1, pc_M_is.2, pd_M_is⟩ rfl rfl rfl rfl rfl (rm_le (by omega) (by decide)) (Nat.le_of_ble_eq_true rfl) rfl hx hb hml hown ht hl.1 hP hK hD hS hA hN d_M_binary_14 (fun r6 u7 H locs q8 hP hD hS => ?_)
      obtain ⟨⟨b9, rfl⟩ | ⟨b9, rfl⟩, q8⟩ := q8
      · rw [q8] at hP hD
        have hP : va_P (dC, dI) vwCl (wY b h Y) H := hP
        have hD : va_D A (wY b h Y) := hD
        refine lv_if_eq (tgt := 28) hx hb d_M_binary_17 (by decide) (fun c10 => ?_) (fun c10 => ?_)
        · have c10 : (1 : Int32) = 0 := c10
          exact absurd c10 (by decide)
        · have c10 : ¬ (1 : Int32) = 0 := c10
          refine lv_aload_n hx hb d_M_binary_20 rfl (lv_at hl 0 rfl) ?_
          refine lv_iload_n hx hb d_M_binary_21 rfl (lv_at hl 3 rfl) ?_
          refine call_i (As := [.int y]) (rest := []) (ci := 3) (q0 := 0) (c_M_is l dC dI b h Y y) k_403 k_405 s_M_is k_4 k_406 ⟨rfl, pc_M_is.1, pc_M_is.2, pd_M_is⟩ rfl rfl rfl rfl rfl (rm_le (by omega) (by decide)) (Nat.le_of_ble_eq_true rfl) rfl hx hb hml hown ht hl.1 hP hK hD hS hA hN d_M_binary_22 (fun r11 u12 H locs q13 hP hD hS => ?_)
          obtain ⟨⟨b14, rfl⟩ | ⟨b14, rfl⟩, q13⟩ := q13
          · rw [q13] at hP hD
            have hP : va_P (dC, dI) vwCl (wY b h Y) H := hP
            have hD : va_D A (wY b h Y) := hD
            refine lv_if_ne (tgt := 31) hx hb d_M_binary_25 (by decide) (fun c15 => ?_) (fun c15 => ?_)
            · have c15 : ¬ (1 : Int32) = 0 := c15
              refine lv_aload_n hx hb d_M_binary_31 rfl (lv_at hl 0 rfl) ?_
              refine va_get (D := (dC, dI)) (ci := 3) (v := .ref (b 5)) (C := R_M) (T := T_M) (N := 20) hx hb ht in_M hown hK hP 0 rfl rfl 5 (by decide) (ht _ k_332) (fun _ h => h) rfl d_M_binary_32 ?_
              refine lv_iload_n hx hb d_M_binary_35 rfl (lv_at hl 2 rfl) ?_
              refine va_zald hx hb hK hP 5 4 rfl rfl (with_n hV.1 b9) d_M_binary_36 ?_
              refine lv_if_ne (tgt := 54) hx hb d_M_binary_37 (by decide) (fun c16 => ?_) (fun c16 => ?_)
              · have c16 : ¬ y_u Y (ix x) = 0 := c16
                refine lv_bipush (v := (-3)) hx hb d_M_binary_54 (by decide) ?_
                exact ret_i (v := (-3)) hx hb hr hlocks hP hK hD hS d_M_binary_56 (by simp only [m_binary, b4, b9, b14, c16, if_true, if_false, Bool.false_eq_true, reduceIte])
              · have c16 : y_u Y (ix x) = 0 := c16
                refine lv_aload_n hx hb d_M_binary_40 rfl (lv_at hl 0 rfl) ?_
                refine va_get (D := (dC, dI)) (ci := 3) (v := .ref (b 5)) (C := R_M) (T := T_M) (N := 20) hx hb ht in_M hown hK hP 0 rfl rfl 5 (by decide) (ht _ k_332) (fun _ h => h) rfl d_M_binary_41 ?_
                refine lv_iload_n hx hb d_M_binary_44 rfl (lv_at hl 3 rfl) ?_
                refine va_zald hx hb hK hP 5 4 rfl rfl (with_n hV.1 b14) d_M_binary_45 ?_
                refine lv_if_ne (tgt := 54) hx hb d_M_binary_46 (by decide) (fun c17 => ?_) (fun c17 => ?_)
                · have c17 : ¬ y_u Y (ix y) = 0 := c17
                  refine lv_bipush (v := (-3)) hx hb d_M_binary_54 (by decide) ?_
                  exact ret_i (v := (-3)) hx hb hr hlocks hP hK hD hS d_M_binary_56 (by simp only [m_binary, b4, b9, b14, eq_true c16, c17, if_true, if_false, Bool.false_eq_true, reduceIte])
                · have c17 : y_u Y (ix y) = 0 := c17
                  refine lv_iload_n hx hb d_M_binary_49 rfl (lv_at hl 2 rfl) ?_
                  refine lv_iload_n hx hb d_M_binary_50 rfl (lv_at hl 3 rfl) ?_
                  refine lv_icmp_ne (tgt := 57) hx hb d_M_binary_51 (by decide) (fun c18 => ?_) (fun c18 => ?_)
                  · have c18 : ¬ x = y := c18
                    refine lv_aload_n hx hb d_M_binary_57 rfl (lv_at hl 0 rfl) ?_
                    refine va_get (D := (dC, dI)) (ci := 3) (v := .int (y_n Y)) (C := R_M) (T := T_M) (N := 20) hx hb ht in_M hown hK hP 0 rfl rfl 0 (by decide) (ht _ k_327) (fun _ h => h) rfl d_M_binary_58 ?_
                    refine lv_bipush (v := 60) hx hb d_M_binary_61 (by decide) ?_
                    refine lv_icmp_ne (tgt := 69) hx hb d_M_binary_63 (by decide) (fun c19 => ?_) (fun c19 => ?_)
                    · have c19 : ¬ y_n Y = 60 := c19
                      refine lv_aload_n hx hb d_M_binary_69 rfl (lv_at hl 0 rfl) ?_
                      refine va_get (D := (dC, dI)) (ci := 3) (v := .ref (b 4)) (C := R_M) (T := T_M) (N := 20) hx hb ht in_M hown hK hP 0 rfl rfl 4 (by decide) (ht _ k_331) (fun _ h => h) rfl d_M_binary_70 ?_
                      refine lv_iload_n hx hb d_M_binary_73 rfl (lv_at hl 2 rfl) ?_
                      refine va_iald hx hb hK hP 4 3 rfl rfl (with_n hV.1 b9) d_M_binary_74 ?_
                      refine lv_aload_n hx hb d_M_binary_75 rfl (lv_at hl 0 rfl) ?_
                      refine va_get (D := (dC, dI)) (ci := 3) (v := .ref (b 4)) (C := R_M) (T := T_M) (N := 20) hx hb ht in_M hown hK hP 0 rfl rfl 4 (by decide) (ht _ k_331) (fun _ h => h) rfl d_M_binary_76 ?_
                      refine lv_iload_n hx hb d_M_binary_79 rfl (lv_at hl 3 rfl) ?_
                      refine va_iald hx hb hK hP 4 3 rfl rfl (with_n hV.1 b14) d_M_binary_80 ?_
                      refine lv_icmp_le (tgt := 93) hx hb d_M_binary_81 (by decide) (fun c20 => ?_) (fun c20 => ?_)
                      · have c20 : ¬ y_d Y (ix y) < y_d Y (ix x) := Int32.not_lt.mpr c20
                        refine lv_aload_n hx hb d_M_binary_93 rfl (lv_at hl 0 rfl) ?_
                        refine va_get (D := (dC, dI)) (ci := 3) (v := .ref (b 4)) (C := R_M) (T := T_M) (N := 20) hx hb ht in_M hown hK hP 0 rfl rfl 4 (by decide) (ht _ k_331) (fun _ h => h) rfl d_M_binary_94 ?_
                        refine lv_iload_n hx hb d_M_binary_97 rfl (lv_at hl 3 rfl) ?_
                        refine va_iald hx hb hK hP 4 3 rfl rfl (with_n hV.1 b14) d_M_binary_98 ?_
                        refine lv_istore hx hb d_M_binary_99 hl (by decide) (lv' := [(4, .int (y_d Y (ix y))), (0, .ref (b 0)), (1, .int kd), (2, .int x), (3, .int y)]) rfl (fun ls hl => ?_)
                        refine lv_iload hx hb d_M_binary_101 (lv_at hl 0 rfl) ?_
                        refine lv_bipush (v := 12) hx hb d_M_binary_103 (by decide) ?_
                        refine lv_icmp_ne (tgt := 113) hx hb d_M_binary_105 (by decide) (fun c21 => ?_) (fun c21 => ?_)
                        · have c21 : ¬ y_d Y (ix y) = 12 := c21
                          refine lv_aload_n hx hb d_M_binary_113 rfl (lv_at hl 1 rfl) ?_
                          refine lv_bipush (v := 20) hx hb d_M_binary_114 (by decide) ?_
                          refine lv_iload_n hx hb d_M_binary_116 rfl (lv_at hl 2 rfl) ?_
                          refine lv_iadd hx hb d_M_binary_117 ?_
                          refine lv_iconst (v := 0) hx hb d_M_binary_118 (by decide) ?_
                          refine lv_iload_n hx hb d_M_binary_119 rfl (lv_at hl 3 rfl) ?_
                          refine lv_iload_n hx hb d_M_binary_120 rfl (lv_at hl 4 rfl) ?_
                          refine lv_iconst (v := (-1)) hx hb d_M_binary_121 (by decide) ?_
                          refine lv_iload hx hb d_M_binary_122 (lv_at hl 0 rfl) ?_
                          refine lv_iconst (v := 1) hx hb d_M_binary_124 (by decide) ?_
                          refine lv_iadd hx hb d_M_binary_125 ?_
                          refine call_i (As := [.int (20 + kd), .int 0, .int x, .int y, .int (-1), .int (y_d Y (ix y) + 1)]) (rest := []) (ci := 3) (q0 := 0) (c_M_make l dC dI b h Y (20 + kd) 0 x y (-1) (y_d Y (ix y) + 1) (cnt_in hV.1 c19) (fun _ => (with_n hV.1 b9)) (fun _ => (with_n hV.1 b14)) neg_in) k_395 k_397 s_M_make k_4 k_398 ⟨rfl, pc_M_make.1, pc_M_make.2, pd_M_make⟩ rfl rfl rfl rfl rfl (rm_le (by omega) (by decide)) (Nat.le_of_ble_eq_true rfl) rfl hx hb hml hown ht hl.1 hP hK hD hS hA hN d_M_binary_126 (fun r22 u23 H locs q24 hP hD hS => ?_)
                          have hP : va_P (dC, dI) vwCl (wY b h u23) H := hP
                          have hD : va_D A (wY b h u23) := hD
                          exact ret_i (v := r22) hx hb hr hlocks hP hK hD hS d_M_binary_129 (by simp only [m_binary, b4, b9, b14, eq_true c16, eq_true c17, c18, c19, c20, c21, q24, if_true, if_false, Bool.false_eq_true, reduceIte])
                        · have c21 : y_d Y (ix y) = 12 := c21
                          refine lv_bipush (v := (-5)) hx hb d_M_binary_108 (by decide) ?_
                          refine lv_goto (tgt := 129) hx hb d_M_binary_110 (by decide) ?_
                          exact ret_i (v := (-5)) hx hb hr hlocks hP hK hD hS d_M_binary_129 (by simp only [m_binary, b4, b9, b14, eq_true c16, eq_true c17, c18, c19, c20, eq_true c21, if_true, if_false, Bool.false_eq_true, reduceIte])
                      · have c20 : y_d Y (ix y) < y_d Y (ix x) := Int32.not_le.mp c20
                        refine lv_aload_n hx hb d_M_binary_84 rfl (lv_at hl 0 rfl) ?_
                        refine va_get (D := (dC, dI)) (ci := 3) (v := .ref (b 4)) (C := R_M) (T := T_M) (N := 20) hx hb ht in_M hown hK hP 0 rfl rfl 4 (by decide) (ht _ k_331) (fun _ h => h) rfl d_M_binary_85 ?_
                        refine lv_iload_n hx hb d_M_binary_88 rfl (lv_at hl 2 rfl) ?_
                        refine va_iald hx hb hK hP 4 3 rfl rfl (with_n hV.1 b9) d_M_binary_89 ?_
                        refine lv_goto (tgt := 99) hx hb d_M_binary_90 (by decide) ?_
                        refine lv_istore hx hb d_M_binary_99 hl (by decide) (lv' := [(4, .int (y_d Y (ix x))), (0, .ref (b 0)), (1, .int kd), (2, .int x), (3, .int y)]) rfl (fun ls hl => ?_)
                        refine lv_iload hx hb d_M_binary_101 (lv_at hl 0 rfl) ?_
                        refine lv_bipush (v := 12) hx hb d_M_binary_103 (by decide) ?_
                        refine lv_icmp_ne (tgt := 113) hx hb d_M_binary_105 (by decide) (fun c25 => ?_) (fun c25 => ?_)
                        · have c25 : ¬ y_d Y (ix x) = 12 := c25
                          refine lv_aload_n hx hb d_M_binary_113 rfl (lv_at hl 1 rfl) ?_
                          refine lv_bipush (v := 20) hx hb d_M_binary_114 (by decide) ?_
                          refine lv_iload_n hx hb d_M_binary_116 rfl (lv_at hl 2 rfl) ?_
                          refine lv_iadd hx hb d_M_binary_117 ?_
                          refine lv_iconst (v := 0) hx hb d_M_binary_118 (by decide) ?_
                          refine lv_iload_n hx hb d_M_binary_119 rfl (lv_at hl 3 rfl) ?_
                          refine lv_iload_n hx hb d_M_binary_120 rfl (lv_at hl 4 rfl) ?_
                          refine lv_iconst (v := (-1)) hx hb d_M_binary_121 (by decide) ?_
                          refine lv_iload hx hb d_M_binary_122 (lv_at hl 0 rfl) ?_
                          refine lv_iconst (v := 1) hx hb d_M_binary_124 (by decide) ?_
                          refine lv_iadd hx hb d_M_binary_125 ?_
                          refine call_i (As := [.int (20 + kd), .int 0, .int x, .int y, .int (-1), .int (y_d Y (ix x) + 1)]) (rest := []) (ci := 3) (q0 := 0) (c_M_make l dC dI b h Y (20 + kd) 0 x y (-1) (y_d Y (ix x) + 1) (cnt_in hV.1 c19) (fun _ => (with_n hV.1 b9)) (fun _ => (with_n hV.1 b14)) neg_in) k_395 k_397 s_M_make k_4 k_398 ⟨rfl, pc_M_make.1, pc_M_make.2, pd_M_make⟩ rfl rfl rfl rfl rfl (rm_le (by omega) (by decide)) (Nat.le_of_ble_eq_true rfl) rfl hx hb hml hown ht hl.1 hP hK hD hS hA hN d_M_binary_126 (fun r26 u27 H locs q28 hP hD hS => ?_)
                          have hP : va_P (dC, dI) vwCl (wY b h u27) H := hP
                          have hD : va_D A (wY b h u27) := hD
                          exact ret_i (v := r26) hx hb hr hlocks hP hK hD hS d_M_binary_129 (by simp only [m_binary, b4, b9, b14, eq_true c16, eq_true c17, c18, c19, c20, c25, q28, if_true, if_false, Bool.false_eq_true, reduceIte])
                        · have c25 : y_d Y (ix x) = 12 := c25
                          refine lv_bipush (v := (-5)) hx hb d_M_binary_108 (by decide) ?_
                          refine lv_goto (tgt := 129) hx hb d_M_binary_110 (by decide) ?_
                          exact ret_i (v := (-5)) hx hb hr hlocks hP hK hD hS d_M_binary_129 (by simp only [m_binary, b4, b9, b14, eq_true c16, eq_true c17, c18, c19, c20, eq_true c25, if_true, if_false, Bool.false_eq_true, reduceIte])
                    · have c19 : y_n Y = 60 := c19
                      refine lv_bipush (v := (-4)) hx hb d_M_binary_66 (by decide) ?_
                      exact ret_i (v := (-4)) hx hb hr hlocks hP hK hD hS d_M_binary_68 (by simp only [m_binary, b4, b9, b14, eq_true c16, eq_true c17, c18, eq_true c19, if_true, if_false, Bool.false_eq_true, reduceIte])
                  · have c18 : x = y := c18
                    refine lv_bipush (v := (-3)) hx hb d_M_binary_54 (by decide) ?_
                    exact ret_i (v := (-3)) hx hb hr hlocks hP hK hD hS d_M_binary_56 (by simp only [m_binary, b4, b9, b14, eq_true c16, eq_true c17, eq_true c18, if_true, if_false, Bool.false_eq_true, reduceIte])
            · have c15 : (1 : Int32) = 0 := c15
              exact absurd c15 (by decide)
          · rw [q13] at hP hD
            have hP : va_P (dC, dI) vwCl (wY b h Y) H := hP
            have hD : va_D A (wY b h Y) := hD
            refine lv_if_ne (tgt := 31) hx hb d_M_binary_25 (by decide) (fun c29 => ?_) (fun c29 => ?_)
            · have c29 : ¬ (0 : Int32) = 0 := c29
              exact absurd c29 (by decide)
            · have c29 : (0 : Int32) = 0 := c29
              refine lv_bipush (v := (-2)) hx hb d_M_binary_28 (by decide) ?_
              exact ret_i (v := (-2)) hx hb hr hlocks hP hK hD hS d_M_binary_30 (by simp only [m_binary, b4, b9, b14, if_true, if_false, Bool.false_eq_true, reduceIte])
      · rw [q8] at hP hD
        have hP : va_P (dC, dI) vwCl (wY b h Y) H := hP
        have hD : va_D A (wY b h Y) := hD
        refine lv_if_eq (tgt := 28) hx hb d_M_binary_17 (by decide) (fun c30 => ?_) (fun c30 => ?_)
        · have c30 : (0 : Int32) = 0 := c30
          refine lv_bipush (v := (-2)) hx hb d_M_binary_28 (by decide) ?_
          exact ret_i (v := (-2)) hx hb hr hlocks hP hK hD hS d_M_binary_30 (by simp only [m_binary, b4, b9, if_true, if_false, Bool.false_eq_true, reduceIte])
        · have c30 : ¬ (0 : Int32) = 0 := c30
          exact absurd c30 (by decide)
    · have c5 : (1 : Int32) = 0 := c5
      exact absurd c5 (by decide)
  · rw [q3] at hP hD
    have hP : va_P (dC, dI) vwCl (wY b h Y) H := hP
    have hD : va_D A (wY b h Y) := hD
    refine lv_if_ne (tgt := 12) hx hb d_M_binary_7 (by decide) (fun c31 => ?_) (fun c31 => ?_)
    · have c31 : ¬ (0 : Int32) = 0 := c31
      exact absurd c31 (by decide)
    · have c31 : (0 : Int32) = 0 := c31
      refine lv_iconst (v := (-1)) hx hb d_M_binary_10 (by decide) ?_
      exact ret_i (v := (-1)) hx hb hr hlocks hP hK hD hS d_M_binary_11 (by simp only [m_binary, b4, if_true, if_false, Bool.false_eq_true, reduceIte])
set_option maxRecDepth 100000 in
set_option maxHeartbeats 4000000 in
theorem c_M_ternary (l : Launch) (dC : Nat → ClassId) (dI : Nat → Nat → Nat) (b : Nat → Nat) (h : Nat → ClassId) (Y : zY) (kd : Int32) (x : Int32) (y : Int32) (z : Int32) (hV : VY Y) : MetI l y_M_ternary w_M_ternary (rmN (3)) dC dI (yY h) (wY b h) [.ref (b 0), .int kd, .int x, .int y, .int z] Y (fun z9 u9 => m_ternary Y kd x y z = (z9, u9)) := by
  refine metI_of (cc := b_M_ternary) (maxL := 6) (ret := (some .int)) (by decide) rfl (Nat.le_of_ble_eq_true rfl) ?_
  intro p e9 s9 m args below meth c A ls hx hb hr hts hown hlocks hml hA hP hK hD hS hN hl
  have ht : ∀ w ∈ lw_g, w.before args s9 = true := fun w h => hts w (List.mem_cons_of_mem _ h)
  have hl : lv_has ls 6 [(0, .ref (b 0)), (1, .int kd), (2, .int x), (3, .int y), (4, .int z)] := hl
  refine lv_iload_n hx hb d_M_ternary_0 rfl (lv_at hl 1 rfl) ?_
  refine lv_iconst (v := 0) hx hb d_M_ternary_1 (by decide) ?_
  refine lv_iconst (v := 1) hx hb d_M_ternary_2 (by decide) ?_
  refine call_s (As := [.int kd, .int 0, .int 1]) (rest := []) (c_M_within l dC dI b h Y kd 0 1) k_392 k_393 k_4 k_394 ⟨rfl, pc_M_within.1, pc_M_within.2, pd_M_within⟩ rfl rfl (rm_le (by omega) (by decide)) (Nat.le_of_ble_eq_true rfl) rfl hx hb hml hown ht hl.1 hP hK hD hS hA hN d_M_ternary_3 (fun r1 u2 H locs q3 hP hD hS => ?_)
  obtain ⟨⟨b4, rfl⟩ | ⟨b4, rfl⟩, q3⟩ := q3
  · rw [q3] at hP hD
    have hP : va_P (dC, dI) vwCl (wY b h Y) H := hP
    have hD : va_D A (wY b h Y) := hD
    refine lv_if_ne (tgt := 11) hx hb d_M_ternary_6 (by decide) (fun c5 => ?_) (fun c5 => ?_)
    · have c5 : ¬ (1 : Int32) = 0 := c5
      refine lv_aload_n hx hb d_M_ternary_11 rfl (lv_at hl 0 rfl) ?_
      refine lv_iload_n hx hb d_M_ternary_12 rfl (lv_at hl 2 rfl) ?_
      refine call_i (As := [.int x]) (rest := []) (ci := 3) (q0 := 0) (c_M_is l dC dI b h Y x) k_403 k_405 s_M_is k_4 k_406 ⟨rfl, pc_M_is.1, pc_M_is.2, pd_M_is⟩ rfl rfl rfl rfl rfl (rm_le (by omega) (by decide)) (Nat.le_of_ble_eq_true rfl) rfl hx hb hml hown ht hl.1 hP hK hD hS hA hN d_M_ternary_13 (fun r6 u7 H locs q8 hP hD hS => ?_)
      obtain ⟨⟨b9, rfl⟩ | ⟨b9, rfl⟩, q8⟩ := q8
      · rw [q8] at hP hD
        have hP : va_P (dC, dI) vwCl (wY b h Y) H := hP
        have hD : va_D A (wY b h Y) := hD
        refine lv_if_eq (tgt := 36) hx hb d_M_ternary_16 (by decide) (fun c10 => ?_) (fun c10 => ?_)
        · have c10 : (1 : Int32) = 0 := c10
          exact absurd c10 (by decide)
        · have c10 : ¬ (1 : Int32) = 0 := c10
          refine lv_aload_n hx hb d_M_ternary_19 rfl (lv_at hl 0 rfl) ?_
          refine lv_iload_n hx hb d_M_ternary_20 rfl (lv_at hl 3 rfl) ?_
          refine call_i (As := [.int y]) (rest := []) (ci := 3) (q0 := 0) (c_M_is l dC dI b h Y y) k_403 k_405 s_M_is k_4 k_406 ⟨rfl, pc_M_is.1, pc_M_is.2, pd_M_is⟩ rfl rfl rfl rfl rfl (rm_le (by omega) (by decide)) (Nat.le_of_ble_eq_true rfl) rfl hx hb hml hown ht hl.1 hP hK hD hS hA hN d_M_ternary_21 (fun r11 u12 H locs q13 hP hD hS => ?_)
          obtain ⟨⟨b14, rfl⟩ | ⟨b14, rfl⟩, q13⟩ := q13
          · rw [q13] at hP hD
            have hP : va_P (dC, dI) vwCl (wY b h Y) H := hP
            have hD : va_D A (wY b h Y) := hD
            refine lv_if_eq (tgt := 36) hx hb d_M_ternary_24 (by decide) (fun c15 => ?_) (fun c15 => ?_)
            · have c15 : (1 : Int32) = 0 := c15
              exact absurd c15 (by decide)
            · have c15 : ¬ (1 : Int32) = 0 := c15
              refine lv_aload_n hx hb d_M_ternary_27 rfl (lv_at hl 0 rfl) ?_
              refine lv_iload hx hb d_M_ternary_28 (lv_at hl 4 rfl) ?_
              refine call_i (As := [.int z]) (rest := []) (ci := 3) (q0 := 0) (c_M_is l dC dI b h Y z) k_403 k_405 s_M_is k_4 k_406 ⟨rfl, pc_M_is.1, pc_M_is.2, pd_M_is⟩ rfl rfl rfl rfl rfl (rm_le (by omega) (by decide)) (Nat.le_of_ble_eq_true rfl) rfl hx hb hml hown ht hl.1 hP hK hD hS hA hN d_M_ternary_30 (fun r16 u17 H locs q18 hP hD hS => ?_)
              obtain ⟨⟨b19, rfl⟩ | ⟨b19, rfl⟩, q18⟩ := q18
              · rw [q18] at hP hD
                have hP : va_P (dC, dI) vwCl (wY b h Y) H := hP
                have hD : va_D A (wY b h Y) := hD
                refine lv_if_ne (tgt := 39) hx hb d_M_ternary_33 (by decide) (fun c20 => ?_) (fun c20 => ?_)
                · have c20 : ¬ (1 : Int32) = 0 := c20
                  refine lv_aload_n hx hb d_M_ternary_39 rfl (lv_at hl 0 rfl) ?_
                  refine va_get (D := (dC, dI)) (ci := 3) (v := .ref (b 5)) (C := R_M) (T := T_M) (N := 20) hx hb ht in_M hown hK hP 0 rfl rfl 5 (by decide) (ht _ k_332) (fun _ h => h) rfl d_M_ternary_40 ?_
                  refine lv_iload_n hx hb d_M_ternary_43 rfl (lv_at hl 2 rfl) ?_
                  refine va_zald hx hb hK hP 5 4 rfl rfl (with_n hV.1 b9) d_M_ternary_44 ?_
                  refine lv_if_ne (tgt := 84) hx hb d_M_ternary_45 (by decide) (fun c21 => ?_) (fun c21 => ?_)
                  · have c21 : ¬ y_u Y (ix x) = 0 := c21
                    refine lv_bipush (v := (-3)) hx hb d_M_ternary_84 (by decide) ?_
                    exact ret_i (v := (-3)) hx hb hr hlocks hP hK hD hS d_M_ternary_86 (by simp only [m_ternary, m_ter1, m_ter2, b4, b9, b14, b19, c21, if_true, if_false, Bool.false_eq_true, reduceIte])
                  · have c21 : y_u Y (ix x) = 0 := c21
                    refine lv_aload_n hx hb d_M_ternary_48 rfl (lv_at hl 0 rfl) ?_
                    refine va_get (D := (dC, dI)) (ci := 3) (v := .ref (b 5)) (C := R_M) (T := T_M) (N := 20) hx hb ht in_M hown hK hP 0 rfl rfl 5 (by decide) (ht _ k_332) (fun _ h => h) rfl d_M_ternary_49 ?_
                    refine lv_iload_n hx hb d_M_ternary_52 rfl (lv_at hl 3 rfl) ?_
                    refine va_zald hx hb hK hP 5 4 rfl rfl (with_n hV.1 b14) d_M_ternary_53 ?_
                    refine lv_if_ne (tgt := 84) hx hb d_M_ternary_54 (by decide) (fun c22 => ?_) (fun c22 => ?_)
                    · have c22 : ¬ y_u Y (ix y) = 0 := c22
                      refine lv_bipush (v := (-3)) hx hb d_M_ternary_84 (by decide) ?_
                      exact ret_i (v := (-3)) hx hb hr hlocks hP hK hD hS d_M_ternary_86 (by simp only [m_ternary, m_ter1, m_ter2, b4, b9, b14, b19, eq_true c21, c22, if_true, if_false, Bool.false_eq_true, reduceIte])
                    · have c22 : y_u Y (ix y) = 0 := c22
                      refine lv_aload_n hx hb d_M_ternary_57 rfl (lv_at hl 0 rfl) ?_
                      refine va_get (D := (dC, dI)) (ci := 3) (v := .ref (b 5)) (C := R_M) (T := T_M) (N := 20) hx hb ht in_M hown hK hP 0 rfl rfl 5 (by decide) (ht _ k_332) (fun _ h => h) rfl d_M_ternary_58 ?_
                      refine lv_iload hx hb d_M_ternary_61 (lv_at hl 4 rfl) ?_
                      refine va_zald hx hb hK hP 5 4 rfl rfl (with_n hV.1 b19) d_M_ternary_63 ?_
                      refine lv_if_ne (tgt := 84) hx hb d_M_ternary_64 (by decide) (fun c23 => ?_) (fun c23 => ?_)
                      · have c23 : ¬ y_u Y (ix z) = 0 := c23
                        refine lv_bipush (v := (-3)) hx hb d_M_ternary_84 (by decide) ?_
                        exact ret_i (v := (-3)) hx hb hr hlocks hP hK hD hS d_M_ternary_86 (by simp only [m_ternary, m_ter1, m_ter2, b4, b9, b14, b19, eq_true c21, eq_true c22, c23, if_true, if_false, Bool.false_eq_true, reduceIte])
                      · have c23 : y_u Y (ix z) = 0 := c23
                        refine lv_iload_n hx hb d_M_ternary_67 rfl (lv_at hl 2 rfl) ?_
                        refine lv_iload_n hx hb d_M_ternary_68 rfl (lv_at hl 3 rfl) ?_
                        refine lv_icmp_eq (tgt := 84) hx hb d_M_ternary_69 (by decide) (fun c24 => ?_) (fun c24 => ?_)
                        · have c24 : x = y := c24
                          refine lv_bipush (v := (-3)) hx hb d_M_ternary_84 (by decide) ?_
                          exact ret_i (v := (-3)) hx hb hr hlocks hP hK hD hS d_M_ternary_86 (by simp only [m_ternary, m_ter1, m_ter2, b4, b9, b14, b19, eq_true c21, eq_true c22, eq_true c23, eq_true c24, if_true, if_false, Bool.false_eq_true, reduceIte])
                        · have c24 : ¬ x = y := c24
                          refine lv_iload_n hx hb d_M_ternary_72 rfl (lv_at hl 2 rfl) ?_
                          refine lv_iload hx hb d_M_ternary_73 (lv_at hl 4 rfl) ?_
                          refine lv_icmp_eq (tgt := 84) hx hb d_M_ternary_75 (by decide) (fun c25 => ?_) (fun c25 => ?_)
                          · have c25 : x = z := c25
                            refine lv_bipush (v := (-3)) hx hb d_M_ternary_84 (by decide) ?_
                            exact ret_i (v := (-3)) hx hb hr hlocks hP hK hD hS d_M_ternary_86 (by simp only [m_ternary, m_ter1, m_ter2, b4, b9, b14, b19, eq_true c21, eq_true c22, eq_true c23, c24, eq_true c25, if_true, if_false, Bool.false_eq_true, reduceIte])
                          · have c25 : ¬ x = z := c25
                            refine lv_iload_n hx hb d_M_ternary_78 rfl (lv_at hl 3 rfl) ?_
                            refine lv_iload hx hb d_M_ternary_79 (lv_at hl 4 rfl) ?_
                            refine lv_icmp_ne (tgt := 87) hx hb d_M_ternary_81 (by decide) (fun c26 => ?_) (fun c26 => ?_)
                            · have c26 : ¬ y = z := c26
                              refine lv_aload_n hx hb d_M_ternary_87 rfl (lv_at hl 0 rfl) ?_
                              refine va_get (D := (dC, dI)) (ci := 3) (v := .int (y_n Y)) (C := R_M) (T := T_M) (N := 20) hx hb ht in_M hown hK hP 0 rfl rfl 0 (by decide) (ht _ k_327) (fun _ h => h) rfl d_M_ternary_88 ?_
                              refine lv_bipush (v := 60) hx hb d_M_ternary_91 (by decide) ?_
                              refine lv_icmp_ne (tgt := 99) hx hb d_M_ternary_93 (by decide) (fun c27 => ?_) (fun c27 => ?_)
                              · have c27 : ¬ y_n Y = 60 := c27
                                refine lv_aload_n hx hb d_M_ternary_99 rfl (lv_at hl 0 rfl) ?_
                                refine va_get (D := (dC, dI)) (ci := 3) (v := .ref (b 4)) (C := R_M) (T := T_M) (N := 20) hx hb ht in_M hown hK hP 0 rfl rfl 4 (by decide) (ht _ k_331) (fun _ h => h) rfl d_M_ternary_100 ?_
                                refine lv_iload_n hx hb d_M_ternary_103 rfl (lv_at hl 2 rfl) ?_
                                refine va_iald hx hb hK hP 4 3 rfl rfl (with_n hV.1 b9) d_M_ternary_104 ?_
                                refine lv_aload_n hx hb d_M_ternary_105 rfl (lv_at hl 0 rfl) ?_
                                refine va_get (D := (dC, dI)) (ci := 3) (v := .ref (b 4)) (C := R_M) (T := T_M) (N := 20) hx hb ht in_M hown hK hP 0 rfl rfl 4 (by decide) (ht _ k_331) (fun _ h => h) rfl d_M_ternary_106 ?_
                                refine lv_iload_n hx hb d_M_ternary_109 rfl (lv_at hl 3 rfl) ?_
                                refine va_iald hx hb hK hP 4 3 rfl rfl (with_n hV.1 b14) d_M_ternary_110 ?_
                                refine lv_icmp_le (tgt := 123) hx hb d_M_ternary_111 (by decide) (fun c28 => ?_) (fun c28 => ?_)
                                · have c28 : ¬ y_d Y (ix y) < y_d Y (ix x) := Int32.not_lt.mpr c28
                                  refine lv_aload_n hx hb d_M_ternary_123 rfl (lv_at hl 0 rfl) ?_
                                  refine va_get (D := (dC, dI)) (ci := 3) (v := .ref (b 4)) (C := R_M) (T := T_M) (N := 20) hx hb ht in_M hown hK hP 0 rfl rfl 4 (by decide) (ht _ k_331) (fun _ h => h) rfl d_M_ternary_124 ?_
                                  refine lv_iload_n hx hb d_M_ternary_127 rfl (lv_at hl 3 rfl) ?_
                                  refine va_iald hx hb hK hP 4 3 rfl rfl (with_n hV.1 b14) d_M_ternary_128 ?_
                                  refine lv_istore hx hb d_M_ternary_129 hl (by decide) (lv' := [(5, .int (y_d Y (ix y))), (0, .ref (b 0)), (1, .int kd), (2, .int x), (3, .int y), (4, .int z)]) rfl (fun ls hl => ?_)
                                  refine lv_aload_n hx hb d_M_ternary_131 rfl (lv_at hl 1 rfl) ?_
                                  refine va_get (D := (dC, dI)) (ci := 3) (v := .ref (b 4)) (C := R_M) (T := T_M) (N := 20) hx hb ht in_M hown hK hP 0 rfl rfl 4 (by decide) (ht _ k_331) (fun _ h => h) rfl d_M_ternary_132 ?_
                                  refine lv_iload hx hb d_M_ternary_135 (lv_at hl 5 rfl) ?_
                                  refine va_iald hx hb hK hP 4 3 rfl rfl (with_n hV.1 b19) d_M_ternary_137 ?_
                                  refine lv_iload hx hb d_M_ternary_138 (lv_at hl 0 rfl) ?_
                                  refine lv_icmp_le (tgt := 152) hx hb d_M_ternary_140 (by decide) (fun c29 => ?_) (fun c29 => ?_)
                                  · have c29 : ¬ y_d Y (ix y) < y_d Y (ix z) := Int32.not_lt.mpr c29
                                    refine lv_iload hx hb d_M_ternary_152 (lv_at hl 0 rfl) ?_
                                    refine lv_bipush (v := 12) hx hb d_M_ternary_154 (by decide) ?_
                                    refine lv_icmp_ne (tgt := 164) hx hb d_M_ternary_156 (by decide) (fun c30 => ?_) (fun c30 => ?_)
                                    · have c30 : ¬ y_d Y (ix y) = 12 := c30
                                      refine lv_aload_n hx hb d_M_ternary_164 rfl (lv_at hl 1 rfl) ?_
                                      refine lv_bipush (v := 40) hx hb d_M_ternary_165 (by decide) ?_
                                      refine lv_iload_n hx hb d_M_ternary_167 rfl (lv_at hl 2 rfl) ?_
                                      refine lv_iadd hx hb d_M_ternary_168 ?_
                                      refine lv_iconst (v := 0) hx hb d_M_ternary_169 (by decide) ?_
                                      refine lv_iload_n hx hb d_M_ternary_170 rfl (lv_at hl 3 rfl) ?_
                                      refine lv_iload_n hx hb d_M_ternary_171 rfl (lv_at hl 4 rfl) ?_
                                      refine lv_iload hx hb d_M_ternary_172 (lv_at hl 5 rfl) ?_
                                      refine lv_iload hx hb d_M_ternary_174 (lv_at hl 0 rfl) ?_
                                      refine lv_iconst (v := 1) hx hb d_M_ternary_176 (by decide) ?_
                                      refine lv_iadd hx hb d_M_ternary_177 ?_
                                      refine call_i (As := [.int (40 + kd), .int 0, .int x, .int y, .int z, .int (y_d Y (ix y) + 1)]) (rest := []) (ci := 3) (q0 := 0) (c_M_make l dC dI b h Y (40 + kd) 0 x y z (y_d Y (ix y) + 1) (cnt_in hV.1 c27) (fun _ => (with_n hV.1 b9)) (fun _ => (with_n hV.1 b14)) (fun _ => (with_n hV.1 b19))) k_395 k_397 s_M_make k_4 k_398 ⟨rfl, pc_M_make.1, pc_M_make.2, pd_M_make⟩ rfl rfl rfl rfl rfl (rm_le (by omega) (by decide)) (Nat.le_of_ble_eq_true rfl) rfl hx hb hml hown ht hl.1 hP hK hD hS hA hN d_M_ternary_178 (fun r31 u32 H locs q33 hP hD hS => ?_)
                                      have hP : va_P (dC, dI) vwCl (wY b h u32) H := hP
                                      have hD : va_D A (wY b h u32) := hD
                                      exact ret_i (v := r31) hx hb hr hlocks hP hK hD hS d_M_ternary_181 (by simp only [m_ternary, m_ter1, m_ter2, b4, b9, b14, b19, eq_true c21, eq_true c22, eq_true c23, c24, c25, c26, c27, c28, c29, c30, q33, if_true, if_false, Bool.false_eq_true, reduceIte])
                                    · have c30 : y_d Y (ix y) = 12 := c30
                                      refine lv_bipush (v := (-5)) hx hb d_M_ternary_159 (by decide) ?_
                                      refine lv_goto (tgt := 181) hx hb d_M_ternary_161 (by decide) ?_
                                      exact ret_i (v := (-5)) hx hb hr hlocks hP hK hD hS d_M_ternary_181 (by simp only [m_ternary, m_ter1, m_ter2, b4, b9, b14, b19, eq_true c21, eq_true c22, eq_true c23, c24, c25, c26, c27, c28, c29, eq_true c30, if_true, if_false, Bool.false_eq_true, reduceIte])
                                  · have c29 : y_d Y (ix y) < y_d Y (ix z) := Int32.not_le.mp c29
                                    refine lv_aload_n hx hb d_M_ternary_143 rfl (lv_at hl 1 rfl) ?_
                                    refine va_get (D := (dC, dI)) (ci := 3) (v := .ref (b 4)) (C := R_M) (T := T_M) (N := 20) hx hb ht in_M hown hK hP 0 rfl rfl 4 (by decide) (ht _ k_331) (fun _ h => h) rfl d_M_ternary_144 ?_
                                    refine lv_iload hx hb d_M_ternary_147 (lv_at hl 5 rfl) ?_
                                    refine va_iald hx hb hK hP 4 3 rfl rfl (with_n hV.1 b19) d_M_ternary_149 ?_
                                    refine lv_istore hx hb d_M_ternary_150 hl (by decide) (lv' := [(5, .int (y_d Y (ix z))), (0, .ref (b 0)), (1, .int kd), (2, .int x), (3, .int y), (4, .int z)]) rfl (fun ls hl => ?_)
                                    refine lv_iload hx hb d_M_ternary_152 (lv_at hl 0 rfl) ?_
                                    refine lv_bipush (v := 12) hx hb d_M_ternary_154 (by decide) ?_
                                    refine lv_icmp_ne (tgt := 164) hx hb d_M_ternary_156 (by decide) (fun c34 => ?_) (fun c34 => ?_)
                                    · have c34 : ¬ y_d Y (ix z) = 12 := c34
                                      refine lv_aload_n hx hb d_M_ternary_164 rfl (lv_at hl 1 rfl) ?_
                                      refine lv_bipush (v := 40) hx hb d_M_ternary_165 (by decide) ?_
                                      refine lv_iload_n hx hb d_M_ternary_167 rfl (lv_at hl 2 rfl) ?_
                                      refine lv_iadd hx hb d_M_ternary_168 ?_
                                      refine lv_iconst (v := 0) hx hb d_M_ternary_169 (by decide) ?_
                                      refine lv_iload_n hx hb d_M_ternary_170 rfl (lv_at hl 3 rfl) ?_
                                      refine lv_iload_n hx hb d_M_ternary_171 rfl (lv_at hl 4 rfl) ?_
                                      refine lv_iload hx hb d_M_ternary_172 (lv_at hl 5 rfl) ?_
                                      refine lv_iload hx hb d_M_ternary_174 (lv_at hl 0 rfl) ?_
                                      refine lv_iconst (v := 1) hx hb d_M_ternary_176 (by decide) ?_
                                      refine lv_iadd hx hb d_M_ternary_177 ?_
                                      refine call_i (As := [.int (40 + kd), .int 0, .int x, .int y, .int z, .int (y_d Y (ix z) + 1)]) (rest := []) (ci := 3) (q0 := 0) (c_M_make l dC dI b h Y (40 + kd) 0 x y z (y_d Y (ix z) + 1) (cnt_in hV.1 c27) (fun _ => (with_n hV.1 b9)) (fun _ => (with_n hV.1 b14)) (fun _ => (with_n hV.1 b19))) k_395 k_397 s_M_make k_4 k_398 ⟨rfl, pc_M_make.1, pc_M_make.2, pd_M_make⟩ rfl rfl rfl rfl rfl (rm_le (by omega) (by decide)) (Nat.le_of_ble_eq_true rfl) rfl hx hb hml hown ht hl.1 hP hK hD hS hA hN d_M_ternary_178 (fun r35 u36 H locs q37 hP hD hS => ?_)
                                      have hP : va_P (dC, dI) vwCl (wY b h u36) H := hP
                                      have hD : va_D A (wY b h u36) := hD
                                      exact ret_i (v := r35) hx hb hr hlocks hP hK hD hS d_M_ternary_181 (by simp only [m_ternary, m_ter1, m_ter2, b4, b9, b14, b19, eq_true c21, eq_true c22, eq_true c23, c24, c25, c26, c27, c28, c29, c34, q37, if_true, if_false, Bool.false_eq_true, reduceIte])
                                    · have c34 : y_d Y (ix z) = 12 := c34
                                      refine lv_bipush (v := (-5)) hx hb d_M_ternary_159 (by decide) ?_
                                      refine lv_goto (tgt := 181) hx hb d_M_ternary_161 (by decide) ?_
                                      exact ret_i (v := (-5)) hx hb hr hlocks hP hK hD hS d_M_ternary_181 (by simp only [m_ternary, m_ter1, m_ter2, b4, b9, b14, b19, eq_true c21, eq_true c22, eq_true c23, c24, c25, c26, c27, c28, c29, eq_true c34, if_true, if_false, Bool.false_eq_true, reduceIte])
                                · have c28 : y_d Y (ix y) < y_d Y (ix x) := Int32.not_le.mp c28
                                  refine lv_aload_n hx hb d_M_ternary_114 rfl (lv_at hl 0 rfl) ?_
                                  refine va_get (D := (dC, dI)) (ci := 3) (v := .ref (b 4)) (C := R_M) (T := T_M) (N := 20) hx hb ht in_M hown hK hP 0 rfl rfl 4 (by decide) (ht _ k_331) (fun _ h => h) rfl d_M_ternary_115 ?_
                                  refine lv_iload_n hx hb d_M_ternary_118 rfl (lv_at hl 2 rfl) ?_
                                  refine va_iald hx hb hK hP 4 3 rfl rfl (with_n hV.1 b9) d_M_ternary_119 ?_
                                  refine lv_goto (tgt := 129) hx hb d_M_ternary_120 (by decide) ?_
                                  refine lv_istore hx hb d_M_ternary_129 hl (by decide) (lv' := [(5, .int (y_d Y (ix x))), (0, .ref (b 0)), (1, .int kd), (2, .int x), (3, .int y), (4, .int z)]) rfl (fun ls hl => ?_)
                                  refine lv_aload_n hx hb d_M_ternary_131 rfl (lv_at hl 1 rfl) ?_
                                  refine va_get (D := (dC, dI)) (ci := 3) (v := .ref (b 4)) (C := R_M) (T := T_M) (N := 20) hx hb ht in_M hown hK hP 0 rfl rfl 4 (by decide) (ht _ k_331) (fun _ h => h) rfl d_M_ternary_132 ?_
                                  refine lv_iload hx hb d_M_ternary_135 (lv_at hl 5 rfl) ?_
                                  refine va_iald hx hb hK hP 4 3 rfl rfl (with_n hV.1 b19) d_M_ternary_137 ?_
                                  refine lv_iload hx hb d_M_ternary_138 (lv_at hl 0 rfl) ?_
                                  refine lv_icmp_le (tgt := 152) hx hb d_M_ternary_140 (by decide) (fun c38 => ?_) (fun c38 => ?_)
                                  · have c38 : ¬ y_d Y (ix x) < y_d Y (ix z) := Int32.not_lt.mpr c38
                                    refine lv_iload hx hb d_M_ternary_152 (lv_at hl 0 rfl) ?_
                                    refine lv_bipush (v := 12) hx hb d_M_ternary_154 (by decide) ?_
                                    refine lv_icmp_ne (tgt := 164) hx hb d_M_ternary_156 (by decide) (fun c39 => ?_) (fun c39 => ?_)
                                    · have c39 : ¬ y_d Y (ix x) = 12 := c39
                                      refine lv_aload_n hx hb d_M_ternary_164 rfl (lv_at hl 1 rfl) ?_
                                      refine lv_bipush (v := 40) hx hb d_M_ternary_165 (by decide) ?_
                                      refine lv_iload_n hx hb d_M_ternary_167 rfl (lv_at hl 2 rfl) ?_
                                      refine lv_iadd hx hb d_M_ternary_168 ?_
                                      refine lv_iconst (v := 0) hx hb d_M_ternary_169 (by decide) ?_
                                      refine lv_iload_n hx hb d_M_ternary_170 rfl (lv_at hl 3 rfl) ?_
                                      refine lv_iload_n hx hb d_M_ternary_171 rfl (lv_at hl 4 rfl) ?_
                                      refine lv_iload hx hb d_M_ternary_172 (lv_at hl 5 rfl) ?_
                                      refine lv_iload hx hb d_M_ternary_174 (lv_at hl 0 rfl) ?_
                                      refine lv_iconst (v := 1) hx hb d_M_ternary_176 (by decide) ?_
                                      refine lv_iadd hx hb d_M_ternary_177 ?_
                                      refine call_i (As := [.int (40 + kd), .int 0, .int x, .int y, .int z, .int (y_d Y (ix x) + 1)]) (rest := []) (ci := 3) (q0 := 0) (c_M_make l dC dI b h Y (40 + kd) 0 x y z (y_d Y (ix x) + 1) (cnt_in hV.1 c27) (fun _ => (with_n hV.1 b9)) (fun _ => (with_n hV.1 b14)) (fun _ => (with_n hV.1 b19))) k_395 k_397 s_M_make k_4 k_398 ⟨rfl, pc_M_make.1, pc_M_make.2, pd_M_make⟩ rfl rfl rfl rfl rfl (rm_le (by omega) (by decide)) (Nat.le_of_ble_eq_true rfl) rfl hx hb hml hown ht hl.1 hP hK hD hS hA hN d_M_ternary_178 (fun r40 u41 H locs q42 hP hD hS => ?_)
                                      have hP : va_P (dC, dI) vwCl (wY b h u41) H := hP
                                      have hD : va_D A (wY b h u41) := hD
                                      exact ret_i (v := r40) hx hb hr hlocks hP hK hD hS d_M_ternary_181 (by simp only [m_ternary, m_ter1, m_ter2, b4, b9, b14, b19, eq_true c21, eq_true c22, eq_true c23, c24, c25, c26, c27, c28, c38, c39, q42, if_true, if_false, Bool.false_eq_true, reduceIte])
                                    · have c39 : y_d Y (ix x) = 12 := c39
                                      refine lv_bipush (v := (-5)) hx hb d_M_ternary_159 (by decide) ?_
                                      refine lv_goto (tgt := 181) hx hb d_M_ternary_161 (by decide) ?_
                                      exact ret_i (v := (-5)) hx hb hr hlocks hP hK hD hS d_M_ternary_181 (by simp only [m_ternary, m_ter1, m_ter2, b4, b9, b14, b19, eq_true c21, eq_true c22, eq_true c23, c24, c25, c26, c27, c28, c38, eq_true c39, if_true, if_false, Bool.false_eq_true, reduceIte])
                                  · have c38 : y_d Y (ix x) < y_d Y (ix z) := Int32.not_le.mp c38
                                    refine lv_aload_n hx hb d_M_ternary_143 rfl (lv_at hl 1 rfl) ?_
                                    refine va_get (D := (dC, dI)) (ci := 3) (v := .ref (b 4)) (C := R_M) (T := T_M) (N := 20) hx hb ht in_M hown hK hP 0 rfl rfl 4 (by decide) (ht _ k_331) (fun _ h => h) rfl d_M_ternary_144 ?_
                                    refine lv_iload hx hb d_M_ternary_147 (lv_at hl 5 rfl) ?_
                                    refine va_iald hx hb hK hP 4 3 rfl rfl (with_n hV.1 b19) d_M_ternary_149 ?_
                                    refine lv_istore hx hb d_M_ternary_150 hl (by decide) (lv' := [(5, .int (y_d Y (ix z))), (0, .ref (b 0)), (1, .int kd), (2, .int x), (3, .int y), (4, .int z)]) rfl (fun ls hl => ?_)
                                    refine lv_iload hx hb d_M_ternary_152 (lv_at hl 0 rfl) ?_
                                    refine lv_bipush (v := 12) hx hb d_M_ternary_154 (by decide) ?_
                                    refine lv_icmp_ne (tgt := 164) hx hb d_M_ternary_156 (by decide) (fun c43 => ?_) (fun c43 => ?_)
                                    · have c43 : ¬ y_d Y (ix z) = 12 := c43
                                      refine lv_aload_n hx hb d_M_ternary_164 rfl (lv_at hl 1 rfl) ?_
                                      refine lv_bipush (v := 40) hx hb d_M_ternary_165 (by decide) ?_
                                      refine lv_iload_n hx hb d_M_ternary_167 rfl (lv_at hl 2 rfl) ?_
                                      refine lv_iadd hx hb d_M_ternary_168 ?_
                                      refine lv_iconst (v := 0) hx hb d_M_ternary_169 (by decide) ?_
                                      refine lv_iload_n hx hb d_M_ternary_170 rfl (lv_at hl 3 rfl) ?_
                                      refine lv_iload_n hx hb d_M_ternary_171 rfl (lv_at hl 4 rfl) ?_
                                      refine lv_iload hx hb d_M_ternary_172 (lv_at hl 5 rfl) ?_
                                      refine lv_iload hx hb d_M_ternary_174 (lv_at hl 0 rfl) ?_
                                      refine lv_iconst (v := 1) hx hb d_M_ternary_176 (by decide) ?_
                                      refine lv_iadd hx hb d_M_ternary_177 ?_
                                      refine call_i (As := [.int (40 + kd), .int 0, .int x, .int y, .int z, .int (y_d Y (ix z) + 1)]) (rest := []) (ci := 3) (q0 := 0) (c_M_make l dC dI b h Y (40 + kd) 0 x y z (y_d Y (ix z) + 1) (cnt_in hV.1 c27) (fun _ => (with_n hV.1 b9)) (fun _ => (with_n hV.1 b14)) (fun _ => (with_n hV.1 b19))) k_395 k_397 s_M_make k_4 k_398 ⟨rfl, pc_M_make.1, pc_M_make.2, pd_M_make⟩ rfl rfl rfl rfl rfl (rm_le (by omega) (by decide)) (Nat.le_of_ble_eq_true rfl) rfl hx hb hml hown ht hl.1 hP hK hD hS hA hN d_M_ternary_178 (fun r44 u45 H locs q46 hP hD hS => ?_)
                                      have hP : va_P (dC, dI) vwCl (wY b h u45) H := hP
                                      have hD : va_D A (wY b h u45) := hD
                                      exact ret_i (v := r44) hx hb hr hlocks hP hK hD hS d_M_ternary_181 (by simp only [m_ternary, m_ter1, m_ter2, b4, b9, b14, b19, eq_true c21, eq_true c22, eq_true c23, c24, c25, c26, c27, c28, c38, c43, q46, if_true, if_false, Bool.false_eq_true, reduceIte])
                                    · have c43 : y_d Y (ix z) = 12 := c43
                                      refine lv_bipush (v := (-5)) hx hb d_M_ternary_159 (by decide) ?_
                                      refine lv_goto (tgt := 181) hx hb d_M_ternary_161 (by decide) ?_
                                      exact ret_i (v := (-5)) hx hb hr hlocks hP hK hD hS d_M_ternary_181 (by simp only [m_ternary, m_ter1, m_ter2, b4, b9, b14, b19, eq_true c21, eq_true c22, eq_true c23, c24, c25, c26, c27, c28, c38, eq_true c43, if_true, if_false, Bool.false_eq_true, reduceIte])
                              · have c27 : y_n Y = 60 := c27
                                refine lv_bipush (v := (-4)) hx hb d_M_ternary_96 (by decide) ?_
                                exact ret_i (v := (-4)) hx hb hr hlocks hP hK hD hS d_M_ternary_98 (by simp only [m_ternary, m_ter1, m_ter2, b4, b9, b14, b19, eq_true c21, eq_true c22, eq_true c23, c24, c25, c26, eq_true c27, if_true, if_false, Bool.false_eq_true, reduceIte])
                            · have c26 : y = z := c26
                              refine lv_bipush (v := (-3)) hx hb d_M_ternary_84 (by decide) ?_
                              exact ret_i (v := (-3)) hx hb hr hlocks hP hK hD hS d_M_ternary_86 (by simp only [m_ternary, m_ter1, m_ter2, b4, b9, b14, b19, eq_true c21, eq_true c22, eq_true c23, c24, c25, eq_true c26, if_true, if_false, Bool.false_eq_true, reduceIte])
                · have c20 : (1 : Int32) = 0 := c20
                  exact absurd c20 (by decide)
              · rw [q18] at hP hD
                have hP : va_P (dC, dI) vwCl (wY b h Y) H := hP
                have hD : va_D A (wY b h Y) := hD
                refine lv_if_ne (tgt := 39) hx hb d_M_ternary_33 (by decide) (fun c47 => ?_) (fun c47 => ?_)
                · have c47 : ¬ (0 : Int32) = 0 := c47
                  exact absurd c47 (by decide)
                · have c47 : (0 : Int32) = 0 := c47
                  refine lv_bipush (v := (-2)) hx hb d_M_ternary_36 (by decide) ?_
                  exact ret_i (v := (-2)) hx hb hr hlocks hP hK hD hS d_M_ternary_38 (by simp only [m_ternary, m_ter1, m_ter2, b4, b9, b14, b19, if_true, if_false, Bool.false_eq_true, reduceIte])
          · rw [q13] at hP hD
            have hP : va_P (dC, dI) vwCl (wY b h Y) H := hP
            have hD : va_D A (wY b h Y) := hD
            refine lv_if_eq (tgt := 36) hx hb d_M_ternary_24 (by decide) (fun c48 => ?_) (fun c48 => ?_)
            · have c48 : (0 : Int32) = 0 := c48
              refine lv_bipush (v := (-2)) hx hb d_M_ternary_36 (by decide) ?_
              exact ret_i (v := (-2)) hx hb hr hlocks hP hK hD hS d_M_ternary_38 (by simp only [m_ternary, m_ter1, m_ter2, b4, b9, b14, if_true, if_false, Bool.false_eq_true, reduceIte])
            · have c48 : ¬ (0 : Int32) = 0 := c48
              exact absurd c48 (by decide)
      · rw [q8] at hP hD
        have hP : va_P (dC, dI) vwCl (wY b h Y) H := hP
        have hD : va_D A (wY b h Y) := hD
        refine lv_if_eq (tgt := 36) hx hb d_M_ternary_16 (by decide) (fun c49 => ?_) (fun c49 => ?_)
        · have c49 : (0 : Int32) = 0 := c49
          refine lv_bipush (v := (-2)) hx hb d_M_ternary_36 (by decide) ?_
          exact ret_i (v := (-2)) hx hb hr hlocks hP hK hD hS d_M_ternary_38 (by simp only [m_ternary, m_ter1, m_ter2, b4, b9, if_true, if_false, Bool.false_eq_true, reduceIte])
        · have c49 : ¬ (0 : Int32) = 0 := c49
          exact absurd c49 (by decide)
    · have c5 : (1 : Int32) = 0 := c5
      exact absurd c5 (by decide)
  · rw [q3] at hP hD
    have hP : va_P (dC, dI) vwCl (wY b h Y) H := hP
    have hD : va_D A (wY b h Y) := hD
    refine lv_if_ne (tgt := 11) hx hb d_M_ternary_6 (by decide) (fun c50 => ?_) (fun c50 => ?_)
    · have c50 : ¬ (0 : Int32) = 0 := c50
      exact absurd c50 (by decide)
    · have c50 : (0 : Int32) = 0 := c50
      refine lv_iconst (v := (-1)) hx hb d_M_ternary_9 (by decide) ?_
      exact ret_i (v := (-1)) hx hb hr hlocks hP hK hD hS d_M_ternary_10 (by simp only [m_ternary, m_ter1, m_ter2, b4, if_true, if_false, Bool.false_eq_true, reduceIte])
set_option maxRecDepth 100000 in
set_option maxHeartbeats 4000000 in
theorem c_M_expressions (l : Launch) (dC : Nat → ClassId) (dI : Nat → Nat → Nat) (b : Nat → Nat) (h : Nat → ClassId) (Y : zY) : MetI l y_M_expressions w_M_expressions (rmN (0)) dC dI (yY h) (wY b h) [.ref (b 0)] Y (fun z9 u9 => z9 = y_n Y ∧ u9 = Y) := by
  refine metI_of (cc := b_M_expressions) (maxL := 1) (ret := (some .int)) (by decide) rfl (Nat.le_of_ble_eq_true rfl) ?_
  intro p e9 s9 m args below meth c A ls hx hb hr hts hown hlocks hml hA hP hK hD hS hN hl
  have ht : ∀ w ∈ lw_g, w.before args s9 = true := fun w h => hts w (List.mem_cons_of_mem _ h)
  have hl : lv_has ls 1 [(0, .ref (b 0))] := hl
  refine lv_aload_n hx hb d_M_expressions_0 rfl (lv_at hl 0 rfl) ?_
  refine va_get (D := (dC, dI)) (ci := 3) (v := .int (y_n Y)) (C := R_M) (T := T_M) (N := 20) hx hb ht in_M hown hK hP 0 rfl rfl 0 (by decide) (ht _ k_327) (fun _ h => h) rfl d_M_expressions_1 ?_
  exact ret_i (v := y_n Y) hx hb hr hlocks hP hK hD hS d_M_expressions_4 ⟨by rfl, rfl⟩
set_option maxRecDepth 100000 in
set_option maxHeartbeats 4000000 in
theorem c_M_about (l : Launch) (dC : Nat → ClassId) (dI : Nat → Nat → Nat) (b : Nat → Nat) (h : Nat → ClassId) (Y : zY) (x : Int32) (hV : VY Y) : MetI l y_M_about w_M_about (rmN (3)) dC dI (yY h) (wY b h) [.ref (b 0), .int x] Y (fun z9 u9 => z9 = m_about Y x ∧ u9 = Y) := by
  refine metI_of (cc := b_M_about) (maxL := 2) (ret := (some .int)) (by decide) rfl (Nat.le_of_ble_eq_true rfl) ?_
  intro p e9 s9 m args below meth c A ls hx hb hr hts hown hlocks hml hA hP hK hD hS hN hl
  have ht : ∀ w ∈ lw_g, w.before args s9 = true := fun w h => hts w (List.mem_cons_of_mem _ h)
  have hl : lv_has ls 2 [(0, .ref (b 0)), (1, .int x)] := hl
  refine lv_aload_n hx hb d_M_about_0 rfl (lv_at hl 0 rfl) ?_
  refine lv_iload_n hx hb d_M_about_1 rfl (lv_at hl 1 rfl) ?_
  refine call_i (As := [.int x]) (rest := []) (ci := 3) (q0 := 0) (c_M_is l dC dI b h Y x) k_403 k_405 s_M_is k_4 k_406 ⟨rfl, pc_M_is.1, pc_M_is.2, pd_M_is⟩ rfl rfl rfl rfl rfl (rm_le (by omega) (by decide)) (Nat.le_of_ble_eq_true rfl) rfl hx hb hml hown ht hl.1 hP hK hD hS hA hN d_M_about_2 (fun r1 u2 H locs q3 hP hD hS => ?_)
  obtain ⟨⟨b4, rfl⟩ | ⟨b4, rfl⟩, q3⟩ := q3
  · rw [q3] at hP hD
    have hP : va_P (dC, dI) vwCl (wY b h Y) H := hP
    have hD : va_D A (wY b h Y) := hD
    refine lv_if_eq (tgt := 33) hx hb d_M_about_5 (by decide) (fun c5 => ?_) (fun c5 => ?_)
    · have c5 : (1 : Int32) = 0 := c5
      exact absurd c5 (by decide)
    · have c5 : ¬ (1 : Int32) = 0 := c5
      refine lv_aload_n hx hb d_M_about_8 rfl (lv_at hl 0 rfl) ?_
      refine va_get (D := (dC, dI)) (ci := 3) (v := .ref (b 4)) (C := R_M) (T := T_M) (N := 20) hx hb ht in_M hown hK hP 0 rfl rfl 4 (by decide) (ht _ k_331) (fun _ h => h) rfl d_M_about_9 ?_
      refine lv_iload_n hx hb d_M_about_12 rfl (lv_at hl 1 rfl) ?_
      refine va_iald hx hb hK hP 4 3 rfl rfl (with_n hV.1 b4) d_M_about_13 ?_
      refine lv_aload_n hx hb d_M_about_14 rfl (lv_at hl 0 rfl) ?_
      refine va_get (D := (dC, dI)) (ci := 3) (v := .ref (b 5)) (C := R_M) (T := T_M) (N := 20) hx hb ht in_M hown hK hP 0 rfl rfl 5 (by decide) (ht _ k_332) (fun _ h => h) rfl d_M_about_15 ?_
      refine lv_iload_n hx hb d_M_about_18 rfl (lv_at hl 1 rfl) ?_
      refine va_zald hx hb hK hP 5 4 rfl rfl (with_n hV.1 b4) d_M_about_19 ?_
      refine lv_if_eq (tgt := 27) hx hb d_M_about_20 (by decide) (fun c6 => ?_) (fun c6 => ?_)
      · have c6 : y_u Y (ix x) = 0 := c6
        refine lv_bipush (v := 32) hx hb d_M_about_27 (by decide) ?_
        refine lv_iadd hx hb d_M_about_29 ?_
        refine lv_goto (tgt := 35) hx hb d_M_about_30 (by decide) ?_
        exact ret_i (v := (y_d Y (ix x) + 32)) hx hb hr hlocks hP hK hD hS d_M_about_35 ⟨by simp only [m_about, b4, eq_true c6, if_true, if_false, Bool.false_eq_true, reduceIte], rfl⟩
      · have c6 : ¬ y_u Y (ix x) = 0 := c6
        refine lv_iconst (v := 0) hx hb d_M_about_23 (by decide) ?_
        refine lv_goto (tgt := 29) hx hb d_M_about_24 (by decide) ?_
        refine lv_iadd hx hb d_M_about_29 ?_
        refine lv_goto (tgt := 35) hx hb d_M_about_30 (by decide) ?_
        exact ret_i (v := (y_d Y (ix x) + 0)) hx hb hr hlocks hP hK hD hS d_M_about_35 ⟨by simp only [m_about, b4, c6, if_true, if_false, Bool.false_eq_true, reduceIte], rfl⟩
  · rw [q3] at hP hD
    have hP : va_P (dC, dI) vwCl (wY b h Y) H := hP
    have hD : va_D A (wY b h Y) := hD
    refine lv_if_eq (tgt := 33) hx hb d_M_about_5 (by decide) (fun c7 => ?_) (fun c7 => ?_)
    · have c7 : (0 : Int32) = 0 := c7
      refine lv_bipush (v := (-2)) hx hb d_M_about_33 (by decide) ?_
      exact ret_i (v := (-2)) hx hb hr hlocks hP hK hD hS d_M_about_35 ⟨by simp only [m_about, b4, if_true, if_false, Bool.false_eq_true, reduceIte], rfl⟩
    · have c7 : ¬ (0 : Int32) = 0 := c7
      exact absurd c7 (by decide)
set_option maxRecDepth 100000 in
set_option maxHeartbeats 4000000 in
theorem c_M_set (l : Launch) (dC : Nat → ClassId) (dI : Nat → Nat → Nat) (b : Nat → Nat) (h : Nat → ClassId) (Y : zY) (x : Int32) (v : Int32) : MetI l y_M_set w_M_set (rmN (3)) dC dI (yY h) (wY b h) [.ref (b 0), .int x, .int v] Y (fun z9 u9 => m_set Y x v = (z9, u9)) := by
  refine metI_of (cc := b_M_set) (maxL := 4) (ret := (some .int)) (by decide) rfl (Nat.le_of_ble_eq_true rfl) ?_
  intro p e9 s9 m args below meth c A ls hx hb hr hts hown hlocks hml hA hP hK hD hS hN hl
  have ht : ∀ w ∈ lw_g, w.before args s9 = true := fun w h => hts w (List.mem_cons_of_mem _ h)
  have hl : lv_has ls 4 [(0, .ref (b 0)), (1, .int x), (2, .int v)] := hl
  refine lv_iload_n hx hb d_M_set_0 rfl (lv_at hl 1 rfl) ?_
  refine lv_iconst (v := 0) hx hb d_M_set_1 (by decide) ?_
  refine lv_bipush (v := 7) hx hb d_M_set_2 (by decide) ?_
  refine call_s (As := [.int x, .int 0, .int 7]) (rest := []) (c_M_within l dC dI b h Y x 0 7) k_392 k_393 k_4 k_394 ⟨rfl, pc_M_within.1, pc_M_within.2, pd_M_within⟩ rfl rfl (rm_le (by omega) (by decide)) (Nat.le_of_ble_eq_true rfl) rfl hx hb hml hown ht hl.1 hP hK hD hS hA hN d_M_set_4 (fun r1 u2 H locs q3 hP hD hS => ?_)
  obtain ⟨⟨b4, rfl⟩ | ⟨b4, rfl⟩, q3⟩ := q3
  · rw [q3] at hP hD
    have hP : va_P (dC, dI) vwCl (wY b h Y) H := hP
    have hD : va_D A (wY b h Y) := hD
    refine lv_if_ne (tgt := 12) hx hb d_M_set_7 (by decide) (fun c5 => ?_) (fun c5 => ?_)
    · have c5 : ¬ (1 : Int32) = 0 := c5
      refine lv_aload_n hx hb d_M_set_12 rfl (lv_at hl 0 rfl) ?_
      refine va_get (D := (dC, dI)) (ci := 3) (v := .ref (b 8)) (C := R_M) (T := T_M) (N := 20) hx hb ht in_M hown hK hP 0 rfl rfl 8 (by decide) (ht _ k_335) (fun _ h => h) rfl d_M_set_13 ?_
      refine lv_iload_n hx hb d_M_set_16 rfl (lv_at hl 1 rfl) ?_
      refine va_iald hx hb hK hP 8 7 rfl rfl (with_8 b4) d_M_set_17 ?_
      refine lv_istore_n hx hb d_M_set_18 rfl hl (by decide) (lv' := [(3, .int (g_va (r_g (y_r Y)) (ix x))), (0, .ref (b 0)), (1, .int x), (2, .int v)]) rfl (fun ls hl => ?_)
      refine lv_aload_n hx hb d_M_set_19 rfl (lv_at hl 1 rfl) ?_
      refine va_get (D := (dC, dI)) (ci := 3) (v := .ref (b 8)) (C := R_M) (T := T_M) (N := 20) hx hb ht in_M hown hK hP 0 rfl rfl 8 (by decide) (ht _ k_335) (fun _ h => h) rfl d_M_set_20 ?_
      refine lv_iload_n hx hb d_M_set_23 rfl (lv_at hl 2 rfl) ?_
      refine lv_iload_n hx hb d_M_set_24 rfl (lv_at hl 3 rfl) ?_
      refine va_iast hx hb hK hP hD hS 8 7 rfl rfl (with_8 b4) d_M_set_25 (fun H locs hP hD hS => ?_)
      have hP : va_P (dC, dI) vwCl (wY b h (Y_q Y (fun r => u_g r (h_va (r_g r) x v)))) H := cP_Y_va hP
      have hD : va_D A (wY b h (Y_q Y (fun r => u_g r (h_va (r_g r) x v)))) := cD_Y_va hD
      refine lv_iload_n hx hb d_M_set_26 rfl (lv_at hl 0 rfl) ?_
      exact ret_i (v := g_va (r_g (y_r Y)) (ix x)) hx hb hr hlocks hP hK hD hS d_M_set_27 (by simp only [m_set, b4, if_true, if_false, Bool.false_eq_true, reduceIte])
    · have c5 : (1 : Int32) = 0 := c5
      exact absurd c5 (by decide)
  · rw [q3] at hP hD
    have hP : va_P (dC, dI) vwCl (wY b h Y) H := hP
    have hD : va_D A (wY b h Y) := hD
    refine lv_if_ne (tgt := 12) hx hb d_M_set_7 (by decide) (fun c6 => ?_) (fun c6 => ?_)
    · have c6 : ¬ (0 : Int32) = 0 := c6
      exact absurd c6 (by decide)
    · have c6 : (0 : Int32) = 0 := c6
      refine lv_iconst (v := 0) hx hb d_M_set_10 (by decide) ?_
      exact ret_i (v := 0) hx hb hr hlocks hP hK hD hS d_M_set_11 (by simp only [m_set, b4, if_true, if_false, Bool.false_eq_true, reduceIte])
set_option maxRecDepth 100000 in
set_option maxHeartbeats 4000000 in
theorem c_M_variable (l : Launch) (dC : Nat → ClassId) (dI : Nat → Nat → Nat) (b : Nat → Nat) (h : Nat → ClassId) (Y : zY) (x : Int32) : MetI l y_M_variable w_M_variable (rmN (3)) dC dI (yY h) (wY b h) [.ref (b 0), .int x] Y (fun z9 u9 => z9 = m_var Y x ∧ u9 = Y) := by
  refine metI_of (cc := b_M_variable) (maxL := 2) (ret := (some .int)) (by decide) rfl (Nat.le_of_ble_eq_true rfl) ?_
  intro p e9 s9 m args below meth c A ls hx hb hr hts hown hlocks hml hA hP hK hD hS hN hl
  have ht : ∀ w ∈ lw_g, w.before args s9 = true := fun w h => hts w (List.mem_cons_of_mem _ h)
  have hl : lv_has ls 2 [(0, .ref (b 0)), (1, .int x)] := hl
  refine lv_iload_n hx hb d_M_variable_0 rfl (lv_at hl 1 rfl) ?_
  refine lv_iconst (v := 0) hx hb d_M_variable_1 (by decide) ?_
  refine lv_bipush (v := 7) hx hb d_M_variable_2 (by decide) ?_
  refine call_s (As := [.int x, .int 0, .int 7]) (rest := []) (c_M_within l dC dI b h Y x 0 7) k_392 k_393 k_4 k_394 ⟨rfl, pc_M_within.1, pc_M_within.2, pd_M_within⟩ rfl rfl (rm_le (by omega) (by decide)) (Nat.le_of_ble_eq_true rfl) rfl hx hb hml hown ht hl.1 hP hK hD hS hA hN d_M_variable_4 (fun r1 u2 H locs q3 hP hD hS => ?_)
  obtain ⟨⟨b4, rfl⟩ | ⟨b4, rfl⟩, q3⟩ := q3
  · rw [q3] at hP hD
    have hP : va_P (dC, dI) vwCl (wY b h Y) H := hP
    have hD : va_D A (wY b h Y) := hD
    refine lv_if_eq (tgt := 19) hx hb d_M_variable_7 (by decide) (fun c5 => ?_) (fun c5 => ?_)
    · have c5 : (1 : Int32) = 0 := c5
      exact absurd c5 (by decide)
    · have c5 : ¬ (1 : Int32) = 0 := c5
      refine lv_aload_n hx hb d_M_variable_10 rfl (lv_at hl 0 rfl) ?_
      refine va_get (D := (dC, dI)) (ci := 3) (v := .ref (b 8)) (C := R_M) (T := T_M) (N := 20) hx hb ht in_M hown hK hP 0 rfl rfl 8 (by decide) (ht _ k_335) (fun _ h => h) rfl d_M_variable_11 ?_
      refine lv_iload_n hx hb d_M_variable_14 rfl (lv_at hl 1 rfl) ?_
      refine va_iald hx hb hK hP 8 7 rfl rfl (with_8 b4) d_M_variable_15 ?_
      refine lv_goto (tgt := 20) hx hb d_M_variable_16 (by decide) ?_
      exact ret_i (v := g_va (r_g (y_r Y)) (ix x)) hx hb hr hlocks hP hK hD hS d_M_variable_20 ⟨by simp only [m_var, b4, if_true, if_false, Bool.false_eq_true, reduceIte], rfl⟩
  · rw [q3] at hP hD
    have hP : va_P (dC, dI) vwCl (wY b h Y) H := hP
    have hD : va_D A (wY b h Y) := hD
    refine lv_if_eq (tgt := 19) hx hb d_M_variable_7 (by decide) (fun c6 => ?_) (fun c6 => ?_)
    · have c6 : (0 : Int32) = 0 := c6
      refine lv_iconst (v := 0) hx hb d_M_variable_19 (by decide) ?_
      exact ret_i (v := 0) hx hb hr hlocks hP hK hD hS d_M_variable_20 ⟨by simp only [m_var, b4, if_true, if_false, Bool.false_eq_true, reduceIte], rfl⟩
    · have c6 : ¬ (0 : Int32) = 0 := c6
      exact absurd c6 (by decide)
set_option maxRecDepth 100000 in
set_option maxHeartbeats 4000000 in
theorem c_M_begin (l : Launch) (dC : Nat → ClassId) (dI : Nat → Nat → Nat) (b : Nat → Nat) (h : Nat → ClassId) (Y : zY) (x : Int32) (v : Int32) (hV : VY Y) : MetI l y_M_begin w_M_begin (rmN (3)) dC dI (yY h) (wY b h) [.ref (b 0), .int x, .int v] Y (fun z9 u9 => m_begin Y x v = (z9, u9)) := by
  refine metI_of (cc := b_M_begin) (maxL := 3) (ret := (some .int)) (by decide) rfl (Nat.le_of_ble_eq_true rfl) ?_
  intro p e9 s9 m args below meth c A ls hx hb hr hts hown hlocks hml hA hP hK hD hS hN hl
  have ht : ∀ w ∈ lw_g, w.before args s9 = true := fun w h => hts w (List.mem_cons_of_mem _ h)
  have hl : lv_has ls 3 [(0, .ref (b 0)), (1, .int x), (2, .int v)] := hl
  refine lv_aload_n hx hb d_M_begin_0 rfl (lv_at hl 0 rfl) ?_
  refine lv_iload_n hx hb d_M_begin_1 rfl (lv_at hl 1 rfl) ?_
  refine call_i (As := [.int x]) (rest := []) (ci := 3) (q0 := 0) (c_M_is l dC dI b h Y x) k_403 k_405 s_M_is k_4 k_406 ⟨rfl, pc_M_is.1, pc_M_is.2, pd_M_is⟩ rfl rfl rfl rfl rfl (rm_le (by omega) (by decide)) (Nat.le_of_ble_eq_true rfl) rfl hx hb hml hown ht hl.1 hP hK hD hS hA hN d_M_begin_2 (fun r1 u2 H locs q3 hP hD hS => ?_)
  obtain ⟨⟨b4, rfl⟩ | ⟨b4, rfl⟩, q3⟩ := q3
  · rw [q3] at hP hD
    have hP : va_P (dC, dI) vwCl (wY b h Y) H := hP
    have hD : va_D A (wY b h Y) := hD
    refine lv_if_ne (tgt := 11) hx hb d_M_begin_5 (by decide) (fun c5 => ?_) (fun c5 => ?_)
    · have c5 : ¬ (1 : Int32) = 0 := c5
      refine lv_aload_n hx hb d_M_begin_11 rfl (lv_at hl 0 rfl) ?_
      refine va_get (D := (dC, dI)) (ci := 3) (v := .ref (b 5)) (C := R_M) (T := T_M) (N := 20) hx hb ht in_M hown hK hP 0 rfl rfl 5 (by decide) (ht _ k_332) (fun _ h => h) rfl d_M_begin_12 ?_
      refine lv_iload_n hx hb d_M_begin_15 rfl (lv_at hl 1 rfl) ?_
      refine va_zald hx hb hK hP 5 4 rfl rfl (with_n hV.1 b4) d_M_begin_16 ?_
      refine lv_if_eq (tgt := 23) hx hb d_M_begin_17 (by decide) (fun c6 => ?_) (fun c6 => ?_)
      · have c6 : y_u Y (ix x) = 0 := c6
        refine lv_iload_n hx hb d_M_begin_23 rfl (lv_at hl 2 rfl) ?_
        refine lv_iconst (v := 0) hx hb d_M_begin_24 (by decide) ?_
        refine lv_sipush (v := 2000) hx hb d_M_begin_25 (by decide) ?_
        refine call_s (As := [.int v, .int 0, .int 2000]) (rest := []) (c_M_within l dC dI b h Y v 0 2000) k_392 k_393 k_4 k_394 ⟨rfl, pc_M_within.1, pc_M_within.2, pd_M_within⟩ rfl rfl (rm_le (by omega) (by decide)) (Nat.le_of_ble_eq_true rfl) rfl hx hb hml hown ht hl.1 hP hK hD hS hA hN d_M_begin_28 (fun r7 u8 H locs q9 hP hD hS => ?_)
        obtain ⟨⟨b10, rfl⟩ | ⟨b10, rfl⟩, q9⟩ := q9
        · rw [q9] at hP hD
          have hP : va_P (dC, dI) vwCl (wY b h Y) H := hP
          have hD : va_D A (wY b h Y) := hD
          refine lv_if_ne (tgt := 36) hx hb d_M_begin_31 (by decide) (fun c11 => ?_) (fun c11 => ?_)
          · have c11 : ¬ (1 : Int32) = 0 := c11
            refine lv_aload_n hx hb d_M_begin_36 rfl (lv_at hl 0 rfl) ?_
            refine lv_iload_n hx hb d_M_begin_37 rfl (lv_at hl 1 rfl) ?_
            refine va_put (D := (dC, dI)) (ci := 3) (v := .int x) (ty := .int) (C := R_M) (T := T_M) (N := 20) hx hb ht in_M t_M t_M_ok n_M hown hK hP hD hS 0 rfl rfl 11 (by decide) (ht _ k_338) (fun _ h => h) rfl (by decide +kernel) rfl rfl (Nat.le_of_ble_eq_true rfl) d_M_begin_38 (fun H locs hP hD hS => ?_)
            have hP : va_P (dC, dI) vwCl (wY b h (Y_b Y x)) H := cP_Y_b hP
            have hD : va_D A (wY b h (Y_b Y x)) := cD_Y_b hD
            refine lv_aload_n hx hb d_M_begin_41 rfl (lv_at hl 0 rfl) ?_
            refine va_get (D := (dC, dI)) (ci := 3) (v := .ref (b 6)) (C := R_M) (T := T_M) (N := 20) hx hb ht in_M hown hK hP 0 rfl rfl 6 (by decide) (ht _ k_333) (fun _ h => h) rfl d_M_begin_42 ?_
            refine lv_iload_n hx hb d_M_begin_45 rfl (lv_at hl 1 rfl) ?_
            refine lv_iconst (v := 0) hx hb d_M_begin_46 (by decide) ?_
            refine va_iast hx hb hK hP hD hS 6 5 rfl rfl (with_n hV.1 b4) d_M_begin_47 (fun H locs hP hD hS => ?_)
            have hP : va_P (dC, dI) vwCl (wY b h (Y_q (Y_b Y x) (fun r => u_ph r x 0))) H := cP_Y_ph hP
            have hD : va_D A (wY b h (Y_q (Y_b Y x) (fun r => u_ph r x 0))) := cD_Y_ph hD
            refine lv_aload_n hx hb d_M_begin_48 rfl (lv_at hl 0 rfl) ?_
            refine lv_iconst (v := 2) hx hb d_M_begin_49 (by decide) ?_
            refine va_put (D := (dC, dI)) (ci := 3) (v := .int 2) (ty := .int) (C := R_M) (T := T_M) (N := 20) hx hb ht in_M t_M t_M_ok n_M hown hK hP hD hS 0 rfl rfl 12 (by decide) (ht _ k_339) (fun _ h => h) rfl (by decide +kernel) rfl rfl (Nat.le_of_ble_eq_true rfl) d_M_begin_50 (fun H locs hP hD hS => ?_)
            have hP : va_P (dC, dI) vwCl (wY b h (Y_e (Y_q (Y_b Y x) (fun r => u_ph r x 0)) 2)) H := cP_Y_e hP
            have hD : va_D A (wY b h (Y_e (Y_q (Y_b Y x) (fun r => u_ph r x 0)) 2)) := cD_Y_e hD
            refine lv_aload_n hx hb d_M_begin_53 rfl (lv_at hl 0 rfl) ?_
            refine lv_iload_n hx hb d_M_begin_54 rfl (lv_at hl 2 rfl) ?_
            refine va_put (D := (dC, dI)) (ci := 3) (v := .int v) (ty := .int) (C := R_M) (T := T_M) (N := 20) hx hb ht in_M t_M t_M_ok n_M hown hK hP hD hS 0 rfl rfl 13 (by decide) (ht _ k_340) (fun _ h => h) rfl (by decide +kernel) rfl rfl (Nat.le_of_ble_eq_true rfl) d_M_begin_55 (fun H locs hP hD hS => ?_)
            have hP : va_P (dC, dI) vwCl (wY b h (Y_f (Y_e (Y_q (Y_b Y x) (fun r => u_ph r x 0)) 2) v)) H := cP_Y_f hP
            have hD : va_D A (wY b h (Y_f (Y_e (Y_q (Y_b Y x) (fun r => u_ph r x 0)) 2) v)) := cD_Y_f hD
            refine lv_aload_n hx hb d_M_begin_58 rfl (lv_at hl 0 rfl) ?_
            refine lv_iconst (v := 0) hx hb d_M_begin_59 (by decide) ?_
            refine va_put (D := (dC, dI)) (ci := 3) (v := .int 0) (ty := .int) (C := R_M) (T := T_M) (N := 20) hx hb ht in_M t_M t_M_ok n_M hown hK hP hD hS 0 rfl rfl 14 (by decide) (ht _ k_341) (fun _ h => h) rfl (by decide +kernel) rfl rfl (Nat.le_of_ble_eq_true rfl) d_M_begin_60 (fun H locs hP hD hS => ?_)
            have hP : va_P (dC, dI) vwCl (wY b h (Y_q (Y_f (Y_e (Y_q (Y_b Y x) (fun r => u_ph r x 0)) 2) v) (fun r => u_g r (h_c (r_g r) 0)))) H := cP_Y_co hP
            have hD : va_D A (wY b h (Y_q (Y_f (Y_e (Y_q (Y_b Y x) (fun r => u_ph r x 0)) 2) v) (fun r => u_g r (h_c (r_g r) 0)))) := cD_Y_co hD
            refine lv_aload_n hx hb d_M_begin_63 rfl (lv_at hl 0 rfl) ?_
            refine lv_iconst (v := 0) hx hb d_M_begin_64 (by decide) ?_
            refine va_put (D := (dC, dI)) (ci := 3) (v := .int 0) (ty := .int) (C := R_M) (T := T_M) (N := 20) hx hb ht in_M t_M t_M_ok n_M hown hK hP hD hS 0 rfl rfl 15 (by decide) (ht _ k_342) (fun _ h => h) rfl (by decide +kernel) rfl rfl (Nat.le_of_ble_eq_true rfl) d_M_begin_65 (fun H locs hP hD hS => ?_)
            have hP : va_P (dC, dI) vwCl (wY b h (Y_l (Y_q (Y_f (Y_e (Y_q (Y_b Y x) (fun r => u_ph r x 0)) 2) v) (fun r => u_g r (h_c (r_g r) 0))) 0)) H := cP_Y_l hP
            have hD : va_D A (wY b h (Y_l (Y_q (Y_f (Y_e (Y_q (Y_b Y x) (fun r => u_ph r x 0)) 2) v) (fun r => u_g r (h_c (r_g r) 0))) 0)) := cD_Y_l hD
            refine lv_aload_n hx hb d_M_begin_68 rfl (lv_at hl 0 rfl) ?_
            refine lv_iconst (v := 0) hx hb d_M_begin_69 (by decide) ?_
            refine va_put (D := (dC, dI)) (ci := 3) (v := .int 0) (ty := .int) (C := R_M) (T := T_M) (N := 20) hx hb ht in_M t_M t_M_ok n_M hown hK hP hD hS 0 rfl rfl 10 (by decide) (ht _ k_337) (fun _ h => h) rfl (by decide +kernel) rfl rfl (Nat.le_of_ble_eq_true rfl) d_M_begin_70 (fun H locs hP hD hS => ?_)
            have hP : va_P (dC, dI) vwCl (wY b h (Y_q (Y_l (Y_q (Y_f (Y_e (Y_q (Y_b Y x) (fun r => u_ph r x 0)) 2) v) (fun r => u_g r (h_c (r_g r) 0))) 0) (fun r => u_g r (h_wc (r_g r) 0)))) H := cP_Y_tc hP
            have hD : va_D A (wY b h (Y_q (Y_l (Y_q (Y_f (Y_e (Y_q (Y_b Y x) (fun r => u_ph r x 0)) 2) v) (fun r => u_g r (h_c (r_g r) 0))) 0) (fun r => u_g r (h_wc (r_g r) 0)))) := cD_Y_tc hD
            refine lv_iconst (v := 0) hx hb d_M_begin_73 (by decide) ?_
            exact ret_i (v := 0) hx hb hr hlocks hP hK hD hS d_M_begin_74 (by simp only [m_begin, m_open, b4, eq_true c6, b10, if_true, if_false, Bool.false_eq_true, reduceIte])
          · have c11 : (1 : Int32) = 0 := c11
            exact absurd c11 (by decide)
        · rw [q9] at hP hD
          have hP : va_P (dC, dI) vwCl (wY b h Y) H := hP
          have hD : va_D A (wY b h Y) := hD
          refine lv_if_ne (tgt := 36) hx hb d_M_begin_31 (by decide) (fun c12 => ?_) (fun c12 => ?_)
          · have c12 : ¬ (0 : Int32) = 0 := c12
            exact absurd c12 (by decide)
          · have c12 : (0 : Int32) = 0 := c12
            refine lv_iconst (v := (-1)) hx hb d_M_begin_34 (by decide) ?_
            exact ret_i (v := (-1)) hx hb hr hlocks hP hK hD hS d_M_begin_35 (by simp only [m_begin, m_open, b4, eq_true c6, b10, if_true, if_false, Bool.false_eq_true, reduceIte])
      · have c6 : ¬ y_u Y (ix x) = 0 := c6
        refine lv_bipush (v := (-3)) hx hb d_M_begin_20 (by decide) ?_
        exact ret_i (v := (-3)) hx hb hr hlocks hP hK hD hS d_M_begin_22 (by simp only [m_begin, m_open, b4, c6, if_true, if_false, Bool.false_eq_true, reduceIte])
    · have c5 : (1 : Int32) = 0 := c5
      exact absurd c5 (by decide)
  · rw [q3] at hP hD
    have hP : va_P (dC, dI) vwCl (wY b h Y) H := hP
    have hD : va_D A (wY b h Y) := hD
    refine lv_if_ne (tgt := 11) hx hb d_M_begin_5 (by decide) (fun c13 => ?_) (fun c13 => ?_)
    · have c13 : ¬ (0 : Int32) = 0 := c13
      exact absurd c13 (by decide)
    · have c13 : (0 : Int32) = 0 := c13
      refine lv_bipush (v := (-2)) hx hb d_M_begin_8 (by decide) ?_
      exact ret_i (v := (-2)) hx hb hr hlocks hP hK hD hS d_M_begin_10 (by simp only [m_begin, m_open, b4, if_true, if_false, Bool.false_eq_true, reduceIte])
set_option maxRecDepth 100000 in
set_option maxHeartbeats 4000000 in
theorem c_M_value (l : Launch) (dC : Nat → ClassId) (dI : Nat → Nat → Nat) (b : Nat → Nat) (h : Nat → ClassId) (Y : zY) : MetI l y_M_value w_M_value (rmN (0)) dC dI (yY h) (wY b h) [.ref (b 0)] Y (fun z9 u9 => z9 = y_l Y ∧ u9 = Y) := by
  refine metI_of (cc := b_M_value) (maxL := 1) (ret := (some .int)) (by decide) rfl (Nat.le_of_ble_eq_true rfl) ?_
  intro p e9 s9 m args below meth c A ls hx hb hr hts hown hlocks hml hA hP hK hD hS hN hl
  have ht : ∀ w ∈ lw_g, w.before args s9 = true := fun w h => hts w (List.mem_cons_of_mem _ h)
  have hl : lv_has ls 1 [(0, .ref (b 0))] := hl
  refine lv_aload_n hx hb d_M_value_0 rfl (lv_at hl 0 rfl) ?_
  refine va_get (D := (dC, dI)) (ci := 3) (v := .int (y_l Y)) (C := R_M) (T := T_M) (N := 20) hx hb ht in_M hown hK hP 0 rfl rfl 15 (by decide) (ht _ k_342) (fun _ h => h) rfl d_M_value_1 ?_
  exact ret_i (v := y_l Y) hx hb hr hlocks hP hK hD hS d_M_value_4 ⟨by rfl, rfl⟩
set_option maxRecDepth 100000 in
set_option maxHeartbeats 4000000 in
theorem c_M_writes (l : Launch) (dC : Nat → ClassId) (dI : Nat → Nat → Nat) (b : Nat → Nat) (h : Nat → ClassId) (Y : zY) : MetI l y_M_writes w_M_writes (rmN (0)) dC dI (yY h) (wY b h) [.ref (b 0)] Y (fun z9 u9 => z9 = g_wc (r_g (y_r Y)) ∧ u9 = Y) := by
  refine metI_of (cc := b_M_writes) (maxL := 1) (ret := (some .int)) (by decide) rfl (Nat.le_of_ble_eq_true rfl) ?_
  intro p e9 s9 m args below meth c A ls hx hb hr hts hown hlocks hml hA hP hK hD hS hN hl
  have ht : ∀ w ∈ lw_g, w.before args s9 = true := fun w h => hts w (List.mem_cons_of_mem _ h)
  have hl : lv_has ls 1 [(0, .ref (b 0))] := hl
  refine lv_aload_n hx hb d_M_writes_0 rfl (lv_at hl 0 rfl) ?_
  refine va_get (D := (dC, dI)) (ci := 3) (v := .int (g_wc (r_g (y_r Y)))) (C := R_M) (T := T_M) (N := 20) hx hb ht in_M hown hK hP 0 rfl rfl 10 (by decide) (ht _ k_337) (fun _ h => h) rfl d_M_writes_1 ?_
  exact ret_i (v := g_wc (r_g (y_r Y))) hx hb hr hlocks hP hK hD hS d_M_writes_4 ⟨by rfl, rfl⟩
set_option maxRecDepth 100000 in
set_option maxHeartbeats 4000000 in
theorem c_M_written (l : Launch) (dC : Nat → ClassId) (dI : Nat → Nat → Nat) (b : Nat → Nat) (h : Nat → ClassId) (Y : zY) (x : Int32) (hV : VY Y) : MetJ l y_M_written w_M_written (rmN (3)) dC dI (yY h) (wY b h) [.ref (b 0), .int x] Y (fun z9 u9 => z9 = m_written Y x ∧ u9 = Y) := by
  refine metJ_of (cc := b_M_written) (maxL := 2) (ret := (some .long)) (by decide) rfl (Nat.le_of_ble_eq_true rfl) ?_
  intro p e9 s9 m args below meth c A ls hx hb hr hts hown hlocks hml hA hP hK hD hS hN hl
  have ht : ∀ w ∈ lw_g, w.before args s9 = true := fun w h => hts w (List.mem_cons_of_mem _ h)
  have hl : lv_has ls 2 [(0, .ref (b 0)), (1, .int x)] := hl
  refine lv_iload_n hx hb d_M_written_0 rfl (lv_at hl 1 rfl) ?_
  refine lv_iconst (v := 0) hx hb d_M_written_1 (by decide) ?_
  refine lv_aload_n hx hb d_M_written_2 rfl (lv_at hl 0 rfl) ?_
  refine va_get (D := (dC, dI)) (ci := 3) (v := .int (g_wc (r_g (y_r Y)))) (C := R_M) (T := T_M) (N := 20) hx hb ht in_M hown hK hP 0 rfl rfl 10 (by decide) (ht _ k_337) (fun _ h => h) rfl d_M_written_3 ?_
  refine lv_iconst (v := 1) hx hb d_M_written_6 (by decide) ?_
  refine lv_isub hx hb d_M_written_7 ?_
  refine call_s (As := [.int x, .int 0, .int (g_wc (r_g (y_r Y)) - 1)]) (rest := []) (c_M_within l dC dI b h Y x 0 (g_wc (r_g (y_r Y)) - 1)) k_392 k_393 k_4 k_394 ⟨rfl, pc_M_within.1, pc_M_within.2, pd_M_within⟩ rfl rfl (rm_le (by omega) (by decide)) (Nat.le_of_ble_eq_true rfl) rfl hx hb hml hown ht hl.1 hP hK hD hS hA hN d_M_written_8 (fun r1 u2 H locs q3 hP hD hS => ?_)
  obtain ⟨⟨b4, rfl⟩ | ⟨b4, rfl⟩, q3⟩ := q3
  · rw [q3] at hP hD
    have hP : va_P (dC, dI) vwCl (wY b h Y) H := hP
    have hD : va_D A (wY b h Y) := hD
    refine lv_if_eq (tgt := 24) hx hb d_M_written_11 (by decide) (fun c5 => ?_) (fun c5 => ?_)
    · have c5 : (1 : Int32) = 0 := c5
      exact absurd c5 (by decide)
    · have c5 : ¬ (1 : Int32) = 0 := c5
      refine lv_aload_n hx hb d_M_written_14 rfl (lv_at hl 0 rfl) ?_
      refine va_get (D := (dC, dI)) (ci := 3) (v := .ref (b 9)) (C := R_M) (T := T_M) (N := 20) hx hb ht in_M hown hK hP 0 rfl rfl 9 (by decide) (ht _ k_336) (fun _ h => h) rfl d_M_written_15 ?_
      refine lv_iload_n hx hb d_M_written_18 rfl (lv_at hl 1 rfl) ?_
      refine va_iald hx hb hK hP 9 8 rfl rfl (with_w hV.2 b4) d_M_written_19 ?_
      refine lv_i2l hx hb d_M_written_20 rfl ?_
      refine lv_goto (tgt := 27) hx hb d_M_written_21 (by decide) ?_
      exact ret_l (v := (g_wr (r_g (y_r Y)) (ix x)).toInt64) hx hb hr hlocks hP hK hD hS d_M_written_27 ⟨by simp only [m_written, b4, if_true, if_false, Bool.false_eq_true, reduceIte], rfl⟩
  · rw [q3] at hP hD
    have hP : va_P (dC, dI) vwCl (wY b h Y) H := hP
    have hD : va_D A (wY b h Y) := hD
    refine lv_if_eq (tgt := 24) hx hb d_M_written_11 (by decide) (fun c6 => ?_) (fun c6 => ?_)
    · have c6 : (0 : Int32) = 0 := c6
      refine lv_ldc2 (v := 4294967296) hx hb hown (ht _ k_509) d_M_written_24 ?_
      exact ret_l (v := 4294967296) hx hb hr hlocks hP hK hD hS d_M_written_27 ⟨by simp only [m_written, b4, if_true, if_false, Bool.false_eq_true, reduceIte], rfl⟩
    · have c6 : ¬ (0 : Int32) = 0 := c6
      exact absurd c6 (by decide)
set_option maxRecDepth 100000 in
set_option maxHeartbeats 4000000 in
theorem c_M_cost (l : Launch) (dC : Nat → ClassId) (dI : Nat → Nat → Nat) (b : Nat → Nat) (h : Nat → ClassId) (Y : zY) : MetI l y_M_cost w_M_cost (rmN (0)) dC dI (yY h) (wY b h) [.ref (b 0)] Y (fun z9 u9 => z9 = g_sp (r_g (y_r Y)) ∧ u9 = Y) := by
  refine metI_of (cc := b_M_cost) (maxL := 1) (ret := (some .int)) (by decide) rfl (Nat.le_of_ble_eq_true rfl) ?_
  intro p e9 s9 m args below meth c A ls hx hb hr hts hown hlocks hml hA hP hK hD hS hN hl
  have ht : ∀ w ∈ lw_g, w.before args s9 = true := fun w h => hts w (List.mem_cons_of_mem _ h)
  have hl : lv_has ls 1 [(0, .ref (b 0))] := hl
  refine lv_aload_n hx hb d_M_cost_0 rfl (lv_at hl 0 rfl) ?_
  refine va_get (D := (dC, dI)) (ci := 3) (v := .int (g_sp (r_g (y_r Y)))) (C := R_M) (T := T_M) (N := 20) hx hb ht in_M hown hK hP 0 rfl rfl 14 (by decide) (ht _ k_341) (fun _ h => h) rfl d_M_cost_1 ?_
  exact ret_i (v := g_sp (r_g (y_r Y))) hx hb hr hlocks hP hK hD hS d_M_cost_4 ⟨by rfl, rfl⟩
