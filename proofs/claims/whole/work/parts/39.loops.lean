theorem pq {α β : Type} {e : α × β} {v r : α} {U u : β} (h : e = (v, U)) (g : e = (r, u)) : r = v ∧ u = U := by
  have q := h.symm.trans g
  exact ⟨(congrArg Prod.fst q).symm, (congrArg Prod.snd q).symm⟩
set_option maxRecDepth 100000 in
set_option maxHeartbeats 4000000 in
theorem c_M_next (l : Launch) (dC : Nat → ClassId) (dI : Nat → Nat → Nat) (b : Nat → Nat) (h : Nat → ClassId) (Y : zY) (v : Int32) (U : zY) (hQ : NxtY Y v U) : MetI l y_M_next w_M_next (rmN 6) dC dI (yY h) (wY b h) [.ref (b 0)] Y (fun r u => r = v ∧ u = U) := by
  refine metI_of (cc := b_M_next) (maxL := 5) (ret := (some .int)) (by decide) rfl (Nat.le_of_ble_eq_true rfl) ?_
  intro p e9 s9 m args below meth c A ls hx hb hr hts hown hlocks hml hA hP hK hD hS hN hl
  have ht : ∀ w ∈ lw_g, w.before args s9 = true := fun w h => hts w (List.mem_cons_of_mem _ h)
  have hl : lv_has ls 5 [(0, .ref (b 0))] := hl
  refine lv_aload_n hx hb d_M_next_0 rfl (lv_at hl 0 rfl) ?_
  refine va_get (D := (dC, dI)) (ci := 3) (v := .int (y_b Y)) (C := R_M) (T := T_M) (N := 20) hx hb ht in_M hown hK hP 0 rfl rfl 11 (by decide) (ht _ k_338) (fun _ h => h) rfl d_M_next_1 ?_
  refine lv_if_ge (tgt := 9) hx hb d_M_next_4 (by decide) (fun c1 => ?_) (fun c1 => ?_)
  · have c1 : ¬ y_b Y < 0 := Int32.not_lt.mpr c1
    refine lv_aload_n hx hb d_M_next_9 rfl (lv_at hl 0 rfl) ?_
    refine va_get (D := (dC, dI)) (ci := 3) (v := .int (y_e Y)) (C := R_M) (T := T_M) (N := 20) hx hb ht in_M hown hK hP 0 rfl rfl 12 (by decide) (ht _ k_339) (fun _ h => h) rfl d_M_next_10 ?_
    refine lv_iconst (v := 2) hx hb d_M_next_13 (by decide) ?_
    refine lv_icmp_eq (tgt := 22) hx hb d_M_next_14 (by decide) (fun c2 => ?_) (fun c2 => ?_)
    · have c2 : y_e Y = 2 := c2
      refine lv_aload_n hx hb d_M_next_22 rfl (lv_at hl 0 rfl) ?_
      refine lv_iconst (v := 0) hx hb d_M_next_23 (by decide) ?_
      refine va_put (D := (dC, dI)) (ci := 3) (v := .int 0) (ty := .int) (C := R_M) (T := T_M) (N := 20) hx hb ht in_M t_M t_M_ok n_M hown hK hP hD hS 0 rfl rfl 19 (by decide) (ht _ k_346) (fun _ h => h) rfl (by decide +kernel) rfl rfl (Nat.le_of_ble_eq_true rfl) d_M_next_24 (fun H locs hP hD hS => ?_)
      have hP : va_P (dC, dI) vwCl (wY b h (Y_q Y (fun r => u_er r 0))) H := cP_Y_er hP
      have hD : va_D A (wY b h (Y_q Y (fun r => u_er r 0))) := cD_Y_er hD
      refine lv_aload_n hx hb d_M_next_27 rfl (lv_at hl 0 rfl) ?_
      refine va_get (D := (dC, dI)) (ci := 3) (v := .ref (b 10)) (C := R_M) (T := T_M) (N := 20) hx hb ht in_M hown hK hP 0 rfl rfl 16 (by decide) (ht _ k_343) (fun _ h => h) rfl d_M_next_28 ?_
      refine lv_iconst (v := 0) hx hb d_M_next_31 (by decide) ?_
      refine lv_aload_n hx hb d_M_next_32 rfl (lv_at hl 0 rfl) ?_
      refine va_get (D := (dC, dI)) (ci := 3) (v := .int (y_b (Y_q Y (fun r => u_er r 0)))) (C := R_M) (T := T_M) (N := 20) hx hb ht in_M hown hK hP 0 rfl rfl 11 (by decide) (ht _ k_338) (fun _ h => h) rfl d_M_next_33 ?_
      refine va_iast hx hb hK hP hD hS 10 9 rfl rfl (vp_in_nI (n := 0) (by decide) (by decide)) d_M_next_36 (fun H locs hP hD hS => ?_)
      have hP : va_P (dC, dI) vwCl (wY b h (Y_q (Y_q Y (fun r => u_er r 0)) (fun r => u_sk r 0 (y_b (Y_q Y (fun r => u_er r 0)))))) H := cP_Y_sk hP
      have hD : va_D A (wY b h (Y_q (Y_q Y (fun r => u_er r 0)) (fun r => u_sk r 0 (y_b (Y_q Y (fun r => u_er r 0)))))) := cD_Y_sk hD
      refine lv_aload_n hx hb d_M_next_37 rfl (lv_at hl 0 rfl) ?_
      refine lv_iconst (v := 1) hx hb d_M_next_38 (by decide) ?_
      refine va_put (D := (dC, dI)) (ci := 3) (v := .int 1) (ty := .int) (C := R_M) (T := T_M) (N := 20) hx hb ht in_M t_M t_M_ok n_M hown hK hP hD hS 0 rfl rfl 17 (by decide) (ht _ k_344) (fun _ h => h) rfl (by decide +kernel) rfl rfl (Nat.le_of_ble_eq_true rfl) d_M_next_39 (fun H locs hP hD hS => ?_)
      have hP : va_P (dC, dI) vwCl (wY b h (Y_q (Y_q (Y_q Y (fun r => u_er r 0)) (fun r => u_sk r 0 (y_b (Y_q Y (fun r => u_er r 0))))) (fun r => u_tp r 1))) H := cP_Y_tp hP
      have hD : va_D A (wY b h (Y_q (Y_q (Y_q Y (fun r => u_er r 0)) (fun r => u_sk r 0 (y_b (Y_q Y (fun r => u_er r 0))))) (fun r => u_tp r 1))) := cD_Y_tp hD
      refine lv_iconst (v := 0) hx hb d_M_next_42 (by decide) ?_
      refine lv_istore_n hx hb d_M_next_43 rfl hl (by decide) (lv' := [(1, .int 0), (0, .ref (b 0))]) rfl (fun ls hl => ?_)
      refine lv_iconst (v := 0) hx hb d_M_next_44 (by decide) ?_
      refine lv_istore_n hx hb d_M_next_45 rfl hl (by decide) (lv' := [(2, .int 0), (1, .int 0), (0, .ref (b 0))]) rfl (fun ls hl => ?_)
      obtain ⟨mm, r9, w9, hm, hgo, hend⟩ := nx_c hQ c1 c2
      have loop : ∀ (τ : Nat) (r : zR) (w : Int32) (j : Nat) (H : Heap) (locs : List Loc) (ls : Array Slot), Go (y_T Y) τ (r, w) (r9, w9) → j + τ < 9000000 → va_P (dC, dI) vwCl (wY b h (Y_r Y r)) H → va_D A (wY b h (Y_r Y r)) → va_S A s9.heap H locs → lv_has ls 5 [(1, .int w), (2, .int (nI j)), (0, .ref (b 0))] → W p l e9 (rmN 6) s9 m args below meth c H locs 0 0 (MQ below (va_Qi (fun r u => r = v ∧ u = U) (zAft dC dI (yY h) (wY b h) A) A) args s9 0 0 A) (F0 m 46 ls []) := by
        clear hl hP hD hS
        intro τ
        induction τ with
        | zero =>
          intro r w j H locs ls hg hj hP hD hS hl
          have hg0 : (r, w) = (r9, w9) := hg
          have hend : NxtE Y r w v U := by cases hg0; exact hend
          rcases go_end hend with htp | hsafe
          · have htp : r_tp r = 0 := htp
            refine lv_iload_n hx hb d_M_next_46 rfl (lv_at hl 1 rfl) ?_
            refine lv_ldc (v := 10000000) hx hb hown (ht _ k_439) d_M_next_47 ?_
            refine lv_icmp_ge (tgt := 138) hx hb d_M_next_49 (by decide) (fun c3 => ?_) (fun c3 => ?_)
            · have c3 : ¬ (nI j) < 10000000 := Int32.not_lt.mpr c3
              exact absurd (rn_lt (by omega)) c3
            · have c3 : (nI j) < 10000000 := Int32.not_le.mp c3
              refine lv_aload_n hx hb d_M_next_52 rfl (lv_at hl 2 rfl) ?_
              refine va_get (D := (dC, dI)) (ci := 3) (v := .int (r_tp r)) (C := R_M) (T := T_M) (N := 20) hx hb ht in_M hown hK hP 0 rfl rfl 17 (by decide) (ht _ k_344) (fun _ h => h) rfl d_M_next_53 ?_
              refine lv_if_le (tgt := 138) hx hb d_M_next_56 (by decide) (fun c4 => ?_) (fun c4 => ?_)
              · have c4 : ¬ (0 : Int32) < r_tp r := Int32.not_lt.mpr c4
                refine lv_iload_n hx hb d_M_next_138 rfl (lv_at hl 0 rfl) ?_
                refine lv_iconst (v := 2) hx hb d_M_next_139 (by decide) ?_
                refine lv_icmp_ne (tgt := 150) hx hb d_M_next_140 (by decide) (fun c5 => ?_) (fun c5 => ?_)
                · have c5 : ¬ w = 2 := c5
                  refine lv_aload_n hx hb d_M_next_150 rfl (lv_at hl 2 rfl) ?_
                  refine lv_aload_n hx hb d_M_next_151 rfl (lv_at hl 2 rfl) ?_
                  refine va_get (D := (dC, dI)) (ci := 3) (v := .int (r_gv r)) (C := R_M) (T := T_M) (N := 20) hx hb ht in_M hown hK hP 0 rfl rfl 18 (by decide) (ht _ k_345) (fun _ h => h) rfl d_M_next_152 ?_
                  refine va_put (D := (dC, dI)) (ci := 3) (v := .int (r_gv r)) (ty := .int) (C := R_M) (T := T_M) (N := 20) hx hb ht in_M t_M t_M_ok n_M hown hK hP hD hS 0 rfl rfl 15 (by decide) (ht _ k_342) (fun _ h => h) rfl (by decide +kernel) rfl rfl (Nat.le_of_ble_eq_true rfl) d_M_next_155 (fun H locs hP hD hS => ?_)
                  have hP : va_P (dC, dI) vwCl (wY b h (Y_l (Y_r Y r) (r_gv r))) H := cP_Y_l hP
                  have hD : va_D A (wY b h (Y_l (Y_r Y r) (r_gv r))) := cD_Y_l hD
                  refine lv_iconst (v := 1) hx hb d_M_next_158 (by decide) ?_
                  exact ret_i hx hb hr hlocks hP hK hD hS d_M_next_159 (nx_1 hend htp c5)
                · have c5 : w = 2 := c5
                  refine lv_aload_n hx hb d_M_next_143 rfl (lv_at hl 2 rfl) ?_
                  refine lv_iconst (v := 0) hx hb d_M_next_144 (by decide) ?_
                  refine va_put (D := (dC, dI)) (ci := 3) (v := .int 0) (ty := .int) (C := R_M) (T := T_M) (N := 20) hx hb ht in_M t_M t_M_ok n_M hown hK hP hD hS 0 rfl rfl 12 (by decide) (ht _ k_339) (fun _ h => h) rfl (by decide +kernel) rfl rfl (Nat.le_of_ble_eq_true rfl) d_M_next_145 (fun H locs hP hD hS => ?_)
                  have hP : va_P (dC, dI) vwCl (wY b h (Y_e (Y_r Y r) 0)) H := cP_Y_e hP
                  have hD : va_D A (wY b h (Y_e (Y_r Y r) 0)) := cD_Y_e hD
                  refine lv_iconst (v := 0) hx hb d_M_next_148 (by decide) ?_
                  exact ret_i hx hb hr hlocks hP hK hD hS d_M_next_149 (nx_2 hend htp c5)
              · have c4 : (0 : Int32) < r_tp r := Int32.not_le.mp c4
                exact absurd c4 (by rw [htp]; decide)
          · have hsafe : q_safe (y_T Y) (r, w) := hsafe
            obtain ⟨t, ht0, htp, hv0, hq0⟩ := hsafe
            have hti : vp_in (r_tp r - 1) 16 := tp_pr ht0 htp
            have hv : vp_in (r_sk r (ix (r_tp r - 1))) 60 := by rw [show r_tp r = nI (t + 1) from htp, ix_pr ht0]; exact hv0
            have ho : q_ok (y_T Y) (r_sk r (ix (r_tp r - 1))) w r := by rw [show r_tp r = nI (t + 1) from htp, ix_pr ht0]; exact hq0
            have hpos : 0 < r_tp r := tp_pos ht0 htp
            refine lv_iload_n hx hb d_M_next_46 rfl (lv_at hl 1 rfl) ?_
            refine lv_ldc (v := 10000000) hx hb hown (ht _ k_439) d_M_next_47 ?_
            refine lv_icmp_ge (tgt := 138) hx hb d_M_next_49 (by decide) (fun c6 => ?_) (fun c6 => ?_)
            · have c6 : ¬ (nI j) < 10000000 := Int32.not_lt.mpr c6
              exact absurd (rn_lt (by omega)) c6
            · have c6 : (nI j) < 10000000 := Int32.not_le.mp c6
              refine lv_aload_n hx hb d_M_next_52 rfl (lv_at hl 2 rfl) ?_
              refine va_get (D := (dC, dI)) (ci := 3) (v := .int (r_tp r)) (C := R_M) (T := T_M) (N := 20) hx hb ht in_M hown hK hP 0 rfl rfl 17 (by decide) (ht _ k_344) (fun _ h => h) rfl d_M_next_53 ?_
              refine lv_if_le (tgt := 138) hx hb d_M_next_56 (by decide) (fun c7 => ?_) (fun c7 => ?_)
              · have c7 : ¬ (0 : Int32) < r_tp r := Int32.not_lt.mpr c7
                exact absurd hpos c7
              · have c7 : (0 : Int32) < r_tp r := Int32.not_le.mp c7
                refine lv_aload_n hx hb d_M_next_59 rfl (lv_at hl 2 rfl) ?_
                refine va_get (D := (dC, dI)) (ci := 3) (v := .ref (b 10)) (C := R_M) (T := T_M) (N := 20) hx hb ht in_M hown hK hP 0 rfl rfl 16 (by decide) (ht _ k_343) (fun _ h => h) rfl d_M_next_60 ?_
                refine lv_aload_n hx hb d_M_next_63 rfl (lv_at hl 2 rfl) ?_
                refine va_get (D := (dC, dI)) (ci := 3) (v := .int (r_tp r)) (C := R_M) (T := T_M) (N := 20) hx hb ht in_M hown hK hP 0 rfl rfl 17 (by decide) (ht _ k_344) (fun _ h => h) rfl d_M_next_64 ?_
                refine lv_iconst (v := 1) hx hb d_M_next_67 (by decide) ?_
                refine lv_isub hx hb d_M_next_68 ?_
                refine va_iald hx hb hK hP 10 9 rfl rfl hti d_M_next_69 ?_
                refine lv_istore_n hx hb d_M_next_70 rfl hl (by decide) (lv' := [(3, .int (r_sk r (ix (r_tp r - 1)))), (1, .int w), (2, .int (nI j)), (0, .ref (b 0))]) rfl (fun ls hl => ?_)
                refine lv_aload_n hx hb d_M_next_71 rfl (lv_at hl 3 rfl) ?_
                refine lv_iload_n hx hb d_M_next_72 rfl (lv_at hl 0 rfl) ?_
                refine lv_iload_n hx hb d_M_next_73 rfl (lv_at hl 1 rfl) ?_
                refine call_i (As := [.int (r_sk r (ix (r_tp r - 1))), .int w]) (rest := []) (ci := 3) (q0 := 0) (c_M_step l dC dI b h Y r (r_sk r (ix (r_tp r - 1))) w hv ⟨t, ht0, htp⟩ ho) k_440 k_442 s_M_step k_4 k_443 ⟨rfl, pc_M_step.1, pc_M_step.2, pd_M_step⟩ rfl rfl rfl rfl rfl (rm_le (by omega) (by decide)) (Nat.le_of_ble_eq_true rfl) rfl hx hb hml hown ht hl.1 hP hK hD hS hA hN d_M_next_74 (fun r8 u9 H locs q10 hP hD hS => ?_)
                have hP : va_P (dC, dI) vwCl (wY b h (Y_r Y u9)) H := hP
                have hD : va_D A (wY b h (Y_r Y u9)) := hD
                refine lv_istore hx hb d_M_next_77 hl (by decide) (lv' := [(4, .int r8), (3, .int (r_sk r (ix (r_tp r - 1)))), (1, .int w), (2, .int (nI j)), (0, .ref (b 0))]) rfl (fun ls hl => ?_)
                refine lv_aload_n hx hb d_M_next_79 rfl (lv_at hl 4 rfl) ?_
                refine va_get (D := (dC, dI)) (ci := 3) (v := .int (r_er u9)) (C := R_M) (T := T_M) (N := 20) hx hb ht in_M hown hK hP 0 rfl rfl 19 (by decide) (ht _ k_346) (fun _ h => h) rfl d_M_next_80 ?_
                refine lv_if_eq (tgt := 99) hx hb d_M_next_83 (by decide) (fun c11 => ?_) (fun c11 => ?_)
                · have c11 : r_er u9 = 0 := c11
                  exact (nx_er hend hpos q10 c11).elim
                · have c11 : ¬ r_er u9 = 0 := c11
                  refine lv_aload_n hx hb d_M_next_86 rfl (lv_at hl 4 rfl) ?_
                  refine lv_aload_n hx hb d_M_next_87 rfl (lv_at hl 4 rfl) ?_
                  refine va_get (D := (dC, dI)) (ci := 3) (v := .int (r_er u9)) (C := R_M) (T := T_M) (N := 20) hx hb ht in_M hown hK hP 0 rfl rfl 19 (by decide) (ht _ k_346) (fun _ h => h) rfl d_M_next_88 ?_
                  refine va_put (D := (dC, dI)) (ci := 3) (v := .int (r_er u9)) (ty := .int) (C := R_M) (T := T_M) (N := 20) hx hb ht in_M t_M t_M_ok n_M hown hK hP hD hS 0 rfl rfl 12 (by decide) (ht _ k_339) (fun _ h => h) rfl (by decide +kernel) rfl rfl (Nat.le_of_ble_eq_true rfl) d_M_next_91 (fun H locs hP hD hS => ?_)
                  have hP : va_P (dC, dI) vwCl (wY b h (Y_e (Y_r Y u9) (r_er u9))) H := cP_Y_e hP
                  have hD : va_D A (wY b h (Y_e (Y_r Y u9) (r_er u9))) := cD_Y_e hD
                  refine lv_aload_n hx hb d_M_next_94 rfl (lv_at hl 4 rfl) ?_
                  refine va_get (D := (dC, dI)) (ci := 3) (v := .int (r_er u9)) (C := R_M) (T := T_M) (N := 20) hx hb ht in_M hown hK hP 0 rfl rfl 12 (by decide) (ht _ k_339) (fun _ h => h) rfl d_M_next_95 ?_
                  exact ret_i hx hb hr hlocks hP hK hD hS d_M_next_98 (nx_bad hend hpos q10)
        | succ τ ih =>
          intro r w j H locs ls hg hj hP hD hS hl
          obtain ⟨hsafe, her, hg⟩ := hg
          obtain ⟨t, ht0, htp, hv0, hq0⟩ := hsafe
          have hti : vp_in (r_tp r - 1) 16 := tp_pr ht0 htp
          have hv : vp_in (r_sk r (ix (r_tp r - 1))) 60 := by rw [show r_tp r = nI (t + 1) from htp, ix_pr ht0]; exact hv0
          have ho : q_ok (y_T Y) (r_sk r (ix (r_tp r - 1))) w r := by rw [show r_tp r = nI (t + 1) from htp, ix_pr ht0]; exact hq0
          have hpos : 0 < r_tp r := tp_pos ht0 htp
          refine lv_iload_n hx hb d_M_next_46 rfl (lv_at hl 1 rfl) ?_
          refine lv_ldc (v := 10000000) hx hb hown (ht _ k_439) d_M_next_47 ?_
          refine lv_icmp_ge (tgt := 138) hx hb d_M_next_49 (by decide) (fun c12 => ?_) (fun c12 => ?_)
          · have c12 : ¬ (nI j) < 10000000 := Int32.not_lt.mpr c12
            exact absurd (rn_lt (by omega)) c12
          · have c12 : (nI j) < 10000000 := Int32.not_le.mp c12
            refine lv_aload_n hx hb d_M_next_52 rfl (lv_at hl 2 rfl) ?_
            refine va_get (D := (dC, dI)) (ci := 3) (v := .int (r_tp r)) (C := R_M) (T := T_M) (N := 20) hx hb ht in_M hown hK hP 0 rfl rfl 17 (by decide) (ht _ k_344) (fun _ h => h) rfl d_M_next_53 ?_
            refine lv_if_le (tgt := 138) hx hb d_M_next_56 (by decide) (fun c13 => ?_) (fun c13 => ?_)
            · have c13 : ¬ (0 : Int32) < r_tp r := Int32.not_lt.mpr c13
              exact absurd hpos c13
            · have c13 : (0 : Int32) < r_tp r := Int32.not_le.mp c13
              refine lv_aload_n hx hb d_M_next_59 rfl (lv_at hl 2 rfl) ?_
              refine va_get (D := (dC, dI)) (ci := 3) (v := .ref (b 10)) (C := R_M) (T := T_M) (N := 20) hx hb ht in_M hown hK hP 0 rfl rfl 16 (by decide) (ht _ k_343) (fun _ h => h) rfl d_M_next_60 ?_
              refine lv_aload_n hx hb d_M_next_63 rfl (lv_at hl 2 rfl) ?_
              refine va_get (D := (dC, dI)) (ci := 3) (v := .int (r_tp r)) (C := R_M) (T := T_M) (N := 20) hx hb ht in_M hown hK hP 0 rfl rfl 17 (by decide) (ht _ k_344) (fun _ h => h) rfl d_M_next_64 ?_
              refine lv_iconst (v := 1) hx hb d_M_next_67 (by decide) ?_
              refine lv_isub hx hb d_M_next_68 ?_
              refine va_iald hx hb hK hP 10 9 rfl rfl hti d_M_next_69 ?_
              refine lv_istore_n hx hb d_M_next_70 rfl hl (by decide) (lv' := [(3, .int (r_sk r (ix (r_tp r - 1)))), (1, .int w), (2, .int (nI j)), (0, .ref (b 0))]) rfl (fun ls hl => ?_)
              refine lv_aload_n hx hb d_M_next_71 rfl (lv_at hl 3 rfl) ?_
              refine lv_iload_n hx hb d_M_next_72 rfl (lv_at hl 0 rfl) ?_
              refine lv_iload_n hx hb d_M_next_73 rfl (lv_at hl 1 rfl) ?_
              refine call_i (As := [.int (r_sk r (ix (r_tp r - 1))), .int w]) (rest := []) (ci := 3) (q0 := 0) (c_M_step l dC dI b h Y r (r_sk r (ix (r_tp r - 1))) w hv ⟨t, ht0, htp⟩ ho) k_440 k_442 s_M_step k_4 k_443 ⟨rfl, pc_M_step.1, pc_M_step.2, pd_M_step⟩ rfl rfl rfl rfl rfl (rm_le (by omega) (by decide)) (Nat.le_of_ble_eq_true rfl) rfl hx hb hml hown ht hl.1 hP hK hD hS hA hN d_M_next_74 (fun r14 u15 H locs q16 hP hD hS => ?_)
              have hP : va_P (dC, dI) vwCl (wY b h (Y_r Y u15)) H := hP
              have hD : va_D A (wY b h (Y_r Y u15)) := hD
              refine lv_istore hx hb d_M_next_77 hl (by decide) (lv' := [(4, .int r14), (3, .int (r_sk r (ix (r_tp r - 1)))), (1, .int w), (2, .int (nI j)), (0, .ref (b 0))]) rfl (fun ls hl => ?_)
              refine lv_aload_n hx hb d_M_next_79 rfl (lv_at hl 4 rfl) ?_
              refine va_get (D := (dC, dI)) (ci := 3) (v := .int (r_er u15)) (C := R_M) (T := T_M) (N := 20) hx hb ht in_M hown hK hP 0 rfl rfl 19 (by decide) (ht _ k_346) (fun _ h => h) rfl d_M_next_80 ?_
              refine lv_if_eq (tgt := 99) hx hb d_M_next_83 (by decide) (fun c17 => ?_) (fun c17 => ?_)
              · have c17 : r_er u15 = 0 := c17
                refine lv_iload hx hb d_M_next_99 (lv_at hl 0 rfl) ?_
                refine lv_iconst (v := 2) hx hb d_M_next_101 (by decide) ?_
                refine lv_icmp_ne (tgt := 110) hx hb d_M_next_102 (by decide) (fun c18 => ?_) (fun c18 => ?_)
                · have c18 : ¬ r14 = 2 := c18
                  refine lv_aload_n hx hb d_M_next_110 rfl (lv_at hl 4 rfl) ?_
                  refine lv_dup hx hb d_M_next_111 rfl ?_
                  refine va_get (D := (dC, dI)) (ci := 3) (v := .int (r_tp u15)) (C := R_M) (T := T_M) (N := 20) hx hb ht in_M hown hK hP 0 rfl rfl 17 (by decide) (ht _ k_344) (fun _ h => h) rfl d_M_next_112 ?_
                  refine lv_iconst (v := 1) hx hb d_M_next_115 (by decide) ?_
                  refine lv_isub hx hb d_M_next_116 ?_
                  refine va_put (D := (dC, dI)) (ci := 3) (v := .int (r_tp u15 - 1)) (ty := .int) (C := R_M) (T := T_M) (N := 20) hx hb ht in_M t_M t_M_ok n_M hown hK hP hD hS 0 rfl rfl 17 (by decide) (ht _ k_344) (fun _ h => h) rfl (by decide +kernel) rfl rfl (Nat.le_of_ble_eq_true rfl) d_M_next_117 (fun H locs hP hD hS => ?_)
                  have hP : va_P (dC, dI) vwCl (wY b h (Y_r Y (u_tp u15 (r_tp u15 - 1)))) H := cP_R_tp hP
                  have hD : va_D A (wY b h (Y_r Y (u_tp u15 (r_tp u15 - 1)))) := cD_R_tp hD
                  refine lv_iload hx hb d_M_next_120 (lv_at hl 0 rfl) ?_
                  refine lv_iconst (v := 1) hx hb d_M_next_122 (by decide) ?_
                  refine lv_icmp_ne (tgt := 130) hx hb d_M_next_123 (by decide) (fun c19 => ?_) (fun c19 => ?_)
                  · have c19 : ¬ r14 = 1 := c19
                    refine lv_iconst (v := 2) hx hb d_M_next_130 (by decide) ?_
                    refine lv_istore_n hx hb d_M_next_131 rfl hl (by decide) (lv' := [(1, .int 2), (4, .int r14), (3, .int (r_sk r (ix (r_tp r - 1)))), (2, .int (nI j)), (0, .ref (b 0))]) rfl (fun ls hl => ?_)
                    refine lv_iinc (k := 3) (v := ((nI j) + 1)) hx hb d_M_next_132 hl rfl rfl (by decide) (lv' := [(2, .int ((nI j) + 1)), (1, .int 2), (4, .int r14), (3, .int (r_sk r (ix (r_tp r - 1)))), (0, .ref (b 0))]) rfl (fun ls hl => ?_)
                    refine lv_goto (tgt := 46) hx hb d_M_next_135 (by decide) ?_
                    rw [← nI_succ] at hl
                    have hl : lv_has ls 5 [(1, .int 2), (2, .int (nI (j + 1))), (0, .ref (b 0))] := lv_sub hl [1, 0, 4] rfl
                    exact ih _ _ (j + 1) _ _ _ (qt_0 q16 hg c18 c19) (by omega) hP hD hS hl
                  · have c19 : r14 = 1 := c19
                    refine lv_iconst (v := 1) hx hb d_M_next_126 (by decide) ?_
                    refine lv_goto (tgt := 131) hx hb d_M_next_127 (by decide) ?_
                    refine lv_istore_n hx hb d_M_next_131 rfl hl (by decide) (lv' := [(1, .int 1), (4, .int r14), (3, .int (r_sk r (ix (r_tp r - 1)))), (2, .int (nI j)), (0, .ref (b 0))]) rfl (fun ls hl => ?_)
                    refine lv_iinc (k := 3) (v := ((nI j) + 1)) hx hb d_M_next_132 hl rfl rfl (by decide) (lv' := [(2, .int ((nI j) + 1)), (1, .int 1), (4, .int r14), (3, .int (r_sk r (ix (r_tp r - 1)))), (0, .ref (b 0))]) rfl (fun ls hl => ?_)
                    refine lv_goto (tgt := 46) hx hb d_M_next_135 (by decide) ?_
                    rw [← nI_succ] at hl
                    have hl : lv_has ls 5 [(1, .int 1), (2, .int (nI (j + 1))), (0, .ref (b 0))] := lv_sub hl [1, 0, 4] rfl
                    exact ih _ _ (j + 1) _ _ _ (qt_1 q16 hg c18 c19) (by omega) hP hD hS hl
                · have c18 : r14 = 2 := c18
                  refine lv_iconst (v := 0) hx hb d_M_next_105 (by decide) ?_
                  refine lv_istore_n hx hb d_M_next_106 rfl hl (by decide) (lv' := [(1, .int 0), (4, .int r14), (3, .int (r_sk r (ix (r_tp r - 1)))), (2, .int (nI j)), (0, .ref (b 0))]) rfl (fun ls hl => ?_)
                  refine lv_goto (tgt := 132) hx hb d_M_next_107 (by decide) ?_
                  refine lv_iinc (k := 3) (v := ((nI j) + 1)) hx hb d_M_next_132 hl rfl rfl (by decide) (lv' := [(2, .int ((nI j) + 1)), (1, .int 0), (4, .int r14), (3, .int (r_sk r (ix (r_tp r - 1)))), (0, .ref (b 0))]) rfl (fun ls hl => ?_)
                  refine lv_goto (tgt := 46) hx hb d_M_next_135 (by decide) ?_
                  rw [← nI_succ] at hl
                  have hl : lv_has ls 5 [(1, .int 0), (2, .int (nI (j + 1))), (0, .ref (b 0))] := lv_sub hl [1, 0, 4] rfl
                  exact ih _ _ (j + 1) _ _ _ (qt_2 q16 hg c18) (by omega) hP hD hS hl
              · have c17 : ¬ r_er u15 = 0 := c17
                exact absurd (qt_er q16 her) c17
      have hl : lv_has ls 5 [(1, .int 0), (2, .int (nI 0)), (0, .ref (b 0))] := lv_sub hl [1, 0, 2] rfl
      exact loop mm _ 0 0 _ _ _ hgo (by omega) hP hD hS hl
    · have c2 : ¬ y_e Y = 2 := c2
      refine lv_aload_n hx hb d_M_next_17 rfl (lv_at hl 0 rfl) ?_
      refine va_get (D := (dC, dI)) (ci := 3) (v := .int (y_e Y)) (C := R_M) (T := T_M) (N := 20) hx hb ht in_M hown hK hP 0 rfl rfl 12 (by decide) (ht _ k_339) (fun _ h => h) rfl d_M_next_18 ?_
      exact ret_i hx hb hr hlocks hP hK hD hS d_M_next_21 (nx_b hQ c1 c2)
  · have c1 : y_b Y < 0 := Int32.not_le.mp c1
    refine lv_iconst (v := (-1)) hx hb d_M_next_7 (by decide) ?_
    exact ret_i hx hb hr hlocks hP hK hD hS d_M_next_8 (nx_a hQ c1)
set_option maxRecDepth 100000 in
set_option maxHeartbeats 4000000 in
theorem c_M_skip (l : Launch) (dC : Nat → ClassId) (dI : Nat → Nat → Nat) (b : Nat → Nat) (h : Nat → ClassId) (sq : Nat → zY) (an : Nat → Int32) (hQ : ∀ j, MetI l y_M_next w_M_next (rmN 6) dC dI (yY h) (wY b h) [.ref (b 0)] (sq j) (fun r u => r = an j ∧ u = sq (j + 1))) (n : Int32) : MetI l y_M_skip w_M_skip (rmN (7)) dC dI (yY h) (wY b h) [.ref (b 0), .int n] (sq 0) (fun r u => (p_with n 1 100 = false ∧ r = 0 ∧ u = sq 0) ∨ (p_with n 1 100 = true ∧ Sk sq an n r u)) := by
  refine metI_of (cc := b_M_skip) (maxL := 5) (ret := (some .int)) (by decide) rfl (Nat.le_of_ble_eq_true rfl) ?_
  intro p e9 s9 m args below meth c A ls hx hb hr hts hown hlocks hml hA hP hK hD hS hN hl
  have ht : ∀ w ∈ lw_g, w.before args s9 = true := fun w h => hts w (List.mem_cons_of_mem _ h)
  have hl : lv_has ls 5 [(0, .ref (b 0)), (1, .int n)] := hl
  refine lv_iconst (v := 0) hx hb d_M_skip_0 (by decide) ?_
  refine lv_istore_n hx hb d_M_skip_1 rfl hl (by decide) (lv' := [(2, .int 0), (0, .ref (b 0)), (1, .int n)]) rfl (fun ls hl => ?_)
  refine lv_iload_n hx hb d_M_skip_2 rfl (lv_at hl 2 rfl) ?_
  refine lv_iconst (v := 1) hx hb d_M_skip_3 (by decide) ?_
  refine lv_bipush (v := 100) hx hb d_M_skip_4 (by decide) ?_
  refine call_s (As := [.int n, .int 1, .int 100]) (rest := []) (c_M_within l dC dI b h (sq 0) n 1 100) k_392 k_393 k_4 k_394 ⟨rfl, pc_M_within.1, pc_M_within.2, pd_M_within⟩ rfl rfl (rm_le (by omega) (by decide)) (Nat.le_of_ble_eq_true rfl) rfl hx hb hml hown ht hl.1 hP hK hD hS hA hN d_M_skip_6 (fun r1 u2 H locs q3 hP hD hS => ?_)
  obtain ⟨⟨b4, rfl⟩ | ⟨b4, rfl⟩, q3⟩ := q3
  · rw [q3] at hP hD
    have hP : va_P (dC, dI) vwCl (wY b h (sq 0)) H := hP
    have hD : va_D A (wY b h (sq 0)) := hD
    refine lv_if_ne (tgt := 14) hx hb d_M_skip_9 (by decide) (fun c5 => ?_) (fun c5 => ?_)
    · have c5 : ¬ (1 : Int32) = 0 := c5
      refine lv_iconst (v := 0) hx hb d_M_skip_14 (by decide) ?_
      refine lv_istore_n hx hb d_M_skip_15 rfl hl (by decide) (lv' := [(3, .int 0), (2, .int 0), (0, .ref (b 0)), (1, .int n)]) rfl (fun ls hl => ?_)
      have loop : ∀ (τ j : Nat) (H : Heap) (locs : List Loc) (ls : Array Slot), j + τ = 101 → (∀ i, i < j → an i = 1 ∧ nI i < n) → va_P (dC, dI) vwCl (wY b h (sq j)) H → va_D A (wY b h (sq j)) → va_S A s9.heap H locs → lv_has ls 5 [(2, .int (nI j)), (3, .int (nI j)), (0, .ref (b 0)), (1, .int n)] → W p l e9 (rmN (7)) s9 m args below meth c H locs 0 0 (MQ below (va_Qi (fun r u => (p_with n 1 100 = false ∧ r = 0 ∧ u = sq 0) ∨ (p_with n 1 100 = true ∧ Sk sq an n r u)) (zAft dC dI (yY h) (wY b h) A) A) args s9 0 0 A) (F0 m 16 ls []) := by
        clear hl hP hD hS
        intro τ
        induction τ with
        | zero =>
          intro j H locs ls hj hall
          exact absurd (hall 100 (by omega)).2 (with_100 b4)
        | succ τ ih =>
          intro j H locs ls hj hall hP hD hS hl
          refine lv_iload_n hx hb d_M_skip_16 rfl (lv_at hl 1 rfl) ?_
          refine lv_iload_n hx hb d_M_skip_17 rfl (lv_at hl 3 rfl) ?_
          refine lv_icmp_ge (tgt := 44) hx hb d_M_skip_18 (by decide) (fun c6 => ?_) (fun c6 => ?_)
          · have c6 : ¬ (nI j) < n := Int32.not_lt.mpr c6
            refine lv_iload_n hx hb d_M_skip_44 rfl (lv_at hl 0 rfl) ?_
            exact ret_i hx hb hr hlocks hP hK hD hS d_M_skip_45 (Or.inr ⟨b4, j, rfl, hall, Or.inl ⟨c6, rfl⟩⟩)
          · have c6 : (nI j) < n := Int32.not_le.mp c6
            refine lv_aload_n hx hb d_M_skip_21 rfl (lv_at hl 2 rfl) ?_
            refine call_i (As := []) (rest := []) (ci := 3) (q0 := 0) (hQ j) k_496 k_436 k_437 k_4 k_438 ⟨rfl, pc_M_next.1, pc_M_next.2, pd_M_next⟩ rfl rfl rfl rfl rfl (rm_le (by omega) (by decide)) (Nat.le_of_ble_eq_true rfl) rfl hx hb hml hown ht hl.1 hP hK hD hS hA hN d_M_skip_22 (fun r7 u8 H locs q9 hP hD hS => ?_)
            obtain ⟨rfl, rfl⟩ := q9
            have hP : va_P (dC, dI) vwCl (wY b h (sq (j + 1))) H := hP
            have hD : va_D A (wY b h (sq (j + 1))) := hD
            refine lv_istore hx hb d_M_skip_25 hl (by decide) (lv' := [(4, .int (an j)), (2, .int (nI j)), (3, .int (nI j)), (0, .ref (b 0)), (1, .int n)]) rfl (fun ls hl => ?_)
            refine lv_iload hx hb d_M_skip_27 (lv_at hl 0 rfl) ?_
            refine lv_iconst (v := 1) hx hb d_M_skip_29 (by decide) ?_
            refine lv_icmp_eq (tgt := 35) hx hb d_M_skip_30 (by decide) (fun c10 => ?_) (fun c10 => ?_)
            · have c10 : (an j) = 1 := c10
              refine lv_iinc (k := 1) (v := ((nI j) + 1)) hx hb d_M_skip_35 hl rfl rfl (by decide) (lv' := [(2, .int ((nI j) + 1)), (4, .int (an j)), (3, .int (nI j)), (0, .ref (b 0)), (1, .int n)]) rfl (fun ls hl => ?_)
              refine lv_iinc (k := 2) (v := ((nI j) + 1)) hx hb d_M_skip_38 hl rfl rfl (by decide) (lv' := [(3, .int ((nI j) + 1)), (2, .int ((nI j) + 1)), (4, .int (an j)), (0, .ref (b 0)), (1, .int n)]) rfl (fun ls hl => ?_)
              refine lv_goto (tgt := 16) hx hb d_M_skip_41 (by decide) ?_
              rw [← nI_succ] at hl
              have hl : lv_has ls 5 [(2, .int (nI (j + 1))), (3, .int (nI (j + 1))), (0, .ref (b 0)), (1, .int n)] := lv_sub hl [1, 0, 3, 4] rfl
              refine ih (j + 1) _ _ _ (by omega) (fun i hi => ?_) hP hD hS hl
              by_cases hij : i = j
              · subst hij; exact ⟨c10, c6⟩
              · exact hall i (by omega)
            · have c10 : ¬ (an j) = 1 := c10
              refine lv_iload_n hx hb d_M_skip_33 rfl (lv_at hl 1 rfl) ?_
              exact ret_i hx hb hr hlocks hP hK hD hS d_M_skip_34 (Or.inr ⟨b4, j, rfl, hall, Or.inr ⟨c6, c10, rfl⟩⟩)
      have hl : lv_has ls 5 [(2, .int (nI 0)), (3, .int (nI 0)), (0, .ref (b 0)), (1, .int n)] := lv_sub hl [1, 0, 2, 3] rfl
      exact loop 101 0 _ _ _ (by omega) (fun i hi => absurd hi (Nat.not_lt_zero i)) hP hD hS hl
    · have c5 : (1 : Int32) = 0 := c5
      exact absurd c5 (by decide)
  · rw [q3] at hP hD
    have hP : va_P (dC, dI) vwCl (wY b h (sq 0)) H := hP
    have hD : va_D A (wY b h (sq 0)) := hD
    refine lv_if_ne (tgt := 14) hx hb d_M_skip_9 (by decide) (fun c11 => ?_) (fun c11 => ?_)
    · have c11 : ¬ (0 : Int32) = 0 := c11
      exact absurd c11 (by decide)
    · have c11 : (0 : Int32) = 0 := c11
      refine lv_iconst (v := 0) hx hb d_M_skip_12 (by decide) ?_
      exact ret_i hx hb hr hlocks hP hK hD hS d_M_skip_13 (Or.inl ⟨b4, rfl, rfl⟩)
set_option maxRecDepth 100000 in
set_option maxHeartbeats 4000000 in
theorem c_G_skip (l : Launch) (dC : Nat → ClassId) (dI : Nat → Nat → Nat) (a : Nat → Nat) (k : Nat → ClassId) (sq : Nat → zX) (an : Nat → Int32) (hQ : ∀ j, MetI l y_S_proceed w_S_proceed (rmN (5 * 12 + 4)) dC dI (yX k) (wX a k) [.ref (a 1)] (sq j) (fun r u => r = an j ∧ u = sq (j + 1))) (n : Int32) : MetI l y_G_skip w_G_skip (rmN (5 * 12 + 5)) dC dI (yX k) (wX a k) [.ref (a 0), .int n] (sq 0) (fun r u => (100 < n ∧ r = 0 ∧ u = sq 0) ∨ (¬ 100 < n ∧ Sk sq an n r u)) := by
  refine metI_of (cc := b_G_skip) (maxL := 3) (ret := (some .int)) (by decide) rfl (Nat.le_of_ble_eq_true rfl) ?_
  intro p e9 s9 m args below meth c A ls hx hb hr hts hown hlocks hml hA hP hK hD hS hN hl
  have ht : ∀ w ∈ lw_g, w.before args s9 = true := fun w h => hts w (List.mem_cons_of_mem _ h)
  have hl : lv_has ls 3 [(0, .ref (a 0)), (1, .int n)] := hl
  refine lv_iload_n hx hb d_G_skip_0 rfl (lv_at hl 1 rfl) ?_
  refine lv_bipush (v := 100) hx hb d_G_skip_1 (by decide) ?_
  refine lv_icmp_le (tgt := 8) hx hb d_G_skip_3 (by decide) (fun c1 => ?_) (fun c1 => ?_)
  · have c1 : ¬ (100 : Int32) < n := Int32.not_lt.mpr c1
    refine lv_iconst (v := 0) hx hb d_G_skip_8 (by decide) ?_
    refine lv_istore_n hx hb d_G_skip_9 rfl hl (by decide) (lv' := [(2, .int 0), (0, .ref (a 0)), (1, .int n)]) rfl (fun ls hl => ?_)
    have loop : ∀ (τ j : Nat) (H : Heap) (locs : List Loc) (ls : Array Slot), j + τ = 101 → (∀ i, i < j → an i = 1 ∧ nI i < n) → va_P (dC, dI) vwCl (wX a k (sq j)) H → va_D A (wX a k (sq j)) → va_S A s9.heap H locs → lv_has ls 3 [(2, .int (nI j)), (0, .ref (a 0)), (1, .int n)] → W p l e9 (rmN (5 * 12 + 5)) s9 m args below meth c H locs 0 0 (MQ below (va_Qi (fun r u => (100 < n ∧ r = 0 ∧ u = sq 0) ∨ (¬ 100 < n ∧ Sk sq an n r u)) (zAft dC dI (yX k) (wX a k) A) A) args s9 0 0 A) (F0 m 10 ls []) := by
      clear hl hP hD hS
      intro τ
      induction τ with
      | zero =>
        intro j H locs ls hj hall
        exact absurd (hall 100 (by omega)).2 c1
      | succ τ ih =>
        intro j H locs ls hj hall hP hD hS hl
        refine lv_iload_n hx hb d_G_skip_10 rfl (lv_at hl 0 rfl) ?_
        refine lv_iload_n hx hb d_G_skip_11 rfl (lv_at hl 2 rfl) ?_
        refine lv_icmp_ge (tgt := 32) hx hb d_G_skip_12 (by decide) (fun c2 => ?_) (fun c2 => ?_)
        · have c2 : ¬ (nI j) < n := Int32.not_lt.mpr c2
          refine lv_iload_n hx hb d_G_skip_32 rfl (lv_at hl 0 rfl) ?_
          exact ret_i hx hb hr hlocks hP hK hD hS d_G_skip_33 (Or.inr ⟨c1, j, rfl, hall, Or.inl ⟨c2, rfl⟩⟩)
        · have c2 : (nI j) < n := Int32.not_le.mp c2
          refine lv_aload_n hx hb d_G_skip_15 rfl (lv_at hl 1 rfl) ?_
          refine va_get (D := (dC, dI)) (ci := 2) (v := .ref (a 1)) (C := R_G) (T := T_G) (N := 2) hx hb ht in_G hown hK hP 0 rfl rfl 0 (by decide) (ht _ k_105) (fun _ h => h) rfl d_G_skip_16 ?_
          refine call_i (As := []) (rest := []) (ci := 1) (q0 := 1) (hQ j) k_193 k_194 k_195 k_2 k_196 ⟨rfl, pc_S_proceed.1, pc_S_proceed.2, pd_S_proceed⟩ rfl rfl rfl rfl rfl (rm_le (by omega) (by decide)) (Nat.le_of_ble_eq_true rfl) rfl hx hb hml hown ht hl.1 hP hK hD hS hA hN d_G_skip_19 (fun r3 u4 H locs q5 hP hD hS => ?_)
          obtain ⟨rfl, rfl⟩ := q5
          have hP : va_P (dC, dI) vwCl (wX a k (sq (j + 1))) H := hP
          have hD : va_D A (wX a k (sq (j + 1))) := hD
          refine lv_iconst (v := 1) hx hb d_G_skip_22 (by decide) ?_
          refine lv_icmp_ne (tgt := 32) hx hb d_G_skip_23 (by decide) (fun c6 => ?_) (fun c6 => ?_)
          · have c6 : ¬ (an j) = 1 := c6
            refine lv_iload_n hx hb d_G_skip_32 rfl (lv_at hl 0 rfl) ?_
            exact ret_i hx hb hr hlocks hP hK hD hS d_G_skip_33 (Or.inr ⟨c1, j, rfl, hall, Or.inr ⟨c2, c6, rfl⟩⟩)
          · have c6 : (an j) = 1 := c6
            refine lv_iinc (k := 0) (v := ((nI j) + 1)) hx hb d_G_skip_26 hl rfl rfl (by decide) (lv' := [(2, .int ((nI j) + 1)), (0, .ref (a 0)), (1, .int n)]) rfl (fun ls hl => ?_)
            refine lv_goto (tgt := 10) hx hb d_G_skip_29 (by decide) ?_
            rw [← nI_succ] at hl
            have hl : lv_has ls 3 [(2, .int (nI (j + 1))), (0, .ref (a 0)), (1, .int n)] := lv_sub hl [0, 1, 2] rfl
            refine ih (j + 1) _ _ _ (by omega) (fun i hi => ?_) hP hD hS hl
            by_cases hij : i = j
            · subst hij; exact ⟨c6, c2⟩
            · exact hall i (by omega)
    have hl : lv_has ls 3 [(2, .int (nI 0)), (0, .ref (a 0)), (1, .int n)] := lv_sub hl [0, 1, 2] rfl
    exact loop 101 0 _ _ _ (by omega) (fun i hi => absurd hi (Nat.not_lt_zero i)) hP hD hS hl
  · have c1 : (100 : Int32) < n := Int32.not_le.mp c1
    refine lv_iconst (v := 0) hx hb d_G_skip_6 (by decide) ?_
    exact ret_i hx hb hr hlocks hP hK hD hS d_G_skip_7 (Or.inl ⟨c1, rfl, rfl⟩)
set_option maxRecDepth 100000 in
set_option maxHeartbeats 4000000 in
theorem c_S_proc (l : Launch) (dC : Nat → ClassId) (dI : Nat → Nat → Nat) (a : Nat → Nat) (k : Nat → ClassId) (T : zT) (M : Nat) (hM : M = 1000000) (X : zX) (v9 : Int32) (U9 : zX) (hV : VT T X) (hq9 : p_proc M X = (v9, U9)) : MetI l y_S_proceed w_S_proceed (rmN (5 * 12 + 4)) dC dI (yX k) (wX a k) [.ref (a 1)] X (fun r u => r = v9 ∧ u = U9) := by
  refine metI_of (cc := b_S_proceed) (maxL := 1) (ret := (some .int)) (by decide) rfl (Nat.le_of_ble_eq_true rfl) ?_
  intro p e9 s9 m args below meth c A ls hx hb hr hts hown hlocks hml hA hP hK hD hS hN hl
  have ht : ∀ w ∈ lw_g, w.before args s9 = true := fun w h => hts w (List.mem_cons_of_mem _ h)
  have hl : lv_has ls 1 [(0, .ref (a 1))] := hl
  refine lv_aload_n hx hb d_S_proceed_0 rfl (lv_at hl 0 rfl) ?_
  refine va_get (D := (dC, dI)) (ci := 1) (v := .int (x_a X)) (C := R_S) (T := T_S) (N := 12) hx hb ht in_S hown hK hP 1 rfl rfl 11 (by decide) (ht _ k_78) (fun _ h => h) rfl d_S_proceed_1 ?_
  refine lv_iconst (v := 1) hx hb d_S_proceed_4 (by decide) ?_
  refine lv_icmp_eq (tgt := 13) hx hb d_S_proceed_5 (by decide) (fun c1 => ?_) (fun c1 => ?_)
  · have c1 : x_a X = 1 := c1
    refine lv_aload_n hx hb d_S_proceed_13 rfl (lv_at hl 0 rfl) ?_
    refine lv_aload_n hx hb d_S_proceed_14 rfl (lv_at hl 0 rfl) ?_
    refine lv_aload_n hx hb d_S_proceed_15 rfl (lv_at hl 0 rfl) ?_
    refine va_get (D := (dC, dI)) (ci := 1) (v := .int (x_b X)) (C := R_S) (T := T_S) (N := 12) hx hb ht in_S hown hK hP 1 rfl rfl 10 (by decide) (ht _ k_77) (fun _ h => h) rfl d_S_proceed_16 ?_
    refine call_i (As := [.int (x_b X)]) (rest := [.ref (a 1)]) (ci := 1) (q0 := 1) (ask_all l dC dI a k X T M hM 12 (x_b X) (x_c X) (hV.2.2 c1) hV.2.1) k_197 k_199 s_S_ask k_2 k_200 ⟨rfl, pc_S_ask.1, pc_S_ask.2, pd_S_ask⟩ rfl rfl rfl rfl rfl (rm_le (by omega) (by decide)) (Nat.le_of_ble_eq_true rfl) rfl hx hb hml hown ht hl.1 hP hK hD hS hA hN d_S_proceed_19 (fun r2 u3 H locs q4 hP hD hS => ?_)
    obtain ⟨q4, hW4⟩ := q4
    have hP : va_P (dC, dI) vwCl (wX a k (X_c X u3)) H := hP
    have hD : va_D A (wX a k (X_c X u3)) := hD
    refine va_put (D := (dC, dI)) (ci := 1) (v := .int r2) (ty := .int) (C := R_S) (T := T_S) (N := 12) hx hb ht in_S t_S t_S_ok n_S hown hK hP hD hS 1 rfl rfl 11 (by decide) (ht _ k_78) (fun _ h => h) rfl (by decide +kernel) rfl rfl (Nat.le_of_ble_eq_true rfl) d_S_proceed_22 (fun H locs hP hD hS => ?_)
    have hP : va_P (dC, dI) vwCl (wX a k (X_a (X_c X u3) r2)) H := cP_X_a hP
    have hD : va_D A (wX a k (X_a (X_c X u3) r2)) := cD_X_a hD
    refine lv_aload_n hx hb d_S_proceed_25 rfl (lv_at hl 0 rfl) ?_
    refine va_get (D := (dC, dI)) (ci := 1) (v := .int r2) (C := R_S) (T := T_S) (N := 12) hx hb ht in_S hown hK hP 1 rfl rfl 11 (by decide) (ht _ k_78) (fun _ h => h) rfl d_S_proceed_26 ?_
    refine lv_iconst (v := 1) hx hb d_S_proceed_29 (by decide) ?_
    refine lv_icmp_ne (tgt := 46) hx hb d_S_proceed_30 (by decide) (fun c5 => ?_) (fun c5 => ?_)
    · have c5 : ¬ r2 = 1 := c5
      refine lv_aload_n hx hb d_S_proceed_46 rfl (lv_at hl 0 rfl) ?_
      refine va_get (D := (dC, dI)) (ci := 1) (v := .int r2) (C := R_S) (T := T_S) (N := 12) hx hb ht in_S hown hK hP 1 rfl rfl 11 (by decide) (ht _ k_78) (fun _ h => h) rfl d_S_proceed_47 ?_
      exact ret_i (v := r2) hx hb hr hlocks hP hK hD hS d_S_proceed_50 (by exact pq hq9 (by simp only [p_proc, eq_true c1, c5, q4, if_true, if_false, Bool.false_eq_true, reduceIte] <;> rfl))
    · have c5 : r2 = 1 := c5
      refine lv_aload_n hx hb d_S_proceed_33 rfl (lv_at hl 0 rfl) ?_
      refine lv_aload_n hx hb d_S_proceed_34 rfl (lv_at hl 0 rfl) ?_
      refine va_get (D := (dC, dI)) (ci := 1) (v := .ref (a 11)) (C := R_S) (T := T_S) (N := 12) hx hb ht in_S hown hK hP 1 rfl rfl 2 (by decide) (ht _ k_64) (fun _ h => h) rfl d_S_proceed_35 ?_
      refine lv_aload_n hx hb d_S_proceed_38 rfl (lv_at hl 0 rfl) ?_
      refine va_get (D := (dC, dI)) (ci := 1) (v := .int (x_b (X_a (X_c X u3) r2))) (C := R_S) (T := T_S) (N := 12) hx hb ht in_S hown hK hP 1 rfl rfl 10 (by decide) (ht _ k_77) (fun _ h => h) rfl d_S_proceed_39 ?_
      refine va_iald hx hb hK hP 11 8 rfl rfl (Tr_in (hV.2.2 c1)) d_S_proceed_42 ?_
      refine va_put (D := (dC, dI)) (ci := 1) (v := .int (c_rs (x_c (X_a (X_c X u3) r2)) (ix (x_b (X_a (X_c X u3) r2))))) (ty := .int) (C := R_S) (T := T_S) (N := 12) hx hb ht in_S t_S t_S_ok n_S hown hK hP hD hS 1 rfl rfl 8 (by decide) (ht _ k_74) (fun _ h => h) rfl (by decide +kernel) rfl rfl (Nat.le_of_ble_eq_true rfl) d_S_proceed_43 (fun H locs hP hD hS => ?_)
      have hP : va_P (dC, dI) vwCl (wX a k (X_l (X_a (X_c X u3) r2) (c_rs (x_c (X_a (X_c X u3) r2)) (ix (x_b (X_a (X_c X u3) r2)))))) H := cP_X_l hP
      have hD : va_D A (wX a k (X_l (X_a (X_c X u3) r2) (c_rs (x_c (X_a (X_c X u3) r2)) (ix (x_b (X_a (X_c X u3) r2)))))) := cD_X_l hD
      refine lv_aload_n hx hb d_S_proceed_46 rfl (lv_at hl 0 rfl) ?_
      refine va_get (D := (dC, dI)) (ci := 1) (v := .int r2) (C := R_S) (T := T_S) (N := 12) hx hb ht in_S hown hK hP 1 rfl rfl 11 (by decide) (ht _ k_78) (fun _ h => h) rfl d_S_proceed_47 ?_
      exact ret_i (v := r2) hx hb hr hlocks hP hK hD hS d_S_proceed_50 (by exact pq hq9 (by simp only [p_proc, eq_true c1, eq_true c5, q4, if_true, if_false, Bool.false_eq_true, reduceIte] <;> rfl))
  · have c1 : ¬ x_a X = 1 := c1
    refine lv_aload_n hx hb d_S_proceed_8 rfl (lv_at hl 0 rfl) ?_
    refine va_get (D := (dC, dI)) (ci := 1) (v := .int (x_a X)) (C := R_S) (T := T_S) (N := 12) hx hb ht in_S hown hK hP 1 rfl rfl 11 (by decide) (ht _ k_78) (fun _ h => h) rfl d_S_proceed_9 ?_
    exact ret_i (v := x_a X) hx hb hr hlocks hP hK hD hS d_S_proceed_12 (by exact pq hq9 (by simp only [p_proc, c1, if_true, if_false, Bool.false_eq_true, reduceIte] <;> rfl))
