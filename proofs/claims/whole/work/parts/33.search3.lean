set_option maxRecDepth 100000 in
set_option maxHeartbeats 4000000 in
theorem c_S_askPair (l : Launch) (dC : Nat → ClassId) (dI : Nat → Nat → Nat) (a : Nat → Nat) (k : Nat → ClassId) (X : zX) (T : zT) (M d : Nat) (hAsk : AskOK l dC dI a k X T M d) (hM : M = 1000000) (s : zC) (e : Int32) (he : vp_in e 60) (tx : Tr (x_F X) T d (f_x (x_F X) (ix e))) (ty : Tr (x_F X) T d (f_y (x_F X) (ix e))) (hW : Wk s) : MetI l y_S_askPair w_S_askPair (rmN (5 * d + 5)) dC dI (yX k) (wS a k X) [.ref (a 1), .int e] s (fun r u => p_pairL (x_F X) (p_all (x_F X) M d) e M s = (r, u) ∧ Wk u) := by
  refine metI_of (cc := b_S_askPair) (maxL := 5) (ret := (some .int)) (by decide) rfl (Nat.le_of_ble_eq_true rfl) ?_
  intro p e9 s9 m args below meth c A ls hx hb hr hts hown hlocks hml hA hP hK hD hS hN hl
  have ht : ∀ w ∈ lw_g, w.before args s9 = true := fun w h => hts w (List.mem_cons_of_mem _ h)
  have hl : lv_has ls 5 [(0, .ref (a 1)), (1, .int e)] := hl
  refine lv_aload_n hx hb d_S_askPair_0 rfl (lv_at hl 0 rfl) ?_
  refine va_get (D := (dC, dI)) (ci := 1) (v := .ref (a 2)) (C := R_S) (T := T_S) (N := 12) hx hb ht in_S hown hK hP 1 rfl rfl 0 (by decide) (ht _ k_61) (fun _ h => h) rfl d_S_askPair_1 ?_
  refine va_get (D := (dC, dI)) (ci := 0) (v := .ref (a 6)) (C := R_F) (T := T_F) (N := 8) hx hb ht in_F hown hK hP 2 rfl rfl 3 (by decide) (ht _ k_33) (fun _ h => h) rfl d_S_askPair_4 ?_
  refine lv_iload_n hx hb d_S_askPair_7 rfl (lv_at hl 1 rfl) ?_
  refine va_iald hx hb hK hP 6 3 rfl rfl he d_S_askPair_8 ?_
  refine lv_istore_n hx hb d_S_askPair_9 rfl hl (by decide) (lv' := [(2, .int (f_y (x_F X) (ix e))), (0, .ref (a 1)), (1, .int e)]) rfl (fun ls hl => ?_)
  refine lv_iconst (v := 0) hx hb d_S_askPair_10 (by decide) ?_
  refine lv_istore_n hx hb d_S_askPair_11 rfl hl (by decide) (lv' := [(3, .int 0), (2, .int (f_y (x_F X) (ix e))), (0, .ref (a 1)), (1, .int e)]) rfl (fun ls hl => ?_)
  have loop : ∀ (τ : Nat) (s1 : zC) (H : Heap) (locs : List Loc) (ls : Array Slot) (n : Nat), n + τ = 1000000 → Wk s1 → va_P (dC, dI) vwCl (wS a k X s1) H → va_D A (wS a k X s1) → va_S A s9.heap H locs → lv_has ls 5 [(3, .int (nI n)), (2, .int (f_y (x_F X) (ix e))), (0, .ref (a 1)), (1, .int e)] → p_pairL (x_F X) (p_all (x_F X) M d) e τ s1 = p_pairL (x_F X) (p_all (x_F X) M d) e M s → W p l e9 (rmN (5 * d + 5)) s9 m args below meth c H locs 0 0 (MQ below (va_Qi (fun r u => p_pairL (x_F X) (p_all (x_F X) M d) e M s = (r, u) ∧ Wk u) (zAft dC dI (yX k) (wS a k X) A) A) args s9 0 0 A) (F0 m 12 ls []) := by
    clear hl hP hD hS
    intro τ
    induction τ with
    | zero =>
      intro s1 H locs ls n hn hW hP hD hS hl heq
      refine lv_iload_n hx hb d_S_askPair_12 rfl (lv_at hl 0 rfl) ?_
      refine lv_ldc (v := 1000000) hx hb hown (ht _ k_249) d_S_askPair_13 ?_
      refine lv_icmp_ge (tgt := 84) hx hb d_S_askPair_15 (by decide) (fun c1 => ?_) (fun c1 => ?_)
      · have c1 : ¬ (nI n) < 1000000 := Int32.not_lt.mpr c1
        refine lv_iconst (v := 0) hx hb d_S_askPair_84 (by decide) ?_
        exact ret_i (v := 0) hx hb hr hlocks hP hK hD hS d_S_askPair_85 ⟨by rw [← heq]; simp [p_pairL, c1], hW⟩
      · have c1 : (nI n) < 1000000 := Int32.not_le.mp c1
        exact (tn_ge c1 (by omega)).elim
    | succ τ ih =>
      intro s1 H locs ls n hn hW hP hD hS hl heq
      refine lv_iload_n hx hb d_S_askPair_12 rfl (lv_at hl 0 rfl) ?_
      refine lv_ldc (v := 1000000) hx hb hown (ht _ k_249) d_S_askPair_13 ?_
      refine lv_icmp_ge (tgt := 84) hx hb d_S_askPair_15 (by decide) (fun c2 => ?_) (fun c2 => ?_)
      · have c2 : ¬ (nI n) < 1000000 := Int32.not_lt.mpr c2
        exact absurd (tn_lt (by omega)) c2
      · have c2 : (nI n) < 1000000 := Int32.not_le.mp c2
        refine lv_aload_n hx hb d_S_askPair_18 rfl (lv_at hl 2 rfl) ?_
        refine va_get (D := (dC, dI)) (ci := 1) (v := .ref (a 10)) (C := R_S) (T := T_S) (N := 12) hx hb ht in_S hown hK hP 1 rfl rfl 1 (by decide) (ht _ k_63) (fun _ h => h) rfl d_S_askPair_19 ?_
        refine lv_iload_n hx hb d_S_askPair_22 rfl (lv_at hl 3 rfl) ?_
        refine va_iald hx hb hK hP 10 7 rfl rfl he d_S_askPair_23 ?_
        refine lv_iconst (v := 2) hx hb d_S_askPair_24 (by decide) ?_
        refine lv_icmp_eq (tgt := 56) hx hb d_S_askPair_25 (by decide) (fun c3 => ?_) (fun c3 => ?_)
        · have c3 : c_st s1 (ix e) = 2 := c3
          refine lv_aload_n hx hb d_S_askPair_56 rfl (lv_at hl 2 rfl) ?_
          refine lv_iload_n hx hb d_S_askPair_57 rfl (lv_at hl 1 rfl) ?_
          refine call_i (As := [.int (f_y (x_F X) (ix e))]) (rest := []) (ci := 1) (q0 := 1) (hAsk (f_y (x_F X) (ix e)) s1 ty hW) k_197 k_199 s_S_ask k_2 k_200 ⟨rfl, pc_S_ask.1, pc_S_ask.2, pd_S_ask⟩ rfl rfl rfl rfl rfl (rm_le (by omega) (by decide)) (Nat.le_of_ble_eq_true rfl) rfl hx hb hml hown ht hl.1 hP hK hD hS hA hN d_S_askPair_58 (fun r4 u5 H locs q6 hP hD hS => ?_)
          obtain ⟨q6, hW6⟩ := q6
          have hP : va_P (dC, dI) vwCl (wS a k X u5) H := hP
          have hD : va_D A (wS a k X u5) := hD
          refine lv_istore hx hb d_S_askPair_61 hl (by decide) (lv' := [(4, .int r4), (3, .int (nI n)), (2, .int (f_y (x_F X) (ix e))), (0, .ref (a 1)), (1, .int e)]) rfl (fun ls hl => ?_)
          refine lv_iload hx hb d_S_askPair_63 (lv_at hl 0 rfl) ?_
          refine lv_if_eq (tgt := 71) hx hb d_S_askPair_65 (by decide) (fun c7 => ?_) (fun c7 => ?_)
          · have c7 : r4 = 0 := c7
            refine lv_aload_n hx hb d_S_askPair_71 rfl (lv_at hl 3 rfl) ?_
            refine va_get (D := (dC, dI)) (ci := 1) (v := .ref (a 10)) (C := R_S) (T := T_S) (N := 12) hx hb ht in_S hown hK hP 1 rfl rfl 1 (by decide) (ht _ k_63) (fun _ h => h) rfl d_S_askPair_72 ?_
            refine lv_iload_n hx hb d_S_askPair_75 rfl (lv_at hl 4 rfl) ?_
            refine lv_iconst (v := 1) hx hb d_S_askPair_76 (by decide) ?_
            refine va_iast hx hb hK hP hD hS 10 7 rfl rfl he d_S_askPair_77 (fun H locs hP hD hS => ?_)
            have hP : va_P (dC, dI) vwCl (wS a k X (s_st u5 e 1)) H := cP_S_st hP
            have hD : va_D A (wS a k X (s_st u5 e 1)) := cD_S_st hD
            refine lv_iinc (k := 1) (v := ((nI n) + 1)) hx hb d_S_askPair_78 hl rfl rfl (by decide) (lv' := [(3, .int ((nI n) + 1)), (4, .int r4), (2, .int (f_y (x_F X) (ix e))), (0, .ref (a 1)), (1, .int e)]) rfl (fun ls hl => ?_)
            refine lv_goto (tgt := 12) hx hb d_S_askPair_81 (by decide) ?_
            rw [← nI_succ] at hl
            have hl : lv_has ls 5 [(3, .int (nI (n + 1))), (2, .int (f_y (x_F X) (ix e))), (0, .ref (a 1)), (1, .int e)] := lv_sub hl [0, 2, 3, 4] rfl
            exact ih _ _ _ _ (n + 1) (by omega) (wk_st hW6) hP hD hS hl (by rw [← heq]; subst c7; simp [p_pairL, c2, c3, q6])
          · have c7 : ¬ r4 = 0 := c7
            refine lv_iload hx hb d_S_askPair_68 (lv_at hl 0 rfl) ?_
            exact ret_i (v := r4) hx hb hr hlocks hP hK hD hS d_S_askPair_70 ⟨by rw [← heq]; simp [p_pairL, c2, c3, c7, q6], hW6⟩
        · have c3 : ¬ c_st s1 (ix e) = 2 := c3
          refine lv_aload_n hx hb d_S_askPair_28 rfl (lv_at hl 2 rfl) ?_
          refine lv_iload_n hx hb d_S_askPair_29 rfl (lv_at hl 3 rfl) ?_
          refine call_i (As := [.int e]) (rest := []) (ci := 1) (q0 := 1) (c_S_askX l dC dI a k X T M d hAsk s1 e he tx hW) k_217 k_219 s_S_askX k_2 k_220 ⟨rfl, pc_S_askX.1, pc_S_askX.2, pd_S_askX⟩ rfl rfl rfl rfl rfl (rm_le (by omega) (by decide)) (Nat.le_of_ble_eq_true rfl) rfl hx hb hml hown ht hl.1 hP hK hD hS hA hN d_S_askPair_30 (fun r8 u9 H locs q10 hP hD hS => ?_)
          obtain ⟨q10, hW10⟩ := q10
          have hP : va_P (dC, dI) vwCl (wS a k X u9) H := hP
          have hD : va_D A (wS a k X u9) := hD
          refine lv_istore hx hb d_S_askPair_33 hl (by decide) (lv' := [(4, .int r8), (3, .int (nI n)), (2, .int (f_y (x_F X) (ix e))), (0, .ref (a 1)), (1, .int e)]) rfl (fun ls hl => ?_)
          refine lv_iload hx hb d_S_askPair_35 (lv_at hl 0 rfl) ?_
          refine lv_iconst (v := 1) hx hb d_S_askPair_37 (by decide) ?_
          refine lv_icmp_eq (tgt := 44) hx hb d_S_askPair_38 (by decide) (fun c11 => ?_) (fun c11 => ?_)
          · have c11 : r8 = 1 := c11
            refine lv_aload_n hx hb d_S_askPair_44 rfl (lv_at hl 3 rfl) ?_
            refine va_get (D := (dC, dI)) (ci := 1) (v := .ref (a 10)) (C := R_S) (T := T_S) (N := 12) hx hb ht in_S hown hK hP 1 rfl rfl 1 (by decide) (ht _ k_63) (fun _ h => h) rfl d_S_askPair_45 ?_
            refine lv_iload_n hx hb d_S_askPair_48 rfl (lv_at hl 4 rfl) ?_
            refine lv_iconst (v := 2) hx hb d_S_askPair_49 (by decide) ?_
            refine va_iast hx hb hK hP hD hS 10 7 rfl rfl he d_S_askPair_50 (fun H locs hP hD hS => ?_)
            have hP : va_P (dC, dI) vwCl (wS a k X (s_st u9 e 2)) H := cP_S_st hP
            have hD : va_D A (wS a k X (s_st u9 e 2)) := cD_S_st hD
            refine lv_aload_n hx hb d_S_askPair_51 rfl (lv_at hl 3 rfl) ?_
            refine lv_iload_n hx hb d_S_askPair_52 rfl (lv_at hl 2 rfl) ?_
            refine call_v (As := [.int (f_y (x_F X) (ix e))]) (rest := []) (ci := 1) (q0 := 1) (c_S_start l dC dI a k X (s_st u9 e 2) (f_y (x_F X) (ix e)) (Tr_in ty) (wk_st hW10)) k_185 k_187 s_S_start k_2 k_188 ⟨rfl, pc_S_start.1, pc_S_start.2, pd_S_start⟩ rfl rfl rfl rfl rfl (rm_le (by omega) (by decide)) (Nat.le_of_ble_eq_true rfl) rfl hx hb hml hown ht hl.1 hP hK hD hS hA hN d_S_askPair_53 (fun u13 H locs q14 hP hD hS => ?_)
            obtain ⟨rfl, hW14⟩ := q14
            have hP : va_P (dC, dI) vwCl (wS a k X (s_st (s_st u9 e 2) (f_y (x_F X) (ix e)) 0)) H := hP
            have hD : va_D A (wS a k X (s_st (s_st u9 e 2) (f_y (x_F X) (ix e)) 0)) := hD
            refine lv_aload_n hx hb d_S_askPair_56 rfl (lv_at hl 3 rfl) ?_
            refine lv_iload_n hx hb d_S_askPair_57 rfl (lv_at hl 2 rfl) ?_
            refine call_i (As := [.int (f_y (x_F X) (ix e))]) (rest := []) (ci := 1) (q0 := 1) (hAsk (f_y (x_F X) (ix e)) (s_st (s_st u9 e 2) (f_y (x_F X) (ix e)) 0) ty hW14) k_197 k_199 s_S_ask k_2 k_200 ⟨rfl, pc_S_ask.1, pc_S_ask.2, pd_S_ask⟩ rfl rfl rfl rfl rfl (rm_le (by omega) (by decide)) (Nat.le_of_ble_eq_true rfl) rfl hx hb hml hown ht hl.1 hP hK hD hS hA hN d_S_askPair_58 (fun r15 u16 H locs q17 hP hD hS => ?_)
            obtain ⟨q17, hW17⟩ := q17
            have hP : va_P (dC, dI) vwCl (wS a k X u16) H := hP
            have hD : va_D A (wS a k X u16) := hD
            refine lv_istore hx hb d_S_askPair_61 hl (by decide) (lv' := [(4, .int r15), (3, .int (nI n)), (2, .int (f_y (x_F X) (ix e))), (0, .ref (a 1)), (1, .int e)]) rfl (fun ls hl => ?_)
            refine lv_iload hx hb d_S_askPair_63 (lv_at hl 0 rfl) ?_
            refine lv_if_eq (tgt := 71) hx hb d_S_askPair_65 (by decide) (fun c18 => ?_) (fun c18 => ?_)
            · have c18 : r15 = 0 := c18
              refine lv_aload_n hx hb d_S_askPair_71 rfl (lv_at hl 3 rfl) ?_
              refine va_get (D := (dC, dI)) (ci := 1) (v := .ref (a 10)) (C := R_S) (T := T_S) (N := 12) hx hb ht in_S hown hK hP 1 rfl rfl 1 (by decide) (ht _ k_63) (fun _ h => h) rfl d_S_askPair_72 ?_
              refine lv_iload_n hx hb d_S_askPair_75 rfl (lv_at hl 4 rfl) ?_
              refine lv_iconst (v := 1) hx hb d_S_askPair_76 (by decide) ?_
              refine va_iast hx hb hK hP hD hS 10 7 rfl rfl he d_S_askPair_77 (fun H locs hP hD hS => ?_)
              have hP : va_P (dC, dI) vwCl (wS a k X (s_st u16 e 1)) H := cP_S_st hP
              have hD : va_D A (wS a k X (s_st u16 e 1)) := cD_S_st hD
              refine lv_iinc (k := 1) (v := ((nI n) + 1)) hx hb d_S_askPair_78 hl rfl rfl (by decide) (lv' := [(3, .int ((nI n) + 1)), (4, .int r15), (2, .int (f_y (x_F X) (ix e))), (0, .ref (a 1)), (1, .int e)]) rfl (fun ls hl => ?_)
              refine lv_goto (tgt := 12) hx hb d_S_askPair_81 (by decide) ?_
              rw [← nI_succ] at hl
              have hl : lv_has ls 5 [(3, .int (nI (n + 1))), (2, .int (f_y (x_F X) (ix e))), (0, .ref (a 1)), (1, .int e)] := lv_sub hl [0, 2, 3, 4] rfl
              exact ih _ _ _ _ (n + 1) (by omega) (wk_st hW17) hP hD hS hl (by rw [← heq]; subst c11; subst c18; simp [p_pairL, c2, c3, q10, q17])
            · have c18 : ¬ r15 = 0 := c18
              refine lv_iload hx hb d_S_askPair_68 (lv_at hl 0 rfl) ?_
              exact ret_i (v := r15) hx hb hr hlocks hP hK hD hS d_S_askPair_70 ⟨by rw [← heq]; subst c11; simp [p_pairL, c2, c3, c18, q10, q17], hW17⟩
          · have c11 : ¬ r8 = 1 := c11
            refine lv_iload hx hb d_S_askPair_41 (lv_at hl 0 rfl) ?_
            exact ret_i (v := r8) hx hb hr hlocks hP hK hD hS d_S_askPair_43 ⟨by rw [← heq]; simp [p_pairL, c2, c3, c11, q10], hW10⟩
  exact loop M s _ _ _ 0 (by omega) hW hP hD hS hl rfl
