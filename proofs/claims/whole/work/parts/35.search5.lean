theorem tr_x {F : zF} {T : zT} {d : Nat} {e : Int32} (h : Tr F T (d + 1) e) (h1 : ¬ f_k F (ix e) < 2) : Tr F T d (f_x F (ix e)) := (h.2.2.2.2.1 (f_a1 h1)).1
theorem tr_y {F : zF} {T : zT} {d : Nat} {e : Int32} (h : Tr F T (d + 1) e) (h1 : ¬ f_k F (ix e) < 2) (h2 : ¬ f_k F (ix e) < 6) : Tr F T d (f_y F (ix e)) := (h.2.2.2.2.2.1 (f_a2 h1 h2)).1
theorem tr_z {F : zF} {T : zT} {d : Nat} {e : Int32} (h : Tr F T (d + 1) e) (h1 : ¬ f_k F (ix e) < 2) (h2 : ¬ f_k F (ix e) < 6) (h3 : ¬ f_k F (ix e) < 18) : Tr F T d (f_z F (ix e)) := (h.2.2.2.2.2.2 (f_a3 h1 h2 h3)).1
set_option maxRecDepth 100000 in
set_option maxHeartbeats 4000000 in
theorem c_S_ask (l : Launch) (dC : Nat → ClassId) (dI : Nat → Nat → Nat) (a : Nat → Nat) (k : Nat → ClassId) (X : zX) (T : zT) (M d : Nat) (hAsk : AskOK l dC dI a k X T M d) (hM : M = 1000000) (s : zC) (e : Int32) (te : Tr (x_F X) T (d + 1) e) (hW : Wk s) : MetI l y_S_ask w_S_ask (rmN (5 * (d + 1) + 3)) dC dI (yX k) (wS a k X) [.ref (a 1), .int e] s (fun r u => p_ask (x_F X) (p_all (x_F X) M d) M e s = (r, u) ∧ Wk u) := by
  have he := te.1
  obtain ⟨kk, hkk, hke⟩ := te.2.1
  have hk0 : kk = 0 ∨ kk = 1 ∨ kk = 2 ∨ kk = 3 ∨ kk = 4 ∨ kk = 5 ∨ kk = 6 ∨ kk = 7 ∨ kk = 8 ∨ kk = 9 ∨ kk = 10 ∨ kk = 11 ∨ kk = 12 ∨ kk = 13 ∨ kk = 14 ∨ kk = 15 ∨ kk = 16 ∨ kk = 17 ∨ kk = 18 ∨ kk = 19 := by omega
  refine metI_of (cc := b_S_ask) (maxL := 2) (ret := (some .int)) (by decide) rfl (Nat.le_of_ble_eq_true rfl) ?_
  intro p e9 s9 m args below meth c A ls hx hb hr hts hown hlocks hml hA hP hK hD hS hN hl
  have ht : ∀ w ∈ lw_g, w.before args s9 = true := fun w h => hts w (List.mem_cons_of_mem _ h)
  have hl : lv_has ls 2 [(0, .ref (a 1)), (1, .int e)] := hl
  refine lv_aload_n hx hb d_S_ask_0 rfl (lv_at hl 0 rfl) ?_
  refine va_get (D := (dC, dI)) (ci := 1) (v := .ref (a 2)) (C := R_S) (T := T_S) (N := 12) hx hb ht in_S hown hK hP 1 rfl rfl 0 (by decide) (ht _ k_61) (fun _ h => h) rfl d_S_ask_1 ?_
  refine va_get (D := (dC, dI)) (ci := 0) (v := .ref (a 3)) (C := R_F) (T := T_F) (N := 8) hx hb ht in_F hown hK hP 2 rfl rfl 0 (by decide) (ht _ k_27) (fun _ h => h) rfl d_S_ask_4 ?_
  refine lv_iload_n hx hb d_S_ask_7 rfl (lv_at hl 1 rfl) ?_
  refine va_iald hx hb hK hP 3 0 rfl rfl he d_S_ask_8 ?_
  rcases hk0 with rfl | rfl | rfl | rfl | rfl | rfl | rfl | rfl | rfl | rfl | rfl | rfl | rfl | rfl | rfl | rfl | rfl | rfl | rfl | rfl
  · have hk : f_k (x_F X) (ix e) = 0 := hke
    refine lv_topi (fun z hz => ?_)
    have hz : z = 0 := hz.trans hk
    subst hz
    refine lv_tableIn (off := 95) (tgt := 104) hx hb d_S_ask_9 (by decide) (by decide) (by decide +kernel) (by decide) ?_
    refine lv_aload_n hx hb d_S_ask_104 rfl (lv_at hl 0 rfl) ?_
    refine lv_iload_n hx hb d_S_ask_105 rfl (lv_at hl 1 rfl) ?_
    refine lv_aload_n hx hb d_S_ask_106 rfl (lv_at hl 0 rfl) ?_
    refine va_get (D := (dC, dI)) (ci := 1) (v := .ref (a 2)) (C := R_S) (T := T_S) (N := 12) hx hb ht in_S hown hK hP 1 rfl rfl 0 (by decide) (ht _ k_61) (fun _ h => h) rfl d_S_ask_107 ?_
    refine va_get (D := (dC, dI)) (ci := 0) (v := .ref (a 4)) (C := R_F) (T := T_F) (N := 8) hx hb ht in_F hown hK hP 2 rfl rfl 1 (by decide) (ht _ k_29) (fun _ h => h) rfl d_S_ask_110 ?_
    refine lv_iload_n hx hb d_S_ask_113 rfl (lv_at hl 1 rfl) ?_
    refine va_iald hx hb hK hP 4 1 rfl rfl he d_S_ask_114 ?_
    refine call_i (As := [.int e, .int (f_n (x_F X) (ix e))]) (rest := []) (ci := 1) (q0 := 1) (c_S_askLeaf l dC dI a k X s e (f_n (x_F X) (ix e)) he hW) k_201 k_203 s_S_askLeaf k_2 k_204 ⟨rfl, pc_S_askLeaf.1, pc_S_askLeaf.2, pd_S_askLeaf⟩ rfl rfl rfl rfl rfl (rm_le (by omega) (by decide)) (Nat.le_of_ble_eq_true rfl) rfl hx hb hml hown ht hl.1 hP hK hD hS hA hN d_S_ask_115 (fun r1 u2 H locs q3 hP hD hS => ?_)
    obtain ⟨q3, hW3⟩ := q3
    have hP : va_P (dC, dI) vwCl (wS a k X u2) H := hP
    have hD : va_D A (wS a k X u2) := hD
    exact ret_i (v := r1) hx hb hr hlocks hP hK hD hS d_S_ask_118 ⟨by simp [p_ask, hk, q3], hW3⟩
  · have hk : f_k (x_F X) (ix e) = 1 := hke
    refine lv_topi (fun z hz => ?_)
    have hz : z = 1 := hz.trans hk
    subst hz
    refine lv_tableIn (off := 110) (tgt := 119) hx hb d_S_ask_9 (by decide) (by decide) (by decide +kernel) (by decide) ?_
    refine lv_aload_n hx hb d_S_ask_119 rfl (lv_at hl 0 rfl) ?_
    refine lv_iload_n hx hb d_S_ask_120 rfl (lv_at hl 1 rfl) ?_
    refine lv_aload_n hx hb d_S_ask_121 rfl (lv_at hl 0 rfl) ?_
    refine va_get (D := (dC, dI)) (ci := 1) (v := .ref (a 13)) (C := R_S) (T := T_S) (N := 12) hx hb ht in_S hown hK hP 1 rfl rfl 4 (by decide) (ht _ k_66) (fun _ h => h) rfl d_S_ask_122 ?_
    refine lv_aload_n hx hb d_S_ask_125 rfl (lv_at hl 0 rfl) ?_
    refine va_get (D := (dC, dI)) (ci := 1) (v := .ref (a 2)) (C := R_S) (T := T_S) (N := 12) hx hb ht in_S hown hK hP 1 rfl rfl 0 (by decide) (ht _ k_61) (fun _ h => h) rfl d_S_ask_126 ?_
    refine va_get (D := (dC, dI)) (ci := 0) (v := .ref (a 4)) (C := R_F) (T := T_F) (N := 8) hx hb ht in_F hown hK hP 2 rfl rfl 1 (by decide) (ht _ k_29) (fun _ h => h) rfl d_S_ask_129 ?_
    refine lv_iload_n hx hb d_S_ask_132 rfl (lv_at hl 1 rfl) ?_
    refine va_iald hx hb hK hP 4 1 rfl rfl he d_S_ask_133 ?_
    refine va_iald hx hb hK hP 13 10 rfl rfl (te.2.2.2.1 (by rw [hk]; decide)) d_S_ask_134 ?_
    refine call_i (As := [.int e, .int (g_va (c_g s) (ix (f_n (x_F X) (ix e))))]) (rest := []) (ci := 1) (q0 := 1) (c_S_askLeaf l dC dI a k X s e (g_va (c_g s) (ix (f_n (x_F X) (ix e)))) he hW) k_201 k_203 s_S_askLeaf k_2 k_204 ⟨rfl, pc_S_askLeaf.1, pc_S_askLeaf.2, pd_S_askLeaf⟩ rfl rfl rfl rfl rfl (rm_le (by omega) (by decide)) (Nat.le_of_ble_eq_true rfl) rfl hx hb hml hown ht hl.1 hP hK hD hS hA hN d_S_ask_135 (fun r4 u5 H locs q6 hP hD hS => ?_)
    obtain ⟨q6, hW6⟩ := q6
    have hP : va_P (dC, dI) vwCl (wS a k X u5) H := hP
    have hD : va_D A (wS a k X u5) := hD
    exact ret_i (v := r4) hx hb hr hlocks hP hK hD hS d_S_ask_138 ⟨by simp [p_ask, hk, q6], hW6⟩
  · have hk : f_k (x_F X) (ix e) = 2 := hke
    refine lv_topi (fun z hz => ?_)
    have hz : z = 2 := hz.trans hk
    subst hz
    refine lv_tableIn (off := 130) (tgt := 139) hx hb d_S_ask_9 (by decide) (by decide) (by decide +kernel) (by decide) ?_
    refine lv_aload_n hx hb d_S_ask_139 rfl (lv_at hl 0 rfl) ?_
    refine lv_iload_n hx hb d_S_ask_140 rfl (lv_at hl 1 rfl) ?_
    refine call_i (As := [.int e]) (rest := []) (ci := 1) (q0 := 1) (c_S_askAssign l dC dI a k X T M d hAsk s e he (tr_x te (by rw [hk]; decide)) (te.2.2.2.1 (by rw [hk]; decide)) hW) k_213 k_215 s_S_askAssign k_2 k_216 ⟨rfl, pc_S_askAssign.1, pc_S_askAssign.2, pd_S_askAssign⟩ rfl rfl rfl rfl rfl (rm_le (by omega) (by decide)) (Nat.le_of_ble_eq_true rfl) rfl hx hb hml hown ht hl.1 hP hK hD hS hA hN d_S_ask_141 (fun r7 u8 H locs q9 hP hD hS => ?_)
    obtain ⟨q9, hW9⟩ := q9
    have hP : va_P (dC, dI) vwCl (wS a k X u8) H := hP
    have hD : va_D A (wS a k X u8) := hD
    exact ret_i (v := r7) hx hb hr hlocks hP hK hD hS d_S_ask_144 ⟨by simp [p_ask, hk, q9], hW9⟩
  · have hk : f_k (x_F X) (ix e) = 3 := hke
    refine lv_topi (fun z hz => ?_)
    have hz : z = 3 := hz.trans hk
    subst hz
    refine lv_tableIn (off := 136) (tgt := 145) hx hb d_S_ask_9 (by decide) (by decide) (by decide +kernel) (by decide) ?_
    refine lv_aload_n hx hb d_S_ask_145 rfl (lv_at hl 0 rfl) ?_
    refine lv_iload_n hx hb d_S_ask_146 rfl (lv_at hl 1 rfl) ?_
    refine call_i (As := [.int e]) (rest := []) (ci := 1) (q0 := 1) (c_S_askWrite l dC dI a k X T M d hAsk s e he (tr_x te (by rw [hk]; decide)) hW) k_225 k_227 s_S_askWrite k_2 k_228 ⟨rfl, pc_S_askWrite.1, pc_S_askWrite.2, pd_S_askWrite⟩ rfl rfl rfl rfl rfl (rm_le (by omega) (by decide)) (Nat.le_of_ble_eq_true rfl) rfl hx hb hml hown ht hl.1 hP hK hD hS hA hN d_S_ask_147 (fun r10 u11 H locs q12 hP hD hS => ?_)
    obtain ⟨q12, hW12⟩ := q12
    have hP : va_P (dC, dI) vwCl (wS a k X u11) H := hP
    have hD : va_D A (wS a k X u11) := hD
    exact ret_i (v := r10) hx hb hr hlocks hP hK hD hS d_S_ask_150 ⟨by simp [p_ask, hk, q12], hW12⟩
  · have hk : f_k (x_F X) (ix e) = 4 := hke
    refine lv_topi (fun z hz => ?_)
    have hz : z = 4 := hz.trans hk
    subst hz
    refine lv_tableIn (off := 142) (tgt := 151) hx hb d_S_ask_9 (by decide) (by decide) (by decide +kernel) (by decide) ?_
    refine lv_aload_n hx hb d_S_ask_151 rfl (lv_at hl 0 rfl) ?_
    refine lv_iload_n hx hb d_S_ask_152 rfl (lv_at hl 1 rfl) ?_
    refine call_i (As := [.int e]) (rest := []) (ci := 1) (q0 := 1) (c_S_askNot l dC dI a k X T M d hAsk s e he (tr_x te (by rw [hk]; decide)) hW) k_229 k_231 s_S_askNot k_2 k_232 ⟨rfl, pc_S_askNot.1, pc_S_askNot.2, pd_S_askNot⟩ rfl rfl rfl rfl rfl (rm_le (by omega) (by decide)) (Nat.le_of_ble_eq_true rfl) rfl hx hb hml hown ht hl.1 hP hK hD hS hA hN d_S_ask_153 (fun r13 u14 H locs q15 hP hD hS => ?_)
    obtain ⟨q15, hW15⟩ := q15
    have hP : va_P (dC, dI) vwCl (wS a k X u14) H := hP
    have hD : va_D A (wS a k X u14) := hD
    exact ret_i (v := r13) hx hb hr hlocks hP hK hD hS d_S_ask_156 ⟨by simp [p_ask, hk, q15], hW15⟩
  · have hk : f_k (x_F X) (ix e) = 5 := hke
    refine lv_topi (fun z hz => ?_)
    have hz : z = 5 := hz.trans hk
    subst hz
    refine lv_tableIn (off := 148) (tgt := 157) hx hb d_S_ask_9 (by decide) (by decide) (by decide +kernel) (by decide) ?_
    refine lv_aload_n hx hb d_S_ask_157 rfl (lv_at hl 0 rfl) ?_
    refine lv_iload_n hx hb d_S_ask_158 rfl (lv_at hl 1 rfl) ?_
    refine call_i (As := [.int e]) (rest := []) (ci := 1) (q0 := 1) (c_S_askAgain l dC dI a k X T M d hAsk s e he (tr_x te (by rw [hk]; decide)) hW) k_237 k_239 s_S_askAgain k_2 k_240 ⟨rfl, pc_S_askAgain.1, pc_S_askAgain.2, pd_S_askAgain⟩ rfl rfl rfl rfl rfl (rm_le (by omega) (by decide)) (Nat.le_of_ble_eq_true rfl) rfl hx hb hml hown ht hl.1 hP hK hD hS hA hN d_S_ask_159 (fun r16 u17 H locs q18 hP hD hS => ?_)
    obtain ⟨q18, hW18⟩ := q18
    have hP : va_P (dC, dI) vwCl (wS a k X u17) H := hP
    have hD : va_D A (wS a k X u17) := hD
    exact ret_i (v := r16) hx hb hr hlocks hP hK hD hS d_S_ask_162 ⟨by simp [p_ask, hk, q18], hW18⟩
  · have hk : f_k (x_F X) (ix e) = 6 := hke
    refine lv_topi (fun z hz => ?_)
    have hz : z = 6 := hz.trans hk
    subst hz
    refine lv_tableIn (off := 154) (tgt := 163) hx hb d_S_ask_9 (by decide) (by decide) (by decide +kernel) (by decide) ?_
    refine lv_aload_n hx hb d_S_ask_163 rfl (lv_at hl 0 rfl) ?_
    refine lv_iload_n hx hb d_S_ask_164 rfl (lv_at hl 1 rfl) ?_
    refine call_i (As := [.int e]) (rest := []) (ci := 1) (q0 := 1) (c_S_askEither l dC dI a k X T M d hAsk s e he (tr_x te (by rw [hk]; decide)) (tr_y te (by rw [hk]; decide) (by rw [hk]; decide)) hW) k_241 k_243 s_S_askEither k_2 k_244 ⟨rfl, pc_S_askEither.1, pc_S_askEither.2, pd_S_askEither⟩ rfl rfl rfl rfl rfl (rm_le (by omega) (by decide)) (Nat.le_of_ble_eq_true rfl) rfl hx hb hml hown ht hl.1 hP hK hD hS hA hN d_S_ask_165 (fun r19 u20 H locs q21 hP hD hS => ?_)
    obtain ⟨q21, hW21⟩ := q21
    have hP : va_P (dC, dI) vwCl (wS a k X u20) H := hP
    have hD : va_D A (wS a k X u20) := hD
    exact ret_i (v := r19) hx hb hr hlocks hP hK hD hS d_S_ask_168 ⟨by simp [p_ask, hk, q21], hW21⟩
  · have hk : f_k (x_F X) (ix e) = 7 := hke
    refine lv_topi (fun z hz => ?_)
    have hz : z = 7 := hz.trans hk
    subst hz
    refine lv_tableIn (off := 160) (tgt := 169) hx hb d_S_ask_9 (by decide) (by decide) (by decide +kernel) (by decide) ?_
    refine lv_aload_n hx hb d_S_ask_169 rfl (lv_at hl 0 rfl) ?_
    refine lv_iload_n hx hb d_S_ask_170 rfl (lv_at hl 1 rfl) ?_
    refine lv_aload_n hx hb d_S_ask_171 rfl (lv_at hl 0 rfl) ?_
    refine va_get (D := (dC, dI)) (ci := 1) (v := .ref (a 2)) (C := R_S) (T := T_S) (N := 12) hx hb ht in_S hown hK hP 1 rfl rfl 0 (by decide) (ht _ k_61) (fun _ h => h) rfl d_S_ask_172 ?_
    refine va_get (D := (dC, dI)) (ci := 0) (v := .ref (a 6)) (C := R_F) (T := T_F) (N := 8) hx hb ht in_F hown hK hP 2 rfl rfl 3 (by decide) (ht _ k_33) (fun _ h => h) rfl d_S_ask_175 ?_
    refine lv_iload_n hx hb d_S_ask_178 rfl (lv_at hl 1 rfl) ?_
    refine va_iald hx hb hK hP 6 3 rfl rfl he d_S_ask_179 ?_
    refine lv_aload_n hx hb d_S_ask_180 rfl (lv_at hl 0 rfl) ?_
    refine lv_iload_n hx hb d_S_ask_181 rfl (lv_at hl 1 rfl) ?_
    refine call_i (As := [.int e]) (rest := [.int (f_y (x_F X) (ix e)), .int e, .ref (a 1)]) (ci := 1) (q0 := 1) (c_S_askPair l dC dI a k X T M d hAsk hM s e he (tr_x te (by rw [hk]; decide)) (tr_y te (by rw [hk]; decide) (by rw [hk]; decide)) hW) k_245 k_247 s_S_askPair k_2 k_248 ⟨rfl, pc_S_askPair.1, pc_S_askPair.2, pd_S_askPair⟩ rfl rfl rfl rfl rfl (rm_le (by omega) (by decide)) (Nat.le_of_ble_eq_true rfl) rfl hx hb hml hown ht hl.1 hP hK hD hS hA hN d_S_ask_182 (fun r22 u23 H locs q24 hP hD hS => ?_)
    obtain ⟨q24, hW24⟩ := q24
    have hP : va_P (dC, dI) vwCl (wS a k X u23) H := hP
    have hD : va_D A (wS a k X u23) := hD
    refine call_i (As := [.int e, .int (f_y (x_F X) (ix e)), .int r22]) (rest := []) (ci := 1) (q0 := 1) (c_S_handUp l dC dI a k X u23 e (f_y (x_F X) (ix e)) r22 he (Tr_in (tr_y te (by rw [hk]; decide) (by rw [hk]; decide))) hW24) k_221 k_223 s_S_handUp k_2 k_224 ⟨rfl, pc_S_handUp.1, pc_S_handUp.2, pd_S_handUp⟩ rfl rfl rfl rfl rfl (rm_le (by omega) (by decide)) (Nat.le_of_ble_eq_true rfl) rfl hx hb hml hown ht hl.1 hP hK hD hS hA hN d_S_ask_185 (fun r25 u26 H locs q27 hP hD hS => ?_)
    obtain ⟨q27, hW27⟩ := q27
    have hP : va_P (dC, dI) vwCl (wS a k X u26) H := hP
    have hD : va_D A (wS a k X u26) := hD
    exact ret_i (v := r25) hx hb hr hlocks hP hK hD hS d_S_ask_188 ⟨by simp [p_ask, hk, q24, q27], hW27⟩
  · have hk : f_k (x_F X) (ix e) = 8 := hke
    refine lv_topi (fun z hz => ?_)
    have hz : z = 8 := hz.trans hk
    subst hz
    refine lv_tableIn (off := 180) (tgt := 189) hx hb d_S_ask_9 (by decide) (by decide) (by decide +kernel) (by decide) ?_
    refine lv_aload_n hx hb d_S_ask_189 rfl (lv_at hl 0 rfl) ?_
    refine lv_iload_n hx hb d_S_ask_190 rfl (lv_at hl 1 rfl) ?_
    refine call_i (As := [.int e]) (rest := []) (ci := 1) (q0 := 1) (c_S_askArithmetic l dC dI a k X T M d hAsk hM s e he (tr_x te (by rw [hk]; decide)) (tr_y te (by rw [hk]; decide) (by rw [hk]; decide)) hW) k_250 k_252 s_S_askArithmetic k_2 k_253 ⟨rfl, pc_S_askArithmetic.1, pc_S_askArithmetic.2, pd_S_askArithmetic⟩ rfl rfl rfl rfl rfl (rm_le (by omega) (by decide)) (Nat.le_of_ble_eq_true rfl) rfl hx hb hml hown ht hl.1 hP hK hD hS hA hN d_S_ask_191 (fun r28 u29 H locs q30 hP hD hS => ?_)
    obtain ⟨q30, hW30⟩ := q30
    have hP : va_P (dC, dI) vwCl (wS a k X u29) H := hP
    have hD : va_D A (wS a k X u29) := hD
    exact ret_i (v := r28) hx hb hr hlocks hP hK hD hS d_S_ask_194 ⟨by simp [p_ask, hk, q30], hW30⟩
  · have hk : f_k (x_F X) (ix e) = 9 := hke
    refine lv_topi (fun z hz => ?_)
    have hz : z = 9 := hz.trans hk
    subst hz
    refine lv_tableIn (off := 180) (tgt := 189) hx hb d_S_ask_9 (by decide) (by decide) (by decide +kernel) (by decide) ?_
    refine lv_aload_n hx hb d_S_ask_189 rfl (lv_at hl 0 rfl) ?_
    refine lv_iload_n hx hb d_S_ask_190 rfl (lv_at hl 1 rfl) ?_
    refine call_i (As := [.int e]) (rest := []) (ci := 1) (q0 := 1) (c_S_askArithmetic l dC dI a k X T M d hAsk hM s e he (tr_x te (by rw [hk]; decide)) (tr_y te (by rw [hk]; decide) (by rw [hk]; decide)) hW) k_250 k_252 s_S_askArithmetic k_2 k_253 ⟨rfl, pc_S_askArithmetic.1, pc_S_askArithmetic.2, pd_S_askArithmetic⟩ rfl rfl rfl rfl rfl (rm_le (by omega) (by decide)) (Nat.le_of_ble_eq_true rfl) rfl hx hb hml hown ht hl.1 hP hK hD hS hA hN d_S_ask_191 (fun r31 u32 H locs q33 hP hD hS => ?_)
    obtain ⟨q33, hW33⟩ := q33
    have hP : va_P (dC, dI) vwCl (wS a k X u32) H := hP
    have hD : va_D A (wS a k X u32) := hD
    exact ret_i (v := r31) hx hb hr hlocks hP hK hD hS d_S_ask_194 ⟨by simp [p_ask, hk, q33], hW33⟩
  · have hk : f_k (x_F X) (ix e) = 10 := hke
    refine lv_topi (fun z hz => ?_)
    have hz : z = 10 := hz.trans hk
    subst hz
    refine lv_tableIn (off := 180) (tgt := 189) hx hb d_S_ask_9 (by decide) (by decide) (by decide +kernel) (by decide) ?_
    refine lv_aload_n hx hb d_S_ask_189 rfl (lv_at hl 0 rfl) ?_
    refine lv_iload_n hx hb d_S_ask_190 rfl (lv_at hl 1 rfl) ?_
    refine call_i (As := [.int e]) (rest := []) (ci := 1) (q0 := 1) (c_S_askArithmetic l dC dI a k X T M d hAsk hM s e he (tr_x te (by rw [hk]; decide)) (tr_y te (by rw [hk]; decide) (by rw [hk]; decide)) hW) k_250 k_252 s_S_askArithmetic k_2 k_253 ⟨rfl, pc_S_askArithmetic.1, pc_S_askArithmetic.2, pd_S_askArithmetic⟩ rfl rfl rfl rfl rfl (rm_le (by omega) (by decide)) (Nat.le_of_ble_eq_true rfl) rfl hx hb hml hown ht hl.1 hP hK hD hS hA hN d_S_ask_191 (fun r34 u35 H locs q36 hP hD hS => ?_)
    obtain ⟨q36, hW36⟩ := q36
    have hP : va_P (dC, dI) vwCl (wS a k X u35) H := hP
    have hD : va_D A (wS a k X u35) := hD
    exact ret_i (v := r34) hx hb hr hlocks hP hK hD hS d_S_ask_194 ⟨by simp [p_ask, hk, q36], hW36⟩
  · have hk : f_k (x_F X) (ix e) = 11 := hke
    refine lv_topi (fun z hz => ?_)
    have hz : z = 11 := hz.trans hk
    subst hz
    refine lv_tableIn (off := 186) (tgt := 195) hx hb d_S_ask_9 (by decide) (by decide) (by decide +kernel) (by decide) ?_
    refine lv_aload_n hx hb d_S_ask_195 rfl (lv_at hl 0 rfl) ?_
    refine lv_iload_n hx hb d_S_ask_196 rfl (lv_at hl 1 rfl) ?_
    refine call_i (As := [.int e]) (rest := []) (ci := 1) (q0 := 1) (c_S_askComparison l dC dI a k X T M d hAsk hM s e he (tr_x te (by rw [hk]; decide)) (tr_y te (by rw [hk]; decide) (by rw [hk]; decide)) hW) k_257 k_259 s_S_askComparison k_2 k_260 ⟨rfl, pc_S_askComparison.1, pc_S_askComparison.2, pd_S_askComparison⟩ rfl rfl rfl rfl rfl (rm_le (by omega) (by decide)) (Nat.le_of_ble_eq_true rfl) rfl hx hb hml hown ht hl.1 hP hK hD hS hA hN d_S_ask_197 (fun r37 u38 H locs q39 hP hD hS => ?_)
    obtain ⟨q39, hW39⟩ := q39
    have hP : va_P (dC, dI) vwCl (wS a k X u38) H := hP
    have hD : va_D A (wS a k X u38) := hD
    exact ret_i (v := r37) hx hb hr hlocks hP hK hD hS d_S_ask_200 ⟨by simp [p_ask, hk, q39], hW39⟩
  · have hk : f_k (x_F X) (ix e) = 12 := hke
    refine lv_topi (fun z hz => ?_)
    have hz : z = 12 := hz.trans hk
    subst hz
    refine lv_tableIn (off := 186) (tgt := 195) hx hb d_S_ask_9 (by decide) (by decide) (by decide +kernel) (by decide) ?_
    refine lv_aload_n hx hb d_S_ask_195 rfl (lv_at hl 0 rfl) ?_
    refine lv_iload_n hx hb d_S_ask_196 rfl (lv_at hl 1 rfl) ?_
    refine call_i (As := [.int e]) (rest := []) (ci := 1) (q0 := 1) (c_S_askComparison l dC dI a k X T M d hAsk hM s e he (tr_x te (by rw [hk]; decide)) (tr_y te (by rw [hk]; decide) (by rw [hk]; decide)) hW) k_257 k_259 s_S_askComparison k_2 k_260 ⟨rfl, pc_S_askComparison.1, pc_S_askComparison.2, pd_S_askComparison⟩ rfl rfl rfl rfl rfl (rm_le (by omega) (by decide)) (Nat.le_of_ble_eq_true rfl) rfl hx hb hml hown ht hl.1 hP hK hD hS hA hN d_S_ask_197 (fun r40 u41 H locs q42 hP hD hS => ?_)
    obtain ⟨q42, hW42⟩ := q42
    have hP : va_P (dC, dI) vwCl (wS a k X u41) H := hP
    have hD : va_D A (wS a k X u41) := hD
    exact ret_i (v := r40) hx hb hr hlocks hP hK hD hS d_S_ask_200 ⟨by simp [p_ask, hk, q42], hW42⟩
  · have hk : f_k (x_F X) (ix e) = 13 := hke
    refine lv_topi (fun z hz => ?_)
    have hz : z = 13 := hz.trans hk
    subst hz
    refine lv_tableIn (off := 186) (tgt := 195) hx hb d_S_ask_9 (by decide) (by decide) (by decide +kernel) (by decide) ?_
    refine lv_aload_n hx hb d_S_ask_195 rfl (lv_at hl 0 rfl) ?_
    refine lv_iload_n hx hb d_S_ask_196 rfl (lv_at hl 1 rfl) ?_
    refine call_i (As := [.int e]) (rest := []) (ci := 1) (q0 := 1) (c_S_askComparison l dC dI a k X T M d hAsk hM s e he (tr_x te (by rw [hk]; decide)) (tr_y te (by rw [hk]; decide) (by rw [hk]; decide)) hW) k_257 k_259 s_S_askComparison k_2 k_260 ⟨rfl, pc_S_askComparison.1, pc_S_askComparison.2, pd_S_askComparison⟩ rfl rfl rfl rfl rfl (rm_le (by omega) (by decide)) (Nat.le_of_ble_eq_true rfl) rfl hx hb hml hown ht hl.1 hP hK hD hS hA hN d_S_ask_197 (fun r43 u44 H locs q45 hP hD hS => ?_)
    obtain ⟨q45, hW45⟩ := q45
    have hP : va_P (dC, dI) vwCl (wS a k X u44) H := hP
    have hD : va_D A (wS a k X u44) := hD
    exact ret_i (v := r43) hx hb hr hlocks hP hK hD hS d_S_ask_200 ⟨by simp [p_ask, hk, q45], hW45⟩
  · have hk : f_k (x_F X) (ix e) = 14 := hke
    refine lv_topi (fun z hz => ?_)
    have hz : z = 14 := hz.trans hk
    subst hz
    refine lv_tableIn (off := 192) (tgt := 201) hx hb d_S_ask_9 (by decide) (by decide) (by decide +kernel) (by decide) ?_
    refine lv_aload_n hx hb d_S_ask_201 rfl (lv_at hl 0 rfl) ?_
    refine lv_iload_n hx hb d_S_ask_202 rfl (lv_at hl 1 rfl) ?_
    refine call_i (As := [.int e]) (rest := []) (ci := 1) (q0 := 1) (c_S_askLimit l dC dI a k X T M d hAsk hM s e he (tr_x te (by rw [hk]; decide)) (tr_y te (by rw [hk]; decide) (by rw [hk]; decide)) hW) k_264 k_266 s_S_askLimit k_2 k_267 ⟨rfl, pc_S_askLimit.1, pc_S_askLimit.2, pd_S_askLimit⟩ rfl rfl rfl rfl rfl (rm_le (by omega) (by decide)) (Nat.le_of_ble_eq_true rfl) rfl hx hb hml hown ht hl.1 hP hK hD hS hA hN d_S_ask_203 (fun r46 u47 H locs q48 hP hD hS => ?_)
    obtain ⟨q48, hW48⟩ := q48
    have hP : va_P (dC, dI) vwCl (wS a k X u47) H := hP
    have hD : va_D A (wS a k X u47) := hD
    exact ret_i (v := r46) hx hb hr hlocks hP hK hD hS d_S_ask_206 ⟨by simp [p_ask, hk, q48], hW48⟩
  · have hk : f_k (x_F X) (ix e) = 15 := hke
    refine lv_topi (fun z hz => ?_)
    have hz : z = 15 := hz.trans hk
    subst hz
    refine lv_tableIn (off := 198) (tgt := 207) hx hb d_S_ask_9 (by decide) (by decide) (by decide +kernel) (by decide) ?_
    refine lv_aload_n hx hb d_S_ask_207 rfl (lv_at hl 0 rfl) ?_
    refine lv_iload_n hx hb d_S_ask_208 rfl (lv_at hl 1 rfl) ?_
    refine call_i (As := [.int e]) (rest := []) (ci := 1) (q0 := 1) (c_S_askEveryOrWhile l dC dI a k X T M d hAsk hM s e he (tr_x te (by rw [hk]; decide)) (tr_y te (by rw [hk]; decide) (by rw [hk]; decide)) hW) k_272 k_274 s_S_askEveryOrWhile k_2 k_275 ⟨rfl, pc_S_askEveryOrWhile.1, pc_S_askEveryOrWhile.2, pd_S_askEveryOrWhile⟩ rfl rfl rfl rfl rfl (rm_le (by omega) (by decide)) (Nat.le_of_ble_eq_true rfl) rfl hx hb hml hown ht hl.1 hP hK hD hS hA hN d_S_ask_209 (fun r49 u50 H locs q51 hP hD hS => ?_)
    obtain ⟨q51, hW51⟩ := q51
    have hP : va_P (dC, dI) vwCl (wS a k X u50) H := hP
    have hD : va_D A (wS a k X u50) := hD
    exact ret_i (v := r49) hx hb hr hlocks hP hK hD hS d_S_ask_212 ⟨by simp [p_ask, hk, q51], hW51⟩
  · have hk : f_k (x_F X) (ix e) = 16 := hke
    refine lv_topi (fun z hz => ?_)
    have hz : z = 16 := hz.trans hk
    subst hz
    refine lv_tableIn (off := 198) (tgt := 207) hx hb d_S_ask_9 (by decide) (by decide) (by decide +kernel) (by decide) ?_
    refine lv_aload_n hx hb d_S_ask_207 rfl (lv_at hl 0 rfl) ?_
    refine lv_iload_n hx hb d_S_ask_208 rfl (lv_at hl 1 rfl) ?_
    refine call_i (As := [.int e]) (rest := []) (ci := 1) (q0 := 1) (c_S_askEveryOrWhile l dC dI a k X T M d hAsk hM s e he (tr_x te (by rw [hk]; decide)) (tr_y te (by rw [hk]; decide) (by rw [hk]; decide)) hW) k_272 k_274 s_S_askEveryOrWhile k_2 k_275 ⟨rfl, pc_S_askEveryOrWhile.1, pc_S_askEveryOrWhile.2, pd_S_askEveryOrWhile⟩ rfl rfl rfl rfl rfl (rm_le (by omega) (by decide)) (Nat.le_of_ble_eq_true rfl) rfl hx hb hml hown ht hl.1 hP hK hD hS hA hN d_S_ask_209 (fun r52 u53 H locs q54 hP hD hS => ?_)
    obtain ⟨q54, hW54⟩ := q54
    have hP : va_P (dC, dI) vwCl (wS a k X u53) H := hP
    have hD : va_D A (wS a k X u53) := hD
    exact ret_i (v := r52) hx hb hr hlocks hP hK hD hS d_S_ask_212 ⟨by simp [p_ask, hk, q54], hW54⟩
  · have hk : f_k (x_F X) (ix e) = 17 := hke
    refine lv_topi (fun z hz => ?_)
    have hz : z = 17 := hz.trans hk
    subst hz
    refine lv_tableIn (off := 204) (tgt := 213) hx hb d_S_ask_9 (by decide) (by decide) (by decide +kernel) (by decide) ?_
    refine lv_aload_n hx hb d_S_ask_213 rfl (lv_at hl 0 rfl) ?_
    refine lv_iload_n hx hb d_S_ask_214 rfl (lv_at hl 1 rfl) ?_
    refine call_i (As := [.int e]) (rest := []) (ci := 1) (q0 := 1) (c_S_askThen l dC dI a k X T M d hAsk s e he (tr_x te (by rw [hk]; decide)) (tr_y te (by rw [hk]; decide) (by rw [hk]; decide)) hW) k_276 k_278 s_S_askThen k_2 k_279 ⟨rfl, pc_S_askThen.1, pc_S_askThen.2, pd_S_askThen⟩ rfl rfl rfl rfl rfl (rm_le (by omega) (by decide)) (Nat.le_of_ble_eq_true rfl) rfl hx hb hml hown ht hl.1 hP hK hD hS hA hN d_S_ask_215 (fun r55 u56 H locs q57 hP hD hS => ?_)
    obtain ⟨q57, hW57⟩ := q57
    have hP : va_P (dC, dI) vwCl (wS a k X u56) H := hP
    have hD : va_D A (wS a k X u56) := hD
    exact ret_i (v := r55) hx hb hr hlocks hP hK hD hS d_S_ask_218 ⟨by simp [p_ask, hk, q57], hW57⟩
  · have hk : f_k (x_F X) (ix e) = 18 := hke
    refine lv_topi (fun z hz => ?_)
    have hz : z = 18 := hz.trans hk
    subst hz
    refine lv_tableIn (off := 210) (tgt := 219) hx hb d_S_ask_9 (by decide) (by decide) (by decide +kernel) (by decide) ?_
    refine lv_aload_n hx hb d_S_ask_219 rfl (lv_at hl 0 rfl) ?_
    refine lv_iload_n hx hb d_S_ask_220 rfl (lv_at hl 1 rfl) ?_
    refine call_i (As := [.int e]) (rest := []) (ci := 1) (q0 := 1) (c_S_askTo l dC dI a k X T M d hAsk hM s e he (tr_x te (by rw [hk]; decide)) (tr_y te (by rw [hk]; decide) (by rw [hk]; decide)) (tr_z te (by rw [hk]; decide) (by rw [hk]; decide) (by rw [hk]; decide)) hW) k_280 k_282 s_S_askTo k_2 k_283 ⟨rfl, pc_S_askTo.1, pc_S_askTo.2, pd_S_askTo⟩ rfl rfl rfl rfl rfl (rm_le (by omega) (by decide)) (Nat.le_of_ble_eq_true rfl) rfl hx hb hml hown ht hl.1 hP hK hD hS hA hN d_S_ask_221 (fun r58 u59 H locs q60 hP hD hS => ?_)
    obtain ⟨q60, hW60⟩ := q60
    have hP : va_P (dC, dI) vwCl (wS a k X u59) H := hP
    have hD : va_D A (wS a k X u59) := hD
    exact ret_i (v := r58) hx hb hr hlocks hP hK hD hS d_S_ask_224 ⟨by simp [p_ask, hk, q60], hW60⟩
  · have hk : f_k (x_F X) (ix e) = 19 := hke
    refine lv_topi (fun z hz => ?_)
    have hz : z = 19 := hz.trans hk
    subst hz
    refine lv_tableIn (off := 216) (tgt := 225) hx hb d_S_ask_9 (by decide) (by decide) (by decide +kernel) (by decide) ?_
    refine lv_aload_n hx hb d_S_ask_225 rfl (lv_at hl 0 rfl) ?_
    refine lv_iload_n hx hb d_S_ask_226 rfl (lv_at hl 1 rfl) ?_
    refine call_i (As := [.int e]) (rest := []) (ci := 1) (q0 := 1) (c_S_askIf l dC dI a k X T M d hAsk s e he (tr_x te (by rw [hk]; decide)) (tr_y te (by rw [hk]; decide) (by rw [hk]; decide)) (tr_z te (by rw [hk]; decide) (by rw [hk]; decide) (by rw [hk]; decide)) hW) k_292 k_294 s_S_askIf k_2 k_295 ⟨rfl, pc_S_askIf.1, pc_S_askIf.2, pd_S_askIf⟩ rfl rfl rfl rfl rfl (rm_le (by omega) (by decide)) (Nat.le_of_ble_eq_true rfl) rfl hx hb hml hown ht hl.1 hP hK hD hS hA hN d_S_ask_227 (fun r61 u62 H locs q63 hP hD hS => ?_)
    obtain ⟨q63, hW63⟩ := q63
    have hP : va_P (dC, dI) vwCl (wS a k X u62) H := hP
    have hD : va_D A (wS a k X u62) := hD
    exact ret_i (v := r61) hx hb hr hlocks hP hK hD hS d_S_ask_230 ⟨by simp [p_ask, hk, q63], hW63⟩
/-- every question at every depth -/
theorem ask_all (l : Launch) (dC : Nat → ClassId) (dI : Nat → Nat → Nat) (a : Nat → Nat) (k : Nat → ClassId) (X : zX) (T : zT) (M : Nat) (hM : M = 1000000) : ∀ d : Nat, AskOK l dC dI a k X T M d
  | 0 => fun _ _ h _ => h.elim
  | d + 1 => fun e s te hW => c_S_ask l dC dI a k X T M d (ask_all l dC dI a k X T M hM d) hM s e te hW
