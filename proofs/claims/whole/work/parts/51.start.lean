/-! The law. -/
theorem kn_all {args : Array Value} {s : State} (ht : ∀ w ∈ lw_g, w.before args s = true) : ∃ (dC : Nat → ClassId) (dI : Nat → Nat → Nat), va_K (dC, dI) vwCl [] s := by
  obtain ⟨cF, iF, kF⟩ := u_known (T := T_F) (N := 8) ht in_F (ht _ k_21)
  obtain ⟨cS, iS, kS⟩ := u_known (T := T_S) (N := 12) ht in_S (ht _ k_15)
  obtain ⟨cG, iG, kG⟩ := u_known (T := T_G) (N := 2) ht in_G (ht _ k_7)
  obtain ⟨cM, iM, kM⟩ := u_known (T := T_M) (N := 20) ht in_M (ht _ k_322)
  refine ⟨fun i => match i with | 0 => cF | 1 => cS | 2 => cG | _ => cM, fun i => match i with | 0 => iF | 1 => iS | 2 => iG | _ => iM, fun c q hq => ?_, fun k q hk => by cases hk⟩
  have hc : c < 4 := (List.getElem?_eq_some_iff.mp hq).1
  have hc' : c = 0 ∨ c = 1 ∨ c = 2 ∨ c = 3 := by omega
  rcases hc' with rfl | rfl | rfl | rfl <;> cases hq
  · exact kF
  · exact kS
  · exact kG
  · exact kM
theorem apt_of {A : Nat → Prop} {a b : Nat → Nat} {k h : Nat → ClassId} {X : zX} {Y : zY} (hD : va_D A (wX a k X ++ wY b h Y)) : Apt a b := fun i j hi hj e => by
  have l1 : (wX a k X).length = 15 := rfl
  have l2 : (wY b h Y).length = 11 := rfl
  obtain ⟨p, hp⟩ : ∃ p, (wX a k X)[i]? = some p := ⟨_, List.getElem?_eq_getElem (by omega)⟩
  obtain ⟨q, hq⟩ : ∃ q, (wY b h Y)[j]? = some q := ⟨_, List.getElem?_eq_getElem (by omega)⟩
  have h1 : (wX a k X ++ wY b h Y)[i]? = some p := by rw [List.getElem?_append_left (by omega)]; exact hp
  have h2 : (wX a k X ++ wY b h Y)[15 + j]? = some q := by rw [List.getElem?_append_right (by omega), l1, Nat.add_sub_cancel_left]; exact hq
  have := hD.1 i (15 + j) p q h1 h2 (by rw [(wX_ad hp).2, (wY_ad hq).2]; exact e)
  omega
theorem sk_seq {X : zX} {Y : zY} (hJ : zJ X Y) : ∃ (sx : Nat → zX) (sy : Nat → zY) (an : Nat → Int32), sx 0 = X ∧ sy 0 = Y ∧ ∀ j, zJ (sx j) (sy j) ∧ p_proc 1000000 (sx j) = (an j, sx (j + 1)) ∧ NxtY (sy j) (an j) (sy (j + 1)) := by
  have step : ∀ q : { q : zX × zY // zJ q.1 q.2 }, ∃ (v : Int32) (q' : { q : zX × zY // zJ q.1 q.2 }), p_proc 1000000 q.1.1 = (v, q'.1.1) ∧ NxtY q.1.2 v q'.1.2 := fun q => by
    obtain ⟨v, X', Y', h1, h2, h3⟩ := j_proc q.2
    exact ⟨v, ⟨(X', Y'), h3⟩, h1, h2⟩
  obtain ⟨sq, h0, hs⟩ : ∃ sq : Nat → { q : zX × zY // zJ q.1 q.2 }, sq 0 = ⟨(X, Y), hJ⟩ ∧ ∀ j, ∃ v, p_proc 1000000 (sq j).1.1 = (v, (sq (j + 1)).1.1) ∧ NxtY (sq j).1.2 v (sq (j + 1)).1.2 :=
    ⟨fun j => Nat.rec ⟨(X, Y), hJ⟩ (fun _ q => Classical.choose (Classical.choose_spec (step q))) j, rfl, fun j => ⟨_, Classical.choose_spec (Classical.choose_spec (step _))⟩⟩
  refine ⟨fun j => (sq j).1.1, fun j => (sq j).1.2, fun j => Classical.choose (hs j), by show (sq 0).1.1 = X; rw [h0], by show (sq 0).1.2 = Y; rw [h0], fun j => ⟨(sq j).2, (Classical.choose_spec (hs j)).1, (Classical.choose_spec (hs j)).2⟩⟩
theorem in_sc {i c L : Nat} (h : i + c < L) (hL : L ≤ 2560) : vp_in (nI i + nI c) L := by
  rw [nI_add]; exact vp_in_nI h (by omega)
theorem and_15 (x : Int32) : ∃ j : Nat, j < 16 ∧ x &&& 15 = nI j := pk_andE x (m := 15) 4 (by decide)
theorem j_skip {sx : Nat → zX} {sy : Nat → zY} {an : Nat → Int32} {n r r' : Int32} {u : zX} {u' : zY} (hJ : ∀ j, zJ (sx j) (sy j)) (h : (100 < n ∧ r = 0 ∧ u = sx 0) ∨ (¬ 100 < n ∧ Sk sx an n r u)) (h' : (p_with n 1 100 = false ∧ r' = 0 ∧ u' = sy 0) ∨ (p_with n 1 100 = true ∧ Sk sy an n r' u')) : r = r' ∧ zJ u u' := by
  rcases h with ⟨h1, rfl, rfl⟩ | ⟨h1, h2⟩ <;> rcases h' with ⟨g1, rfl, rfl⟩ | ⟨g1, g2⟩
  · exact ⟨rfl, hJ 0⟩
  · exact absurd h1 (with_100 g1)
  · have hn : n < 1 := by
      unfold p_with at g1
      by_cases q : n < 1
      · exact q
      · rw [if_neg q, if_neg h1] at g1; exact absurd g1 (by decide)
    obtain ⟨j, rfl, hl, he⟩ := h2
    have h0 : ¬ nI 0 < n := fun q => by
      rw [Int32.lt_iff_toInt_lt] at q hn
      have e1 : (nI 0).toInt = 0 := rfl
      have e2 : (1 : Int32).toInt = 1 := rfl
      rw [e1] at q; rw [e2] at hn
      omega
    have hj : j = 0 := by
      cases j with
      | zero => rfl
      | succ j => exact absurd (hl 0 (by omega)).2 h0
    subst hj
    rcases he with ⟨-, rfl⟩ | ⟨q, -⟩
    · exact ⟨rfl, hJ 0⟩
    · exact absurd q h0
  · obtain ⟨e, j, rfl, rfl⟩ := sk_same h2 g2
    exact ⟨e, hJ j⟩
theorem z_J0 : zJ X_0 Y_0 := by
  refine ⟨0, 0, 0, by omega, rfl, rfl, ⟨fun i hi => absurd hi (Nat.not_lt_zero i), fun i i' hi => absurd hi (Nat.not_lt_zero i)⟩, fun j => ⟨⟨0, by omega, rfl⟩, rfl⟩, fun j _ => rfl, rfl, ⟨rfl, rfl, by omega, by omega⟩, ⟨rfl, Nat.le_refl _, 0, by omega, rfl⟩, rfl, Or.inl ⟨rfl, rfl⟩⟩
set_option maxRecDepth 100000 in
set_option maxHeartbeats 8000000 in
/-- from the entry, for every script of at most 2560 ints, the law comes to its end with true -/
theorem whole_start {p : Program} {e : Env} {s : State} {m : MethodId} {below : List Frame} {meth : Method} {c : Code} (l : Launch) {b L : Nat} {xs : Nat → Int32} (hL : L ≤ 2560) (C0 : lw_At p s m meth c b L xs) : W p l e room_1 s m #[Value.ref b] below meth c s.heap [] 0 0 (lw_Z below #[Value.ref b] s) (entryFrame m ([Value.ref b] : List Value).toArray 4) := by
  obtain ⟨hx, hb, hr, hml, hown, hts, hX, hbl, hlocks, -⟩ := C0
  have hown : s.vm.findClass R_L = some m.cls := hown
  have ht : ∀ w ∈ lw_g, w.before #[Value.ref b] s = true := fun w h => hts w (List.mem_filter.mp h).1
  have hN : zN s := zN_of hts
  obtain ⟨dC, dI, hK⟩ := kn_all ht
  obtain ⟨A, hAe⟩ : ∃ A : Nat → Prop, A = fun q => s.heap.size ≤ q := ⟨_, rfl⟩
  have hA : ∀ q, s.heap.size ≤ q → A q := fun q h => by rw [hAe]; exact h
  have hbA : ¬ A b := by rw [hAe]; exact Nat.not_le.mpr hbl
  have hP : va_P (dC, dI) vwCl [] s.heap := fun k q hk => by cases hk
  have hD : va_D A [] := ⟨fun i j p q h => (by cases h), fun k q h => (by cases h)⟩
  have hS : va_S A s.heap s.heap [] := va_S.rf
  have hl := lv_entry ([.ref b]) (n := 4) (Nat.le_of_ble_eq_true rfl)
  rw [lg_entry_eq]
  generalize (lg_sl ([.ref b]) ++ List.replicate (4 - (lg_sl ([.ref b])).length) Slot.unset).toArray = ls at hl ⊢
  have hl : lv_has ls 4 [(0, .ref b)] := hl
  refine va_new (ci := 2) (fs := [.null, .null]) (C := R_G) (T := T_G) (N := 2) hx hb ht in_G t_G t_G_ok hown (ht _ k_6) (ht _ k_7) (ht _ k_1) hK hP hD hS hA rfl (fun j hj => by rcases (show j = 0 ∨ j = 1 by omega) with rfl | rfl <;> rfl) (Nat.le_of_ble_eq_true rfl) (Nat.le_of_ble_eq_true rfl) d_L_law_0 (fun g0 H hP hD hS => ?_)
  refine W.widen (k := 1) (n := 2) (Nat.le_of_ble_eq_true rfl) (Nat.le_of_ble_eq_true rfl) ?_
  have hP : va_P (dC, dI) vwCl [(g0, .inr (2, [.null, .null]))] H := hP
  have hD : va_D A [(g0, .inr (2, [.null, .null]))] := hD
  refine lv_dup hx hb d_L_law_3 rfl ?_
  have hPc := hP.sub (ws' := [(g0, .inr (2, [.null, .null]))]) [0] rfl
  have hDc := hD.sub (ws' := [(g0, .inr (2, [.null, .null]))]) [0] (by decide) rfl
  have hKc := hK.sub (tys' := []) [] rfl
  have hFc := va_free (wc := [(g0, .inr (2, [.null, .null]))]) hD hS hA [0] rfl
  refine va_callv (va_runI (As := []) (rest := [.ref g0]) ⟨hx, hb, hml, hown, ht⟩ (c_G_init l dC dI g0 H.size) (cwI 0 ht (good_w k_10) rfl rfl rfl (ht _ k_1) (ht _ k_8) (ht _ k_9) rfl ⟨pc_G_init.1, pc_G_init.2, pd_G_init⟩ ⟨Nat.le_of_ble_eq_true rfl, Nat.le_of_ble_eq_true rfl⟩) ⟨fun a U g mk q => by obtain ⟨q0, q1, qP, qK, qD, qN⟩ := q; exact ⟨q0, q1, qP, va_K.moved (u := U) (U := U.calling g mk a) (Vm.Alike.refl U.vm) qK, qD, zN_vm (U := U) rfl qN⟩, fun U hU hW => ⟨rfl, by rw [hU], by rw [hU]; exact hPc, va_K.moved hW.alike hKc, hDc.weaken (fun _ _ _ _ => trivial), zN_warm hW hN⟩⟩ rfl rfl hl.1 rfl (lv_room (Nat.le_of_ble_eq_true rfl)) d_L_law_4 ⟨Nat.le_of_ble_eq_true rfl, Nat.le_of_ble_eq_true rfl⟩) hS (fun q _ h => hFc q h) hFc (fun u t H1 locs ht9 hvm h5 hB hz1 hk1 hS => ?_)
  obtain ⟨qq, cq, hP1, hK1, hD1⟩ := hB
  rw [ht9] at hP1
  have hK1 := va_K.moved hvm.symm hK1
  obtain ⟨a, ha⟩ : ∃ a : Nat → Nat, a = fun i => match i with | 0 => g0 | j => qq j := ⟨_, rfl⟩
  have ha0 : g0 = a 0 := by rw [ha]; rfl
  have hPX : va_P (dC, dI) vwCl (wX a cq X_0) H1 := by rw [ha]; exact hP1
  have hDX : va_D A (wX a cq X_0) := by rw [ha]; exact hD1.weaken (fun _ q _ h => hFc q.1 h)
  have hKX : va_K (dC, dI) vwCl (yX cq) s := hK1
  clear hP hD hP1 hD1 hPc hDc hFc hk1 hz1
  generalize H1 = H at hPX hS ⊢
  generalize cq = k at hPX hDX hKX
  rw [ha0]
  refine W.widen (k := 15) (n := 662) (Nat.le_of_ble_eq_true rfl) (Nat.le_of_ble_eq_true rfl) ?_
  refine lv_astore_n hx hb d_L_law_7 rfl hl (by decide) (lv' := [(1, .ref (a 0)), (0, .ref b)]) rfl (fun ls hl => ?_)
  have hP := hPX
  have hD := hDX
  refine va_new (ci := 3) (fs := [.int 0, .null, .null, .null, .null, .null, .null, .null, .null, .null, .int 0, .int 0, .int 0, .int 0, .int 0, .int 0, .null, .int 0, .int 0, .int 0]) (C := R_M) (T := T_M) (N := 20) hx hb ht in_M t_M t_M_ok hown (ht _ k_321) (ht _ k_322) (ht _ k_4) hK hP hD hS hA rfl (fun j hj => by rcases (show j = 0 ∨ j = 1 ∨ j = 2 ∨ j = 3 ∨ j = 4 ∨ j = 5 ∨ j = 6 ∨ j = 7 ∨ j = 8 ∨ j = 9 ∨ j = 10 ∨ j = 11 ∨ j = 12 ∨ j = 13 ∨ j = 14 ∨ j = 15 ∨ j = 16 ∨ j = 17 ∨ j = 18 ∨ j = 19 by omega) with rfl | rfl | rfl | rfl | rfl | rfl | rfl | rfl | rfl | rfl | rfl | rfl | rfl | rfl | rfl | rfl | rfl | rfl | rfl | rfl <;> rfl) (Nat.le_of_ble_eq_true rfl) (Nat.le_of_ble_eq_true rfl) d_L_law_8 (fun m0 H hP hD hS => ?_)
  refine W.widen (k := 16) (n := 682) (Nat.le_of_ble_eq_true rfl) (Nat.le_of_ble_eq_true rfl) ?_
  have hP : va_P (dC, dI) vwCl (wX a k X_0 ++ [(m0, .inr (3, [.int 0, .null, .null, .null, .null, .null, .null, .null, .null, .null, .int 0, .int 0, .int 0, .int 0, .int 0, .int 0, .null, .int 0, .int 0, .int 0]))]) H := hP
  have hD : va_D A (wX a k X_0 ++ [(m0, .inr (3, [.int 0, .null, .null, .null, .null, .null, .null, .null, .null, .null, .int 0, .int 0, .int 0, .int 0, .int 0, .int 0, .null, .int 0, .int 0, .int 0]))]) := hD
  refine lv_dup hx hb d_L_law_11 rfl ?_
  have hPc := hP.sub (ws' := [(m0, .inr (3, [.int 0, .null, .null, .null, .null, .null, .null, .null, .null, .null, .int 0, .int 0, .int 0, .int 0, .int 0, .int 0, .null, .int 0, .int 0, .int 0]))]) [15] rfl
  have hDc := hD.sub (ws' := [(m0, .inr (3, [.int 0, .null, .null, .null, .null, .null, .null, .null, .null, .null, .int 0, .int 0, .int 0, .int 0, .int 0, .int 0, .null, .int 0, .int 0, .int 0]))]) [15] (by decide) rfl
  have hKc := hK.sub (tys' := []) [] rfl
  have hFc := va_free (wc := [(m0, .inr (3, [.int 0, .null, .null, .null, .null, .null, .null, .null, .null, .null, .int 0, .int 0, .int 0, .int 0, .int 0, .int 0, .null, .int 0, .int 0, .int 0]))]) hD hS hA [15] rfl
  refine va_callv (va_runI (As := []) (rest := [.ref m0]) ⟨hx, hb, hml, hown, ht⟩ (c_M_init l dC dI m0 H.size) (cwI 0 ht (good_w k_325) rfl rfl rfl (ht _ k_4) (ht _ k_323) (ht _ k_324) rfl ⟨pc_M_init.1, pc_M_init.2, pd_M_init⟩ ⟨Nat.le_of_ble_eq_true rfl, Nat.le_of_ble_eq_true rfl⟩) ⟨fun a U g mk q => by obtain ⟨q0, q1, qP, qK, qD, qN⟩ := q; exact ⟨q0, q1, qP, va_K.moved (u := U) (U := U.calling g mk a) (Vm.Alike.refl U.vm) qK, qD, zN_vm (U := U) rfl qN⟩, fun U hU hW => ⟨rfl, by rw [hU], by rw [hU]; exact hPc, va_K.moved hW.alike hKc, hDc.weaken (fun _ _ _ _ => trivial), zN_warm hW hN⟩⟩ rfl rfl hl.1 rfl (lv_room (Nat.le_of_ble_eq_true rfl)) d_L_law_12 ⟨Nat.le_of_ble_eq_true rfl, Nat.le_of_ble_eq_true rfl⟩) hS (fun q _ h => hFc q h) hFc (fun u t H1 locs ht9 hvm h5 hB hz1 hk1 hS => ?_)
  obtain ⟨qq, cq, hP1, hK1, hD1⟩ := hB
  rw [ht9] at hP1
  have hK1 := va_K.moved hvm.symm hK1
  obtain ⟨bb, hbb⟩ : ∃ bb : Nat → Nat, bb = fun i => match i with | 0 => m0 | j => qq j := ⟨_, rfl⟩
  have hb0 : m0 = bb 0 := by rw [hbb]; rfl
  have hP1 : va_P (dC, dI) vwCl (wY bb cq Y_0) H1 := by rw [hbb]; exact hP1
  have hD1 : va_D (va_A [(m0, .inr (3, [.int 0, .null, .null, .null, .null, .null, .null, .null, .null, .null, .int 0, .int 0, .int 0, .int 0, .int 0, .int 0, .null, .int 0, .int 0, .int 0]))] H.size) (wY bb cq Y_0) := by rw [hbb]; exact hD1
  have hKY : va_K (dC, dI) vwCl (yY cq) s := hK1
  obtain ⟨hP, hD⟩ := va_join (wr := wX a k X_0) (w1 := wY bb cq Y_0) hP hD [15] [0, 1, 2, 3, 4, 5, 6, 7, 8, 9, 10, 11, 12, 13, 14] rfl rfl (by decide) (by decide) hk1 hFc hP1 hD1
  have hap : Apt a bb := apt_of hD
  have hPX : va_P (dC, dI) vwCl (wX a k X_0) H1 := hP.sub [0, 1, 2, 3, 4, 5, 6, 7, 8, 9, 10, 11, 12, 13, 14] rfl
  have hPY : va_P (dC, dI) vwCl (wY bb cq Y_0) H1 := hP1
  have hDY : va_D A (wY bb cq Y_0) := hD1.weaken (fun _ q _ h => hFc q.1 h)
  clear hP hD hP1 hD1 hPc hDc hFc hk1 hz1
  generalize H1 = H at hPX hPY hS ⊢
  generalize cq = hh at hPY hDY hKY
  rw [hb0]
  refine W.widen (k := 26) (n := 1398) (Nat.le_of_ble_eq_true rfl) (Nat.le_of_ble_eq_true rfl) ?_
  refine lv_astore_n hx hb d_L_law_15 rfl hl (by decide) (lv' := [(2, .ref (bb 0)), (1, .ref (a 0)), (0, .ref b)]) rfl (fun ls hl => ?_)
  refine lv_iconst (v := 0) hx hb d_L_law_16 (by decide) ?_
  refine lv_istore_n hx hb d_L_law_17 rfl hl (by decide) (lv' := [(3, .int 0), (2, .ref (bb 0)), (1, .ref (a 0)), (0, .ref b)]) rfl (fun ls hl => ?_)
  have loop : ∀ (τ i : Nat) (X : zX) (Y : zY) (H : Heap) (locs : List Loc) (ls : Array Slot), L ≤ i + 5 * τ → i ≤ 2560 → zJ X Y → va_P (dC, dI) vwCl (wX a k X) H → va_P (dC, dI) vwCl (wY bb hh Y) H → va_D A (wX a k X) → va_D A (wY bb hh Y) → va_S A s.heap H locs → lv_has ls 4 [(3, .int (nI i)), (2, .ref (bb 0)), (1, .ref (a 0)), (0, .ref b)] → W p l e room_1 s m #[Value.ref b] below meth c H locs 26 1398 (lw_Z below #[Value.ref b] s) (F0 m 18 ls []) := by
    clear hl hPX hPY hDX hDY hS
    have fin : ∀ (H : Heap) (locs : List Loc) (ls : Array Slot), va_S A s.heap H locs → W p l e room_1 s m #[Value.ref b] below meth c H locs 26 1398 (lw_Z below #[Value.ref b] s) (F0 m 510 ls []) := by
      intro H locs ls hS
      refine lv_iconst (v := 1) hx hb d_L_law_510 (by decide) ?_
      refine va_forget (fun q hq => by have := hS.2.2 q hq; rw [hAe] at this; exact this) ?_
      refine W.widen (k := 600000) (n := 7302250) (Nat.le_of_ble_eq_true rfl) (Nat.le_of_ble_eq_true rfl) ?_
      exact lw_ret hx hb hr hlocks d_L_law_511
    intro τ
    induction τ with
    | zero =>
      intro i X Y H locs ls hi hi2 hJ hPX hPY hDX hDY hS hl
      refine lv_iload_n hx hb d_L_law_18 rfl (lv_at hl 0 rfl) ?_
      refine lv_aload_n hx hb d_L_law_19 rfl (lv_at hl 3 rfl) ?_
      refine va_slen hx hb hX hbl hbA hS d_L_law_20 ?_
      refine lv_iconst (v := 5) hx hb d_L_law_21 (by decide) ?_
      refine lv_isub hx hb d_L_law_22 ?_
      refine lv_icmp_gt (tgt := 510) hx hb d_L_law_23 (by decide) (fun c1 => ?_) (fun c1 => ?_)
      · exact fin H locs ls hS
      · exact absurd ((law_le hL (by omega)).mpr (by omega)) c1
    | succ τ ih =>
      intro i X Y H locs ls hi hi2 hJ hPX hPY hDX hDY hS hl
      refine lv_iload_n hx hb d_L_law_18 rfl (lv_at hl 0 rfl) ?_
      refine lv_aload_n hx hb d_L_law_19 rfl (lv_at hl 3 rfl) ?_
      refine va_slen hx hb hX hbl hbA hS d_L_law_20 ?_
      refine lv_iconst (v := 5) hx hb d_L_law_21 (by decide) ?_
      refine lv_isub hx hb d_L_law_22 ?_
      refine lv_icmp_gt (tgt := 510) hx hb d_L_law_23 (by decide) (fun c1 => ?_) (fun c1 => ?_)
      · exact fin H locs ls hS
      · have hiL : i + 5 ≤ L := Nat.not_lt.mp fun q => c1 ((law_le hL (by omega)).mpr q)
        clear c1
        have hv0 : vp_in (nI i) L := vp_in_nI (by omega) (by omega)
        have hv1 : vp_in (nI i + 1) L := in_sc (c := 1) (by omega) hL
        have hv2 : vp_in (nI i + 2) L := in_sc (c := 2) (by omega) hL
        have hv3 : vp_in (nI i + 3) L := in_sc (c := 3) (by omega) hL
        have hv4 : vp_in (nI i + 4) L := in_sc (c := 4) (by omega) hL
        have go : ∀ (X : zX) (Y : zY) (H : Heap) (locs : List Loc), zJ X Y → va_P (dC, dI) vwCl (wX a k X) H → va_P (dC, dI) vwCl (wY bb hh Y) H → va_D A (wX a k X) → va_D A (wY bb hh Y) → va_S A s.heap H locs → W p l e room_1 s m #[Value.ref b] below meth c H locs 26 1398 (lw_Z below #[Value.ref b] s) (F0 m 504 ls []) := by
          intro X Y H locs hJ hPX hPY hDX hDY hS
          refine lv_iinc (k := 0) (v := nI (i + 5)) hx hb d_L_law_504 hl rfl (nI_add i 5) (by decide) (lv' := [(3, .int (nI (i + 5))), (2, .ref (bb 0)), (1, .ref (a 0)), (0, .ref b)]) rfl (fun ls hl => ?_)
          refine lv_goto (tgt := 18) hx hb d_L_law_507 (by decide) ?_
          exact ih (i + 5) X Y H locs ls (by omega) (by omega) hJ hPX hPY hDX hDY hS hl
        refine lv_aload_n hx hb d_L_law_26 rfl (lv_at hl 3 rfl) ?_
        refine lv_iload_n hx hb d_L_law_27 rfl (lv_at hl 0 rfl) ?_
        refine va_sld hx hb hX hbl hbA hS hv0 d_L_law_28 ?_
        refine lv_bipush (v := 15) hx hb d_L_law_29 (by decide) ?_
        refine lv_iand hx hb d_L_law_31 ?_
        obtain ⟨j, hj, hje⟩ := and_15 (xs (nI i).toNatClampNeg)
        refine lv_topi (fun z hz => ?_)
        have hz := hz.trans hje
        clear hje
        have hj' : j = 0 ∨ j = 1 ∨ j = 2 ∨ j = 3 ∨ j = 4 ∨ j = 5 ∨ j = 6 ∨ j = 7 ∨ j = 8 ∨ j = 9 ∨ j = 10 ∨ j = 11 ∨ j = 12 ∨ j = 13 ∨ j = 14 ∨ j = 15 := by omega
        rcases hj' with rfl | rfl | rfl | rfl | rfl | rfl | rfl | rfl | rfl | rfl | rfl | rfl | rfl | rfl | rfl | rfl
        · have hz : z = 0 := hz
          subst hz
          refine lv_tableIn (off := 76) (tgt := 108) hx hb d_L_law_32 (by decide) (by decide) (by decide +kernel) (by decide) ?_
          obtain ⟨w, X1, Y1, e1, e2, hJ1⟩ := j_leaf hJ (xs (nI i + 1).toNatClampNeg) (xs (nI i + 2).toNatClampNeg)
          refine lv_aload_n hx hb d_L_law_108 rfl (lv_at hl 2 rfl) ?_
          refine lv_aload_n hx hb d_L_law_109 rfl (lv_at hl 3 rfl) ?_
          refine lv_iload_n hx hb d_L_law_110 rfl (lv_at hl 0 rfl) ?_
          refine lv_iconst (v := 1) hx hb d_L_law_111 (by decide) ?_
          refine lv_iadd hx hb d_L_law_112 ?_
          refine va_sld hx hb hX hbl hbA hS hv1 d_L_law_113 ?_
          refine lv_aload_n hx hb d_L_law_114 rfl (lv_at hl 3 rfl) ?_
          refine lv_iload_n hx hb d_L_law_115 rfl (lv_at hl 0 rfl) ?_
          refine lv_iconst (v := 2) hx hb d_L_law_116 (by decide) ?_
          refine lv_iadd hx hb d_L_law_117 ?_
          refine va_sld hx hb hX hbl hbA hS hv2 d_L_law_118 ?_
          refine law_i (As := [.int (xs (nI i + 1).toNatClampNeg), .int (xs (nI i + 2).toNatClampNeg)]) (rest := []) (ci := 2) (q0 := 0) (c_G_leaf l dC dI a k X (xs (nI i + 1).toNatClampNeg) (xs (nI i + 2).toNatClampNeg) (j_vx hJ)) k_112 k_113 k_114 k_1 k_115 ⟨rfl, pc_G_leaf.1, pc_G_leaf.2, pd_G_leaf⟩ rfl rfl rfl rfl rfl ⟨Nat.le_of_ble_eq_true rfl, Nat.le_of_ble_eq_true rfl⟩ (Nat.le_of_ble_eq_true rfl) rfl ⟨Nat.le_of_ble_eq_true rfl, Nat.le_of_ble_eq_true rfl⟩ hx hb hml hown ht hl.1 hPX hPY (apt_XY hap) hKX hDX hS hA hN d_L_law_119 (fun r1 u1 H locs q1 hP hPV hD hS => ?_)
          have hPY := hPV
          obtain ⟨g1, g2⟩ := pq e1 q1
          rw [g2] at hP hD
          have hPX := hP
          have hDX := hD
          refine lv_aload_n hx hb d_L_law_122 rfl (lv_at hl 1 rfl) ?_
          refine lv_aload_n hx hb d_L_law_123 rfl (lv_at hl 3 rfl) ?_
          refine lv_iload_n hx hb d_L_law_124 rfl (lv_at hl 0 rfl) ?_
          refine lv_iconst (v := 1) hx hb d_L_law_125 (by decide) ?_
          refine lv_iadd hx hb d_L_law_126 ?_
          refine va_sld hx hb hX hbl hbA hS hv1 d_L_law_127 ?_
          refine lv_aload_n hx hb d_L_law_128 rfl (lv_at hl 3 rfl) ?_
          refine lv_iload_n hx hb d_L_law_129 rfl (lv_at hl 0 rfl) ?_
          refine lv_iconst (v := 2) hx hb d_L_law_130 (by decide) ?_
          refine lv_iadd hx hb d_L_law_131 ?_
          refine va_sld hx hb hX hbl hbA hS hv2 d_L_law_132 ?_
          refine law_i (As := [.int (xs (nI i + 1).toNatClampNeg), .int (xs (nI i + 2).toNatClampNeg)]) (rest := [.int r1]) (ci := 3) (q0 := 0) (c_M_leaf l dC dI bb hh Y (xs (nI i + 1).toNatClampNeg) (xs (nI i + 2).toNatClampNeg) (j_vy hJ)) k_388 k_389 k_390 k_4 k_391 ⟨rfl, pc_M_leaf.1, pc_M_leaf.2, pd_M_leaf⟩ rfl rfl rfl rfl rfl ⟨Nat.le_of_ble_eq_true rfl, Nat.le_of_ble_eq_true rfl⟩ (Nat.le_of_ble_eq_true rfl) rfl ⟨Nat.le_of_ble_eq_true rfl, Nat.le_of_ble_eq_true rfl⟩ hx hb hml hown ht hl.1 hPY hPX (apt_YX hap) hKY hDY hS hA hN d_L_law_133 (fun r2 u2 H locs q2 hP hPV hD hS => ?_)
          have hPX := hPV
          obtain ⟨g3, g4⟩ := pq e2 q2
          rw [g4] at hP hD
          have hPY := hP
          have hDY := hD
          have same : r1 = r2 := g1.trans g3.symm
          refine lv_icmp_eq (tgt := 504) hx hb d_L_law_136 (by decide) (fun c1 => ?_) (fun c1 => ?_)
          · exact go X1 Y1 H locs hJ1 hPX hPY hDX hDY hS
          · exact absurd same c1
        · have hz : z = 1 := hz
          subst hz
          refine lv_tableIn (off := 109) (tgt := 141) hx hb d_L_law_32 (by decide) (by decide) (by decide +kernel) (by decide) ?_
          obtain ⟨w, X1, Y1, e1, e2, hJ1⟩ := j_unary hJ (xs (nI i + 1).toNatClampNeg) (xs (nI i + 2).toNatClampNeg) (xs (nI i + 3).toNatClampNeg)
          refine lv_aload_n hx hb d_L_law_141 rfl (lv_at hl 2 rfl) ?_
          refine lv_aload_n hx hb d_L_law_142 rfl (lv_at hl 3 rfl) ?_
          refine lv_iload_n hx hb d_L_law_143 rfl (lv_at hl 0 rfl) ?_
          refine lv_iconst (v := 1) hx hb d_L_law_144 (by decide) ?_
          refine lv_iadd hx hb d_L_law_145 ?_
          refine va_sld hx hb hX hbl hbA hS hv1 d_L_law_146 ?_
          refine lv_aload_n hx hb d_L_law_147 rfl (lv_at hl 3 rfl) ?_
          refine lv_iload_n hx hb d_L_law_148 rfl (lv_at hl 0 rfl) ?_
          refine lv_iconst (v := 2) hx hb d_L_law_149 (by decide) ?_
          refine lv_iadd hx hb d_L_law_150 ?_
          refine va_sld hx hb hX hbl hbA hS hv2 d_L_law_151 ?_
          refine lv_aload_n hx hb d_L_law_152 rfl (lv_at hl 3 rfl) ?_
          refine lv_iload_n hx hb d_L_law_153 rfl (lv_at hl 0 rfl) ?_
          refine lv_iconst (v := 3) hx hb d_L_law_154 (by decide) ?_
          refine lv_iadd hx hb d_L_law_155 ?_
          refine va_sld hx hb hX hbl hbA hS hv3 d_L_law_156 ?_
          refine law_i (As := [.int (xs (nI i + 1).toNatClampNeg), .int (xs (nI i + 2).toNatClampNeg), .int (xs (nI i + 3).toNatClampNeg)]) (rest := []) (ci := 2) (q0 := 0) (c_G_unary l dC dI a k X (xs (nI i + 1).toNatClampNeg) (xs (nI i + 2).toNatClampNeg) (xs (nI i + 3).toNatClampNeg) (j_vx hJ)) k_127 k_128 k_129 k_1 k_130 ⟨rfl, pc_G_unary.1, pc_G_unary.2, pd_G_unary⟩ rfl rfl rfl rfl rfl ⟨Nat.le_of_ble_eq_true rfl, Nat.le_of_ble_eq_true rfl⟩ (Nat.le_of_ble_eq_true rfl) rfl ⟨Nat.le_of_ble_eq_true rfl, Nat.le_of_ble_eq_true rfl⟩ hx hb hml hown ht hl.1 hPX hPY (apt_XY hap) hKX hDX hS hA hN d_L_law_157 (fun r1 u1 H locs q1 hP hPV hD hS => ?_)
          have hPY := hPV
          obtain ⟨g1, g2⟩ := pq e1 q1
          rw [g2] at hP hD
          have hPX := hP
          have hDX := hD
          refine lv_aload_n hx hb d_L_law_160 rfl (lv_at hl 1 rfl) ?_
          refine lv_aload_n hx hb d_L_law_161 rfl (lv_at hl 3 rfl) ?_
          refine lv_iload_n hx hb d_L_law_162 rfl (lv_at hl 0 rfl) ?_
          refine lv_iconst (v := 1) hx hb d_L_law_163 (by decide) ?_
          refine lv_iadd hx hb d_L_law_164 ?_
          refine va_sld hx hb hX hbl hbA hS hv1 d_L_law_165 ?_
          refine lv_aload_n hx hb d_L_law_166 rfl (lv_at hl 3 rfl) ?_
          refine lv_iload_n hx hb d_L_law_167 rfl (lv_at hl 0 rfl) ?_
          refine lv_iconst (v := 2) hx hb d_L_law_168 (by decide) ?_
          refine lv_iadd hx hb d_L_law_169 ?_
          refine va_sld hx hb hX hbl hbA hS hv2 d_L_law_170 ?_
          refine lv_aload_n hx hb d_L_law_171 rfl (lv_at hl 3 rfl) ?_
          refine lv_iload_n hx hb d_L_law_172 rfl (lv_at hl 0 rfl) ?_
          refine lv_iconst (v := 3) hx hb d_L_law_173 (by decide) ?_
          refine lv_iadd hx hb d_L_law_174 ?_
          refine va_sld hx hb hX hbl hbA hS hv3 d_L_law_175 ?_
          refine law_i (As := [.int (xs (nI i + 1).toNatClampNeg), .int (xs (nI i + 2).toNatClampNeg), .int (xs (nI i + 3).toNatClampNeg)]) (rest := [.int r1]) (ci := 3) (q0 := 0) (c_M_unary l dC dI bb hh Y (xs (nI i + 1).toNatClampNeg) (xs (nI i + 2).toNatClampNeg) (xs (nI i + 3).toNatClampNeg) (j_vy hJ)) k_399 k_400 k_401 k_4 k_402 ⟨rfl, pc_M_unary.1, pc_M_unary.2, pd_M_unary⟩ rfl rfl rfl rfl rfl ⟨Nat.le_of_ble_eq_true rfl, Nat.le_of_ble_eq_true rfl⟩ (Nat.le_of_ble_eq_true rfl) rfl ⟨Nat.le_of_ble_eq_true rfl, Nat.le_of_ble_eq_true rfl⟩ hx hb hml hown ht hl.1 hPY hPX (apt_YX hap) hKY hDY hS hA hN d_L_law_176 (fun r2 u2 H locs q2 hP hPV hD hS => ?_)
          have hPX := hPV
          obtain ⟨g3, g4⟩ := pq e2 q2
          rw [g4] at hP hD
          have hPY := hP
          have hDY := hD
          have same : r1 = r2 := g1.trans g3.symm
          refine lv_icmp_eq (tgt := 504) hx hb d_L_law_179 (by decide) (fun c1 => ?_) (fun c1 => ?_)
          · exact go X1 Y1 H locs hJ1 hPX hPY hDX hDY hS
          · exact absurd same c1
        · have hz : z = 2 := hz
          subst hz
          refine lv_tableIn (off := 152) (tgt := 184) hx hb d_L_law_32 (by decide) (by decide) (by decide +kernel) (by decide) ?_
          obtain ⟨w, X1, Y1, e1, e2, hJ1⟩ := j_binary hJ (xs (nI i + 1).toNatClampNeg) (xs (nI i + 2).toNatClampNeg) (xs (nI i + 3).toNatClampNeg)
          refine lv_aload_n hx hb d_L_law_184 rfl (lv_at hl 2 rfl) ?_
          refine lv_aload_n hx hb d_L_law_185 rfl (lv_at hl 3 rfl) ?_
          refine lv_iload_n hx hb d_L_law_186 rfl (lv_at hl 0 rfl) ?_
          refine lv_iconst (v := 1) hx hb d_L_law_187 (by decide) ?_
          refine lv_iadd hx hb d_L_law_188 ?_
          refine va_sld hx hb hX hbl hbA hS hv1 d_L_law_189 ?_
          refine lv_aload_n hx hb d_L_law_190 rfl (lv_at hl 3 rfl) ?_
          refine lv_iload_n hx hb d_L_law_191 rfl (lv_at hl 0 rfl) ?_
          refine lv_iconst (v := 2) hx hb d_L_law_192 (by decide) ?_
          refine lv_iadd hx hb d_L_law_193 ?_
          refine va_sld hx hb hX hbl hbA hS hv2 d_L_law_194 ?_
          refine lv_aload_n hx hb d_L_law_195 rfl (lv_at hl 3 rfl) ?_
          refine lv_iload_n hx hb d_L_law_196 rfl (lv_at hl 0 rfl) ?_
          refine lv_iconst (v := 3) hx hb d_L_law_197 (by decide) ?_
          refine lv_iadd hx hb d_L_law_198 ?_
          refine va_sld hx hb hX hbl hbA hS hv3 d_L_law_199 ?_
          refine law_i (As := [.int (xs (nI i + 1).toNatClampNeg), .int (xs (nI i + 2).toNatClampNeg), .int (xs (nI i + 3).toNatClampNeg)]) (rest := []) (ci := 2) (q0 := 0) (c_G_binary l dC dI a k X (xs (nI i + 1).toNatClampNeg) (xs (nI i + 2).toNatClampNeg) (xs (nI i + 3).toNatClampNeg) (j_vx hJ)) k_153 k_154 k_155 k_1 k_156 ⟨rfl, pc_G_binary.1, pc_G_binary.2, pd_G_binary⟩ rfl rfl rfl rfl rfl ⟨Nat.le_of_ble_eq_true rfl, Nat.le_of_ble_eq_true rfl⟩ (Nat.le_of_ble_eq_true rfl) rfl ⟨Nat.le_of_ble_eq_true rfl, Nat.le_of_ble_eq_true rfl⟩ hx hb hml hown ht hl.1 hPX hPY (apt_XY hap) hKX hDX hS hA hN d_L_law_200 (fun r1 u1 H locs q1 hP hPV hD hS => ?_)
          have hPY := hPV
          obtain ⟨g1, g2⟩ := pq e1 q1
          rw [g2] at hP hD
          have hPX := hP
          have hDX := hD
          refine lv_aload_n hx hb d_L_law_203 rfl (lv_at hl 1 rfl) ?_
          refine lv_aload_n hx hb d_L_law_204 rfl (lv_at hl 3 rfl) ?_
          refine lv_iload_n hx hb d_L_law_205 rfl (lv_at hl 0 rfl) ?_
          refine lv_iconst (v := 1) hx hb d_L_law_206 (by decide) ?_
          refine lv_iadd hx hb d_L_law_207 ?_
          refine va_sld hx hb hX hbl hbA hS hv1 d_L_law_208 ?_
          refine lv_aload_n hx hb d_L_law_209 rfl (lv_at hl 3 rfl) ?_
          refine lv_iload_n hx hb d_L_law_210 rfl (lv_at hl 0 rfl) ?_
          refine lv_iconst (v := 2) hx hb d_L_law_211 (by decide) ?_
          refine lv_iadd hx hb d_L_law_212 ?_
          refine va_sld hx hb hX hbl hbA hS hv2 d_L_law_213 ?_
          refine lv_aload_n hx hb d_L_law_214 rfl (lv_at hl 3 rfl) ?_
          refine lv_iload_n hx hb d_L_law_215 rfl (lv_at hl 0 rfl) ?_
          refine lv_iconst (v := 3) hx hb d_L_law_216 (by decide) ?_
          refine lv_iadd hx hb d_L_law_217 ?_
          refine va_sld hx hb hX hbl hbA hS hv3 d_L_law_218 ?_
          refine law_i (As := [.int (xs (nI i + 1).toNatClampNeg), .int (xs (nI i + 2).toNatClampNeg), .int (xs (nI i + 3).toNatClampNeg)]) (rest := [.int r1]) (ci := 3) (q0 := 0) (c_M_binary l dC dI bb hh Y (xs (nI i + 1).toNatClampNeg) (xs (nI i + 2).toNatClampNeg) (xs (nI i + 3).toNatClampNeg) (j_vy hJ)) k_407 k_408 k_409 k_4 k_410 ⟨rfl, pc_M_binary.1, pc_M_binary.2, pd_M_binary⟩ rfl rfl rfl rfl rfl ⟨Nat.le_of_ble_eq_true rfl, Nat.le_of_ble_eq_true rfl⟩ (Nat.le_of_ble_eq_true rfl) rfl ⟨Nat.le_of_ble_eq_true rfl, Nat.le_of_ble_eq_true rfl⟩ hx hb hml hown ht hl.1 hPY hPX (apt_YX hap) hKY hDY hS hA hN d_L_law_219 (fun r2 u2 H locs q2 hP hPV hD hS => ?_)
          have hPX := hPV
          obtain ⟨g3, g4⟩ := pq e2 q2
          rw [g4] at hP hD
          have hPY := hP
          have hDY := hD
          have same : r1 = r2 := g1.trans g3.symm
          refine lv_icmp_eq (tgt := 504) hx hb d_L_law_222 (by decide) (fun c1 => ?_) (fun c1 => ?_)
          · exact go X1 Y1 H locs hJ1 hPX hPY hDX hDY hS
          · exact absurd same c1
        · have hz : z = 3 := hz
          subst hz
          refine lv_tableIn (off := 195) (tgt := 227) hx hb d_L_law_32 (by decide) (by decide) (by decide +kernel) (by decide) ?_
          obtain ⟨w, X1, Y1, e1, e2, hJ1⟩ := j_ternary hJ (xs (nI i + 1).toNatClampNeg) (xs (nI i + 2).toNatClampNeg) (xs (nI i + 3).toNatClampNeg) (xs (nI i + 4).toNatClampNeg)
          refine lv_aload_n hx hb d_L_law_227 rfl (lv_at hl 2 rfl) ?_
          refine lv_aload_n hx hb d_L_law_228 rfl (lv_at hl 3 rfl) ?_
          refine lv_iload_n hx hb d_L_law_229 rfl (lv_at hl 0 rfl) ?_
          refine lv_iconst (v := 1) hx hb d_L_law_230 (by decide) ?_
          refine lv_iadd hx hb d_L_law_231 ?_
          refine va_sld hx hb hX hbl hbA hS hv1 d_L_law_232 ?_
          refine lv_aload_n hx hb d_L_law_233 rfl (lv_at hl 3 rfl) ?_
          refine lv_iload_n hx hb d_L_law_234 rfl (lv_at hl 0 rfl) ?_
          refine lv_iconst (v := 2) hx hb d_L_law_235 (by decide) ?_
          refine lv_iadd hx hb d_L_law_236 ?_
          refine va_sld hx hb hX hbl hbA hS hv2 d_L_law_237 ?_
          refine lv_aload_n hx hb d_L_law_238 rfl (lv_at hl 3 rfl) ?_
          refine lv_iload_n hx hb d_L_law_239 rfl (lv_at hl 0 rfl) ?_
          refine lv_iconst (v := 3) hx hb d_L_law_240 (by decide) ?_
          refine lv_iadd hx hb d_L_law_241 ?_
          refine va_sld hx hb hX hbl hbA hS hv3 d_L_law_242 ?_
          refine lv_aload_n hx hb d_L_law_243 rfl (lv_at hl 3 rfl) ?_
          refine lv_iload_n hx hb d_L_law_244 rfl (lv_at hl 0 rfl) ?_
          refine lv_iconst (v := 4) hx hb d_L_law_245 (by decide) ?_
          refine lv_iadd hx hb d_L_law_246 ?_
          refine va_sld hx hb hX hbl hbA hS hv4 d_L_law_247 ?_
          refine law_i (As := [.int (xs (nI i + 1).toNatClampNeg), .int (xs (nI i + 2).toNatClampNeg), .int (xs (nI i + 3).toNatClampNeg), .int (xs (nI i + 4).toNatClampNeg)]) (rest := []) (ci := 2) (q0 := 0) (c_G_ternary l dC dI a k X (xs (nI i + 1).toNatClampNeg) (xs (nI i + 2).toNatClampNeg) (xs (nI i + 3).toNatClampNeg) (xs (nI i + 4).toNatClampNeg) (j_vx hJ)) k_157 k_158 k_159 k_1 k_160 ⟨rfl, pc_G_ternary.1, pc_G_ternary.2, pd_G_ternary⟩ rfl rfl rfl rfl rfl ⟨Nat.le_of_ble_eq_true rfl, Nat.le_of_ble_eq_true rfl⟩ (Nat.le_of_ble_eq_true rfl) rfl ⟨Nat.le_of_ble_eq_true rfl, Nat.le_of_ble_eq_true rfl⟩ hx hb hml hown ht hl.1 hPX hPY (apt_XY hap) hKX hDX hS hA hN d_L_law_248 (fun r1 u1 H locs q1 hP hPV hD hS => ?_)
          have hPY := hPV
          obtain ⟨g1, g2⟩ := pq e1 q1
          rw [g2] at hP hD
          have hPX := hP
          have hDX := hD
          refine lv_aload_n hx hb d_L_law_251 rfl (lv_at hl 1 rfl) ?_
          refine lv_aload_n hx hb d_L_law_252 rfl (lv_at hl 3 rfl) ?_
          refine lv_iload_n hx hb d_L_law_253 rfl (lv_at hl 0 rfl) ?_
          refine lv_iconst (v := 1) hx hb d_L_law_254 (by decide) ?_
          refine lv_iadd hx hb d_L_law_255 ?_
          refine va_sld hx hb hX hbl hbA hS hv1 d_L_law_256 ?_
          refine lv_aload_n hx hb d_L_law_257 rfl (lv_at hl 3 rfl) ?_
          refine lv_iload_n hx hb d_L_law_258 rfl (lv_at hl 0 rfl) ?_
          refine lv_iconst (v := 2) hx hb d_L_law_259 (by decide) ?_
          refine lv_iadd hx hb d_L_law_260 ?_
          refine va_sld hx hb hX hbl hbA hS hv2 d_L_law_261 ?_
          refine lv_aload_n hx hb d_L_law_262 rfl (lv_at hl 3 rfl) ?_
          refine lv_iload_n hx hb d_L_law_263 rfl (lv_at hl 0 rfl) ?_
          refine lv_iconst (v := 3) hx hb d_L_law_264 (by decide) ?_
          refine lv_iadd hx hb d_L_law_265 ?_
          refine va_sld hx hb hX hbl hbA hS hv3 d_L_law_266 ?_
          refine lv_aload_n hx hb d_L_law_267 rfl (lv_at hl 3 rfl) ?_
          refine lv_iload_n hx hb d_L_law_268 rfl (lv_at hl 0 rfl) ?_
          refine lv_iconst (v := 4) hx hb d_L_law_269 (by decide) ?_
          refine lv_iadd hx hb d_L_law_270 ?_
          refine va_sld hx hb hX hbl hbA hS hv4 d_L_law_271 ?_
          refine law_i (As := [.int (xs (nI i + 1).toNatClampNeg), .int (xs (nI i + 2).toNatClampNeg), .int (xs (nI i + 3).toNatClampNeg), .int (xs (nI i + 4).toNatClampNeg)]) (rest := [.int r1]) (ci := 3) (q0 := 0) (c_M_ternary l dC dI bb hh Y (xs (nI i + 1).toNatClampNeg) (xs (nI i + 2).toNatClampNeg) (xs (nI i + 3).toNatClampNeg) (xs (nI i + 4).toNatClampNeg) (j_vy hJ)) k_411 k_412 k_413 k_4 k_414 ⟨rfl, pc_M_ternary.1, pc_M_ternary.2, pd_M_ternary⟩ rfl rfl rfl rfl rfl ⟨Nat.le_of_ble_eq_true rfl, Nat.le_of_ble_eq_true rfl⟩ (Nat.le_of_ble_eq_true rfl) rfl ⟨Nat.le_of_ble_eq_true rfl, Nat.le_of_ble_eq_true rfl⟩ hx hb hml hown ht hl.1 hPY hPX (apt_YX hap) hKY hDY hS hA hN d_L_law_272 (fun r2 u2 H locs q2 hP hPV hD hS => ?_)
          have hPX := hPV
          obtain ⟨g3, g4⟩ := pq e2 q2
          rw [g4] at hP hD
          have hPY := hP
          have hDY := hD
          have same : r1 = r2 := g1.trans g3.symm
          refine lv_icmp_eq (tgt := 504) hx hb d_L_law_275 (by decide) (fun c1 => ?_) (fun c1 => ?_)
          · exact go X1 Y1 H locs hJ1 hPX hPY hDX hDY hS
          · exact absurd same c1
        · have hz : z = 4 := hz
          subst hz
          refine lv_tableIn (off := 248) (tgt := 280) hx hb d_L_law_32 (by decide) (by decide) (by decide +kernel) (by decide) ?_
          refine lv_aload_n hx hb d_L_law_280 rfl (lv_at hl 2 rfl) ?_
          refine law_i (As := []) (rest := []) (ci := 2) (q0 := 0) (c_G_expressions l dC dI a k X ) k_161 k_162 k_163 k_1 k_164 ⟨rfl, pc_G_expressions.1, pc_G_expressions.2, pd_G_expressions⟩ rfl rfl rfl rfl rfl ⟨Nat.le_of_ble_eq_true rfl, Nat.le_of_ble_eq_true rfl⟩ (Nat.le_of_ble_eq_true rfl) rfl ⟨Nat.le_of_ble_eq_true rfl, Nat.le_of_ble_eq_true rfl⟩ hx hb hml hown ht hl.1 hPX hPY (apt_XY hap) hKX hDX hS hA hN d_L_law_281 (fun r1 u1 H locs q1 hP hPV hD hS => ?_)
          have hPY := hPV
          obtain ⟨g1, g2⟩ := q1
          rw [g2] at hP hD
          have hPX := hP
          have hDX := hD
          refine lv_aload_n hx hb d_L_law_284 rfl (lv_at hl 1 rfl) ?_
          refine law_i (As := []) (rest := [.int r1]) (ci := 3) (q0 := 0) (c_M_expressions l dC dI bb hh Y ) k_415 k_416 k_417 k_4 k_418 ⟨rfl, pc_M_expressions.1, pc_M_expressions.2, pd_M_expressions⟩ rfl rfl rfl rfl rfl ⟨Nat.le_of_ble_eq_true rfl, Nat.le_of_ble_eq_true rfl⟩ (Nat.le_of_ble_eq_true rfl) rfl ⟨Nat.le_of_ble_eq_true rfl, Nat.le_of_ble_eq_true rfl⟩ hx hb hml hown ht hl.1 hPY hPX (apt_YX hap) hKY hDY hS hA hN d_L_law_285 (fun r2 u2 H locs q2 hP hPV hD hS => ?_)
          have hPX := hPV
          obtain ⟨g3, g4⟩ := q2
          rw [g4] at hP hD
          have hPY := hP
          have hDY := hD
          have same : r1 = r2 := g1.trans ((j_count hJ).trans g3.symm)
          refine lv_icmp_eq (tgt := 504) hx hb d_L_law_288 (by decide) (fun c1 => ?_) (fun c1 => ?_)
          · exact go X Y H locs hJ hPX hPY hDX hDY hS
          · exact absurd same c1
        · have hz : z = 5 := hz
          subst hz
          refine lv_tableIn (off := 261) (tgt := 293) hx hb d_L_law_32 (by decide) (by decide) (by decide +kernel) (by decide) ?_
          refine lv_aload_n hx hb d_L_law_293 rfl (lv_at hl 2 rfl) ?_
          refine lv_aload_n hx hb d_L_law_294 rfl (lv_at hl 3 rfl) ?_
          refine lv_iload_n hx hb d_L_law_295 rfl (lv_at hl 0 rfl) ?_
          refine lv_iconst (v := 1) hx hb d_L_law_296 (by decide) ?_
          refine lv_iadd hx hb d_L_law_297 ?_
          refine va_sld hx hb hX hbl hbA hS hv1 d_L_law_298 ?_
          refine law_i (As := [.int (xs (nI i + 1).toNatClampNeg)]) (rest := []) (ci := 2) (q0 := 0) (c_G_about l dC dI a k X (xs (nI i + 1).toNatClampNeg) (j_vx hJ)) k_165 k_166 k_167 k_1 k_168 ⟨rfl, pc_G_about.1, pc_G_about.2, pd_G_about⟩ rfl rfl rfl rfl rfl ⟨Nat.le_of_ble_eq_true rfl, Nat.le_of_ble_eq_true rfl⟩ (Nat.le_of_ble_eq_true rfl) rfl ⟨Nat.le_of_ble_eq_true rfl, Nat.le_of_ble_eq_true rfl⟩ hx hb hml hown ht hl.1 hPX hPY (apt_XY hap) hKX hDX hS hA hN d_L_law_299 (fun r1 u1 H locs q1 hP hPV hD hS => ?_)
          have hPY := hPV
          obtain ⟨g1, g2⟩ := q1
          rw [g2] at hP hD
          have hPX := hP
          have hDX := hD
          refine lv_aload_n hx hb d_L_law_302 rfl (lv_at hl 1 rfl) ?_
          refine lv_aload_n hx hb d_L_law_303 rfl (lv_at hl 3 rfl) ?_
          refine lv_iload_n hx hb d_L_law_304 rfl (lv_at hl 0 rfl) ?_
          refine lv_iconst (v := 1) hx hb d_L_law_305 (by decide) ?_
          refine lv_iadd hx hb d_L_law_306 ?_
          refine va_sld hx hb hX hbl hbA hS hv1 d_L_law_307 ?_
          refine law_i (As := [.int (xs (nI i + 1).toNatClampNeg)]) (rest := [.int r1]) (ci := 3) (q0 := 0) (c_M_about l dC dI bb hh Y (xs (nI i + 1).toNatClampNeg) (j_vy hJ)) k_419 k_420 k_421 k_4 k_422 ⟨rfl, pc_M_about.1, pc_M_about.2, pd_M_about⟩ rfl rfl rfl rfl rfl ⟨Nat.le_of_ble_eq_true rfl, Nat.le_of_ble_eq_true rfl⟩ (Nat.le_of_ble_eq_true rfl) rfl ⟨Nat.le_of_ble_eq_true rfl, Nat.le_of_ble_eq_true rfl⟩ hx hb hml hown ht hl.1 hPY hPX (apt_YX hap) hKY hDY hS hA hN d_L_law_308 (fun r2 u2 H locs q2 hP hPV hD hS => ?_)
          have hPX := hPV
          obtain ⟨g3, g4⟩ := q2
          rw [g4] at hP hD
          have hPY := hP
          have hDY := hD
          have same : r1 = r2 := g1.trans ((j_about hJ (xs (nI i + 1).toNatClampNeg)).trans g3.symm)
          refine lv_icmp_eq (tgt := 504) hx hb d_L_law_311 (by decide) (fun c1 => ?_) (fun c1 => ?_)
          · exact go X Y H locs hJ hPX hPY hDX hDY hS
          · exact absurd same c1
        · have hz : z = 6 := hz
          subst hz
          refine lv_tableIn (off := 284) (tgt := 316) hx hb d_L_law_32 (by decide) (by decide) (by decide +kernel) (by decide) ?_
          obtain ⟨w, X1, Y1, e1, e2, hJ1⟩ := j_set hJ (xs (nI i + 1).toNatClampNeg) (xs (nI i + 2).toNatClampNeg)
          refine lv_aload_n hx hb d_L_law_316 rfl (lv_at hl 2 rfl) ?_
          refine lv_aload_n hx hb d_L_law_317 rfl (lv_at hl 3 rfl) ?_
          refine lv_iload_n hx hb d_L_law_318 rfl (lv_at hl 0 rfl) ?_
          refine lv_iconst (v := 1) hx hb d_L_law_319 (by decide) ?_
          refine lv_iadd hx hb d_L_law_320 ?_
          refine va_sld hx hb hX hbl hbA hS hv1 d_L_law_321 ?_
          refine lv_aload_n hx hb d_L_law_322 rfl (lv_at hl 3 rfl) ?_
          refine lv_iload_n hx hb d_L_law_323 rfl (lv_at hl 0 rfl) ?_
          refine lv_iconst (v := 2) hx hb d_L_law_324 (by decide) ?_
          refine lv_iadd hx hb d_L_law_325 ?_
          refine va_sld hx hb hX hbl hbA hS hv2 d_L_law_326 ?_
          refine law_i (As := [.int (xs (nI i + 1).toNatClampNeg), .int (xs (nI i + 2).toNatClampNeg)]) (rest := []) (ci := 2) (q0 := 0) (c_G_set l dC dI a k X (xs (nI i + 1).toNatClampNeg) (xs (nI i + 2).toNatClampNeg)) k_169 k_170 k_171 k_1 k_172 ⟨rfl, pc_G_set.1, pc_G_set.2, pd_G_set⟩ rfl rfl rfl rfl rfl ⟨Nat.le_of_ble_eq_true rfl, Nat.le_of_ble_eq_true rfl⟩ (Nat.le_of_ble_eq_true rfl) rfl ⟨Nat.le_of_ble_eq_true rfl, Nat.le_of_ble_eq_true rfl⟩ hx hb hml hown ht hl.1 hPX hPY (apt_XY hap) hKX hDX hS hA hN d_L_law_327 (fun r1 u1 H locs q1 hP hPV hD hS => ?_)
          have hPY := hPV
          obtain ⟨g1, g2⟩ := pq e1 q1
          rw [g2] at hP hD
          have hPX := hP
          have hDX := hD
          refine lv_aload_n hx hb d_L_law_330 rfl (lv_at hl 1 rfl) ?_
          refine lv_aload_n hx hb d_L_law_331 rfl (lv_at hl 3 rfl) ?_
          refine lv_iload_n hx hb d_L_law_332 rfl (lv_at hl 0 rfl) ?_
          refine lv_iconst (v := 1) hx hb d_L_law_333 (by decide) ?_
          refine lv_iadd hx hb d_L_law_334 ?_
          refine va_sld hx hb hX hbl hbA hS hv1 d_L_law_335 ?_
          refine lv_aload_n hx hb d_L_law_336 rfl (lv_at hl 3 rfl) ?_
          refine lv_iload_n hx hb d_L_law_337 rfl (lv_at hl 0 rfl) ?_
          refine lv_iconst (v := 2) hx hb d_L_law_338 (by decide) ?_
          refine lv_iadd hx hb d_L_law_339 ?_
          refine va_sld hx hb hX hbl hbA hS hv2 d_L_law_340 ?_
          refine law_i (As := [.int (xs (nI i + 1).toNatClampNeg), .int (xs (nI i + 2).toNatClampNeg)]) (rest := [.int r1]) (ci := 3) (q0 := 0) (c_M_set l dC dI bb hh Y (xs (nI i + 1).toNatClampNeg) (xs (nI i + 2).toNatClampNeg)) k_423 k_424 k_425 k_4 k_426 ⟨rfl, pc_M_set.1, pc_M_set.2, pd_M_set⟩ rfl rfl rfl rfl rfl ⟨Nat.le_of_ble_eq_true rfl, Nat.le_of_ble_eq_true rfl⟩ (Nat.le_of_ble_eq_true rfl) rfl ⟨Nat.le_of_ble_eq_true rfl, Nat.le_of_ble_eq_true rfl⟩ hx hb hml hown ht hl.1 hPY hPX (apt_YX hap) hKY hDY hS hA hN d_L_law_341 (fun r2 u2 H locs q2 hP hPV hD hS => ?_)
          have hPX := hPV
          obtain ⟨g3, g4⟩ := pq e2 q2
          rw [g4] at hP hD
          have hPY := hP
          have hDY := hD
          have same : r1 = r2 := g1.trans g3.symm
          refine lv_icmp_eq (tgt := 504) hx hb d_L_law_344 (by decide) (fun c1 => ?_) (fun c1 => ?_)
          · exact go X1 Y1 H locs hJ1 hPX hPY hDX hDY hS
          · exact absurd same c1
        · have hz : z = 7 := hz
          subst hz
          refine lv_tableIn (off := 317) (tgt := 349) hx hb d_L_law_32 (by decide) (by decide) (by decide +kernel) (by decide) ?_
          refine lv_aload_n hx hb d_L_law_349 rfl (lv_at hl 2 rfl) ?_
          refine lv_aload_n hx hb d_L_law_350 rfl (lv_at hl 3 rfl) ?_
          refine lv_iload_n hx hb d_L_law_351 rfl (lv_at hl 0 rfl) ?_
          refine lv_iconst (v := 1) hx hb d_L_law_352 (by decide) ?_
          refine lv_iadd hx hb d_L_law_353 ?_
          refine va_sld hx hb hX hbl hbA hS hv1 d_L_law_354 ?_
          refine law_i (As := [.int (xs (nI i + 1).toNatClampNeg)]) (rest := []) (ci := 2) (q0 := 0) (c_G_variable l dC dI a k X (xs (nI i + 1).toNatClampNeg)) k_173 k_174 k_175 k_1 k_176 ⟨rfl, pc_G_variable.1, pc_G_variable.2, pd_G_variable⟩ rfl rfl rfl rfl rfl ⟨Nat.le_of_ble_eq_true rfl, Nat.le_of_ble_eq_true rfl⟩ (Nat.le_of_ble_eq_true rfl) rfl ⟨Nat.le_of_ble_eq_true rfl, Nat.le_of_ble_eq_true rfl⟩ hx hb hml hown ht hl.1 hPX hPY (apt_XY hap) hKX hDX hS hA hN d_L_law_355 (fun r1 u1 H locs q1 hP hPV hD hS => ?_)
          have hPY := hPV
          obtain ⟨g1, g2⟩ := q1
          rw [g2] at hP hD
          have hPX := hP
          have hDX := hD
          refine lv_aload_n hx hb d_L_law_358 rfl (lv_at hl 1 rfl) ?_
          refine lv_aload_n hx hb d_L_law_359 rfl (lv_at hl 3 rfl) ?_
          refine lv_iload_n hx hb d_L_law_360 rfl (lv_at hl 0 rfl) ?_
          refine lv_iconst (v := 1) hx hb d_L_law_361 (by decide) ?_
          refine lv_iadd hx hb d_L_law_362 ?_
          refine va_sld hx hb hX hbl hbA hS hv1 d_L_law_363 ?_
          refine law_i (As := [.int (xs (nI i + 1).toNatClampNeg)]) (rest := [.int r1]) (ci := 3) (q0 := 0) (c_M_variable l dC dI bb hh Y (xs (nI i + 1).toNatClampNeg)) k_427 k_428 k_429 k_4 k_430 ⟨rfl, pc_M_variable.1, pc_M_variable.2, pd_M_variable⟩ rfl rfl rfl rfl rfl ⟨Nat.le_of_ble_eq_true rfl, Nat.le_of_ble_eq_true rfl⟩ (Nat.le_of_ble_eq_true rfl) rfl ⟨Nat.le_of_ble_eq_true rfl, Nat.le_of_ble_eq_true rfl⟩ hx hb hml hown ht hl.1 hPY hPX (apt_YX hap) hKY hDY hS hA hN d_L_law_364 (fun r2 u2 H locs q2 hP hPV hD hS => ?_)
          have hPX := hPV
          obtain ⟨g3, g4⟩ := q2
          rw [g4] at hP hD
          have hPY := hP
          have hDY := hD
          have same : r1 = r2 := g1.trans ((j_var hJ (xs (nI i + 1).toNatClampNeg)).trans g3.symm)
          refine lv_icmp_eq (tgt := 504) hx hb d_L_law_367 (by decide) (fun c1 => ?_) (fun c1 => ?_)
          · exact go X Y H locs hJ hPX hPY hDX hDY hS
          · exact absurd same c1
        · have hz : z = 8 := hz
          subst hz
          refine lv_tableIn (off := 340) (tgt := 372) hx hb d_L_law_32 (by decide) (by decide) (by decide +kernel) (by decide) ?_
          obtain ⟨w, X1, Y1, e1, e2, hJ1⟩ := j_begin hJ (xs (nI i + 1).toNatClampNeg) (xs (nI i + 2).toNatClampNeg)
          refine lv_aload_n hx hb d_L_law_372 rfl (lv_at hl 2 rfl) ?_
          refine lv_aload_n hx hb d_L_law_373 rfl (lv_at hl 3 rfl) ?_
          refine lv_iload_n hx hb d_L_law_374 rfl (lv_at hl 0 rfl) ?_
          refine lv_iconst (v := 1) hx hb d_L_law_375 (by decide) ?_
          refine lv_iadd hx hb d_L_law_376 ?_
          refine va_sld hx hb hX hbl hbA hS hv1 d_L_law_377 ?_
          refine lv_aload_n hx hb d_L_law_378 rfl (lv_at hl 3 rfl) ?_
          refine lv_iload_n hx hb d_L_law_379 rfl (lv_at hl 0 rfl) ?_
          refine lv_iconst (v := 2) hx hb d_L_law_380 (by decide) ?_
          refine lv_iadd hx hb d_L_law_381 ?_
          refine va_sld hx hb hX hbl hbA hS hv2 d_L_law_382 ?_
          refine law_i (As := [.int (xs (nI i + 1).toNatClampNeg), .int (xs (nI i + 2).toNatClampNeg)]) (rest := []) (ci := 2) (q0 := 0) (c_G_begin l dC dI a k X (xs (nI i + 1).toNatClampNeg) (xs (nI i + 2).toNatClampNeg) (j_vx hJ)) k_177 k_178 k_179 k_1 k_180 ⟨rfl, pc_G_begin.1, pc_G_begin.2, pd_G_begin⟩ rfl rfl rfl rfl rfl ⟨Nat.le_of_ble_eq_true rfl, Nat.le_of_ble_eq_true rfl⟩ (Nat.le_of_ble_eq_true rfl) rfl ⟨Nat.le_of_ble_eq_true rfl, Nat.le_of_ble_eq_true rfl⟩ hx hb hml hown ht hl.1 hPX hPY (apt_XY hap) hKX hDX hS hA hN d_L_law_383 (fun r1 u1 H locs q1 hP hPV hD hS => ?_)
          have hPY := hPV
          obtain ⟨g1, g2⟩ := pq e1 q1
          rw [g2] at hP hD
          have hPX := hP
          have hDX := hD
          refine lv_aload_n hx hb d_L_law_386 rfl (lv_at hl 1 rfl) ?_
          refine lv_aload_n hx hb d_L_law_387 rfl (lv_at hl 3 rfl) ?_
          refine lv_iload_n hx hb d_L_law_388 rfl (lv_at hl 0 rfl) ?_
          refine lv_iconst (v := 1) hx hb d_L_law_389 (by decide) ?_
          refine lv_iadd hx hb d_L_law_390 ?_
          refine va_sld hx hb hX hbl hbA hS hv1 d_L_law_391 ?_
          refine lv_aload_n hx hb d_L_law_392 rfl (lv_at hl 3 rfl) ?_
          refine lv_iload_n hx hb d_L_law_393 rfl (lv_at hl 0 rfl) ?_
          refine lv_iconst (v := 2) hx hb d_L_law_394 (by decide) ?_
          refine lv_iadd hx hb d_L_law_395 ?_
          refine va_sld hx hb hX hbl hbA hS hv2 d_L_law_396 ?_
          refine law_i (As := [.int (xs (nI i + 1).toNatClampNeg), .int (xs (nI i + 2).toNatClampNeg)]) (rest := [.int r1]) (ci := 3) (q0 := 0) (c_M_begin l dC dI bb hh Y (xs (nI i + 1).toNatClampNeg) (xs (nI i + 2).toNatClampNeg) (j_vy hJ)) k_431 k_432 k_433 k_4 k_434 ⟨rfl, pc_M_begin.1, pc_M_begin.2, pd_M_begin⟩ rfl rfl rfl rfl rfl ⟨Nat.le_of_ble_eq_true rfl, Nat.le_of_ble_eq_true rfl⟩ (Nat.le_of_ble_eq_true rfl) rfl ⟨Nat.le_of_ble_eq_true rfl, Nat.le_of_ble_eq_true rfl⟩ hx hb hml hown ht hl.1 hPY hPX (apt_YX hap) hKY hDY hS hA hN d_L_law_397 (fun r2 u2 H locs q2 hP hPV hD hS => ?_)
          have hPX := hPV
          obtain ⟨g3, g4⟩ := pq e2 q2
          rw [g4] at hP hD
          have hPY := hP
          have hDY := hD
          have same : r1 = r2 := g1.trans g3.symm
          refine lv_icmp_eq (tgt := 504) hx hb d_L_law_400 (by decide) (fun c1 => ?_) (fun c1 => ?_)
          · exact go X1 Y1 H locs hJ1 hPX hPY hDX hDY hS
          · exact absurd same c1
        · have hz : z = 9 := hz
          subst hz
          refine lv_tableIn (off := 373) (tgt := 405) hx hb d_L_law_32 (by decide) (by decide) (by decide +kernel) (by decide) ?_
          obtain ⟨w, X1, Y1, e1, e2, hJ1⟩ := j_proc hJ
          refine lv_aload_n hx hb d_L_law_405 rfl (lv_at hl 2 rfl) ?_
          refine law_i (As := []) (rest := []) (ci := 2) (q0 := 0) (c_G_next l dC dI a k (y_T Y) 1000000 rfl X (j_vt hJ)) k_189 k_190 k_191 k_1 k_192 ⟨rfl, pc_G_next.1, pc_G_next.2, pd_G_next⟩ rfl rfl rfl rfl rfl ⟨Nat.le_of_ble_eq_true rfl, Nat.le_of_ble_eq_true rfl⟩ (Nat.le_of_ble_eq_true rfl) rfl ⟨Nat.le_of_ble_eq_true rfl, Nat.le_of_ble_eq_true rfl⟩ hx hb hml hown ht hl.1 hPX hPY (apt_XY hap) hKX hDX hS hA hN d_L_law_406 (fun r1 u1 H locs q1 hP hPV hD hS => ?_)
          have hPY := hPV
          obtain ⟨g1, g2⟩ := pq e1 q1
          rw [g2] at hP hD
          have hPX := hP
          have hDX := hD
          refine lv_aload_n hx hb d_L_law_409 rfl (lv_at hl 1 rfl) ?_
          refine law_i (As := []) (rest := [.int r1]) (ci := 3) (q0 := 0) (c_M_next l dC dI bb hh Y w Y1 e2) k_435 k_436 k_437 k_4 k_438 ⟨rfl, pc_M_next.1, pc_M_next.2, pd_M_next⟩ rfl rfl rfl rfl rfl ⟨Nat.le_of_ble_eq_true rfl, Nat.le_of_ble_eq_true rfl⟩ (Nat.le_of_ble_eq_true rfl) rfl ⟨Nat.le_of_ble_eq_true rfl, Nat.le_of_ble_eq_true rfl⟩ hx hb hml hown ht hl.1 hPY hPX (apt_YX hap) hKY hDY hS hA hN d_L_law_410 (fun r2 u2 H locs q2 hP hPV hD hS => ?_)
          have hPX := hPV
          obtain ⟨g3, g4⟩ := q2
          rw [g4] at hP hD
          have hPY := hP
          have hDY := hD
          have same : r1 = r2 := g1.trans g3.symm
          refine lv_icmp_eq (tgt := 504) hx hb d_L_law_413 (by decide) (fun c1 => ?_) (fun c1 => ?_)
          · exact go X1 Y1 H locs hJ1 hPX hPY hDX hDY hS
          · exact absurd same c1
        · have hz : z = 10 := hz
          subst hz
          refine lv_tableIn (off := 386) (tgt := 418) hx hb d_L_law_32 (by decide) (by decide) (by decide +kernel) (by decide) ?_
          obtain ⟨sx, sy, an, hx0, hy0, hsq⟩ := sk_seq hJ
          rw [← hx0] at hPX hDX
          rw [← hy0] at hPY hDY
          refine lv_aload_n hx hb d_L_law_418 rfl (lv_at hl 2 rfl) ?_
          refine lv_aload_n hx hb d_L_law_419 rfl (lv_at hl 3 rfl) ?_
          refine lv_iload_n hx hb d_L_law_420 rfl (lv_at hl 0 rfl) ?_
          refine lv_iconst (v := 1) hx hb d_L_law_421 (by decide) ?_
          refine lv_iadd hx hb d_L_law_422 ?_
          refine va_sld hx hb hX hbl hbA hS hv1 d_L_law_423 ?_
          refine law_i (As := [.int (xs (nI i + 1).toNatClampNeg)]) (rest := []) (ci := 2) (q0 := 0) (c_G_skip l dC dI a k sx an (fun j => c_S_proc l dC dI a k (y_T (sy j)) 1000000 rfl (sx j) (an j) (sx (j + 1)) (j_vt (hsq j).1) (hsq j).2.1) (xs (nI i + 1).toNatClampNeg)) k_300 k_301 k_302 k_1 k_303 ⟨rfl, pc_G_skip.1, pc_G_skip.2, pd_G_skip⟩ rfl rfl rfl rfl rfl ⟨Nat.le_of_ble_eq_true rfl, Nat.le_of_ble_eq_true rfl⟩ (Nat.le_of_ble_eq_true rfl) rfl ⟨Nat.le_of_ble_eq_true rfl, Nat.le_of_ble_eq_true rfl⟩ hx hb hml hown ht hl.1 hPX hPY (apt_XY hap) hKX hDX hS hA hN d_L_law_424 (fun r1 u1 H locs q1 hP hPV hD hS => ?_)
          have hPY := hPV
          have hPX := hP
          have hDX := hD
          refine lv_aload_n hx hb d_L_law_427 rfl (lv_at hl 1 rfl) ?_
          refine lv_aload_n hx hb d_L_law_428 rfl (lv_at hl 3 rfl) ?_
          refine lv_iload_n hx hb d_L_law_429 rfl (lv_at hl 0 rfl) ?_
          refine lv_iconst (v := 1) hx hb d_L_law_430 (by decide) ?_
          refine lv_iadd hx hb d_L_law_431 ?_
          refine va_sld hx hb hX hbl hbA hS hv1 d_L_law_432 ?_
          refine law_i (As := [.int (xs (nI i + 1).toNatClampNeg)]) (rest := [.int r1]) (ci := 3) (q0 := 0) (c_M_skip l dC dI bb hh sy an (fun j => c_M_next l dC dI bb hh (sy j) (an j) (sy (j + 1)) (hsq j).2.2) (xs (nI i + 1).toNatClampNeg)) k_492 k_493 k_494 k_4 k_495 ⟨rfl, pc_M_skip.1, pc_M_skip.2, pd_M_skip⟩ rfl rfl rfl rfl rfl ⟨Nat.le_of_ble_eq_true rfl, Nat.le_of_ble_eq_true rfl⟩ (Nat.le_of_ble_eq_true rfl) rfl ⟨Nat.le_of_ble_eq_true rfl, Nat.le_of_ble_eq_true rfl⟩ hx hb hml hown ht hl.1 hPY hPX (apt_YX hap) hKY hDY hS hA hN d_L_law_433 (fun r2 u2 H locs q2 hP hPV hD hS => ?_)
          have hPX := hPV
          have hPY := hP
          have hDY := hD
          obtain ⟨same, hJ1⟩ := j_skip (fun j => (hsq j).1) q1 q2
          refine lv_icmp_eq (tgt := 504) hx hb d_L_law_436 (by decide) (fun c1 => ?_) (fun c1 => ?_)
          · exact go u1 u2 H locs hJ1 hPX hPY hDX hDY hS
          · exact absurd same c1
        · have hz : z = 11 := hz
          subst hz
          refine lv_tableIn (off := 409) (tgt := 441) hx hb d_L_law_32 (by decide) (by decide) (by decide +kernel) (by decide) ?_
          refine lv_aload_n hx hb d_L_law_441 rfl (lv_at hl 2 rfl) ?_
          refine law_i (As := []) (rest := []) (ci := 2) (q0 := 0) (c_G_value l dC dI a k X ) k_304 k_305 k_306 k_1 k_307 ⟨rfl, pc_G_value.1, pc_G_value.2, pd_G_value⟩ rfl rfl rfl rfl rfl ⟨Nat.le_of_ble_eq_true rfl, Nat.le_of_ble_eq_true rfl⟩ (Nat.le_of_ble_eq_true rfl) rfl ⟨Nat.le_of_ble_eq_true rfl, Nat.le_of_ble_eq_true rfl⟩ hx hb hml hown ht hl.1 hPX hPY (apt_XY hap) hKX hDX hS hA hN d_L_law_442 (fun r1 u1 H locs q1 hP hPV hD hS => ?_)
          have hPY := hPV
          obtain ⟨g1, g2⟩ := q1
          rw [g2] at hP hD
          have hPX := hP
          have hDX := hD
          refine lv_aload_n hx hb d_L_law_445 rfl (lv_at hl 1 rfl) ?_
          refine law_i (As := []) (rest := [.int r1]) (ci := 3) (q0 := 0) (c_M_value l dC dI bb hh Y ) k_497 k_498 k_499 k_4 k_500 ⟨rfl, pc_M_value.1, pc_M_value.2, pd_M_value⟩ rfl rfl rfl rfl rfl ⟨Nat.le_of_ble_eq_true rfl, Nat.le_of_ble_eq_true rfl⟩ (Nat.le_of_ble_eq_true rfl) rfl ⟨Nat.le_of_ble_eq_true rfl, Nat.le_of_ble_eq_true rfl⟩ hx hb hml hown ht hl.1 hPY hPX (apt_YX hap) hKY hDY hS hA hN d_L_law_446 (fun r2 u2 H locs q2 hP hPV hD hS => ?_)
          have hPX := hPV
          obtain ⟨g3, g4⟩ := q2
          rw [g4] at hP hD
          have hPY := hP
          have hDY := hD
          have same : r1 = r2 := g1.trans ((j_l hJ).trans g3.symm)
          refine lv_icmp_eq (tgt := 504) hx hb d_L_law_449 (by decide) (fun c1 => ?_) (fun c1 => ?_)
          · exact go X Y H locs hJ hPX hPY hDX hDY hS
          · exact absurd same c1
        · have hz : z = 12 := hz
          subst hz
          refine lv_tableIn (off := 422) (tgt := 454) hx hb d_L_law_32 (by decide) (by decide) (by decide +kernel) (by decide) ?_
          refine lv_aload_n hx hb d_L_law_454 rfl (lv_at hl 2 rfl) ?_
          refine law_i (As := []) (rest := []) (ci := 2) (q0 := 0) (c_G_writes l dC dI a k X ) k_308 k_309 k_310 k_1 k_311 ⟨rfl, pc_G_writes.1, pc_G_writes.2, pd_G_writes⟩ rfl rfl rfl rfl rfl ⟨Nat.le_of_ble_eq_true rfl, Nat.le_of_ble_eq_true rfl⟩ (Nat.le_of_ble_eq_true rfl) rfl ⟨Nat.le_of_ble_eq_true rfl, Nat.le_of_ble_eq_true rfl⟩ hx hb hml hown ht hl.1 hPX hPY (apt_XY hap) hKX hDX hS hA hN d_L_law_455 (fun r1 u1 H locs q1 hP hPV hD hS => ?_)
          have hPY := hPV
          obtain ⟨g1, g2⟩ := q1
          rw [g2] at hP hD
          have hPX := hP
          have hDX := hD
          refine lv_aload_n hx hb d_L_law_458 rfl (lv_at hl 1 rfl) ?_
          refine law_i (As := []) (rest := [.int r1]) (ci := 3) (q0 := 0) (c_M_writes l dC dI bb hh Y ) k_501 k_502 k_503 k_4 k_504 ⟨rfl, pc_M_writes.1, pc_M_writes.2, pd_M_writes⟩ rfl rfl rfl rfl rfl ⟨Nat.le_of_ble_eq_true rfl, Nat.le_of_ble_eq_true rfl⟩ (Nat.le_of_ble_eq_true rfl) rfl ⟨Nat.le_of_ble_eq_true rfl, Nat.le_of_ble_eq_true rfl⟩ hx hb hml hown ht hl.1 hPY hPX (apt_YX hap) hKY hDY hS hA hN d_L_law_459 (fun r2 u2 H locs q2 hP hPV hD hS => ?_)
          have hPX := hPV
          obtain ⟨g3, g4⟩ := q2
          rw [g4] at hP hD
          have hPY := hP
          have hDY := hD
          have same : r1 = r2 := g1.trans (((congrArg g_wc (j_g hJ)).symm).trans g3.symm)
          refine lv_icmp_eq (tgt := 504) hx hb d_L_law_462 (by decide) (fun c1 => ?_) (fun c1 => ?_)
          · exact go X Y H locs hJ hPX hPY hDX hDY hS
          · exact absurd same c1
        · have hz : z = 13 := hz
          subst hz
          refine lv_tableIn (off := 435) (tgt := 467) hx hb d_L_law_32 (by decide) (by decide) (by decide +kernel) (by decide) ?_
          refine lv_aload_n hx hb d_L_law_467 rfl (lv_at hl 2 rfl) ?_
          refine lv_aload_n hx hb d_L_law_468 rfl (lv_at hl 3 rfl) ?_
          refine lv_iload_n hx hb d_L_law_469 rfl (lv_at hl 0 rfl) ?_
          refine lv_iconst (v := 1) hx hb d_L_law_470 (by decide) ?_
          refine lv_iadd hx hb d_L_law_471 ?_
          refine va_sld hx hb hX hbl hbA hS hv1 d_L_law_472 ?_
          refine law_j (As := [.int (xs (nI i + 1).toNatClampNeg)]) (rest := []) (ci := 2) (q0 := 0) (c_G_written l dC dI a k X (xs (nI i + 1).toNatClampNeg) (j_vx hJ)) k_312 k_313 k_314 k_1 k_315 ⟨rfl, pc_G_written.1, pc_G_written.2, pd_G_written⟩ rfl rfl rfl rfl rfl ⟨Nat.le_of_ble_eq_true rfl, Nat.le_of_ble_eq_true rfl⟩ (Nat.le_of_ble_eq_true rfl) rfl ⟨Nat.le_of_ble_eq_true rfl, Nat.le_of_ble_eq_true rfl⟩ hx hb hml hown ht hl.1 hPX hPY (apt_XY hap) hKX hDX hS hA hN d_L_law_473 (fun r1 u1 H locs q1 hP hPV hD hS => ?_)
          have hPY := hPV
          obtain ⟨g1, g2⟩ := q1
          rw [g2] at hP hD
          have hPX := hP
          have hDX := hD
          refine lv_aload_n hx hb d_L_law_476 rfl (lv_at hl 1 rfl) ?_
          refine lv_aload_n hx hb d_L_law_477 rfl (lv_at hl 3 rfl) ?_
          refine lv_iload_n hx hb d_L_law_478 rfl (lv_at hl 0 rfl) ?_
          refine lv_iconst (v := 1) hx hb d_L_law_479 (by decide) ?_
          refine lv_iadd hx hb d_L_law_480 ?_
          refine va_sld hx hb hX hbl hbA hS hv1 d_L_law_481 ?_
          refine law_j (As := [.int (xs (nI i + 1).toNatClampNeg)]) (rest := [.long r1]) (ci := 3) (q0 := 0) (c_M_written l dC dI bb hh Y (xs (nI i + 1).toNatClampNeg) (j_vy hJ)) k_505 k_506 k_507 k_4 k_508 ⟨rfl, pc_M_written.1, pc_M_written.2, pd_M_written⟩ rfl rfl rfl rfl rfl ⟨Nat.le_of_ble_eq_true rfl, Nat.le_of_ble_eq_true rfl⟩ (Nat.le_of_ble_eq_true rfl) rfl ⟨Nat.le_of_ble_eq_true rfl, Nat.le_of_ble_eq_true rfl⟩ hx hb hml hown ht hl.1 hPY hPX (apt_YX hap) hKY hDY hS hA hN d_L_law_482 (fun r2 u2 H locs q2 hP hPV hD hS => ?_)
          have hPX := hPV
          obtain ⟨g3, g4⟩ := q2
          rw [g4] at hP hD
          have hPY := hP
          have hDY := hD
          have same : r1 = r2 := g1.trans ((j_written hJ (xs (nI i + 1).toNatClampNeg)).trans g3.symm)
          refine W.lcmp hx hb d_L_law_485 ?_
          refine lv_if_eq (tgt := 504) hx hb d_L_law_486 (by decide) (fun c1 => ?_) (fun c1 => ?_)
          · exact go X Y H locs hJ hPX hPY hDX hDY hS
          · exact absurd ((lg_cmp_eq _ _).mpr same) c1
        · have hz : z = 14 := hz
          subst hz
          refine lv_tableIn (off := 459) (tgt := 491) hx hb d_L_law_32 (by decide) (by decide) (by decide +kernel) (by decide) ?_
          refine lv_aload_n hx hb d_L_law_491 rfl (lv_at hl 2 rfl) ?_
          refine law_i (As := []) (rest := []) (ci := 2) (q0 := 0) (c_G_cost l dC dI a k X ) k_317 k_318 k_319 k_1 k_320 ⟨rfl, pc_G_cost.1, pc_G_cost.2, pd_G_cost⟩ rfl rfl rfl rfl rfl ⟨Nat.le_of_ble_eq_true rfl, Nat.le_of_ble_eq_true rfl⟩ (Nat.le_of_ble_eq_true rfl) rfl ⟨Nat.le_of_ble_eq_true rfl, Nat.le_of_ble_eq_true rfl⟩ hx hb hml hown ht hl.1 hPX hPY (apt_XY hap) hKX hDX hS hA hN d_L_law_492 (fun r1 u1 H locs q1 hP hPV hD hS => ?_)
          have hPY := hPV
          obtain ⟨g1, g2⟩ := q1
          rw [g2] at hP hD
          have hPX := hP
          have hDX := hD
          refine lv_aload_n hx hb d_L_law_495 rfl (lv_at hl 1 rfl) ?_
          refine law_i (As := []) (rest := [.int r1]) (ci := 3) (q0 := 0) (c_M_cost l dC dI bb hh Y ) k_510 k_511 k_512 k_4 k_513 ⟨rfl, pc_M_cost.1, pc_M_cost.2, pd_M_cost⟩ rfl rfl rfl rfl rfl ⟨Nat.le_of_ble_eq_true rfl, Nat.le_of_ble_eq_true rfl⟩ (Nat.le_of_ble_eq_true rfl) rfl ⟨Nat.le_of_ble_eq_true rfl, Nat.le_of_ble_eq_true rfl⟩ hx hb hml hown ht hl.1 hPY hPX (apt_YX hap) hKY hDY hS hA hN d_L_law_496 (fun r2 u2 H locs q2 hP hPV hD hS => ?_)
          have hPX := hPV
          obtain ⟨g3, g4⟩ := q2
          rw [g4] at hP hD
          have hPY := hP
          have hDY := hD
          have same : r1 = r2 := g1.trans (((congrArg g_sp (j_g hJ)).symm).trans g3.symm)
          refine lv_icmp_eq (tgt := 504) hx hb d_L_law_499 (by decide) (fun c1 => ?_) (fun c1 => ?_)
          · exact go X Y H locs hJ hPX hPY hDX hDY hS
          · exact absurd same c1
        · have hz : z = 15 := hz
          subst hz
          refine lv_tableOut (tgt := 504) hx hb d_L_law_32 (by decide) (by decide) ?_
          exact go X Y H locs hJ hPX hPY hDX hDY hS
  exact loop 512 0 X_0 Y_0 _ _ _ (by omega) (by omega) z_J0 hPX hPY hDX hDY hS hl
