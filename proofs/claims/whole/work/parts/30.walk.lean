/-! Contracts over one world, and the rows for calls that keep it. -/
theorem tb_good {w : Cond} (h : w ∈ lw_g) : (w.onTables && w.keeps) = true ∨ ∃ ty, w = .arrayClass ty := good_of_word (List.mem_filter.mp h).2
theorem good_w {y : MethodName} {b : ByteArray} {n : Nat} {ret : Option FieldType} (hc : Cond.code y b n ret ∈ lw_g) : GoodIn lw_g (Cond.code y b n ret :: lw_g) := fun w h => by
  rcases List.mem_cons.mp h with h | h
  · rw [h]; exact ⟨hc, tb_good hc⟩
  · exact ⟨h, tb_good h⟩
theorem good_V {own C : String} {idx : Nat} {y : MethodName} {b : ByteArray} {n : Nat} {ret : Option FieldType} (h1 : Cond.methodLink own idx y ∈ lw_g) (h2 : Cond.instanceMethod y ∈ lw_g) (h3 : Cond.selects C y y ∈ lw_g) (h4 : Cond.initialized C ∈ lw_g) (hc : Cond.code y b n ret ∈ lw_g) : GoodIn lw_g (wsV own idx C y (Cond.code y b n ret :: lw_g)) := fun w h => by
  unfold wsV at h
  rcases List.mem_append.mp h with h | h
  · have h9 : w ∈ lw_g := by
      simp only [List.mem_cons, List.not_mem_nil, or_false] at h
      rcases h with h | h | h | h <;> rw [h] <;> assumption
    exact ⟨h9, tb_good h9⟩
  · exact good_w hc w h
theorem good_S {own : String} {idx : Nat} {y : MethodName} {b : ByteArray} {n : Nat} {ret : Option FieldType} (h1 : Cond.methodLink own idx y ∈ lw_g) (h2 : Cond.static y ∈ lw_g) (h4 : Cond.initialized own ∈ lw_g) (hc : Cond.code y b n ret ∈ lw_g) : GoodIn lw_g (wsS own idx y (Cond.code y b n ret :: lw_g)) := fun w h => by
  unfold wsS at h
  rcases List.mem_append.mp h with h | h
  · have h9 : w ∈ lw_g := by
      simp only [List.mem_cons, List.not_mem_nil, or_false] at h
      rcases h with h | h | h <;> rw [h] <;> assumption
    exact ⟨h9, tb_good h9⟩
  · exact good_w hc w h
section ZW
variable {S : Type}
def zPre (dC : Nat → ClassId) (dI : Nat → Nat → Nat) (tys : List (ClassId × FieldType)) (w : S → va_W) (s0 : S) (sz : Nat) (U : State) : Prop :=
  U.heap.size = sz ∧ va_P (dC, dI) vwCl (w s0) U.heap ∧ va_K (dC, dI) vwCl tys U ∧ va_D (fun _ => True) (w s0) ∧ zN U
def zAft (dC : Nat → ClassId) (dI : Nat → Nat → Nat) (tys : List (ClassId × FieldType)) (w : S → va_W) (A : Nat → Prop) (u : S) (t : State) : Prop :=
  va_P (dC, dI) vwCl (w u) t.heap ∧ va_K (dC, dI) vwCl tys t ∧ va_D A (w u)
def MetI (l : Launch) (y : MethodName) (ws : List Cond) (rm : Room) (dC : Nat → ClassId) (dI : Nat → Nat → Nat) (tys : List (ClassId × FieldType)) (w : S → va_W) (As : List Value) (s0 : S) (post : Int32 → S → Prop) : Prop :=
  ∀ sz : Nat, Met l y ws rm (va_Pc As (zPre dC dI tys w s0 sz)) (va_Qi post (zAft dC dI tys w (va_A (w s0) sz)) (va_A (w s0) sz)) 0 0 (va_A (w s0) sz)
def MetJ (l : Launch) (y : MethodName) (ws : List Cond) (rm : Room) (dC : Nat → ClassId) (dI : Nat → Nat → Nat) (tys : List (ClassId × FieldType)) (w : S → va_W) (As : List Value) (s0 : S) (post : Int64 → S → Prop) : Prop :=
  ∀ sz : Nat, Met l y ws rm (va_Pc As (zPre dC dI tys w s0 sz)) (va_Ql post (zAft dC dI tys w (va_A (w s0) sz)) (va_A (w s0) sz)) 0 0 (va_A (w s0) sz)
def MetV (l : Launch) (y : MethodName) (ws : List Cond) (rm : Room) (dC : Nat → ClassId) (dI : Nat → Nat → Nat) (tys : List (ClassId × FieldType)) (w : S → va_W) (As : List Value) (s0 : S) (post : S → Prop) : Prop :=
  ∀ sz : Nat, Met l y ws rm (va_Pc As (zPre dC dI tys w s0 sz)) (va_Qv post (zAft dC dI tys w (va_A (w s0) sz)) (va_A (w s0) sz)) 0 0 (va_A (w s0) sz)
variable {l : Launch} {y : MethodName} {ws ws' : List Cond} {rm : Room} {dC : Nat → ClassId} {dI : Nat → Nat → Nat} {tys : List (ClassId × FieldType)} {w : S → va_W} {As : List Value} {s0 : S} {cc : ByteArray} {maxL : Nat} {ret : Option FieldType}
/-- what a walk begins with -/
def zGo (l : Launch) (y : MethodName) (ws : List Cond) (rm : Room) (dC : Nat → ClassId) (dI : Nat → Nat → Nat) (tys : List (ClassId × FieldType)) (w : S → va_W) (As : List Value) (s0 : S) (cc : ByteArray) (maxL : Nat) (ret : Option FieldType) (Qc : (Nat → Prop) → Array Value → State → Outcome → State → Prop) : Prop :=
  ∀ (p : Program) (e : Env) (s : State) (m : MethodId) (args : Array Value) (below : List Frame) (meth : Method) (c : Code) (A : Nat → Prop) (ls : Array Slot),
    p.tables.exec = Jvm.exec → c.code = cc → meth.sig.returnType = ret → (∀ w ∈ ws, w.before args s = true) → s.vm.findClass y.cls = some m.cls → meth.locks = false → c.maxLocals = maxL → (∀ q, s.heap.size ≤ q → A q) → va_P (dC, dI) vwCl (w s0) s.heap → va_K (dC, dI) vwCl tys s → va_D A (w s0) → va_S A s.heap s.heap [] → zN s → lv_has ls maxL (lv_args 0 As) →
    W p l e rm s m args below meth c s.heap [] 0 0 (MQ below (Qc A) args s 0 0 A) (F0 m 0 ls [])
theorem metI_of {post : Int32 → S → Prop} (hy : plainName y.cls = true) (hw : ws = Cond.code y cc maxL ret :: ws') (hlen : (lg_sl As).length ≤ maxL) (body : zGo l y ws rm dC dI tys w As s0 cc maxL ret (fun A => va_Qi post (zAft dC dI tys w A) A)) : MetI l y ws rm dC dI tys w As s0 post := by
  intro sz
  refine Met.ofW (cc := cc) (maxL := maxL) (ret := ret) hy hw ?_
  intro p e s m args below meth c s₁ B hml hv
  obtain ⟨rfl, hsz, hP, hK, hD0, hN⟩ := hv
  subst hsz
  have hl := lv_entry As hlen
  rw [lg_entry_eq]
  exact body p e s m _ below meth c _ _ B.exec B.bytes B.returns (atoms_spec (ws := ws) B.pre) (findClass_of_methodNamed B.named) B.notSynchronized hml (fun q h => Or.inr h) hP hK hD0.self va_S.rf hN hl
theorem metJ_of {post : Int64 → S → Prop} (hy : plainName y.cls = true) (hw : ws = Cond.code y cc maxL ret :: ws') (hlen : (lg_sl As).length ≤ maxL) (body : zGo l y ws rm dC dI tys w As s0 cc maxL ret (fun A => va_Ql post (zAft dC dI tys w A) A)) : MetJ l y ws rm dC dI tys w As s0 post := by
  intro sz
  refine Met.ofW (cc := cc) (maxL := maxL) (ret := ret) hy hw ?_
  intro p e s m args below meth c s₁ B hml hv
  obtain ⟨rfl, hsz, hP, hK, hD0, hN⟩ := hv
  subst hsz
  have hl := lv_entry As hlen
  rw [lg_entry_eq]
  exact body p e s m _ below meth c _ _ B.exec B.bytes B.returns (atoms_spec (ws := ws) B.pre) (findClass_of_methodNamed B.named) B.notSynchronized hml (fun q h => Or.inr h) hP hK hD0.self va_S.rf hN hl
theorem metV_of {post : S → Prop} (hy : plainName y.cls = true) (hw : ws = Cond.code y cc maxL ret :: ws') (hlen : (lg_sl As).length ≤ maxL) (body : zGo l y ws rm dC dI tys w As s0 cc maxL ret (fun A => va_Qv post (zAft dC dI tys w A) A)) : MetV l y ws rm dC dI tys w As s0 post := by
  intro sz
  refine Met.ofW (cc := cc) (maxL := maxL) (ret := ret) hy hw ?_
  intro p e s m args below meth c s₁ B hml hv
  obtain ⟨rfl, hsz, hP, hK, hD0, hN⟩ := hv
  subst hsz
  have hl := lv_entry As hlen
  rw [lg_entry_eq]
  exact body p e s m _ below meth c _ _ B.exec B.bytes B.returns (atoms_spec (ws := ws) B.pre) (findClass_of_methodNamed B.named) B.notSynchronized hml (fun q h => Or.inr h) hP hK hD0.self va_S.rf hN hl
end ZW
section ZR
variable {S : Type} {p : Program} {l : Launch} {e : Env} {R : Room} {s : State} {m : MethodId} {args : Array Value} {below : List Frame} {meth : Method} {c : Code} {H : Heap} {locs : List Loc} {Q : State → Prop} {cc : ByteArray} {pc : Nat} {ls : Array Slot} {dC : Nat → ClassId} {dI : Nat → Nat → Nat} {tys : List (ClassId × FieldType)} {w : S → va_W} {A : Nat → Prop}
theorem ret_i {post : Int32 → S → Prop} {v : Int32} {u : S} (hx : p.tables.exec = Jvm.exec) (hb : c.code = cc) (hr : meth.sig.returnType = some .int) (hlocks : meth.locks = false) (hP : va_P (dC, dI) vwCl (w u) H) (hK : va_K (dC, dI) vwCl tys s) (hD : va_D A (w u)) (hS : va_S A s.heap H locs) (hdg : decode cc pc = .ok (.ireturn, 1)) (hpost : post v u) : W p l e R s m args below meth c H locs 0 0 (MQ below (va_Qi post (zAft dC dI tys w A) A) args s 0 0 A) (F0 m pc ls [.int v]) :=
  W.iret hx hb hr (fun t ht hW => ⟨⟨v, u, rfl, hpost, by rw [ht]; exact hP, va_K.moved hW.alike hK, hD⟩, hS.F ht⟩) hS.2.2 hdg hlocks
theorem ret_z {post : Int32 → S → Prop} {v : Int32} {u : S} (hx : p.tables.exec = Jvm.exec) (hb : c.code = cc) (hr : meth.sig.returnType = some .boolean) (hlocks : meth.locks = false) (hP : va_P (dC, dI) vwCl (w u) H) (hK : va_K (dC, dI) vwCl tys s) (hD : va_D A (w u)) (hS : va_S A s.heap H locs) (hdg : decode cc pc = .ok (.ireturn, 1)) (hn : narrow .boolean (.int v) = .int v) (hpost : post v u) : W p l e R s m args below meth c H locs 0 0 (MQ below (va_Qi post (zAft dC dI tys w A) A) args s 0 0 A) (F0 m pc ls [.int v]) :=
  W.zret hx hb hr hn (fun t ht hW => ⟨⟨v, u, rfl, hpost, by rw [ht]; exact hP, va_K.moved hW.alike hK, hD⟩, hS.F ht⟩) hS.2.2 hdg hlocks
theorem ret_v {post : S → Prop} {u : S} (hx : p.tables.exec = Jvm.exec) (hb : c.code = cc) (hr : meth.sig.returnType = none) (hlocks : meth.locks = false) (hP : va_P (dC, dI) vwCl (w u) H) (hK : va_K (dC, dI) vwCl tys s) (hD : va_D A (w u)) (hS : va_S A s.heap H locs) (hdg : decode cc pc = .ok (.return_, 1)) (hpost : post u) : W p l e R s m args below meth c H locs 0 0 (MQ below (va_Qv post (zAft dC dI tys w A) A) args s 0 0 A) (F0 m pc ls []) :=
  W.vret hx hb hr (fun t ht hW => ⟨⟨u, rfl, hpost, by rw [ht]; exact hP, va_K.moved hW.alike hK, hD⟩, hS.F ht⟩) hS.2.2 hdg hlocks
theorem z_free {s0 : S} {H0 : Heap} (hD : va_D A (w s0)) (hS : va_S A H0 H locs) (hA : ∀ q, H0.size ≤ q → A q) : ∀ q, va_A (w s0) H.size q → A q := fun q h => by
  rcases h with ⟨k, e, h⟩ | h
  · exact hD.2 k _ h
  · exact hA q (Nat.le_trans hS.1 h)
theorem z_blind {s0 : S} {As : List Value} {sz : Nat} : FrameBlind (va_Pc As (zPre dC dI tys w s0 sz)) := fun a U g mk q => by
  obtain ⟨q0, q1, qP, qK, qD, qN⟩ := q
  exact ⟨q0, q1, qP, va_K.moved (u := U) (U := U.calling g mk a) (Vm.Alike.refl U.vm) qK, qD, zN_vm (U := U) rfl qN⟩
theorem z_pre {s0 : S} {As : List Value} (hP : va_P (dC, dI) vwCl (w s0) H) (hK : va_K (dC, dI) vwCl tys s) (hD : va_D A (w s0)) (hN : zN s) : ∀ U : State, U.heap = H → s.WarmedH U.vm → va_Pc As (zPre dC dI tys w s0 H.size) As.toArray U := fun U hU hW =>
  ⟨rfl, by rw [hU], by rw [hU]; exact hP, va_K.moved hW.alike hK, hD.weaken (fun _ _ _ _ => trivial), zN_warm hW hN⟩
variable {st0 : List Value} {own C : String} {idx nL maxL ci q0 q : Nat} {y : MethodName} {b : ByteArray} {ret : Option FieldType} {rm : Room} {As rest : List Value} {s0 : S} {fs : List Value} {cn : vw_C}
theorem call_i {post : Int32 → S → Prop} (hM : MetI l y (Cond.code y b maxL ret :: lw_g) rm dC dI tys w (.ref q :: As) s0 post) (h1 : Cond.methodLink own idx y ∈ lw_g) (h2 : Cond.instanceMethod y ∈ lw_g) (h3 : Cond.selects C y y ∈ lw_g) (h4 : Cond.initialized C ∈ lw_g) (hc : Cond.code y b maxL ret ∈ lw_g)
    (hd : y.cls = C ∧ y.cls ≠ "java/lang/invoke/MethodHandle" ∧ y.cls ≠ "java/lang/invoke/VarHandle" ∧ (parseMethodDescriptor y.desc).map (fun d => d.parameters.length) = some As.length) (hcl : vwCl[ci]? = some cn) (hcn : cn.1 = C) (he : (w s0)[q0]? = some (q, .inr (ci, fs))) (hrc : rm.cells = 0) (hrs : rm.slots = 0) (hR : rm.frames + 1 ≤ R.frames ∧ 8 + (maxL + 11) + rm.locals ≤ R.locals) (hst : (rest.map fun v => v.category).sum ≤ 8) (hstk : st0 = As.reverse ++ .ref q :: rest)
    (hx : p.tables.exec = Jvm.exec) (hb : c.code = cc) (hml : c.maxLocals = nL) (hown : s.vm.findClass own = some m.cls) (ht : ∀ w ∈ lw_g, w.before args s = true) (hls : ls.size = nL) (hP : va_P (dC, dI) vwCl (w s0) H) (hK : va_K (dC, dI) vwCl tys s) (hD : va_D A (w s0)) (hS : va_S A s.heap H locs) (hA : ∀ q, s.heap.size ≤ q → A q) (hN : zN s) (hdg : decode cc pc = .ok (.invokevirtual idx, 3))
    (kk : ∀ (r : Int32) (u : S) (H1 : Heap) (locs1 : List Loc), post r u → va_P (dC, dI) vwCl (w u) H1 → va_D A (w u) → va_S A s.heap H1 locs1 → W p l e R s m args below meth c H1 locs1 0 0 Q (F0 m (pc + 3) ls (.int r :: rest))) : W p l e R s m args below meth c H locs 0 0 Q (F0 m pc ls st0) := by
  have hF := z_free hD hS hA
  refine va_calli (va_runV (As := As) (rest := rest) ⟨hx, hb, hml, hown, ht⟩ (hM H.size) (cwV (C := C) As.length ht (good_V h1 h2 h3 h4 hc) rfl hrc hrs hd hR) ⟨z_blind, by rw [← hcn]; exact va_recv hK hP hcl he, z_pre hP hK hD hN⟩ rfl rfl hls hstk (lv_room hst) hdg ⟨Nat.zero_le _, Nat.zero_le _⟩) hS (fun q _ h => hF q h) hF (fun r u t H1 locs ht' hvm hpost hB hz hk hS1 => ?_)
  obtain ⟨hP1, hK1, hD1⟩ := hB
  rw [ht'] at hP1
  exact kk r u H1 locs hpost hP1 (hD1.weaken (fun _ q _ h => hF q.1 h)) hS1
theorem call_v {post : S → Prop} (hM : MetV l y (Cond.code y b maxL ret :: lw_g) rm dC dI tys w (.ref q :: As) s0 post) (h1 : Cond.methodLink own idx y ∈ lw_g) (h2 : Cond.instanceMethod y ∈ lw_g) (h3 : Cond.selects C y y ∈ lw_g) (h4 : Cond.initialized C ∈ lw_g) (hc : Cond.code y b maxL ret ∈ lw_g)
    (hd : y.cls = C ∧ y.cls ≠ "java/lang/invoke/MethodHandle" ∧ y.cls ≠ "java/lang/invoke/VarHandle" ∧ (parseMethodDescriptor y.desc).map (fun d => d.parameters.length) = some As.length) (hcl : vwCl[ci]? = some cn) (hcn : cn.1 = C) (he : (w s0)[q0]? = some (q, .inr (ci, fs))) (hrc : rm.cells = 0) (hrs : rm.slots = 0) (hR : rm.frames + 1 ≤ R.frames ∧ 8 + (maxL + 11) + rm.locals ≤ R.locals) (hst : (rest.map fun v => v.category).sum ≤ 8) (hstk : st0 = As.reverse ++ .ref q :: rest)
    (hx : p.tables.exec = Jvm.exec) (hb : c.code = cc) (hml : c.maxLocals = nL) (hown : s.vm.findClass own = some m.cls) (ht : ∀ w ∈ lw_g, w.before args s = true) (hls : ls.size = nL) (hP : va_P (dC, dI) vwCl (w s0) H) (hK : va_K (dC, dI) vwCl tys s) (hD : va_D A (w s0)) (hS : va_S A s.heap H locs) (hA : ∀ q, s.heap.size ≤ q → A q) (hN : zN s) (hdg : decode cc pc = .ok (.invokevirtual idx, 3))
    (kk : ∀ (u : S) (H1 : Heap) (locs1 : List Loc), post u → va_P (dC, dI) vwCl (w u) H1 → va_D A (w u) → va_S A s.heap H1 locs1 → W p l e R s m args below meth c H1 locs1 0 0 Q (F0 m (pc + 3) ls rest)) : W p l e R s m args below meth c H locs 0 0 Q (F0 m pc ls st0) := by
  have hF := z_free hD hS hA
  refine va_callv (va_runV (As := As) (rest := rest) ⟨hx, hb, hml, hown, ht⟩ (hM H.size) (cwV (C := C) As.length ht (good_V h1 h2 h3 h4 hc) rfl hrc hrs hd hR) ⟨z_blind, by rw [← hcn]; exact va_recv hK hP hcl he, z_pre hP hK hD hN⟩ rfl rfl hls hstk (lv_room hst) hdg ⟨Nat.zero_le _, Nat.zero_le _⟩) hS (fun q _ h => hF q h) hF (fun u t H1 locs ht' hvm hpost hB hz hk hS1 => ?_)
  obtain ⟨hP1, hK1, hD1⟩ := hB
  rw [ht'] at hP1
  exact kk u H1 locs hpost hP1 (hD1.weaken (fun _ q _ h => hF q.1 h)) hS1
theorem call_s {post : Int32 → S → Prop} (hM : MetI l y (Cond.code y b maxL ret :: lw_g) rm dC dI tys w As s0 post) (h1 : Cond.methodLink own idx y ∈ lw_g) (h2 : Cond.static y ∈ lw_g) (h4 : Cond.initialized own ∈ lw_g) (hc : Cond.code y b maxL ret ∈ lw_g)
    (hd : y.cls = own ∧ y.cls ≠ "java/lang/invoke/MethodHandle" ∧ y.cls ≠ "java/lang/invoke/VarHandle" ∧ (parseMethodDescriptor y.desc).map (fun d => d.parameters.length) = some As.length) (hrc : rm.cells = 0) (hrs : rm.slots = 0) (hR : rm.frames + 1 ≤ R.frames ∧ 8 + (maxL + 11) + rm.locals ≤ R.locals) (hst : (rest.map fun v => v.category).sum ≤ 8) (hstk : st0 = As.reverse ++ rest)
    (hx : p.tables.exec = Jvm.exec) (hb : c.code = cc) (hml : c.maxLocals = nL) (hown : s.vm.findClass own = some m.cls) (ht : ∀ w ∈ lw_g, w.before args s = true) (hls : ls.size = nL) (hP : va_P (dC, dI) vwCl (w s0) H) (hK : va_K (dC, dI) vwCl tys s) (hD : va_D A (w s0)) (hS : va_S A s.heap H locs) (hA : ∀ q, s.heap.size ≤ q → A q) (hN : zN s) (hdg : decode cc pc = .ok (.invokestatic idx, 3))
    (kk : ∀ (r : Int32) (u : S) (H1 : Heap) (locs1 : List Loc), post r u → va_P (dC, dI) vwCl (w u) H1 → va_D A (w u) → va_S A s.heap H1 locs1 → W p l e R s m args below meth c H1 locs1 0 0 Q (F0 m (pc + 3) ls (.int r :: rest))) : W p l e R s m args below meth c H locs 0 0 Q (F0 m pc ls st0) := by
  have hF := z_free hD hS hA
  refine va_calli (va_runS (As := As) (rest := rest) ⟨hx, hb, hml, hown, ht⟩ (hM H.size) (cwS As.length ht (good_S h1 h2 h4 hc) rfl hrc hrs hd hR) ⟨z_blind, z_pre hP hK hD hN⟩ rfl rfl hls hstk (lv_room hst) hdg ⟨Nat.zero_le _, Nat.zero_le _⟩) hS (fun q _ h => hF q h) hF (fun r u t H1 locs ht' hvm hpost hB hz hk hS1 => ?_)
  obtain ⟨hP1, hK1, hD1⟩ := hB
  rw [ht'] at hP1
  exact kk r u H1 locs hpost hP1 (hD1.weaken (fun _ q _ h => hF q.1 h)) hS1
theorem call_sj {post : Int64 → S → Prop} (hM : MetJ l y (Cond.code y b maxL ret :: lw_g) rm dC dI tys w As s0 post) (h1 : Cond.methodLink own idx y ∈ lw_g) (h2 : Cond.static y ∈ lw_g) (h4 : Cond.initialized own ∈ lw_g) (hc : Cond.code y b maxL ret ∈ lw_g)
    (hd : y.cls = own ∧ y.cls ≠ "java/lang/invoke/MethodHandle" ∧ y.cls ≠ "java/lang/invoke/VarHandle" ∧ (parseMethodDescriptor y.desc).map (fun d => d.parameters.length) = some As.length) (hrc : rm.cells = 0) (hrs : rm.slots = 0) (hR : rm.frames + 1 ≤ R.frames ∧ 8 + (maxL + 11) + rm.locals ≤ R.locals) (hst : (rest.map fun v => v.category).sum ≤ 8) (hstk : st0 = As.reverse ++ rest)
    (hx : p.tables.exec = Jvm.exec) (hb : c.code = cc) (hml : c.maxLocals = nL) (hown : s.vm.findClass own = some m.cls) (ht : ∀ w ∈ lw_g, w.before args s = true) (hls : ls.size = nL) (hP : va_P (dC, dI) vwCl (w s0) H) (hK : va_K (dC, dI) vwCl tys s) (hD : va_D A (w s0)) (hS : va_S A s.heap H locs) (hA : ∀ q, s.heap.size ≤ q → A q) (hN : zN s) (hdg : decode cc pc = .ok (.invokestatic idx, 3))
    (kk : ∀ (r : Int64) (u : S) (H1 : Heap) (locs1 : List Loc), post r u → va_P (dC, dI) vwCl (w u) H1 → va_D A (w u) → va_S A s.heap H1 locs1 → W p l e R s m args below meth c H1 locs1 0 0 Q (F0 m (pc + 3) ls (.long r :: rest))) : W p l e R s m args below meth c H locs 0 0 Q (F0 m pc ls st0) := by
  have hF := z_free hD hS hA
  refine va_calll (va_runS (As := As) (rest := rest) ⟨hx, hb, hml, hown, ht⟩ (hM H.size) (cwS As.length ht (good_S h1 h2 h4 hc) rfl hrc hrs hd hR) ⟨z_blind, z_pre hP hK hD hN⟩ rfl rfl hls hstk (lv_room hst) hdg ⟨Nat.zero_le _, Nat.zero_le _⟩) hS (fun q _ h => hF q h) hF (fun r u t H1 locs ht' hvm hpost hB hz hk hS1 => ?_)
  obtain ⟨hP1, hK1, hD1⟩ := hB
  rw [ht'] at hP1
  exact kk r u H1 locs hpost hP1 (hD1.weaken (fun _ q _ h => hF q.1 h)) hS1
theorem call_j {post : Int64 → S → Prop} (hM : MetJ l y (Cond.code y b maxL ret :: lw_g) rm dC dI tys w (.ref q :: As) s0 post) (h1 : Cond.methodLink own idx y ∈ lw_g) (h2 : Cond.instanceMethod y ∈ lw_g) (h3 : Cond.selects C y y ∈ lw_g) (h4 : Cond.initialized C ∈ lw_g) (hc : Cond.code y b maxL ret ∈ lw_g)
    (hd : y.cls = C ∧ y.cls ≠ "java/lang/invoke/MethodHandle" ∧ y.cls ≠ "java/lang/invoke/VarHandle" ∧ (parseMethodDescriptor y.desc).map (fun d => d.parameters.length) = some As.length) (hcl : vwCl[ci]? = some cn) (hcn : cn.1 = C) (he : (w s0)[q0]? = some (q, .inr (ci, fs))) (hrc : rm.cells = 0) (hrs : rm.slots = 0) (hR : rm.frames + 1 ≤ R.frames ∧ 8 + (maxL + 11) + rm.locals ≤ R.locals) (hst : (rest.map fun v => v.category).sum ≤ 8) (hstk : st0 = As.reverse ++ .ref q :: rest)
    (hx : p.tables.exec = Jvm.exec) (hb : c.code = cc) (hml : c.maxLocals = nL) (hown : s.vm.findClass own = some m.cls) (ht : ∀ w ∈ lw_g, w.before args s = true) (hls : ls.size = nL) (hP : va_P (dC, dI) vwCl (w s0) H) (hK : va_K (dC, dI) vwCl tys s) (hD : va_D A (w s0)) (hS : va_S A s.heap H locs) (hA : ∀ q, s.heap.size ≤ q → A q) (hN : zN s) (hdg : decode cc pc = .ok (.invokevirtual idx, 3))
    (kk : ∀ (r : Int64) (u : S) (H1 : Heap) (locs1 : List Loc), post r u → va_P (dC, dI) vwCl (w u) H1 → va_D A (w u) → va_S A s.heap H1 locs1 → W p l e R s m args below meth c H1 locs1 0 0 Q (F0 m (pc + 3) ls (.long r :: rest))) : W p l e R s m args below meth c H locs 0 0 Q (F0 m pc ls st0) := by
  have hF := z_free hD hS hA
  refine va_calll (va_runV (As := As) (rest := rest) ⟨hx, hb, hml, hown, ht⟩ (hM H.size) (cwV (C := C) As.length ht (good_V h1 h2 h3 h4 hc) rfl hrc hrs hd hR) ⟨z_blind, by rw [← hcn]; exact va_recv hK hP hcl he, z_pre hP hK hD hN⟩ rfl rfl hls hstk (lv_room hst) hdg ⟨Nat.zero_le _, Nat.zero_le _⟩) hS (fun q _ h => hF q h) hF (fun r u t H1 locs ht' hvm hpost hB hz hk hS1 => ?_)
  obtain ⟨hP1, hK1, hD1⟩ := hB
  rw [ht'] at hP1
  exact kk r u H1 locs hpost hP1 (hD1.weaken (fun _ q _ h => hF q.1 h)) hS1
theorem call_n {host : String} {post : Int32 → S → Prop} (hM : MetI l y (Cond.code y b maxL ret :: lw_g) rm dC dI tys w As s0 post) (h1 : va_Nw (Cond.methodLinkNest own idx y host) s) (h2 : Cond.static y ∈ lw_g) (h4 : Cond.initialized y.cls ∈ lw_g) (hc : Cond.code y b maxL ret ∈ lw_g)
    (hd : y.cls ≠ "java/lang/invoke/MethodHandle" ∧ y.cls ≠ "java/lang/invoke/VarHandle" ∧ (parseMethodDescriptor y.desc).map (fun d => d.parameters.length) = some As.length) (hrc : rm.cells = 0) (hrs : rm.slots = 0) (hR : rm.frames + 1 ≤ R.frames ∧ 8 + (maxL + 11) + rm.locals ≤ R.locals) (hst : (rest.map fun v => v.category).sum ≤ 8) (hstk : st0 = As.reverse ++ rest)
    (hx : p.tables.exec = Jvm.exec) (hb : c.code = cc) (hml : c.maxLocals = nL) (hown : s.vm.findClass own = some m.cls) (ht : ∀ w ∈ lw_g, w.before args s = true) (hls : ls.size = nL) (hP : va_P (dC, dI) vwCl (w s0) H) (hK : va_K (dC, dI) vwCl tys s) (hD : va_D A (w s0)) (hS : va_S A s.heap H locs) (hA : ∀ q, s.heap.size ≤ q → A q) (hN : zN s) (hdg : decode cc pc = .ok (.invokestatic idx, 3))
    (kk : ∀ (r : Int32) (u : S) (H1 : Heap) (locs1 : List Loc), post r u → va_P (dC, dI) vwCl (w u) H1 → va_D A (w u) → va_S A s.heap H1 locs1 → W p l e R s m args below meth c H1 locs1 0 0 Q (F0 m (pc + 3) ls (.int r :: rest))) : W p l e R s m args below meth c H locs 0 0 Q (F0 m pc ls st0) := by
  have hF := z_free hD hS hA
  refine va_calli (va_runSN (As := As) (rest := rest) ⟨hx, hb, hml, hown, ht⟩ (hM H.size) ⟨va_cnB As.length ht (good_w hc) rfl hrc hrs h1 (ht _ h4) hd hR, ht _ h2, trivial⟩ ⟨z_blind, z_pre hP hK hD hN⟩ rfl rfl hls hstk (lv_room hst) hdg ⟨Nat.zero_le _, Nat.zero_le _⟩) hS (fun q _ h => hF q h) hF (fun r u t H1 locs ht' hvm hpost hB hz hk hS1 => ?_)
  obtain ⟨hP1, hK1, hD1⟩ := hB
  rw [ht'] at hP1
  exact kk r u H1 locs hpost hP1 (hD1.weaken (fun _ q _ h => hF q.1 h)) hS1
theorem ret_l {post : Int64 → S → Prop} {v : Int64} {u : S} (hx : p.tables.exec = Jvm.exec) (hb : c.code = cc) (hr : meth.sig.returnType = some .long) (hlocks : meth.locks = false) (hP : va_P (dC, dI) vwCl (w u) H) (hK : va_K (dC, dI) vwCl tys s) (hD : va_D A (w u)) (hS : va_S A s.heap H locs) (hdg : decode cc pc = .ok (.lreturn, 1)) (hpost : post v u) : W p l e R s m args below meth c H locs 0 0 (MQ below (va_Ql post (zAft dC dI tys w A) A) args s 0 0 A) (F0 m pc ls [.long v]) :=
  W.lret hx hb hr (fun t ht hW => ⟨⟨v, u, rfl, hpost, by rw [ht]; exact hP, va_K.moved hW.alike hK, hD⟩, hS.F ht⟩) hS.2.2 hdg hlocks
end ZR
/-- a room of n frames that makes nothing -/
def rmN (n : Nat) : Room := { frames := n, cells := 0, slots := 0, locals := 40 * n }
theorem rm_le {n N maxL : Nat} (h : n + 1 ≤ N) (hm : maxL ≤ 21) : (rmN n).frames + 1 ≤ (rmN N).frames ∧ 8 + (maxL + 11) + (rmN n).locals ≤ (rmN N).locals := by
  refine ⟨h, ?_⟩
  show 8 + (maxL + 11) + 40 * n ≤ 40 * N
  omega
/-- every question at depth d is answered as p_all says -/
def AskOK (l : Launch) (dC : Nat → ClassId) (dI : Nat → Nat → Nat) (a : Nat → Nat) (k : Nat → ClassId) (X : zX) (T : zT) (M d : Nat) : Prop := ∀ (e : Int32) (s : zC), Tr (x_F X) T d e → Wk s →
  MetI l y_S_ask w_S_ask (rmN (5 * d + 3)) dC dI (yX k) (wS a k X) [.ref (a 1), .int e] s (fun r u => p_all (x_F X) M d e s = (r, u) ∧ Wk u)
-- the written count stays: by equations whose sides differ in names alone
theorem pg_1 {α β γ δ : Type} (a b : α) (t : β × γ × δ) : (a, t).2.2.2 = (b, t).2.2.2 := rfl
theorem pg_2 {α β γ δ : Type} (x : α) (a b : β) (t : γ × δ) : (x, a, t).2.2.2 = (x, b, t).2.2.2 := rfl
theorem pg_3 {α β γ δ : Type} (x : α) (y : β) (a b : γ) (t : δ) : (x, y, a, t).2.2.2 = (x, y, b, t).2.2.2 := rfl
theorem pw_1 {α β γ δ : Type} (a b : α) (t : β × γ × δ) : (a, t).2.2.1 = (b, t).2.2.1 := rfl
theorem kg_st (s : zC) (e v : Int32) : c_g (s_st s e v) = c_g s := pg_1 (upd s.1 (ix e) v) s.1 s.2
theorem kg_rs (s : zC) (e v : Int32) : c_g (s_rs s e v) = c_g s := pg_2 s.1 (upd s.2.1 (ix e) v) s.2.1 s.2.2
theorem kg_ct (s : zC) (e : Int32) (v : Int64) : c_g (s_ct s e v) = c_g s := pg_3 s.1 s.2.1 (vp_updL s.2.2.1 (ix e) v) s.2.2.1 s.2.2.2
theorem kw_va (g : zG) (k v : Int32) : g_wc (h_va g k v) = g_wc g := pw_1 (upd g.1 (ix k) v) g.1 g.2
theorem wk_st {s : zC} {e v : Int32} (h : Wk s) : Wk (s_st s e v) := by
  obtain ⟨n, hn, h⟩ := h
  exact ⟨n, hn, (congrArg g_wc (kg_st s e v)).trans h⟩
theorem wk_rs {s : zC} {e v : Int32} (h : Wk s) : Wk (s_rs s e v) := by
  obtain ⟨n, hn, h⟩ := h
  exact ⟨n, hn, (congrArg g_wc (kg_rs s e v)).trans h⟩
theorem wk_ct {s : zC} {e : Int32} {v : Int64} (h : Wk s) : Wk (s_ct s e v) := by
  obtain ⟨n, hn, h⟩ := h
  exact ⟨n, hn, (congrArg g_wc (kg_ct s e v)).trans h⟩
theorem wk_va {s : zC} {k v : Int32} (h : Wk s) : Wk (s_g s (h_va (c_g s) k v)) := by
  obtain ⟨n, hn, h⟩ := h
  exact ⟨n, hn, (kw_va (c_g s) k v).trans h⟩
theorem wk_sp {s : zC} (h : Wk s) : Wk (s_g s (h_sp (c_g s))) := by
  obtain ⟨n, hn, h⟩ := h
  exact ⟨n, hn, h⟩
