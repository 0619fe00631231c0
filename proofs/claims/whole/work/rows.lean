section
/-! Pure pictures of both sides, in the raw numbers of the bytecode: Int32, Int64, rows as functions of Nat. -/
abbrev ix (i : Int32) : Nat := i.toNatClampNeg
/-- shared by both sides: variables, written values, how many, the cost -/
abbrev zG : Type := (Nat → Int32) × (Nat → Int32) × Int32 × Int32
/-- the search: stage, result, counter, shared -/
abbrev zC : Type := (Nat → Int32) × (Nat → Int32) × (Nat → Int64) × zG
/-- the forest as a search sees it: kind, number, three parts, the fuel -/
abbrev zF : Type := (Nat → Int32) × (Nat → Int32) × (Nat → Int32) × (Nat → Int32) × (Nat → Int32) × Int32
def f_k (F : zF) : Nat → Int32 := F.1
def f_n (F : zF) : Nat → Int32 := F.2.1
def f_x (F : zF) : Nat → Int32 := F.2.2.1
def f_y (F : zF) : Nat → Int32 := F.2.2.2.1
def f_z (F : zF) : Nat → Int32 := F.2.2.2.2.1
def f_f (F : zF) : Int32 := F.2.2.2.2.2
def c_st (s : zC) : Nat → Int32 := s.1
def c_rs (s : zC) : Nat → Int32 := s.2.1
def c_ct (s : zC) : Nat → Int64 := s.2.2.1
def c_g (s : zC) : zG := s.2.2.2
def g_va (g : zG) : Nat → Int32 := g.1
def g_wr (g : zG) : Nat → Int32 := g.2.1
def g_wc (g : zG) : Int32 := g.2.2.1
def g_sp (g : zG) : Int32 := g.2.2.2
def s_st (s : zC) (e v : Int32) : zC := (upd s.1 (ix e) v, s.2)
def s_rs (s : zC) (e v : Int32) : zC := (s.1, upd s.2.1 (ix e) v, s.2.2)
def s_ct (s : zC) (e : Int32) (v : Int64) : zC := (s.1, s.2.1, vp_updL s.2.2.1 (ix e) v, s.2.2.2)
def s_g (s : zC) (g : zG) : zC := (s.1, s.2.1, s.2.2.1, g)
def h_va (g : zG) (k v : Int32) : zG := (upd g.1 (ix k) v, g.2)
def h_wr (g : zG) (v : Int32) : zG := (g.1, upd g.2.1 (ix g.2.2.1) v, g.2.2.1 + 1, g.2.2.2)
def h_w0 (g : zG) (i v : Int32) : zG := (g.1, upd g.2.1 (ix i) v, g.2.2)
def h_w1 (g : zG) : zG := (g.1, g.2.1, g.2.2.1 + 1, g.2.2.2)
def h_sp (g : zG) : zG := (g.1, g.2.1, g.2.2.1, g.2.2.2 + 1)
-- one method a function; A is the question to a part
def p_give (e v : Int32) (s : zC) : Int32 × zC := (1, s_rs s e v)
def p_fuel (F : zF) (e v : Int32) (s : zC) : Int32 × zC := if g_sp (c_g s) < f_f F then p_give e v (s_g s (h_sp (c_g s))) else (-5, s)
def p_up (e x : Int32) (q : Int32 × zC) : Int32 × zC := if q.1 = 1 then p_give e (c_rs q.2 (ix x)) q.2 else q
def p_leaf (F : zF) (e v : Int32) (s : zC) : Int32 × zC := if c_st s (ix e) = 0 then p_fuel F e v (s_st s e 5) else (0, s)
def p_try (A : Int32 → zC → Int32 × zC) (x : Int32) (s : zC) : Int32 × zC := A x (s_st s x 0)
def p_x (F : zF) (A : Int32 → zC → Int32 × zC) (e : Int32) (s : zC) : Int32 × zC :=
  A (f_x F (ix e)) (s_st (if c_st s (ix e) = 0 then s_st s (f_x F (ix e)) 0 else s) e 1)
def p_assign (F : zF) (A : Int32 → zC → Int32 × zC) (e : Int32) (s : zC) : Int32 × zC :=
  let q := p_up e (f_x F (ix e)) (p_x F A e s)
  if q.1 = 1 then (q.1, s_g q.2 (h_va (c_g q.2) (f_n F (ix e)) (c_rs q.2 (ix e)))) else q
def p_write (F : zF) (A : Int32 → zC → Int32 × zC) (e : Int32) (s : zC) : Int32 × zC :=
  let q := p_up e (f_x F (ix e)) (p_x F A e s)
  if q.1 = 1 then if g_wc (c_g q.2) < 32 then (1, s_g q.2 (h_wr (c_g q.2) (c_rs q.2 (ix e)))) else (-6, q.2) else q
def p_not (F : zF) (A : Int32 → zC → Int32 × zC) (e : Int32) (s : zC) : Int32 × zC :=
  if c_st s (ix e) = 0 then
    let q := p_try A (f_x F (ix e)) (s_st s e 5)
    if q.1 = 1 then (0, q.2) else if q.1 = 0 then p_give e 0 q.2 else q
  else (0, s)
def p_again (F : zF) (A : Int32 → zC → Int32 × zC) (e : Int32) (s : zC) : Int32 × zC :=
  let q := p_x F A e s
  p_up e (f_x F (ix e)) (if q.1 = 0 then if c_st s (ix e) = 0 then q else p_try A (f_x F (ix e)) q.2 else q)
def p_either (F : zF) (A : Int32 → zC → Int32 × zC) (e : Int32) (s : zC) : Int32 × zC :=
  if c_st s (ix e) = 2 then p_up e (f_y F (ix e)) (A (f_y F (ix e)) s) else
    let q := p_x F A e s
    if q.1 = 0 then p_up e (f_y F (ix e)) (A (f_y F (ix e)) (s_st (s_st q.2 e 2) (f_y F (ix e)) 0)) else p_up e (f_x F (ix e)) q
/-- the loop of askPair, t turns left -/
def p_pairL (F : zF) (A : Int32 → zC → Int32 × zC) (e : Int32) : Nat → zC → Int32 × zC
  | 0, s => (0, s)
  | t + 1, s =>
    if c_st s (ix e) = 2 then
      let q := A (f_y F (ix e)) s
      if q.1 = 0 then p_pairL F A e t (s_st q.2 e 1) else q
    else
      let q := p_x F A e s
      if q.1 = 1 then
        let q2 := A (f_y F (ix e)) (s_st (s_st q.2 e 2) (f_y F (ix e)) 0)
        if q2.1 = 0 then p_pairL F A e t (s_st q2.2 e 1) else q2
      else q
def p_calc (k : Int32) (r s : Int64) : Int64 := if k = 8 then r + s else if k = 9 then r - s else r * s
def p_arith (F : zF) (A : Int32 → zC → Int32 × zC) (T : Nat) (e : Int32) (s : zC) : Int32 × zC :=
  let q := p_pairL F A e T s
  if q.1 = 1 then
    let v := p_calc (f_k F (ix e)) (c_rs q.2 (ix (f_x F (ix e)))).toInt64 (c_rs q.2 (ix (f_y F (ix e)))).toInt64
    if v = v.toInt32.toInt64 then p_give e v.toInt32 q.2 else (-4, q.2)
  else q
def p_holds (k r s : Int32) : Bool := if k = 11 then decide (r < s) else decide ((k = 12) = (r = s))
def p_compL (F : zF) (A : Int32 → zC → Int32 × zC) (T : Nat) (e : Int32) : Nat → zC → Int32 × zC
  | 0, s => (0, s)
  | t + 1, s =>
    let q := p_pairL F A e T s
    if q.1 = 1 then
      if p_holds (f_k F (ix e)) (c_rs q.2 (ix (f_x F (ix e)))) (c_rs q.2 (ix (f_y F (ix e)))) = true then p_give e (c_rs q.2 (ix (f_y F (ix e)))) q.2
      else p_compL F A T e t q.2
    else q
def p_bound (F : zF) (A : Int32 → zC → Int32 × zC) (e : Int32) (s : zC) : Int32 × zC :=
  let q := A (f_y F (ix e)) (if c_st s (ix e) = 0 then s_st s (f_y F (ix e)) 0 else s)
  (q.1, s_ct q.2 e (c_rs q.2 (ix (f_y F (ix e)))).toInt64)
def p_limitL (F : zF) (A : Int32 → zC → Int32 × zC) (e : Int32) : Nat → zC → Int32 × zC
  | 0, s => (0, s)
  | t + 1, s =>
    let go := fun s1 : zC =>
      if 0 < c_ct s1 (ix e) then
        let q := A (f_x F (ix e)) (s_ct s1 e (c_ct s1 (ix e) - 1))
        if q.1 = 0 then p_limitL F A e t (s_st q.2 e 2) else p_up e (f_x F (ix e)) q
      else p_limitL F A e t (s_st s1 e 2)
    if c_st s (ix e) = 1 then go s else
      let q := p_bound F A e s
      if q.1 = 1 then go (s_st (s_st q.2 e 1) (f_x F (ix e)) 0) else q
def p_everyL (F : zF) (A : Int32 → zC → Int32 × zC) (e : Int32) : Nat → zC → Int32 × zC
  | 0, s => (0, s)
  | t + 1, s =>
    let q := if f_k F (ix e) = 16 then p_try A (f_x F (ix e)) s else p_x F A e s
    if q.1 = 1 then
      let q2 := p_try A (f_y F (ix e)) q.2
      if q2.1 < 0 then q2 else p_everyL F A e t q2.2
    else q
def p_then (F : zF) (A : Int32 → zC → Int32 × zC) (e : Int32) (s : zC) : Int32 × zC :=
  if c_st s (ix e) = 0 then
    let q := p_try A (f_x F (ix e)) s
    if q.1 < 0 then q else p_up e (f_y F (ix e)) (A (f_y F (ix e)) (s_st (s_st q.2 e 2) (f_y F (ix e)) 0))
  else p_up e (f_y F (ix e)) (A (f_y F (ix e)) s)
def p_branch (F : zF) (e : Int32) (s : zC) : Int32 := if c_st s (ix e) = 2 then f_y F (ix e) else f_z F (ix e)
def p_if (F : zF) (A : Int32 → zC → Int32 × zC) (e : Int32) (s : zC) : Int32 × zC :=
  let go := fun s1 : zC => p_up e (p_branch F e s1) (A (p_branch F e s1) s1)
  if c_st s (ix e) = 0 then
    let q := p_try A (f_x F (ix e)) s
    if q.1 < 0 then q else
      let s1 := s_st q.2 e (if q.1 = 1 then 2 else 3)
      go (s_st s1 (p_branch F e s1) 0)
  else go s
def p_tripleL (F : zF) (A : Int32 → zC → Int32 × zC) (T : Nat) (e : Int32) : Nat → zC → Int32 × zC
  | 0, s => (0, s)
  | t + 1, s =>
    if c_st s (ix e) = 3 then
      let q := A (f_z F (ix e)) s
      if q.1 = 0 then p_tripleL F A T e t (s_st q.2 e 2) else q
    else
      let q := p_pairL F A e T s
      if q.1 = 1 then
        let q2 := A (f_z F (ix e)) (s_st (s_st q.2 e 3) (f_z F (ix e)) 0)
        if q2.1 = 0 then p_tripleL F A T e t (s_st q2.2 e 2) else q2
      else q
def p_upto (F : zF) (e : Int32) (s : zC) : Bool :=
  if 0 < c_rs s (ix (f_z F (ix e))) then decide (¬ (c_rs s (ix (f_y F (ix e)))).toInt64 < c_ct s (ix e)) else decide (¬ c_ct s (ix e) < (c_rs s (ix (f_y F (ix e)))).toInt64)
def p_toL (F : zF) (A : Int32 → zC → Int32 × zC) (T : Nat) (e : Int32) : Nat → zC → Int32 × zC
  | 0, s => (0, s)
  | t + 1, s =>
    let go := fun s1 : zC => if p_upto F e s1 = true then p_fuel F e (c_ct s1 (ix e)).toInt32 s1 else p_toL F A T e t (s_st s1 e 3)
    if c_st s (ix e) = 4 then go (s_ct s e (c_ct s (ix e) + (c_rs s (ix (f_z F (ix e)))).toInt64)) else
      let q := p_tripleL F A T e T s
      if q.1 = 1 then
        if c_rs q.2 (ix (f_z F (ix e))) = 0 then (-3, q.2)
        else go (s_st (s_ct q.2 e (c_rs q.2 (ix (f_x F (ix e)))).toInt64) e 4)
      else q
/-- what `ask` answers, over the answers A of its parts -/
def p_ask (F : zF) (A : Int32 → zC → Int32 × zC) (T : Nat) (e : Int32) (s : zC) : Int32 × zC :=
  let k := f_k F (ix e)
  if k = 0 then p_leaf F e (f_n F (ix e)) s
  else if k = 1 then p_leaf F e (g_va (c_g s) (ix (f_n F (ix e)))) s
  else if k = 2 then p_assign F A e s
  else if k = 3 then p_write F A e s
  else if k = 4 then p_not F A e s
  else if k = 5 then p_again F A e s
  else if k = 6 then p_either F A e s
  else if k = 7 then p_up e (f_y F (ix e)) (p_pairL F A e T s)
  else if k = 8 ∨ k = 9 ∨ k = 10 then p_arith F A T e s
  else if k = 11 ∨ k = 12 ∨ k = 13 then p_compL F A T e T s
  else if k = 14 then p_limitL F A e T s
  else if k = 15 ∨ k = 16 then p_everyL F A e T s
  else if k = 17 then p_then F A e s
  else if k = 18 then p_toL F A T e T s
  else if k = 19 then p_if F A e s
  else (0, s)
/-- the whole question, the depth counted down -/
def p_all (F : zF) (T : Nat) : Nat → Int32 → zC → Int32 × zC
  | 0, _, s => (0, s)
  | d + 1, e, s => p_ask F (p_all F T d) T e s
end
section
/-! The other side, step by step. -/
/-- phase, kept, number, shared, given, error, stack, top -/
abbrev zR : Type := (Nat → Int32) × (Nat → Int64) × (Nat → Int32) × zG × Int32 × Int32 × (Nat → Int32) × Int32
/-- kind, part, fuel -/
abbrev zT : Type := (Nat → Int32) × (Nat → Int32) × Int32
def t_k (T : zT) : Nat → Int32 := T.1
def t_p (T : zT) : Nat → Int32 := T.2.1
def t_f (T : zT) : Int32 := T.2.2
def r_ph (s : zR) : Nat → Int32 := s.1
def r_kp (s : zR) : Nat → Int64 := s.2.1
def r_nm (s : zR) : Nat → Int32 := s.2.2.1
def r_g (s : zR) : zG := s.2.2.2.1
def r_gv (s : zR) : Int32 := s.2.2.2.2.1
def r_er (s : zR) : Int32 := s.2.2.2.2.2.1
def r_sk (s : zR) : Nat → Int32 := s.2.2.2.2.2.2.1
def r_tp (s : zR) : Int32 := s.2.2.2.2.2.2.2
def u_ph (s : zR) (e v : Int32) : zR := (upd s.1 (ix e) v, s.2)
def u_kp (s : zR) (i : Int32) (v : Int64) : zR := (s.1, vp_updL s.2.1 (ix i) v, s.2.2)
def u_nm (s : zR) (e v : Int32) : zR := (s.1, s.2.1, upd s.2.2.1 (ix e) v, s.2.2.2)
def u_g (s : zR) (g : zG) : zR := (s.1, s.2.1, s.2.2.1, g, s.2.2.2.2)
def u_gv (s : zR) (v : Int32) : zR := (s.1, s.2.1, s.2.2.1, s.2.2.2.1, v, s.2.2.2.2.2)
def u_er (s : zR) (v : Int32) : zR := (s.1, s.2.1, s.2.2.1, s.2.2.2.1, s.2.2.2.2.1, v, s.2.2.2.2.2.2)
def u_sk (s : zR) (i v : Int32) : zR := (s.1, s.2.1, s.2.2.1, s.2.2.2.1, s.2.2.2.2.1, s.2.2.2.2.2.1, upd s.2.2.2.2.2.2.1 (ix i) v, s.2.2.2.2.2.2.2)
def u_tp (s : zR) (v : Int32) : zR := (s.1, s.2.1, s.2.2.1, s.2.2.2.1, s.2.2.2.2.1, s.2.2.2.2.2.1, s.2.2.2.2.2.2.1, v)
def q_give (v : Int32) (s : zR) : Int32 × zR := (1, u_gv s v)
def q_paid (T : zT) (v : Int32) (s : zR) : Int32 × zR := if g_sp (r_g s) = t_f T then (0, u_er s (-5)) else q_give v (u_g s (h_sp (r_g s)))
def q_ask (T : zT) (e i th : Int32) (s : zR) : Int32 × zR :=
  let s1 := u_ph s e th
  let s2 := u_sk s1 (r_tp s1) (t_p T (ix (3 * e + i)))
  (2, u_tp s2 (r_tp s2 + 1))
def q_first (T : zT) (e i th : Int32) (s : zR) : Int32 × zR := q_ask T e i th (u_ph s (t_p T (ix (3 * e + i))) 0)
def q_leaf (T : zT) (e : Int32) (s : zR) : Int32 × zR :=
  if r_ph s (ix e) = 1 then (0, s) else
    let s1 := u_ph s e 1
    q_paid T (if t_k T (ix e) = 0 then r_nm s1 (ix e) else g_va (r_g s1) (ix (r_nm s1 (ix e)))) s1
def q_unary (T : zT) (e w : Int32) (s : zR) : Int32 × zR :=
  let k := t_k T (ix e) - 10
  if k = 2 then
    if r_ph s (ix e) = 2 then (0, s) else
    if w = 0 then q_first T e 0 1 s else
      let s1 := u_ph s e 2
      if w = 1 then (0, s1) else q_give 0 s1
  else if w = 0 then
    if r_ph s (ix e) = 1 then q_ask T e 0 1 s else q_first T e 0 1 (u_kp s (3 * e) 0)
  else if w = 2 then
    if k = 3 then if r_kp s (ix (3 * e)) = 0 then (0, s) else q_first T e 0 1 (u_kp s (3 * e) 0) else (0, s)
  else
    let s1 := u_kp s (3 * e) 1
    let s2 := if k = 0 then u_g s1 (h_va (r_g s1) (r_nm s1 (ix e)) (r_gv s1)) else s1
    if k = 1 then if g_wc (r_g s2) = 32 then (0, u_er s2 (-6)) else (1, u_g s2 (h_wr (r_g s2) (r_gv s2))) else (1, s2)
def q_pair (T : zT) (e w : Int32) (s : zR) : Int32 × zR :=
  if w = 0 then if r_ph s (ix e) = 0 then q_first T e 0 1 s else q_ask T e 1 2 s
  else if r_ph s (ix e) = 1 then
    if w = 2 then (0, s) else q_first T e 1 2 (u_kp s (3 * e) (r_gv s).toInt64)
  else if w = 2 then q_ask T e 0 1 s
  else
    let k := t_k T (ix e) - 20
    let r := r_kp s (ix (3 * e))
    let v := (r_gv s).toInt64
    if 5 ≤ k then
      if (if k = 5 then decide (r < v) else if k = 6 then decide (r = v) else decide (¬ r = v)) = true then (1, s) else q_ask T e 1 2 s
    else if k = 1 then (1, s) else
      let z := if k = 2 then r + v else if k = 3 then r - v else r * v
      if z = z.toInt32.toInt64 then q_give z.toInt32 s else (0, u_er s (-4))
def q_limit (T : zT) (e w : Int32) (s : zR) : Int32 × zR :=
  if w = 0 then
    if r_ph s (ix e) = 0 then q_first T e 1 1 s
    else if 0 < r_kp s (ix (3 * e)) then q_ask T e 0 2 s else q_ask T e 1 1 s
  else if r_ph s (ix e) = 2 then
    if w = 2 then q_ask T e 1 1 s else (1, u_kp s (3 * e) (r_kp s (ix (3 * e)) - 1))
  else if w = 2 then (0, s)
  else
    let s1 := u_kp s (3 * e) (r_gv s).toInt64
    if 0 < r_gv s1 then q_first T e 0 2 s1 else q_ask T e 1 1 s1
def q_binary (T : zT) (e w : Int32) (s : zR) : Int32 × zR :=
  let k := t_k T (ix e) - 20
  let p := r_ph s (ix e)
  if k = 0 then
    if w = 0 then if p = 0 then q_first T e 0 1 s else q_ask T e (p - 1) p s
    else if w = 1 then (1, s) else if p = 1 then q_first T e 1 2 s else (0, s)
  else if k = 8 then q_limit T e w s
  else if k = 9 then
    if w = 0 then q_first T e 0 1 s else if p = 2 then q_ask T e 0 1 s else if w = 1 then q_first T e 1 2 s else (0, s)
  else if k = 10 then
    if w = 0 then q_first T e 0 1 s else if p = 2 then q_first T e 0 1 s else if w = 1 then q_first T e 1 2 s else (0, s)
  else if w = 0 then if p = 0 then q_first T e 0 1 s else q_ask T e 1 2 s
  else if p = 1 then q_first T e 1 2 s
  else if w = 1 then (1, s) else (0, s)
def q_on (T : zT) (e : Int32) (s : zR) : Int32 × zR :=
  let v := r_kp s (ix (3 * e))
  let c := r_kp s (ix (3 * e + 2))
  let b := r_kp s (ix (3 * e + 1))
  if (if 0 < c then decide (b < v) else decide (v < b)) = true then q_ask T e 2 3 s
  else q_paid T v.toInt32 (u_kp (u_ph s e 4) (3 * e) (v + c))
def q_to (T : zT) (e w : Int32) (s : zR) : Int32 × zR :=
  let p := r_ph s (ix e)
  if w = 0 then if p = 0 then q_first T e 0 1 s else q_on T e s
  else if w = 2 then if p = 1 then (0, s) else q_ask T e (p - 2) (p - 1) s
  else if p = 1 then q_first T e 1 2 (u_nm s e (r_gv s))
  else
    let s1 := u_kp s (3 * e + p - 1) (r_gv s).toInt64
    if p = 2 then q_first T e 2 3 s1
    else if r_gv s1 = 0 then (0, u_er s1 (-3))
    else q_on T e (u_kp s1 (3 * e) (r_nm s1 (ix e)).toInt64)
def q_if (T : zT) (e w : Int32) (s : zR) : Int32 × zR :=
  let p := r_ph s (ix e)
  if w = 0 then if p = 0 then q_first T e 0 1 s else q_ask T e (p - 1) p s
  else if p = 1 then if w = 1 then q_first T e 1 2 s else q_first T e 2 3 s
  else if w = 1 then (1, s) else (0, s)
def q_step (T : zT) (e w : Int32) (s : zR) : Int32 × zR :=
  let k := t_k T (ix e)
  if k < 10 then q_leaf T e s
  else if k < 20 then q_unary T e w s
  else if 21 ≤ k ∧ k ≤ 27 then q_pair T e w s
  else if k < 40 then q_binary T e w s
  else if k = 40 then q_to T e w s else q_if T e w s
/-- one turn of next's loop that met no error: the state and the news -/
def q_turn (T : zT) (a : zR × Int32) : zR × Int32 :=
  let q := q_step T (r_sk a.1 (ix (r_tp a.1 - 1))) a.2 a.1
  if q.1 = 2 then (q.2, 0) else (u_tp q.2 (r_tp q.2 - 1), if q.1 = 1 then 1 else 2)
end
section
/-! Trees of parts, what two live nodes have to do with each other, steps in a row. -/
theorem ix_nI {n : Nat} (h : n < 2 ^ 31) : ix (nI n) = n := nI_clamp h
theorem ix_lt {e : Int32} {n : Nat} (h : vp_in e n) : ix e < n := Nat.not_le.mp fun q => h (Or.inr q)
theorem ix_3 {e : Int32} (h : vp_in e 60) (i : Nat) (hi : i < 3) : ix (3 * e + nI i) = 3 * ix e + i := by
  obtain ⟨j, hj, rfl⟩ := vp_in_of h (by decide)
  have h3 : (3 : Int32) = nI 3 := rfl
  rw [h3, pk_mul, nI_add, ix_nI (by omega), ix_nI (by omega)]
theorem ix_30 {e : Int32} (h : vp_in e 60) : ix (3 * e) = 3 * ix e := by
  obtain ⟨j, hj, rfl⟩ := vp_in_of h (by decide)
  have h3 : (3 : Int32) = nI 3 := rfl
  rw [h3, pk_mul, ix_nI (by omega), ix_nI (by omega)]
theorem ix_31 {e : Int32} (h : vp_in e 60) : ix (3 * e + 1) = 3 * ix e + 1 := ix_3 h 1 (by decide)
theorem ix_32 {e : Int32} (h : vp_in e 60) : ix (3 * e + 2) = 3 * ix e + 2 := ix_3 h 2 (by decide)
def f_a (F : zF) (e : Int32) : Nat := if f_k F (ix e) < 2 then 0 else if f_k F (ix e) < 6 then 1 else if f_k F (ix e) < 18 then 2 else 3
def t_kc (k : Int32) : Int32 := if k < 2 then k else if k < 6 then k + 8 else if k < 18 then k + 14 else k + 22
/-- the numbers of the parts, parts of parts .. of e, e among them -/
def Sb (F : zF) : Nat → Int32 → Nat → Prop
  | 0, _, _ => False
  | d + 1, e, j => j = ix e ∨ (1 ≤ f_a F e ∧ Sb F d (f_x F (ix e)) j) ∨ (2 ≤ f_a F e ∧ Sb F d (f_y F (ix e)) j) ∨ (3 ≤ f_a F e ∧ Sb F d (f_z F (ix e)) j)
def Tr (F : zF) (T : zT) : Nat → Int32 → Prop
  | 0, _ => False
  | d + 1, e => vp_in e 60 ∧ (∃ k : Nat, k < 20 ∧ f_k F (ix e) = nI k) ∧ t_k T (ix e) = t_kc (f_k F (ix e)) ∧ (f_k F (ix e) = 1 ∨ f_k F (ix e) = 2 → vp_in (f_n F (ix e)) 8) ∧
    (1 ≤ f_a F e → Tr F T d (f_x F (ix e)) ∧ t_p T (ix (3 * e + 0)) = f_x F (ix e) ∧ ¬ Sb F d (f_x F (ix e)) (ix e)) ∧
    (2 ≤ f_a F e → Tr F T d (f_y F (ix e)) ∧ t_p T (ix (3 * e + 1)) = f_y F (ix e) ∧ ¬ Sb F d (f_y F (ix e)) (ix e) ∧ ∀ j, Sb F d (f_x F (ix e)) j → ¬ Sb F d (f_y F (ix e)) j) ∧
    (3 ≤ f_a F e → Tr F T d (f_z F (ix e)) ∧ t_p T (ix (3 * e + 2)) = f_z F (ix e) ∧ ¬ Sb F d (f_z F (ix e)) (ix e) ∧ (∀ j, Sb F d (f_x F (ix e)) j → ¬ Sb F d (f_z F (ix e)) j) ∧ ∀ j, Sb F d (f_y F (ix e)) j → ¬ Sb F d (f_z F (ix e)) j)
theorem Tr_self {F : zF} {T : zT} {d : Nat} {e : Int32} (h : Tr F T d e) : Sb F d e (ix e) := by
  cases d with
  | zero => exact h.elim
  | succ d => exact Or.inl rfl
theorem Tr_in {F : zF} {T : zT} {d : Nat} {e : Int32} (h : Tr F T d e) : vp_in e 60 := by
  cases d with
  | zero => exact h.elim
  | succ d => exact h.1
/-- a node that has given a result since it was started, on both sides; p: the steps that are laid by for it -/
def Lv (F : zF) : Nat → Int32 → zC → zR → Nat → Prop
  | 0, _, _, _, _ => False
  | d + 1, e, c, r, p =>
    if f_k F (ix e) < 2 then c_st c (ix e) = 5 ∧ r_ph r (ix e) = 1 ∧ p = 4
    else if f_k F (ix e) < 6 then
      if f_k F (ix e) < 4 then c_st c (ix e) = 1 ∧ r_ph r (ix e) = 1 ∧ ∃ p1, Lv F d (f_x F (ix e)) c r p1 ∧ p = p1 + 4
      else if f_k F (ix e) = 4 then c_st c (ix e) = 5 ∧ r_ph r (ix e) = 2 ∧ p = 4
      else c_st c (ix e) = 1 ∧ r_ph r (ix e) = 1 ∧ r_kp r (3 * ix e) = 1 ∧ ∃ p1, Lv F d (f_x F (ix e)) c r p1 ∧ p = p1 + 4
    else if f_k F (ix e) < 18 then
      if f_k F (ix e) = 6 then (c_st c (ix e) = 1 ∧ r_ph r (ix e) = 1 ∧ ∃ p1, Lv F d (f_x F (ix e)) c r p1 ∧ p = p1 + 4) ∨ (c_st c (ix e) = 2 ∧ r_ph r (ix e) = 2 ∧ ∃ p1, Lv F d (f_y F (ix e)) c r p1 ∧ p = p1 + 4)
      else if f_k F (ix e) < 14 then c_st c (ix e) = 2 ∧ r_ph r (ix e) = 2 ∧ r_kp r (3 * ix e) = (c_rs c (ix (f_x F (ix e)))).toInt64 ∧ ∃ p1 p2, Lv F d (f_x F (ix e)) c r p1 ∧ Lv F d (f_y F (ix e)) c r p2 ∧ p = p1 + p2 + 4
      else if f_k F (ix e) = 14 then c_st c (ix e) = 1 ∧ r_ph r (ix e) = 2 ∧ r_kp r (3 * ix e) = c_ct c (ix e) ∧ ∃ p1 p2, Lv F d (f_x F (ix e)) c r p1 ∧ Lv F d (f_y F (ix e)) c r p2 ∧ p = p1 + p2 + 4
      else if f_k F (ix e) < 17 then False
      else c_st c (ix e) = 2 ∧ r_ph r (ix e) = 2 ∧ ∃ p1, Lv F d (f_y F (ix e)) c r p1 ∧ p = p1 + 4
    else if f_k F (ix e) = 18 then c_st c (ix e) = 4 ∧ r_ph r (ix e) = 4 ∧ r_nm r (ix e) = c_rs c (ix (f_x F (ix e))) ∧ r_kp r (3 * ix e + 1) = (c_rs c (ix (f_y F (ix e)))).toInt64 ∧ r_kp r (3 * ix e + 2) = (c_rs c (ix (f_z F (ix e)))).toInt64 ∧ r_kp r (3 * ix e) = c_ct c (ix e) + (c_rs c (ix (f_z F (ix e)))).toInt64 ∧ ∃ p1 p2 p3, Lv F d (f_x F (ix e)) c r p1 ∧ Lv F d (f_y F (ix e)) c r p2 ∧ Lv F d (f_z F (ix e)) c r p3 ∧ p = p1 + p2 + p3 + 4
    else (c_st c (ix e) = 2 ∧ r_ph r (ix e) = 2 ∧ ∃ p1, Lv F d (f_y F (ix e)) c r p1 ∧ p = p1 + 4) ∨ (c_st c (ix e) = 3 ∧ r_ph r (ix e) = 3 ∧ ∃ p1, Lv F d (f_z F (ix e)) c r p1 ∧ p = p1 + 4)
theorem Lv_self {F : zF} {d : Nat} {e : Int32} {c : zC} {r : zR} {p : Nat} (h : Lv F d e c r p) : Sb F d e (ix e) := by
  cases d with
  | zero => exact h.elim
  | succ d => exact Or.inl rfl
/-- the rows of a set of nodes are alike -/
def Ag (D : Nat → Prop) (c c' : zC) (r r' : zR) : Prop := ∀ j, D j → c_st c' j = c_st c j ∧ c_rs c' j = c_rs c j ∧ c_ct c' j = c_ct c j ∧ r_ph r' j = r_ph r j ∧ r_nm r' j = r_nm r j ∧ r_kp r' (3 * j) = r_kp r (3 * j) ∧ r_kp r' (3 * j + 1) = r_kp r (3 * j + 1) ∧ r_kp r' (3 * j + 2) = r_kp r (3 * j + 2)
theorem f_a1 {F : zF} {e : Int32} (h : ¬ f_k F (ix e) < 2) : 1 ≤ f_a F e := by
  unfold f_a; rw [if_neg h]; split
  · exact Nat.le_refl _
  · split <;> decide
theorem f_a2 {F : zF} {e : Int32} (h : ¬ f_k F (ix e) < 2) (h1 : ¬ f_k F (ix e) < 6) : 2 ≤ f_a F e := by
  unfold f_a; rw [if_neg h, if_neg h1]; split <;> decide
theorem f_a3 {F : zF} {e : Int32} (h : ¬ f_k F (ix e) < 2) (h1 : ¬ f_k F (ix e) < 6) (h2 : ¬ f_k F (ix e) < 18) : 3 ≤ f_a F e := by
  unfold f_a; rw [if_neg h, if_neg h1, if_neg h2]; decide
theorem Lv_cong {F : zF} {c c' : zC} {r r' : zR} : ∀ (d : Nat) (e : Int32) (p : Nat), Ag (Sb F d e) c c' r r' → Lv F d e c r p → Lv F d e c' r' p
  | 0, _, _, _, h => h
  | d + 1, e, p, hA, h => by
    obtain ⟨e1, e2, e3, e4, e5, e6, e7, e8⟩ := hA (ix e) (Or.inl rfl)
    have hx : 1 ≤ f_a F e → Ag (Sb F d (f_x F (ix e))) c c' r r' := fun a j hj => hA j (Or.inr (Or.inl ⟨a, hj⟩))
    have hy : 2 ≤ f_a F e → Ag (Sb F d (f_y F (ix e))) c c' r r' := fun a j hj => hA j (Or.inr (Or.inr (Or.inl ⟨a, hj⟩)))
    have hz : 3 ≤ f_a F e → Ag (Sb F d (f_z F (ix e))) c c' r r' := fun a j hj => hA j (Or.inr (Or.inr (Or.inr ⟨a, hj⟩)))
    simp only [Lv] at h ⊢
    simp only [e1, e3, e4, e5, e6, e7, e8]
    by_cases k1 : f_k F (ix e) < 2
    · simp only [if_pos k1] at h ⊢; exact h
    have a1 := f_a1 k1
    simp only [if_neg k1] at h ⊢
    by_cases k2 : f_k F (ix e) < 6
    · simp only [if_pos k2] at h ⊢
      by_cases k3 : f_k F (ix e) < 4
      · simp only [if_pos k3] at h ⊢
        obtain ⟨h1, h2, p1, h3, h4⟩ := h
        exact ⟨h1, h2, p1, Lv_cong d _ _ (hx a1) h3, h4⟩
      simp only [if_neg k3] at h ⊢
      by_cases k4 : f_k F (ix e) = 4
      · simp only [if_pos k4] at h ⊢; exact h
      simp only [if_neg k4] at h ⊢
      obtain ⟨h1, h2, h5, p1, h3, h4⟩ := h
      exact ⟨h1, h2, h5, p1, Lv_cong d _ _ (hx a1) h3, h4⟩
    have a2 := f_a2 k1 k2
    simp only [if_neg k2] at h ⊢
    by_cases k5 : f_k F (ix e) < 18
    · simp only [if_pos k5] at h ⊢
      by_cases k6 : f_k F (ix e) = 6
      · simp only [if_pos k6] at h ⊢
        rcases h with ⟨h1, h2, p1, h3, h4⟩ | ⟨h1, h2, p1, h3, h4⟩
        · exact Or.inl ⟨h1, h2, p1, Lv_cong d _ _ (hx a1) h3, h4⟩
        · exact Or.inr ⟨h1, h2, p1, Lv_cong d _ _ (hy a2) h3, h4⟩
      simp only [if_neg k6] at h ⊢
      by_cases k7 : f_k F (ix e) < 14
      · simp only [if_pos k7] at h ⊢
        obtain ⟨h1, h2, h5, p1, p2, h3, h3', h4⟩ := h
        exact ⟨h1, h2, by rw [(hx a1 _ (Lv_self h3)).2.1]; exact h5, p1, p2, Lv_cong d _ _ (hx a1) h3, Lv_cong d _ _ (hy a2) h3', h4⟩
      simp only [if_neg k7] at h ⊢
      by_cases k8 : f_k F (ix e) = 14
      · simp only [if_pos k8] at h ⊢
        obtain ⟨h1, h2, h5, p1, p2, h3, h3', h4⟩ := h
        exact ⟨h1, h2, h5, p1, p2, Lv_cong d _ _ (hx a1) h3, Lv_cong d _ _ (hy a2) h3', h4⟩
      simp only [if_neg k8] at h ⊢
      by_cases k9 : f_k F (ix e) < 17
      · simp only [if_pos k9] at h
      simp only [if_neg k9] at h ⊢
      obtain ⟨h1, h2, p1, h3, h4⟩ := h
      exact ⟨h1, h2, p1, Lv_cong d _ _ (hy a2) h3, h4⟩
    have a3 := f_a3 k1 k2 k5
    simp only [if_neg k5] at h ⊢
    by_cases k6 : f_k F (ix e) = 18
    · simp only [if_pos k6] at h ⊢
      obtain ⟨h1, h2, h5, h6, h7, h8, p1, p2, p3, g1, g2, g3, h4⟩ := h
      have x1 := (hx a1 _ (Lv_self g1)).2.1
      have x2 := (hy a2 _ (Lv_self g2)).2.1
      have x3 := (hz a3 _ (Lv_self g3)).2.1
      refine ⟨h1, h2, ?_, ?_, ?_, ?_, p1, p2, p3, Lv_cong d _ _ (hx a1) g1, Lv_cong d _ _ (hy a2) g2, Lv_cong d _ _ (hz a3) g3, h4⟩
      · rw [x1]; exact h5
      · rw [x2]; exact h6
      · rw [x3]; exact h7
      · rw [x3]; exact h8
    simp only [if_neg k6] at h ⊢
    rcases h with ⟨h1, h2, p1, h3, h4⟩ | ⟨h1, h2, p1, h3, h4⟩
    · exact Or.inl ⟨h1, h2, p1, Lv_cong d _ _ (hy a2) h3, h4⟩
    · exact Or.inr ⟨h1, h2, p1, Lv_cong d _ _ (hz a3) h3, h4⟩
-- a node of known kind
theorem Lv_0 {F : zF} {d : Nat} {e : Int32} {c : zC} {r : zR} {p : Nat} (h : f_k F (ix e) = 0) : Lv F (d + 1) e c r p ↔ (c_st c (ix e) = 5 ∧ r_ph r (ix e) = 1 ∧ p = 4) := by simp [Lv, h]
theorem Lv_1 {F : zF} {d : Nat} {e : Int32} {c : zC} {r : zR} {p : Nat} (h : f_k F (ix e) = 1) : Lv F (d + 1) e c r p ↔ (c_st c (ix e) = 5 ∧ r_ph r (ix e) = 1 ∧ p = 4) := by simp [Lv, h]
theorem Lv_2 {F : zF} {d : Nat} {e : Int32} {c : zC} {r : zR} {p : Nat} (h : f_k F (ix e) = 2) : Lv F (d + 1) e c r p ↔ (c_st c (ix e) = 1 ∧ r_ph r (ix e) = 1 ∧ ∃ p1, Lv F d (f_x F (ix e)) c r p1 ∧ p = p1 + 4) := by simp [Lv, h]
theorem Lv_3 {F : zF} {d : Nat} {e : Int32} {c : zC} {r : zR} {p : Nat} (h : f_k F (ix e) = 3) : Lv F (d + 1) e c r p ↔ (c_st c (ix e) = 1 ∧ r_ph r (ix e) = 1 ∧ ∃ p1, Lv F d (f_x F (ix e)) c r p1 ∧ p = p1 + 4) := by simp [Lv, h]
theorem Lv_4 {F : zF} {d : Nat} {e : Int32} {c : zC} {r : zR} {p : Nat} (h : f_k F (ix e) = 4) : Lv F (d + 1) e c r p ↔ (c_st c (ix e) = 5 ∧ r_ph r (ix e) = 2 ∧ p = 4) := by simp [Lv, h]
theorem Lv_5 {F : zF} {d : Nat} {e : Int32} {c : zC} {r : zR} {p : Nat} (h : f_k F (ix e) = 5) : Lv F (d + 1) e c r p ↔ (c_st c (ix e) = 1 ∧ r_ph r (ix e) = 1 ∧ r_kp r (3 * ix e) = 1 ∧ ∃ p1, Lv F d (f_x F (ix e)) c r p1 ∧ p = p1 + 4) := by simp [Lv, h]
theorem Lv_6 {F : zF} {d : Nat} {e : Int32} {c : zC} {r : zR} {p : Nat} (h : f_k F (ix e) = 6) : Lv F (d + 1) e c r p ↔ ((c_st c (ix e) = 1 ∧ r_ph r (ix e) = 1 ∧ ∃ p1, Lv F d (f_x F (ix e)) c r p1 ∧ p = p1 + 4) ∨ (c_st c (ix e) = 2 ∧ r_ph r (ix e) = 2 ∧ ∃ p1, Lv F d (f_y F (ix e)) c r p1 ∧ p = p1 + 4)) := by simp [Lv, h]
theorem Lv_7 {F : zF} {d : Nat} {e : Int32} {c : zC} {r : zR} {p : Nat} (h : f_k F (ix e) = 7) : Lv F (d + 1) e c r p ↔ (c_st c (ix e) = 2 ∧ r_ph r (ix e) = 2 ∧ r_kp r (3 * ix e) = (c_rs c (ix (f_x F (ix e)))).toInt64 ∧ ∃ p1 p2, Lv F d (f_x F (ix e)) c r p1 ∧ Lv F d (f_y F (ix e)) c r p2 ∧ p = p1 + p2 + 4) := by simp [Lv, h]
theorem Lv_8 {F : zF} {d : Nat} {e : Int32} {c : zC} {r : zR} {p : Nat} (h : f_k F (ix e) = 8) : Lv F (d + 1) e c r p ↔ (c_st c (ix e) = 2 ∧ r_ph r (ix e) = 2 ∧ r_kp r (3 * ix e) = (c_rs c (ix (f_x F (ix e)))).toInt64 ∧ ∃ p1 p2, Lv F d (f_x F (ix e)) c r p1 ∧ Lv F d (f_y F (ix e)) c r p2 ∧ p = p1 + p2 + 4) := by simp [Lv, h]
theorem Lv_9 {F : zF} {d : Nat} {e : Int32} {c : zC} {r : zR} {p : Nat} (h : f_k F (ix e) = 9) : Lv F (d + 1) e c r p ↔ (c_st c (ix e) = 2 ∧ r_ph r (ix e) = 2 ∧ r_kp r (3 * ix e) = (c_rs c (ix (f_x F (ix e)))).toInt64 ∧ ∃ p1 p2, Lv F d (f_x F (ix e)) c r p1 ∧ Lv F d (f_y F (ix e)) c r p2 ∧ p = p1 + p2 + 4) := by simp [Lv, h]
theorem Lv_10 {F : zF} {d : Nat} {e : Int32} {c : zC} {r : zR} {p : Nat} (h : f_k F (ix e) = 10) : Lv F (d + 1) e c r p ↔ (c_st c (ix e) = 2 ∧ r_ph r (ix e) = 2 ∧ r_kp r (3 * ix e) = (c_rs c (ix (f_x F (ix e)))).toInt64 ∧ ∃ p1 p2, Lv F d (f_x F (ix e)) c r p1 ∧ Lv F d (f_y F (ix e)) c r p2 ∧ p = p1 + p2 + 4) := by simp [Lv, h]
theorem Lv_11 {F : zF} {d : Nat} {e : Int32} {c : zC} {r : zR} {p : Nat} (h : f_k F (ix e) = 11) : Lv F (d + 1) e c r p ↔ (c_st c (ix e) = 2 ∧ r_ph r (ix e) = 2 ∧ r_kp r (3 * ix e) = (c_rs c (ix (f_x F (ix e)))).toInt64 ∧ ∃ p1 p2, Lv F d (f_x F (ix e)) c r p1 ∧ Lv F d (f_y F (ix e)) c r p2 ∧ p = p1 + p2 + 4) := by simp [Lv, h]
theorem Lv_12 {F : zF} {d : Nat} {e : Int32} {c : zC} {r : zR} {p : Nat} (h : f_k F (ix e) = 12) : Lv F (d + 1) e c r p ↔ (c_st c (ix e) = 2 ∧ r_ph r (ix e) = 2 ∧ r_kp r (3 * ix e) = (c_rs c (ix (f_x F (ix e)))).toInt64 ∧ ∃ p1 p2, Lv F d (f_x F (ix e)) c r p1 ∧ Lv F d (f_y F (ix e)) c r p2 ∧ p = p1 + p2 + 4) := by simp [Lv, h]
theorem Lv_13 {F : zF} {d : Nat} {e : Int32} {c : zC} {r : zR} {p : Nat} (h : f_k F (ix e) = 13) : Lv F (d + 1) e c r p ↔ (c_st c (ix e) = 2 ∧ r_ph r (ix e) = 2 ∧ r_kp r (3 * ix e) = (c_rs c (ix (f_x F (ix e)))).toInt64 ∧ ∃ p1 p2, Lv F d (f_x F (ix e)) c r p1 ∧ Lv F d (f_y F (ix e)) c r p2 ∧ p = p1 + p2 + 4) := by simp [Lv, h]
theorem Lv_14 {F : zF} {d : Nat} {e : Int32} {c : zC} {r : zR} {p : Nat} (h : f_k F (ix e) = 14) : Lv F (d + 1) e c r p ↔ (c_st c (ix e) = 1 ∧ r_ph r (ix e) = 2 ∧ r_kp r (3 * ix e) = c_ct c (ix e) ∧ ∃ p1 p2, Lv F d (f_x F (ix e)) c r p1 ∧ Lv F d (f_y F (ix e)) c r p2 ∧ p = p1 + p2 + 4) := by simp [Lv, h]
theorem Lv_15 {F : zF} {d : Nat} {e : Int32} {c : zC} {r : zR} {p : Nat} (h : f_k F (ix e) = 15) : Lv F (d + 1) e c r p ↔ (False) := by simp [Lv, h]
theorem Lv_16 {F : zF} {d : Nat} {e : Int32} {c : zC} {r : zR} {p : Nat} (h : f_k F (ix e) = 16) : Lv F (d + 1) e c r p ↔ (False) := by simp [Lv, h]
theorem Lv_17 {F : zF} {d : Nat} {e : Int32} {c : zC} {r : zR} {p : Nat} (h : f_k F (ix e) = 17) : Lv F (d + 1) e c r p ↔ (c_st c (ix e) = 2 ∧ r_ph r (ix e) = 2 ∧ ∃ p1, Lv F d (f_y F (ix e)) c r p1 ∧ p = p1 + 4) := by simp [Lv, h]
theorem Lv_18 {F : zF} {d : Nat} {e : Int32} {c : zC} {r : zR} {p : Nat} (h : f_k F (ix e) = 18) : Lv F (d + 1) e c r p ↔ (c_st c (ix e) = 4 ∧ r_ph r (ix e) = 4 ∧ r_nm r (ix e) = c_rs c (ix (f_x F (ix e))) ∧ r_kp r (3 * ix e + 1) = (c_rs c (ix (f_y F (ix e)))).toInt64 ∧ r_kp r (3 * ix e + 2) = (c_rs c (ix (f_z F (ix e)))).toInt64 ∧ r_kp r (3 * ix e) = c_ct c (ix e) + (c_rs c (ix (f_z F (ix e)))).toInt64 ∧ ∃ p1 p2 p3, Lv F d (f_x F (ix e)) c r p1 ∧ Lv F d (f_y F (ix e)) c r p2 ∧ Lv F d (f_z F (ix e)) c r p3 ∧ p = p1 + p2 + p3 + 4) := by simp [Lv, h]
theorem Lv_19 {F : zF} {d : Nat} {e : Int32} {c : zC} {r : zR} {p : Nat} (h : f_k F (ix e) = 19) : Lv F (d + 1) e c r p ↔ ((c_st c (ix e) = 2 ∧ r_ph r (ix e) = 2 ∧ ∃ p1, Lv F d (f_y F (ix e)) c r p1 ∧ p = p1 + 4) ∨ (c_st c (ix e) = 3 ∧ r_ph r (ix e) = 3 ∧ ∃ p1, Lv F d (f_z F (ix e)) c r p1 ∧ p = p1 + 4)) := by simp [Lv, h]
-- frames
def FrC (D : Nat → Prop) (c c' : zC) : Prop := ∀ j, ¬ D j → c_st c' j = c_st c j ∧ c_rs c' j = c_rs c j ∧ c_ct c' j = c_ct c j
def FrR (D : Nat → Prop) (r r' : zR) : Prop := ∀ j, ¬ D j → r_ph r' j = r_ph r j ∧ r_nm r' j = r_nm r j ∧ r_kp r' (3 * j) = r_kp r (3 * j) ∧ r_kp r' (3 * j + 1) = r_kp r (3 * j + 1) ∧ r_kp r' (3 * j + 2) = r_kp r (3 * j + 2)
theorem FrC.rf {D : Nat → Prop} {c : zC} : FrC D c c := fun _ _ => ⟨rfl, rfl, rfl⟩
theorem FrR.rf {D : Nat → Prop} {r : zR} : FrR D r r := fun _ _ => ⟨rfl, rfl, rfl, rfl, rfl⟩
theorem FrC.tr {D : Nat → Prop} {a b c : zC} (h : FrC D a b) (g : FrC D b c) : FrC D a c := fun j hj => ⟨(g j hj).1.trans (h j hj).1, (g j hj).2.1.trans (h j hj).2.1, (g j hj).2.2.trans (h j hj).2.2⟩
theorem FrR.tr {D : Nat → Prop} {a b c : zR} (h : FrR D a b) (g : FrR D b c) : FrR D a c := fun j hj => ⟨(g j hj).1.trans (h j hj).1, (g j hj).2.1.trans (h j hj).2.1, (g j hj).2.2.1.trans (h j hj).2.2.1, (g j hj).2.2.2.1.trans (h j hj).2.2.2.1, (g j hj).2.2.2.2.trans (h j hj).2.2.2.2⟩
theorem FrC.wk {D E : Nat → Prop} {a b : zC} (h : FrC D a b) (s : ∀ j, D j → E j) : FrC E a b := fun j hj => h j fun q => hj (s j q)
theorem FrR.wk {D E : Nat → Prop} {a b : zR} (h : FrR D a b) (s : ∀ j, D j → E j) : FrR E a b := fun j hj => h j fun q => hj (s j q)
theorem Ag.of {S D E : Nat → Prop} {c c' : zC} {r r' : zR} (hC : FrC D c c') (hR : FrR E r r') (h : ∀ j, S j → ¬ D j) (h2 : ∀ j, S j → ¬ E j) : Ag S c c' r r' := fun j hj => ⟨(hC j (h j hj)).1, (hC j (h j hj)).2.1, (hC j (h j hj)).2.2, (hR j (h2 j hj)).1, (hR j (h2 j hj)).2.1, (hR j (h2 j hj)).2.2.1, (hR j (h2 j hj)).2.2.2.1, (hR j (h2 j hj)).2.2.2.2⟩
theorem Ag.tr {S : Nat → Prop} {c c1 c2 : zC} {r r1 r2 : zR} (h : Ag S c c1 r r1) (g : Ag S c1 c2 r1 r2) : Ag S c c2 r r2 := fun j hj => by
  obtain ⟨h1, h2, h3, h4, h5, h6, h7, h8⟩ := h j hj
  obtain ⟨g1, g2, g3, g4, g5, g6, g7, g8⟩ := g j hj
  exact ⟨g1.trans h1, g2.trans h2, g3.trans h3, g4.trans h4, g5.trans h5, g6.trans h6, g7.trans h7, g8.trans h8⟩
theorem fc_st {D : Nat → Prop} {c : zC} {e v : Int32} (h : D (ix e)) : FrC D c (s_st c e v) := fun j hj => ⟨pk_un fun q => hj (q ▸ h), rfl, rfl⟩
theorem fc_rs {D : Nat → Prop} {c : zC} {e v : Int32} (h : D (ix e)) : FrC D c (s_rs c e v) := fun j hj => ⟨rfl, pk_un fun q => hj (q ▸ h), rfl⟩
theorem fc_ct {D : Nat → Prop} {c : zC} {e : Int32} {v : Int64} (h : D (ix e)) : FrC D c (s_ct c e v) := fun j hj => ⟨rfl, rfl, pk_uLn fun q => hj (q ▸ h)⟩
theorem fc_g {D : Nat → Prop} {c : zC} {g : zG} : FrC D c (s_g c g) := fun _ _ => ⟨rfl, rfl, rfl⟩
theorem fr_ph {D : Nat → Prop} {r : zR} {e v : Int32} (h : D (ix e)) : FrR D r (u_ph r e v) := fun j hj => ⟨pk_un fun q => hj (q ▸ h), rfl, rfl, rfl, rfl⟩
theorem fr_nm {D : Nat → Prop} {r : zR} {e v : Int32} (h : D (ix e)) : FrR D r (u_nm r e v) := fun j hj => ⟨rfl, pk_un fun q => hj (q ▸ h), rfl, rfl, rfl⟩
theorem fr_kp {D : Nat → Prop} {r : zR} {i : Int32} {k b : Nat} {v : Int64} (h : D k) (hb : b < 3) (hi : ix i = 3 * k + b) : FrR D r (u_kp r i v) := fun j hj => by
  have hjk : j ≠ k := fun q => hj (q ▸ h)
  exact ⟨rfl, rfl, pk_uLn (by omega), pk_uLn (by omega), pk_uLn (by omega)⟩
theorem fr_g {D : Nat → Prop} {r : zR} {g : zG} : FrR D r (u_g r g) := fun _ _ => ⟨rfl, rfl, rfl, rfl, rfl⟩
theorem fr_gv {D : Nat → Prop} {r : zR} {v : Int32} : FrR D r (u_gv r v) := fun _ _ => ⟨rfl, rfl, rfl, rfl, rfl⟩
theorem fr_tp {D : Nat → Prop} {r : zR} {v : Int32} : FrR D r (u_tp r v) := fun _ _ => ⟨rfl, rfl, rfl, rfl, rfl⟩
end
section
/-! One question to the recursion is a row of steps of the machine. -/
def q_ok (T : zT) (e w : Int32) (s : zR) : Prop :=
  (∃ n : Nat, n ≤ 32 ∧ g_wc (r_g s) = nI n) ∧ (t_k T (ix e) < 10 → ¬ t_k T (ix e) = 0 → vp_in (r_nm s (ix e)) 8) ∧ (t_k T (ix e) - 10 = 0 → vp_in (r_nm s (ix e)) 8) ∧
  (¬ t_k T (ix e) < 10 → vp_in (t_p T (ix (3 * e + 0))) 60) ∧ (¬ t_k T (ix e) < 20 → vp_in (t_p T (ix (3 * e + 1))) 60) ∧ (¬ t_k T (ix e) < 40 → vp_in (t_p T (ix (3 * e + 2))) 60) ∧
  (t_k T (ix e) - 20 = 0 → w = 0 → r_ph s (ix e) = 0 ∨ r_ph s (ix e) = 1 ∨ r_ph s (ix e) = 2 ∨ r_ph s (ix e) = 3) ∧
  (¬ t_k T (ix e) < 40 → ¬ t_k T (ix e) = 40 → w = 0 → r_ph s (ix e) = 0 ∨ r_ph s (ix e) = 1 ∨ r_ph s (ix e) = 2 ∨ r_ph s (ix e) = 3) ∧
  (t_k T (ix e) = 40 → ¬ w = 0 → r_ph s (ix e) = 1 ∨ r_ph s (ix e) = 2 ∨ r_ph s (ix e) = 3)
def q_safe (T : zT) (a : zR × Int32) : Prop := ∃ t : Nat, t < 15 ∧ r_tp a.1 = nI (t + 1) ∧ vp_in (r_sk a.1 t) 60 ∧ q_ok T (r_sk a.1 t) a.2 a.1
def Go (T : zT) : Nat → zR × Int32 → zR × Int32 → Prop
  | 0, a, b => a = b
  | m + 1, a, b => q_safe T a ∧ r_er (q_turn T a).1 = 0 ∧ Go T m (q_turn T a) b
theorem Go_trans {T : zT} : ∀ (m n : Nat) (a b c : zR × Int32), Go T m a b → Go T n b c → Go T (m + n) a c
  | 0, n, a, b, c, h, g => by rw [Nat.zero_add]; cases h; exact g
  | m + 1, n, a, b, c, h, g => by
    rw [Nat.succ_add]
    exact ⟨h.1, h.2.1, Go_trans m n _ b c h.2.2 g⟩
/-- the step that ends in an error: its number, and what stays -/
def Bad (T : zT) (a : zR × Int32) (v : Int32) (g : zG) : Prop :=
  q_safe T a ∧ r_er (q_step T (r_sk a.1 (ix (r_tp a.1 - 1))) a.2 a.1).2 = v ∧ r_g (q_step T (r_sk a.1 (ix (r_tp a.1 - 1))) a.2 a.1).2 = g
def Nm (F : zF) (r : zR) : Prop := ∀ j, ¬ f_k F j = 18 → r_nm r j = f_n F j
def Gk (f : Nat) (g : zG) (n : Nat) : Prop := g_sp g = nI n ∧ n ≤ f ∧ ∃ w : Nat, w ≤ 32 ∧ g_wc g = nI w
/-- e is on top, at place t, and both sides have one world -/
def zUp (F : zF) (f t : Nat) (e : Int32) (c : zC) (r : zR) (n : Nat) : Prop :=
  Nm F r ∧ r_g r = c_g c ∧ Gk f (c_g c) n ∧ r_er r = 0 ∧ r_tp r = nI (t + 1) ∧ r_sk r t = e
/-- the same when it has gone -/
def Dn (F : zF) (f t : Nat) (c : zC) (r r0 : zR) (n : Nat) : Prop :=
  Nm F r ∧ r_g r = c_g c ∧ Gk f (c_g c) n ∧ r_er r = 0 ∧ r_tp r = nI t ∧ ∀ j, j < t → r_sk r j = r_sk r0 j
def zK (d n : Nat) : Nat := 20 * d * n
theorem zK_s (d n : Nat) : zK (d + 1) n = zK d n + 20 * n := by unfold zK; rw [Nat.mul_add, Nat.add_mul]
def Idl (F : zF) (d : Nat) (e : Int32) (c : zC) (r : zR) (p : Nat) : Prop := (c_st c (ix e) = 0 ∧ r_ph r (ix e) = 0 ∧ p = 0) ∨ Lv F d e c r p
/-- what a question to e comes to -/
def Out (F : zF) (T : zT) (f d t : Nat) (e : Int32) (c : zC) (r : zR) (p n : Nat) (q : Int32 × zC) : Prop :=
  ∃ n', n ≤ n' ∧ FrC (Sb F d e) c q.2 ∧
    ((q.1 = 1 ∧ n < n' ∧ ∃ m r' p', Go T m (r, 0) (r', 1) ∧ Dn F f t q.2 r' r n' ∧ FrR (Sb F d e) r r' ∧ r_gv r' = c_rs q.2 (ix e) ∧ Lv F d e q.2 r' p' ∧ m + p' + zK d n ≤ p + zK d n') ∨
     (q.1 = 0 ∧ (c_st c (ix e) = 0 → n < n') ∧ ∃ m r', Go T m (r, 0) (r', 2) ∧ Dn F f t q.2 r' r n' ∧ FrR (Sb F d e) r r' ∧ m + zK d n ≤ p + zK d n') ∨
     (q.1 < 0 ∧ Gk f (c_g q.2) n' ∧ ∃ m r' w, Go T m (r, 0) (r', w) ∧ Bad T (r', w) q.1 (c_g q.2) ∧ m + zK d n ≤ p + zK d n' + 4 * d))
def zSim (F : zF) (T : zT) (M f d : Nat) : Prop := ∀ (t : Nat) (e : Int32) (c : zC) (r : zR) (p n : Nat), Tr F T d e → t + d < 16 → zUp F f t e c r n → Idl F d e c r p → Out F T f d t e c r p n (p_all F M d e c)
/-- a part is laid on the stack -/
def pu (r : zR) (e th : Int32) (t : Nat) (x : Int32) : zR := (upd r.1 (ix e) th, r.2.1, r.2.2.1, r.2.2.2.1, r.2.2.2.2.1, r.2.2.2.2.2.1, upd r.2.2.2.2.2.2.1 (t + 1) x, nI (t + 2))
theorem ix_pr {t : Nat} (h : t < 15) : ix (nI (t + 1) - 1) = t := by rw [nI_pred, ix_nI (by omega)]
theorem q_ask_eq {T : zT} {e i th : Int32} {r : zR} {t : Nat} (h : r_tp r = nI (t + 1)) (ht : t < 15) : q_ask T e i th r = (2, pu r e th t (t_p T (ix (3 * e + i)))) := by
  have h1 : r.2.2.2.2.2.2.2 = nI (t + 1) := h
  have h2 : ix (nI (t + 1)) = t + 1 := ix_nI (by omega)
  have h3 : nI (t + 1) + 1 = nI (t + 2) := (nI_succ (t + 1)).symm
  simp only [q_ask, pu, u_ph, u_sk, u_tp, r_tp, h1, h2, h3]
theorem q_first_eq {T : zT} {e i th x : Int32} {r : zR} (hx : t_p T (ix (3 * e + i)) = x) : q_first T e i th r = q_ask T e i th (u_ph r x 0) := by
  unfold q_first; rw [hx]
theorem go_push {T : zT} {e w i th x : Int32} {r r0 : zR} {t : Nat} (hs : q_safe T (r, w)) (ht : t < 15) (htp : r_tp r = nI (t + 1)) (hsk : r_sk r t = e) (hq : q_step T e w r = q_ask T e i th r0) (h0 : r_tp r0 = nI (t + 1)) (he : r_er r0 = 0) (hx : t_p T (ix (3 * e + i)) = x) : Go T 1 (r, w) (pu r0 e th t x, 0) := by
  have h1 : q_turn T (r, w) = (pu r0 e th t x, 0) := by
    simp only [q_turn]
    rw [htp, ix_pr ht, hsk, hq, q_ask_eq h0 ht, hx]
    rfl
  exact ⟨hs, by rw [h1]; exact he, by rw [h1]; rfl⟩
theorem go_pop {T : zT} {e w v : Int32} {r r0 : zR} {t : Nat} (hs : q_safe T (r, w)) (ht : t < 15) (htp : r_tp r = nI (t + 1)) (hsk : r_sk r t = e) (hq : q_step T e w r = (v, r0)) (hv : ¬ v = 2) (h0 : r_tp r0 = nI (t + 1)) (he : r_er r0 = 0) : Go T 1 (r, w) (u_tp r0 (nI t), if v = 1 then 1 else 2) := by
  have h1 : q_turn T (r, w) = (u_tp r0 (nI t), if v = 1 then 1 else 2) := by
    simp only [q_turn]
    rw [htp, ix_pr ht, hsk, hq]
    simp only [if_neg hv, h0, nI_pred]
  exact ⟨hs, by rw [h1]; exact he, by rw [h1]; rfl⟩
theorem bad_of {T : zT} {e w v : Int32} {r : zR} {g : zG} {t : Nat} {q : Int32 × zR} (hs : q_safe T (r, w)) (ht : t < 15) (htp : r_tp r = nI (t + 1)) (hsk : r_sk r t = e) (hq : q_step T e w r = q) (he : r_er q.2 = v) (hg : r_g q.2 = g) : Bad T (r, w) v g := by
  refine ⟨hs, ?_, ?_⟩ <;> dsimp only <;> rw [htp, ix_pr ht, hsk, hq]
  · exact he
  · exact hg
/-- a node whose kind is known has its parts in place -/
theorem safe_of {F : zF} {T : zT} {f d t n : Nat} {e w : Int32} {c : zC} {r : zR} (hT : Tr F T (d + 1) e) (ht : t < 15) (hU : zUp F f t e c r n)
    (h1 : f_k F (ix e) = 6 ∨ f_k F (ix e) = 19 → w = 0 → r_ph r (ix e) = 0 ∨ r_ph r (ix e) = 1 ∨ r_ph r (ix e) = 2 ∨ r_ph r (ix e) = 3)
    (h2 : f_k F (ix e) = 18 → ¬ w = 0 → r_ph r (ix e) = 1 ∨ r_ph r (ix e) = 2 ∨ r_ph r (ix e) = 3) : q_safe T (r, w) := by
  obtain ⟨hN, hg, ⟨-, -, hw⟩, -, htp, hsk⟩ := hU
  obtain ⟨hv, ⟨k, hk, hke⟩, htk, hnm, ha1, ha2, ha3⟩ := hT
  refine ⟨t, ht, htp, by rw [hsk]; exact hv, ?_⟩
  rw [hsk]
  have hk' : k = 0 ∨ k = 1 ∨ k = 2 ∨ k = 3 ∨ k = 4 ∨ k = 5 ∨ k = 6 ∨ k = 7 ∨ k = 8 ∨ k = 9 ∨ k = 10 ∨ k = 11 ∨ k = 12 ∨ k = 13 ∨ k = 14 ∨ k = 15 ∨ k = 16 ∨ k = 17 ∨ k = 18 ∨ k = 19 := by omega
  have x1 : 1 ≤ f_a F e → vp_in (t_p T (ix (3 * e + 0))) 60 := fun h => by rw [(ha1 h).2.1]; exact Tr_in (ha1 h).1
  have x2 : 2 ≤ f_a F e → vp_in (t_p T (ix (3 * e + 1))) 60 := fun h => by rw [(ha2 h).2.1]; exact Tr_in (ha2 h).1
  have x3 : 3 ≤ f_a F e → vp_in (t_p T (ix (3 * e + 2))) 60 := fun h => by rw [(ha3 h).2.1]; exact Tr_in (ha3 h).1
  have hn : ¬ f_k F (ix e) = 18 → r_nm r (ix e) = f_n F (ix e) := hN (ix e)
  refine ⟨by rw [hg]; exact hw, ?_, ?_, ?_, ?_, ?_, ?_, ?_, ?_⟩ <;> rw [htk] <;> rcases hk' with rfl | rfl | rfl | rfl | rfl | rfl | rfl | rfl | rfl | rfl | rfl | rfl | rfl | rfl | rfl | rfl | rfl | rfl | rfl | rfl <;> simp [hke, nI, t_kc, f_a] at * <;> simp_all
/-- a part is asked: what is seen from above -/
theorem child {F : zF} {T : zT} {M f d t n p : Nat} {e x th : Int32} {c c1 : zC} {r0 : zR} (hS : zSim F T M f d) (hx : Tr F T d x) (hne : ¬ Sb F d x (ix e)) (hU : zUp F f t e c r0 n) (ht : t + (d + 1) < 16) (hg : c_g c1 = c_g c) (hI : Idl F d x c1 (pu r0 e th t x) p) {q : Int32 × zC} (hq : p_all F M d x c1 = q) :
    ∃ n', n ≤ n' ∧ FrC (Sb F d x) c1 q.2 ∧
    ((q.1 = 1 ∧ n < n' ∧ ∃ m r' p', Go T m (pu r0 e th t x, 0) (r', 1) ∧ zUp F f t e q.2 r' n' ∧ r_ph r' (ix e) = th ∧ (∀ j, j < t → r_sk r' j = r_sk r0 j) ∧ FrR (Sb F d x) (pu r0 e th t x) r' ∧ r_gv r' = c_rs q.2 (ix x) ∧ Lv F d x q.2 r' p' ∧ m + p' + zK d n ≤ p + zK d n') ∨
     (q.1 = 0 ∧ (c_st c1 (ix x) = 0 → n < n') ∧ ∃ m r', Go T m (pu r0 e th t x, 0) (r', 2) ∧ zUp F f t e q.2 r' n' ∧ r_ph r' (ix e) = th ∧ (∀ j, j < t → r_sk r' j = r_sk r0 j) ∧ FrR (Sb F d x) (pu r0 e th t x) r' ∧ m + zK d n ≤ p + zK d n') ∨
     (q.1 < 0 ∧ Gk f (c_g q.2) n' ∧ ∃ m r' w, Go T m (pu r0 e th t x, 0) (r', w) ∧ Bad T (r', w) q.1 (c_g q.2) ∧ m + zK d n ≤ p + zK d n' + 4 * d)) := by
  obtain ⟨hN, hgr, hG, her, htp, hsk⟩ := hU
  have hU1 : zUp F f (t + 1) x c1 (pu r0 e th t x) n := ⟨hN, by rw [hg]; exact hgr, by rw [hg]; exact hG, her, rfl, pk_us⟩
  obtain ⟨n', hn, hF, h⟩ := hS (t + 1) x c1 (pu r0 e th t x) p n hx (by omega) hU1 hI
  rw [hq] at hF h
  have low : ∀ r' : zR, (∀ j, j < t + 1 → r_sk r' j = r_sk (pu r0 e th t x) j) → r_sk r' t = e ∧ ∀ j, j < t → r_sk r' j = r_sk r0 j := fun r' h => ⟨(h t (by omega)).trans ((pk_un (by omega)).trans hsk), fun j hj => (h j (by omega)).trans (pk_un (by omega))⟩
  have ph : ∀ r' : zR, FrR (Sb F d x) (pu r0 e th t x) r' → r_ph r' (ix e) = th := fun r' h => (h _ hne).1.trans pk_us
  refine ⟨n', hn, hF, ?_⟩
  rcases h with ⟨h1, h2, m, r', p', hGo, ⟨k1, k2, k3, k4, k5, k6⟩, hR, hv, hL, hb⟩ | ⟨h1, h2, m, r', hGo, ⟨k1, k2, k3, k4, k5, k6⟩, hR, hb⟩ | h
  · exact Or.inl ⟨h1, h2, m, r', p', hGo, ⟨k1, k2, k3, k4, k5, (low r' k6).1⟩, ph r' hR, (low r' k6).2, hR, hv, hL, hb⟩
  · exact Or.inr (Or.inl ⟨h1, h2, m, r', hGo, ⟨k1, k2, k3, k4, k5, (low r' k6).1⟩, ph r' hR, (low r' k6).2, hR, hb⟩)
  · exact Or.inr (Or.inr h)
end
section
/-! Kind by kind: leaves and kinds of one part. -/
theorem zK_m (d : Nat) {a b : Nat} (h : a ≤ b) : zK d a ≤ zK d b := Nat.mul_le_mul_left _ h
theorem go_pop1 {T : zT} {e w : Int32} {r r0 : zR} {t : Nat} (hs : q_safe T (r, w)) (ht : t < 15) (htp : r_tp r = nI (t + 1)) (hsk : r_sk r t = e) (hq : q_step T e w r = (1, r0)) (h0 : r_tp r0 = nI (t + 1)) (he : r_er r0 = 0) : Go T 1 (r, w) (u_tp r0 (nI t), 1) := by
  have h := go_pop hs ht htp hsk hq (by decide) h0 he
  rw [if_pos rfl] at h
  exact h
theorem go_pop0 {T : zT} {e w : Int32} {r r0 : zR} {t : Nat} (hs : q_safe T (r, w)) (ht : t < 15) (htp : r_tp r = nI (t + 1)) (hsk : r_sk r t = e) (hq : q_step T e w r = (0, r0)) (h0 : r_tp r0 = nI (t + 1)) (he : r_er r0 = 0) : Go T 1 (r, w) (u_tp r0 (nI t), 2) := by
  have h := go_pop hs ht htp hsk hq (by decide) h0 he
  rw [if_neg (by decide)] at h
  exact h
/-- the numbers that hold throughout: the fuel, the turns of a loop -/
def Ok (F : zF) (T : zT) (M f : Nat) : Prop := f_f F = nI f ∧ t_f T = nI f ∧ f ≤ 2000 ∧ 3000 ≤ M
theorem sm_leaf {F : zF} {T : zT} {M f d t n p : Nat} {e v : Int32} {c : zC} {r : zR} (hO : Ok F T M f) (hT : Tr F T (d + 1) e) (hk : f_k F (ix e) = 0 ∨ f_k F (ix e) = 1) (ht : t + (d + 1) < 16) (hU : zUp F f t e c r n) (hI : Idl F (d + 1) e c r p) (hv : v = if f_k F (ix e) = 0 then f_n F (ix e) else g_va (c_g c) (ix (f_n F (ix e)))) : Out F T f (d + 1) t e c r p n (p_leaf F e v c) := by
  obtain ⟨hf1, hf2, hf3, -⟩ := hO
  have hs : q_safe T (r, 0) := safe_of hT (by omega) hU (fun h => by rcases hk with h1 | h1 <;> rw [h1] at h <;> simp at h) (fun h => by rcases hk with h1 | h1 <;> rw [h1] at h <;> simp at h)
  obtain ⟨hN, hg, ⟨hsp, hnf, w, hw, hwc⟩, her, htp, hsk⟩ := hU
  have htk : t_k T (ix e) = f_k F (ix e) := by
    rw [hT.2.2.1]; unfold t_kc; rw [if_pos (by rcases hk with h | h <;> rw [h] <;> decide)]
  have hnm : r_nm r (ix e) = f_n F (ix e) := hN _ (by rcases hk with h | h <;> rw [h] <;> decide)
  have hst : q_step T e 0 r = q_leaf T e r := by
    unfold q_step; simp only [htk]; rw [if_pos (by rcases hk with h | h <;> rw [h] <;> decide)]
  have hm := zK_m d (Nat.le_add_right n 1)
  rcases hI with ⟨h1, h2, rfl⟩ | hL
  · have hq : q_leaf T e r = q_paid T v (u_ph r e 1) := by
      unfold q_leaf; rw [if_neg (by rw [h2]; decide)]
      show q_paid T (if t_k T (ix e) = 0 then r_nm r (ix e) else g_va (r_g r) (ix (r_nm r (ix e)))) (u_ph r e 1) = _
      rw [htk, hnm, hg, ← hv]
    have hp : p_leaf F e v c = p_fuel F e v (s_st c e 5) := by unfold p_leaf; rw [if_pos h1]
    by_cases hn : n = f
    · have e1 : p_fuel F e v (s_st c e 5) = (-5, s_st c e 5) := by
        unfold p_fuel; rw [if_neg]; show ¬ g_sp (c_g c) < f_f F; rw [hf1, hsp, hn]; exact Int32.lt_irrefl
      have e2 : q_paid T v (u_ph r e 1) = (0, u_er (u_ph r e 1) (-5)) := by
        unfold q_paid; rw [if_pos]; show g_sp (r_g r) = t_f T; rw [hg, hsp, hf2, hn]
      rw [hp, e1]
      exact ⟨n, Nat.le_refl _, fc_st (Or.inl rfl), Or.inr (Or.inr ⟨(show (-5 : Int32) < 0 by decide), ⟨hsp, hnf, w, hw, hwc⟩, 0, r, 0, rfl, bad_of hs (by omega) htp hsk (hst.trans (hq.trans e2)) rfl hg, by omega⟩)⟩
    · have e1 : p_fuel F e v (s_st c e 5) = (1, s_rs (s_g (s_st c e 5) (h_sp (c_g c))) e v) := by
        unfold p_fuel
        rw [if_pos]
        · rfl
        · show g_sp (c_g c) < f_f F
          rw [hf1, hsp, nI_ltI (by omega) (by omega)]; omega
      have e2 : q_paid T v (u_ph r e 1) = (1, u_gv (u_g (u_ph r e 1) (h_sp (r_g r))) v) := by
        unfold q_paid
        rw [if_neg]
        · rfl
        · show ¬ g_sp (r_g r) = t_f T
          rw [hg, hsp, hf2, nI_eq (by omega) (by omega)]; exact hn
      rw [hp, e1]
      refine ⟨n + 1, by omega, ((fc_st (Or.inl rfl)).tr fc_g).tr (fc_rs (Or.inl rfl)), Or.inl ⟨rfl, by omega, 1, _, 4, go_pop1 hs (by omega) htp hsk (hst.trans (hq.trans e2)) htp her, ⟨hN, ?_, ⟨?_, by omega, w, hw, hwc⟩, her, rfl, fun _ _ => rfl⟩, ((fr_ph (Or.inl rfl)).tr fr_g).tr (fr_gv.tr fr_tp), ?_, ?_, ?_⟩⟩
      · show h_sp (r_g r) = h_sp (c_g c); rw [hg]
      · show g_sp (c_g c) + 1 = nI (n + 1); rw [hsp, nI_succ]
      · exact (pk_us (f := c_rs (s_g (s_st c e 5) (h_sp (c_g c))))).symm
      · rcases hk with h | h
        · exact (Lv_0 h).mpr ⟨pk_us, pk_us, rfl⟩
        · exact (Lv_1 h).mpr ⟨pk_us, pk_us, rfl⟩
      · rw [zK_s, zK_s]; omega
  · have hL' : c_st c (ix e) = 5 ∧ r_ph r (ix e) = 1 ∧ p = 4 := by
      rcases hk with h | h
      · exact (Lv_0 h).mp hL
      · exact (Lv_1 h).mp hL
    obtain ⟨h1, h2, rfl⟩ := hL'
    have hq : q_leaf T e r = (0, r) := by unfold q_leaf; rw [if_pos h2]
    have hp : p_leaf F e v c = (0, c) := by unfold p_leaf; rw [if_neg (by rw [h1]; decide)]
    rw [hp]
    exact ⟨n, Nat.le_refl _, FrC.rf, Or.inr (Or.inl ⟨rfl, fun h => absurd (h.symm.trans h1) (by decide), 1, _, go_pop0 hs (by omega) htp hsk (hst.trans hq) htp her, ⟨hN, hg, ⟨hsp, hnf, w, hw, hwc⟩, her, rfl, fun _ _ => rfl⟩, fr_tp, by omega⟩)⟩
theorem fr_pu {D : Nat → Prop} {r : zR} {e th x : Int32} {t : Nat} (h : D (ix e)) : FrR D r (pu r e th t x) := fun j hj => ⟨pk_un fun q => hj (q ▸ h), rfl, rfl, rfl, rfl⟩
theorem ne_of {F : zF} {T : zT} {d : Nat} {x e : Int32} (hx : Tr F T d x) (hne : ¬ Sb F d x (ix e)) : ix x ≠ ix e := fun q => hne (q ▸ Tr_self hx)
theorem id_fresh {F : zF} {T : zT} {d t : Nat} {e x th : Int32} {c1 : zC} {r : zR} (hx : Tr F T d x) (hne : ¬ Sb F d x (ix e)) (hc : c_st c1 (ix x) = 0) : Idl F d x c1 (pu (u_ph r x 0) e th t x) 0 :=
  have hxe : ix x ≠ ix e := fun q => hne (q ▸ Tr_self hx)
  Or.inl ⟨hc, (pk_un hxe).trans pk_us, rfl⟩
theorem id_live {F : zF} {d t p : Nat} {e x th : Int32} {c c1 : zC} {r : zR} (hne : ¬ Sb F d x (ix e)) (hL : Lv F d x c r p) (hC : FrC (fun j => j = ix e) c c1) : Idl F d x c1 (pu r e th t x) p :=
  Or.inr (Lv_cong d x p (Ag.of hC (fr_pu (D := fun j => j = ix e) rfl) (fun _ h q => hne (q ▸ h)) (fun _ h q => hne (q ▸ h))) hL)
theorem neg1 {v : Int32} (h : v < 0) : ¬ v = 1 := fun q => by rw [q] at h; exact absurd h (by decide)
theorem neg0 {v : Int32} (h : v < 0) : ¬ v = 0 := fun q => by rw [q] at h; exact absurd h (by decide)
/-- on the way through e: m turns are done, e is on top again with news w -/
def Mid (F : zF) (T : zT) (f d t : Nat) (e : Int32) (c : zC) (r : zR) (n : Nat) (c' : zC) (r' : zR) (w : Int32) (n' m : Nat) : Prop :=
  Go T m (r, 0) (r', w) ∧ zUp F f t e c' r' n' ∧ (∀ j, j < t → r_sk r' j = r_sk r j) ∧ FrC (Sb F (d + 1) e) c c' ∧ FrR (Sb F (d + 1) e) r r' ∧ n ≤ n'
theorem mid_0 {F : zF} {T : zT} {f d t n : Nat} {e : Int32} {c : zC} {r : zR} (hU : zUp F f t e c r n) : Mid F T f d t e c r n c r 0 n 0 := ⟨rfl, hU, fun _ _ => rfl, FrC.rf, FrR.rf, Nat.le_refl _⟩
theorem mid_c {F : zF} {T : zT} {f d t n n' m : Nat} {e w : Int32} {c c' c2 : zC} {r r' : zR} (h : Mid F T f d t e c r n c' r' w n' m) (hF : FrC (Sb F (d + 1) e) c' c2) (hg : c_g c2 = c_g c') : Mid F T f d t e c r n c2 r' w n' m := by
  obtain ⟨h1, ⟨k1, k2, k3, k4, k5, k6⟩, h3, h4, h5, h6⟩ := h
  exact ⟨h1, ⟨k1, k2.trans hg.symm, by rw [hg]; exact k3, k4, k5, k6⟩, h3, h4.tr hF, h5, h6⟩
/-- r0 is r but for rows of nodes -/
def Ro (r r0 : zR) : Prop := r_g r0 = r_g r ∧ r_er r0 = r_er r ∧ r_tp r0 = r_tp r ∧ r_sk r0 = r_sk r
/-- what asking the part x from the way through e comes to -/
def Asked (F : zF) (T : zT) (f d t : Nat) (e x th : Int32) (c : zC) (r : zR) (p n : Nat) (c1 : zC) (r1 r0 : zR) (n1 m p1 : Nat) (q : Int32 × zC) : Prop :=
  FrC (Sb F d x) c1 q.2 ∧
  ((q.1 = 1 ∧ ∃ n2 m2 r2 p2, n1 < n2 ∧ Mid F T f d t e c r n q.2 r2 1 n2 (m + 1 + m2) ∧ r_ph r2 (ix e) = th ∧ r_nm r2 (ix e) = r_nm r0 (ix e) ∧ r_kp r2 (3 * ix e) = r_kp r0 (3 * ix e) ∧ r_kp r2 (3 * ix e + 1) = r_kp r0 (3 * ix e + 1) ∧ r_kp r2 (3 * ix e + 2) = r_kp r0 (3 * ix e + 2) ∧
      FrR (fun j => j = ix e ∨ Sb F d x j) r1 r2 ∧ r_gv r2 = c_rs q.2 (ix x) ∧ Lv F d x q.2 r2 p2 ∧ m2 + p2 + zK d n1 ≤ p1 + zK d n2) ∨
   (q.1 = 0 ∧ ∃ n2 m2 r2, n1 ≤ n2 ∧ (c_st c1 (ix x) = 0 → n1 < n2) ∧ Mid F T f d t e c r n q.2 r2 2 n2 (m + 1 + m2) ∧ r_ph r2 (ix e) = th ∧ r_nm r2 (ix e) = r_nm r0 (ix e) ∧ r_kp r2 (3 * ix e) = r_kp r0 (3 * ix e) ∧ r_kp r2 (3 * ix e + 1) = r_kp r0 (3 * ix e + 1) ∧ r_kp r2 (3 * ix e + 2) = r_kp r0 (3 * ix e + 2) ∧
      FrR (fun j => j = ix e ∨ Sb F d x j) r1 r2 ∧ m2 + zK d n1 ≤ p1 + zK d n2) ∨
   (q.1 < 0 ∧ ∃ n2, n1 ≤ n2 ∧ ∀ c3 v, c_g c3 = c_g q.2 → v = q.1 → FrC (Sb F (d + 1) e) c c3 → m + p1 + zK d n + 20 * n ≤ p + zK d n1 + 20 * n1 + 3 → Out F T f (d + 1) t e c r p n (v, c3)))
theorem mid_ask {F : zF} {T : zT} {M f d t n n1 m p p1 : Nat} {e x w i th : Int32} {c c1 : zC} {r r1 : zR} (r0 : zR) (hS : zSim F T M f d) (ht : t + (d + 1) < 16) (hM : Mid F T f d t e c r n c1 r1 w n1 m) (hs : q_safe T (r1, w)) (hx : Tr F T d x) (hne : ¬ Sb F d x (ix e)) (hsub : ∀ j, Sb F d x j → Sb F (d + 1) e j)
    (hq : q_step T e w r1 = q_ask T e i th r0) (hpx : t_p T (ix (3 * e + i)) = x) (hR : Ro r1 r0) (hN : Nm F r0) (hF : FrR (fun j => j = ix e ∨ Sb F d x j) r1 r0) (hI : Idl F d x c1 (pu r0 e th t x) p1) : Asked F T f d t e x th c r p n c1 r1 r0 n1 m p1 (p_all F M d x c1) := by
  obtain ⟨h1, ⟨k1, k2, k3, k4, k5, k6⟩, h3, h4, h5, h6⟩ := hM
  obtain ⟨g1, g2, g3, g4⟩ := hR
  have hU0 : zUp F f t e c1 r0 n1 := ⟨hN, g1.trans k2, k3, g2.trans k4, g3.trans k5, (congrFun g4 t).trans k6⟩
  have hgo := go_push hs (by omega) k5 k6 hq hU0.2.2.2.2.1 hU0.2.2.2.1 hpx
  have hin : ∀ j, (j = ix e ∨ Sb F d x j) → Sb F (d + 1) e j := fun j h => by
    rcases h with h | h
    · exact Or.inl h
    · exact hsub j h
  obtain ⟨n2, hn, hFc, h⟩ := child hS hx hne hU0 ht rfl hI rfl
  generalize p_all F M d x c1 = q at hFc h ⊢
  refine ⟨hFc, ?_⟩
  have rows : ∀ r2 : zR, FrR (Sb F d x) (pu r0 e th t x) r2 → r_nm r2 (ix e) = r_nm r0 (ix e) ∧ r_kp r2 (3 * ix e) = r_kp r0 (3 * ix e) ∧ r_kp r2 (3 * ix e + 1) = r_kp r0 (3 * ix e + 1) ∧ r_kp r2 (3 * ix e + 2) = r_kp r0 (3 * ix e + 2) := fun r2 h => (h _ hne).2
  have fall : ∀ r2 : zR, FrR (Sb F d x) (pu r0 e th t x) r2 → FrR (fun j => j = ix e ∨ Sb F d x j) r1 r2 := fun r2 h => hF.tr ((fr_pu (Or.inl rfl)).tr (h.wk fun _ q => Or.inr q))
  rcases h with ⟨a1, a2, m2, r2, p2, b1, b2, b3, b4, b5, b6, b7, b8⟩ | ⟨a1, a2, m2, r2, b1, b2, b3, b4, b5, b8⟩ | ⟨a1, a2, m2, r2, w2, b1, b2, b3⟩
  · obtain ⟨e1, e2, e3, e4⟩ := rows r2 b5
    exact Or.inl ⟨a1, n2, m2, r2, p2, a2, ⟨Go_trans _ _ _ _ _ (Go_trans _ _ _ _ _ h1 hgo) b1, b2, fun j hj => (b4 j hj).trans ((congrFun g4 j).trans (h3 j hj)), h4.tr (hFc.wk hsub), h5.tr ((fall r2 b5).wk hin), by omega⟩, b3, e1, e2, e3, e4, fall r2 b5, b6, b7, b8⟩
  · obtain ⟨e1, e2, e3, e4⟩ := rows r2 b5
    exact Or.inr (Or.inl ⟨a1, n2, m2, r2, hn, a2, ⟨Go_trans _ _ _ _ _ (Go_trans _ _ _ _ _ h1 hgo) b1, b2, fun j hj => (b4 j hj).trans ((congrFun g4 j).trans (h3 j hj)), h4.tr (hFc.wk hsub), h5.tr ((fall r2 b5).wk hin), by omega⟩, b3, e1, e2, e3, e4, fall r2 b5, b8⟩)
  · refine Or.inr (Or.inr ⟨a1, n2, hn, fun c3 v hg hv hF3 hb => ?_⟩)
    subst hv
    refine ⟨n2, by omega, hF3, Or.inr (Or.inr ⟨a1, by rw [hg]; exact a2, m + 1 + m2, r2, w2, Go_trans _ _ _ _ _ (Go_trans _ _ _ _ _ h1 hgo) b1, by rw [hg]; exact b2, ?_⟩)⟩
    have := zK_m d hn
    rw [zK_s, zK_s]; omega
/-- the way ends with a result -/
theorem mid_one {F : zF} {T : zT} {f d t n n1 m p p' : Nat} {e w : Int32} {c c1 c2 : zC} {r r1 : zR} (r0 : zR) (ht : t + (d + 1) < 16) (hM : Mid F T f d t e c r n c1 r1 w n1 m) (hs : q_safe T (r1, w)) (hq : q_step T e w r1 = (1, r0)) (h0 : r_er r0 = r_er r1 ∧ r_tp r0 = r_tp r1 ∧ r_sk r0 = r_sk r1) (hN : Nm F r0) (hg : r_g r0 = c_g c2) (hG : Gk f (c_g c2) n1)
    (hF : FrR (Sb F (d + 1) e) r1 r0) (hC : FrC (Sb F (d + 1) e) c1 c2) (hv : r_gv r0 = c_rs c2 (ix e)) (hL : Lv F (d + 1) e c2 (u_tp r0 (nI t)) p') (hn : n < n1) (hb : m + 1 + p' + zK (d + 1) n ≤ p + zK (d + 1) n1) : Out F T f (d + 1) t e c r p n (1, c2) := by
  obtain ⟨h1, ⟨k1, k2, k3, k4, k5, k6⟩, h3, h4, h5, h6⟩ := hM
  obtain ⟨g2, g3, g4⟩ := h0
  exact ⟨n1, h6, h4.tr hC, Or.inl ⟨rfl, hn, m + 1, _, p', Go_trans _ _ _ _ _ h1 (go_pop1 hs (by omega) k5 k6 hq (g3.trans k5) (g2.trans k4)), ⟨hN, hg, hG, g2.trans k4, rfl, fun j hj => (congrFun g4 j).trans (h3 j hj)⟩, h5.tr (hF.tr fr_tp), hv, hL, hb⟩⟩
/-- the way ends: it fails -/
theorem mid_zero {F : zF} {T : zT} {f d t n n1 m p : Nat} {e w : Int32} {c c1 c2 : zC} {r r1 : zR} (r0 : zR) (ht : t + (d + 1) < 16) (hM : Mid F T f d t e c r n c1 r1 w n1 m) (hs : q_safe T (r1, w)) (hq : q_step T e w r1 = (0, r0)) (hR : Ro r1 r0) (hN : Nm F r0) (hF : FrR (Sb F (d + 1) e) r1 r0) (hC : FrC (Sb F (d + 1) e) c1 c2) (hg : c_g c2 = c_g c1)
    (hn : c_st c (ix e) = 0 → n < n1) (hb : m + 1 + zK (d + 1) n ≤ p + zK (d + 1) n1) : Out F T f (d + 1) t e c r p n (0, c2) := by
  obtain ⟨h1, ⟨k1, k2, k3, k4, k5, k6⟩, h3, h4, h5, h6⟩ := hM
  obtain ⟨g1, g2, g3, g4⟩ := hR
  exact ⟨n1, h6, h4.tr hC, Or.inr (Or.inl ⟨rfl, hn, m + 1, _, Go_trans _ _ _ _ _ h1 (go_pop0 hs (by omega) k5 k6 hq (g3.trans k5) (g2.trans k4)), ⟨hN, g1.trans (k2.trans hg.symm), by rw [hg]; exact k3, g2.trans k4, rfl, fun j hj => (congrFun g4 j).trans (h3 j hj)⟩, h5.tr (hF.tr fr_tp), hb⟩)⟩
/-- the way ends: an error of e's own -/
theorem mid_bad {F : zF} {T : zT} {f d t n n1 m p : Nat} {e w v : Int32} {c c1 c2 : zC} {r r1 : zR} {q : Int32 × zR} (ht : t + (d + 1) < 16) (hM : Mid F T f d t e c r n c1 r1 w n1 m) (hs : q_safe T (r1, w)) (hq : q_step T e w r1 = q) (he : r_er q.2 = v) (hv : v < 0) (hg : r_g q.2 = c_g c2) (hG : Gk f (c_g c2) n1) (hC : FrC (Sb F (d + 1) e) c1 c2)
    (hb : m + zK (d + 1) n ≤ p + zK (d + 1) n1 + 4 * (d + 1)) : Out F T f (d + 1) t e c r p n (v, c2) := by
  obtain ⟨h1, ⟨k1, k2, k3, k4, k5, k6⟩, h3, h4, h5, h6⟩ := hM
  exact ⟨n1, h6, h4.tr hC, Or.inr (Or.inr ⟨hv, hG, m, r1, w, h1, bad_of hs (by omega) k5 k6 hq he hg, hb⟩)⟩
end
section
/-! Kinds of one part. -/
theorem un_enter {F : zF} {T : zT} {f d t n p : Nat} {e : Int32} {c : zC} {r : zR} (hT : Tr F T (d + 1) e) (hk : f_k F (ix e) = 2 ∨ f_k F (ix e) = 3 ∨ f_k F (ix e) = 5) (hU : zUp F f t e c r n) (hI : Idl F (d + 1) e c r p) :
    ∃ r0 p1 p2, q_step T e 0 r = q_ask T e 0 1 r0 ∧ Ro r r0 ∧ Nm F r0 ∧ FrR (fun j => j = ix e ∨ Sb F d (f_x F (ix e)) j) r r0 ∧ Idl F d (f_x F (ix e)) (s_st (if c_st c (ix e) = 0 then s_st c (f_x F (ix e)) 0 else c) e 1) (pu r0 e 1 t (f_x F (ix e))) p1 ∧ p = p1 + p2 ∧
      (c_st c (ix e) = 0 ∧ p2 = 0 ∧ r_kp r0 (3 * ix e) = 0 ∨ ¬ c_st c (ix e) = 0 ∧ p2 = 4 ∧ (f_k F (ix e) = 5 → r_kp r0 (3 * ix e) = 1)) := by
  have hst : q_step T e 0 r = (if r_ph r (ix e) = 1 then q_ask T e 0 1 r else q_first T e 0 1 (u_kp r (3 * e) 0)) := by
    rcases hk with h | h | h <;> simp [q_step, q_unary, hT.2.2.1, h, t_kc]
  have a1 : 1 ≤ f_a F e := by rcases hk with h | h | h <;> simp [f_a, h]
  obtain ⟨hx, hpx, hne⟩ := hT.2.2.2.2.1 a1
  have hxe : ix (f_x F (ix e)) ≠ ix e := ne_of hx hne
  rcases hI with ⟨h1, h2, rfl⟩ | hL
  · refine ⟨u_ph (u_kp r (3 * e) 0) (f_x F (ix e)) 0, 0, 0, ?_, ⟨rfl, rfl, rfl, rfl⟩, hU.1, (fr_kp (k := ix e) (b := 0) (Or.inl rfl) (by decide) (ix_30 hT.1)).tr (fr_ph (Or.inr (Tr_self hx))), id_fresh hx hne ?_, rfl, Or.inl ⟨h1, rfl, ?_⟩⟩
    · rw [hst, if_neg (by rw [h2]; decide), q_first_eq hpx]
    · rw [if_pos h1]
      exact (pk_un hxe).trans pk_us
    · show vp_updL (r_kp r) (ix (3 * e)) 0 (3 * ix e) = 0
      rw [ix_30 hT.1]; exact pk_uLs
  · have hL' : c_st c (ix e) = 1 ∧ r_ph r (ix e) = 1 ∧ (f_k F (ix e) = 5 → r_kp r (3 * ix e) = 1) ∧ ∃ p1, Lv F d (f_x F (ix e)) c r p1 ∧ p = p1 + 4 := by
      rcases hk with h | h | h
      · obtain ⟨g1, g2, g3⟩ := (Lv_2 h).mp hL
        exact ⟨g1, g2, fun q => absurd (h.symm.trans q) (by decide), g3⟩
      · obtain ⟨g1, g2, g3⟩ := (Lv_3 h).mp hL
        exact ⟨g1, g2, fun q => absurd (h.symm.trans q) (by decide), g3⟩
      · obtain ⟨g1, g2, g4, g3⟩ := (Lv_5 h).mp hL
        exact ⟨g1, g2, fun _ => g4, g3⟩
    obtain ⟨h1, h2, h5, p1, hL1, rfl⟩ := hL'
    have h10 : ¬ c_st c (ix e) = 0 := by rw [h1]; decide
    refine ⟨r, p1, 4, by rw [hst, if_pos h2], ⟨rfl, rfl, rfl, rfl⟩, hU.1, FrR.rf, ?_, rfl, Or.inr ⟨h10, rfl, h5⟩⟩
    rw [if_neg h10]
    exact id_live hne hL1 (fc_st (D := fun j => j = ix e) rfl)
/-- the state from which askX asks -/
def p_x1 (F : zF) (e : Int32) (c : zC) : zC := s_st (if c_st c (ix e) = 0 then s_st c (f_x F (ix e)) 0 else c) e 1
theorem p_x_eq (F : zF) (A : Int32 → zC → Int32 × zC) (e : Int32) (c : zC) : p_x F A e c = A (f_x F (ix e)) (p_x1 F e c) := rfl
theorem x1_g (F : zF) (e : Int32) (c : zC) : c_g (p_x1 F e c) = c_g c := by
  unfold p_x1; show c_g (if _ then _ else _) = _; split <;> rfl
theorem x1_F {F : zF} {e : Int32} {c : zC} {D : Nat → Prop} (h1 : D (ix e)) (h2 : D (ix (f_x F (ix e)))) : FrC D c (p_x1 F e c) := by
  unfold p_x1
  refine FrC.tr ?_ (fc_st h1)
  split
  · exact fc_st h2
  · exact FrC.rf
theorem x1_st (F : zF) (e : Int32) (c : zC) : c_st (p_x1 F e c) (ix e) = 1 := pk_us
theorem x1_f {F : zF} {e : Int32} {c : zC} (hxe : ix (f_x F (ix e)) ≠ ix e) (h : c_st c (ix e) = 0) : c_st (p_x1 F e c) (ix (f_x F (ix e))) = 0 := by
  unfold p_x1; rw [if_pos h]; exact (pk_un hxe).trans pk_us
theorem sm_assign {F : zF} {T : zT} {M f d t n p : Nat} {e : Int32} {c : zC} {r : zR} (hS : zSim F T M f d) (hT : Tr F T (d + 1) e) (hk : f_k F (ix e) = 2) (ht : t + (d + 1) < 16) (hU : zUp F f t e c r n) (hI : Idl F (d + 1) e c r p) : Out F T f (d + 1) t e c r p n (p_assign F (p_all F M d) e c) := by
  have a1 : 1 ≤ f_a F e := by simp [f_a, hk]
  obtain ⟨hx, hpx, hne⟩ := hT.2.2.2.2.1 a1
  have hxe : ix (f_x F (ix e)) ≠ ix e := ne_of hx hne
  have hsub : ∀ j, Sb F d (f_x F (ix e)) j → Sb F (d + 1) e j := fun j h => Or.inr (Or.inl ⟨a1, h⟩)
  have hs : ∀ {c : zC} {r : zR} {n : Nat} {w : Int32}, zUp F f t e c r n → q_safe T (r, w) := fun hU => safe_of hT (by omega) hU (fun h => by rw [hk] at h; simp at h) (fun h => by rw [hk] at h; simp at h)
  obtain ⟨r0, p1, p2, hq0, hR0, hN0, hF0, hI0, rfl, hp2⟩ := un_enter hT (Or.inl hk) hU hI
  have hp4 : p2 ≤ 4 := by rcases hp2 with h | h <;> omega
  have hA := mid_ask (p := p1 + p2) r0 hS ht (mid_c (mid_0 (T := T) (d := d) hU) (x1_F (Or.inl rfl) (hsub _ (Tr_self hx))) (x1_g F e c)) (hs hU) hx hne hsub hq0 hpx hR0 hN0 hF0 hI0
  have hpe := p_x_eq F (p_all F M d) e c
  generalize p_all F M d (f_x F (ix e)) (p_x1 F e c) = q at hA hpe
  obtain ⟨v, c2⟩ := q
  obtain ⟨hFc, ⟨hv, n2, m2, r2, p3, hn, hM, hph, -, -, -, -, hFr, hgv, hL, hb⟩ | ⟨hv, n2, m2, r2, hn, hfr, hM, hph, -, -, -, -, hFr, hb⟩ | ⟨hv, n2, hn, herr⟩⟩ := hA
  · dsimp only at hv; subst hv
    have hp : p_assign F (p_all F M d) e c = (1, s_g (s_rs c2 e (c_rs c2 (ix (f_x F (ix e))))) (h_va (c_g c2) (f_n F (ix e)) (c_rs c2 (ix (f_x F (ix e)))))) := by
      simp only [p_assign, hpe, p_up, p_give, if_true]
      rw [show c_rs (s_rs c2 e (c_rs c2 (ix (f_x F (ix e))))) (ix e) = c_rs c2 (ix (f_x F (ix e))) from pk_us]
      rfl
    have hq1 : q_step T e 1 r2 = (1, u_g (u_kp r2 (3 * e) 1) (h_va (r_g r2) (r_nm r2 (ix e)) (r_gv r2))) := by
      simp [q_step, q_unary, hT.2.2.1, hk, t_kc] <;> rfl
    have hUm := hM.2.1
    rw [hp]
    refine mid_one _ ht hM (hs hUm) hq1 ⟨rfl, rfl, rfl⟩ hUm.1 ?_ ⟨hUm.2.2.1.1, hUm.2.2.1.2.1, hUm.2.2.1.2.2⟩ ((fr_kp (k := ix e) (b := 0) (Or.inl rfl) (by decide) (ix_30 hT.1)).tr fr_g) ((fc_rs (Or.inl rfl)).tr fc_g) (hgv.trans (pk_us (f := c_rs c2)).symm) ((Lv_2 hk).mpr ⟨(hFc _ hne).1.trans (x1_st F e c), hph, p3, ?_, rfl⟩) (by omega) ?_
    · show h_va (r_g r2) (r_nm r2 (ix e)) (r_gv r2) = h_va (c_g c2) (f_n F (ix e)) (c_rs c2 (ix (f_x F (ix e))))
      rw [hUm.2.1, hUm.1 _ (by rw [hk]; decide), hgv]
    · exact Lv_cong d _ _ (Ag.of (D := fun j => j = ix e) (E := fun j => j = ix e) ((fc_rs (D := fun j => j = ix e) rfl).tr fc_g) ((fr_kp (D := fun j => j = ix e) (k := ix e) (b := 0) rfl (by decide) (ix_30 hT.1)).tr (fr_g.tr fr_tp)) (fun _ h q => hne (q ▸ h)) (fun _ h q => hne (q ▸ h))) hL
    · rw [zK_s, zK_s]; omega
  · dsimp only at hv; subst hv
    have hp : p_assign F (p_all F M d) e c = (0, c2) := by simp [p_assign, hpe, p_up]
    have hq1 : q_step T e 2 r2 = (0, r2) := by simp [q_step, q_unary, hT.2.2.1, hk, t_kc]
    have hfr' : c_st c (ix e) = 0 → n < n2 := fun h0 => hfr (x1_f hxe h0)
    rw [hp]
    refine mid_zero _ ht hM (hs hM.2.1) hq1 ⟨rfl, rfl, rfl, rfl⟩ hM.2.1.1 FrR.rf FrC.rf rfl hfr' ?_
    rw [zK_s, zK_s]
    rcases hp2 with ⟨h0, h2, -⟩ | ⟨h0, h2, -⟩
    · have := hfr' h0; omega
    · omega
  · have hp : p_assign F (p_all F M d) e c = (v, c2) := by simp [p_assign, hpe, p_up, neg1 hv]
    rw [hp]
    exact herr c2 v rfl rfl ((x1_F (Or.inl rfl) (hsub _ (Tr_self hx))).tr (hFc.wk hsub)) (by omega)
theorem sm_write {F : zF} {T : zT} {M f d t n p : Nat} {e : Int32} {c : zC} {r : zR} (hS : zSim F T M f d) (hT : Tr F T (d + 1) e) (hk : f_k F (ix e) = 3) (ht : t + (d + 1) < 16) (hU : zUp F f t e c r n) (hI : Idl F (d + 1) e c r p) : Out F T f (d + 1) t e c r p n (p_write F (p_all F M d) e c) := by
  have a1 : 1 ≤ f_a F e := by simp [f_a, hk]
  obtain ⟨hx, hpx, hne⟩ := hT.2.2.2.2.1 a1
  have hxe : ix (f_x F (ix e)) ≠ ix e := ne_of hx hne
  have hsub : ∀ j, Sb F d (f_x F (ix e)) j → Sb F (d + 1) e j := fun j h => Or.inr (Or.inl ⟨a1, h⟩)
  have hs : ∀ {c : zC} {r : zR} {n : Nat} {w : Int32}, zUp F f t e c r n → q_safe T (r, w) := fun hU => safe_of hT (by omega) hU (fun h => by rw [hk] at h; simp at h) (fun h => by rw [hk] at h; simp at h)
  obtain ⟨r0, p1, p2, hq0, hR0, hN0, hF0, hI0, rfl, hp2⟩ := un_enter hT (Or.inr (Or.inl hk)) hU hI
  have hp4 : p2 ≤ 4 := by rcases hp2 with h | h <;> omega
  have hA := mid_ask (p := p1 + p2) r0 hS ht (mid_c (mid_0 (T := T) (d := d) hU) (x1_F (Or.inl rfl) (hsub _ (Tr_self hx))) (x1_g F e c)) (hs hU) hx hne hsub hq0 hpx hR0 hN0 hF0 hI0
  have hpe := p_x_eq F (p_all F M d) e c
  generalize p_all F M d (f_x F (ix e)) (p_x1 F e c) = q at hA hpe
  obtain ⟨v, c2⟩ := q
  obtain ⟨hFc, ⟨hv, n2, m2, r2, p3, hn, hM, hph, -, -, -, -, hFr, hgv, hL, hb⟩ | ⟨hv, n2, m2, r2, hn, hfr, hM, hph, -, -, -, -, hFr, hb⟩ | ⟨hv, n2, hn, herr⟩⟩ := hA
  · dsimp only at hv; subst hv
    have hUm := hM.2.1
    obtain ⟨gsp, gnf, w0, gw, gwc⟩ := hUm.2.2.1
    have hq1 : q_step T e 1 r2 = if g_wc (r_g r2) = 32 then (0, u_er (u_kp r2 (3 * e) 1) (-6)) else (1, u_g (u_kp r2 (3 * e) 1) (h_wr (r_g r2) (r_gv r2))) := by
      simp [q_step, q_unary, hT.2.2.1, hk, t_kc] <;> rfl
    by_cases h32 : w0 = 32
    · have hp : p_write F (p_all F M d) e c = (-6, s_rs c2 e (c_rs c2 (ix (f_x F (ix e))))) := by
        simp only [p_write, hpe, p_up, p_give, if_true]
        rw [if_neg]
        show ¬ g_wc (c_g c2) < 32
        rw [gwc, h32]; decide
      rw [if_pos (by rw [hUm.2.1, gwc, h32]; rfl)] at hq1
      rw [hp]
      refine mid_bad ht hM (hs hUm) hq1 rfl (by decide) hUm.2.1 hUm.2.2.1 (fc_rs (Or.inl rfl)) ?_
      rw [zK_s, zK_s]; omega
    · have hp : p_write F (p_all F M d) e c = (1, s_g (s_rs c2 e (c_rs c2 (ix (f_x F (ix e))))) (h_wr (c_g c2) (c_rs c2 (ix (f_x F (ix e)))))) := by
        simp only [p_write, hpe, p_up, p_give, if_true]
        rw [if_pos]
        · rw [show c_rs (s_rs c2 e (c_rs c2 (ix (f_x F (ix e))))) (ix e) = c_rs c2 (ix (f_x F (ix e))) from pk_us]
          rfl
        · show g_wc (c_g c2) < 32
          rw [gwc]
          exact nI_lt (b := 32) (by omega) (by decide)
      rw [if_neg (by rw [hUm.2.1, gwc]; exact fun q => h32 ((nI_eq (by omega) (by decide)).mp q))] at hq1
      rw [hp]
      refine mid_one _ ht hM (hs hUm) hq1 ⟨rfl, rfl, rfl⟩ hUm.1 ?_ ⟨gsp, gnf, w0 + 1, by omega, ?_⟩ ((fr_kp (k := ix e) (b := 0) (Or.inl rfl) (by decide) (ix_30 hT.1)).tr fr_g) ((fc_rs (Or.inl rfl)).tr fc_g) (hgv.trans (pk_us (f := c_rs c2)).symm) ((Lv_3 hk).mpr ⟨(hFc _ hne).1.trans (x1_st F e c), hph, p3, ?_, rfl⟩) (by omega) ?_
      · show h_wr (r_g r2) (r_gv r2) = h_wr (c_g c2) (c_rs c2 (ix (f_x F (ix e))))
        rw [hUm.2.1, hgv]
      · show g_wc (c_g c2) + 1 = nI (w0 + 1)
        rw [gwc, nI_succ]
      · exact Lv_cong d _ _ (Ag.of (D := fun j => j = ix e) (E := fun j => j = ix e) ((fc_rs (D := fun j => j = ix e) rfl).tr fc_g) ((fr_kp (D := fun j => j = ix e) (k := ix e) (b := 0) rfl (by decide) (ix_30 hT.1)).tr (fr_g.tr fr_tp)) (fun _ h q => hne (q ▸ h)) (fun _ h q => hne (q ▸ h))) hL
      · rw [zK_s, zK_s]; omega
  · dsimp only at hv; subst hv
    have hp : p_write F (p_all F M d) e c = (0, c2) := by simp [p_write, hpe, p_up]
    have hq1 : q_step T e 2 r2 = (0, r2) := by simp [q_step, q_unary, hT.2.2.1, hk, t_kc]
    have hfr' : c_st c (ix e) = 0 → n < n2 := fun h0 => hfr (x1_f hxe h0)
    rw [hp]
    refine mid_zero _ ht hM (hs hM.2.1) hq1 ⟨rfl, rfl, rfl, rfl⟩ hM.2.1.1 FrR.rf FrC.rf rfl hfr' ?_
    rw [zK_s, zK_s]
    rcases hp2 with ⟨h0, h2, -⟩ | ⟨h0, h2, -⟩
    · have := hfr' h0; omega
    · omega
  · have hp : p_write F (p_all F M d) e c = (v, c2) := by simp [p_write, hpe, p_up, neg1 hv]
    rw [hp]
    exact herr c2 v rfl rfl ((x1_F (Or.inl rfl) (hsub _ (Tr_self hx))).tr (hFc.wk hsub)) (by omega)
theorem sm_not {F : zF} {T : zT} {M f d t n p : Nat} {e : Int32} {c : zC} {r : zR} (hS : zSim F T M f d) (hT : Tr F T (d + 1) e) (hk : f_k F (ix e) = 4) (ht : t + (d + 1) < 16) (hU : zUp F f t e c r n) (hI : Idl F (d + 1) e c r p) : Out F T f (d + 1) t e c r p n (p_not F (p_all F M d) e c) := by
  have a1 : 1 ≤ f_a F e := by simp [f_a, hk]
  obtain ⟨hx, hpx, hne⟩ := hT.2.2.2.2.1 a1
  have hxe : ix (f_x F (ix e)) ≠ ix e := ne_of hx hne
  have hsub : ∀ j, Sb F d (f_x F (ix e)) j → Sb F (d + 1) e j := fun j h => Or.inr (Or.inl ⟨a1, h⟩)
  have hs : ∀ {c : zC} {r : zR} {n : Nat} {w : Int32}, zUp F f t e c r n → q_safe T (r, w) := fun hU => safe_of hT (by omega) hU (fun h => by rw [hk] at h; simp at h) (fun h => by rw [hk] at h; simp at h)
  rcases hI with ⟨h1, h2, rfl⟩ | hL
  · have hq0 : q_step T e 0 r = q_ask T e 0 1 (u_ph r (f_x F (ix e)) 0) := by
      rw [← q_first_eq hpx]
      simp [q_step, q_unary, hT.2.2.1, hk, t_kc, h2]
    have hst : c_st (s_st (s_st c e 5) (f_x F (ix e)) 0) (ix e) = 5 := (pk_un (Ne.symm hxe)).trans pk_us
    have hst0 : c_st (s_st (s_st c e 5) (f_x F (ix e)) 0) (ix (f_x F (ix e))) = 0 := pk_us
    have hF1 : FrC (Sb F (d + 1) e) c (s_st (s_st c e 5) (f_x F (ix e)) 0) := (fc_st (Or.inl rfl)).tr (fc_st (hsub _ (Tr_self hx)))
    have hA := mid_ask (p := 0) (u_ph r (f_x F (ix e)) 0) hS ht (mid_c (mid_0 (T := T) (d := d) hU) hF1 rfl) (hs hU) hx hne hsub hq0 hpx ⟨rfl, rfl, rfl, rfl⟩ hU.1 (fr_ph (Or.inr (Tr_self hx))) (id_fresh hx hne hst0)
    have hpe : p_not F (p_all F M d) e c = (let q := p_all F M d (f_x F (ix e)) (s_st (s_st c e 5) (f_x F (ix e)) 0); if q.1 = 1 then (0, q.2) else if q.1 = 0 then p_give e 0 q.2 else q) := by
      unfold p_not; rw [if_pos h1]; rfl
    generalize p_all F M d (f_x F (ix e)) (s_st (s_st c e 5) (f_x F (ix e)) 0) = q at hA hpe
    obtain ⟨v, c2⟩ := q
    obtain ⟨hFc, ⟨hv, n2, m2, r2, p3, hn, hM, hph, -, -, -, -, hFr, hgv, hL, hb⟩ | ⟨hv, n2, m2, r2, hn, hfr, hM, hph, -, -, -, -, hFr, hb⟩ | ⟨hv, n2, hn, herr⟩⟩ := hA
    · dsimp only at hv; subst hv
      have hq1 : q_step T e 1 r2 = (0, u_ph r2 e 2) := by simp [q_step, q_unary, hT.2.2.1, hk, t_kc, hph]
      rw [hpe]
      simp only [if_true]
      refine mid_zero _ ht hM (hs hM.2.1) hq1 ⟨rfl, rfl, rfl, rfl⟩ hM.2.1.1 (fr_ph (Or.inl rfl)) FrC.rf rfl (fun _ => hn) ?_
      rw [zK_s, zK_s]; omega
    · dsimp only at hv; subst hv
      have hn' : n < n2 := hfr hst0
      have hq1 : q_step T e 2 r2 = (1, u_gv (u_ph r2 e 2) 0) := by simp [q_step, q_unary, hT.2.2.1, hk, t_kc, hph, q_give]
      have hp : p_not F (p_all F M d) e c = (1, s_rs c2 e 0) := by rw [hpe]; simp [p_give]
      rw [hp]
      refine mid_one _ ht hM (hs hM.2.1) hq1 ⟨rfl, rfl, rfl⟩ hM.2.1.1 hM.2.1.2.1 hM.2.1.2.2.1 ((fr_ph (Or.inl rfl)).tr fr_gv) (fc_rs (Or.inl rfl)) (pk_us (f := c_rs c2)).symm ((Lv_4 hk).mpr ⟨(hFc _ hne).1.trans hst, pk_us, rfl⟩) hn' ?_
      rw [zK_s, zK_s]; omega
    · have hp : p_not F (p_all F M d) e c = (v, c2) := by rw [hpe]; simp [neg1 hv, neg0 hv]
      rw [hp]
      exact herr c2 v rfl rfl (hF1.tr (hFc.wk hsub)) (by omega)
  · obtain ⟨h1, h2, rfl⟩ := (Lv_4 hk).mp hL
    have hp : p_not F (p_all F M d) e c = (0, c) := by unfold p_not; rw [if_neg (by rw [h1]; decide)]
    have hq1 : q_step T e 0 r = (0, r) := by simp [q_step, q_unary, hT.2.2.1, hk, t_kc, h2]
    rw [hp]
    exact mid_zero _ ht (mid_0 hU) (hs hU) hq1 ⟨rfl, rfl, rfl, rfl⟩ hU.1 FrR.rf FrC.rf rfl (fun h => absurd (h.symm.trans h1) (by decide)) (by omega)
theorem sm_again {F : zF} {T : zT} {M f d t n p : Nat} {e : Int32} {c : zC} {r : zR} (hS : zSim F T M f d) (hT : Tr F T (d + 1) e) (hk : f_k F (ix e) = 5) (ht : t + (d + 1) < 16) (hU : zUp F f t e c r n) (hI : Idl F (d + 1) e c r p) : Out F T f (d + 1) t e c r p n (p_again F (p_all F M d) e c) := by
  have a1 : 1 ≤ f_a F e := by simp [f_a, hk]
  obtain ⟨hx, hpx, hne⟩ := hT.2.2.2.2.1 a1
  have hxe : ix (f_x F (ix e)) ≠ ix e := ne_of hx hne
  have hsub : ∀ j, Sb F d (f_x F (ix e)) j → Sb F (d + 1) e j := fun j h => Or.inr (Or.inl ⟨a1, h⟩)
  have hs : ∀ {c : zC} {r : zR} {n : Nat} {w : Int32}, zUp F f t e c r n → q_safe T (r, w) := fun hU => safe_of hT (by omega) hU (fun h => by rw [hk] at h; simp at h) (fun h => by rw [hk] at h; simp at h)
  have hq1 : ∀ r2 : zR, q_step T e 1 r2 = (1, u_kp r2 (3 * e) 1) := fun r2 => by simp [q_step, q_unary, hT.2.2.1, hk, t_kc]
  have hq2 : ∀ r2 : zR, q_step T e 2 r2 = if r_kp r2 (ix (3 * e)) = 0 then (0, r2) else q_first T e 0 1 (u_kp r2 (3 * e) 0) := fun r2 => by simp [q_step, q_unary, hT.2.2.1, hk, t_kc]
  obtain ⟨r0, p1, p2, hq0, hR0, hN0, hF0, hI0, rfl, hp2⟩ := un_enter hT (Or.inr (Or.inr hk)) hU hI
  have hp4 : p2 ≤ 4 := by rcases hp2 with h | h <;> omega
  -- a result of the part is one of e
  have fin : ∀ (c1 c2 : zC) (r2 : zR) (n2 m p3 : Nat), Mid F T f d t e c r n c2 r2 1 n2 m → n < n2 → r_gv r2 = c_rs c2 (ix (f_x F (ix e))) → Lv F d (f_x F (ix e)) c2 r2 p3 → c_st c2 (ix e) = 1 → r_ph r2 (ix e) = 1 → m + 1 + (p3 + 4) + zK (d + 1) n ≤ p1 + p2 + zK (d + 1) n2 → Out F T f (d + 1) t e c r (p1 + p2) n (1, s_rs c2 e (c_rs c2 (ix (f_x F (ix e))))) := by
    intro c1 c2 r2 n2 m p3 hM hn hgv hL hst hph hb
    refine mid_one _ ht hM (hs hM.2.1) (hq1 r2) ⟨rfl, rfl, rfl⟩ hM.2.1.1 hM.2.1.2.1 hM.2.1.2.2.1 (fr_kp (k := ix e) (b := 0) (Or.inl rfl) (by decide) (ix_30 hT.1)) (fc_rs (Or.inl rfl)) (hgv.trans (pk_us (f := c_rs c2)).symm) ((Lv_5 hk).mpr ⟨hst, hph, ?_, p3, ?_, rfl⟩) hn hb
    · show vp_updL (r_kp r2) (ix (3 * e)) 1 (3 * ix e) = 1
      rw [ix_30 hT.1]; exact pk_uLs
    · exact Lv_cong d _ _ (Ag.of (D := fun j => j = ix e) (E := fun j => j = ix e) (fc_rs (D := fun j => j = ix e) rfl) ((fr_kp (D := fun j => j = ix e) (k := ix e) (b := 0) rfl (by decide) (ix_30 hT.1)).tr fr_tp) (fun _ h q => hne (q ▸ h)) (fun _ h q => hne (q ▸ h))) hL
  have hA := mid_ask (p := p1 + p2) r0 hS ht (mid_c (mid_0 (T := T) (d := d) hU) (x1_F (Or.inl rfl) (hsub _ (Tr_self hx))) (x1_g F e c)) (hs hU) hx hne hsub hq0 hpx hR0 hN0 hF0 hI0
  have hpe := p_x_eq F (p_all F M d) e c
  generalize p_all F M d (f_x F (ix e)) (p_x1 F e c) = q at hA hpe
  obtain ⟨v, c2⟩ := q
  obtain ⟨hFc, ⟨hv, n2, m2, r2, p3, hn, hM, hph, -, -, -, -, hFr, hgv, hL, hb⟩ | ⟨hv, n2, m2, r2, hn, hfr, hM, hph, -, hk0, -, -, hFr, hb⟩ | ⟨hv, n2, hn, herr⟩⟩ := hA
  · dsimp only at hv; subst hv
    have hp : p_again F (p_all F M d) e c = (1, s_rs c2 e (c_rs c2 (ix (f_x F (ix e))))) := by simp [p_again, hpe, p_up, p_give]
    rw [hp]
    exact fin c c2 r2 n2 _ p3 hM hn hgv hL ((hFc _ hne).1.trans (x1_st F e c)) hph (by rw [zK_s, zK_s]; omega)
  · dsimp only at hv; subst hv
    have hfr' : c_st c (ix e) = 0 → n < n2 := fun h0 => hfr (x1_f hxe h0)
    have hst2 : c_st c2 (ix e) = 1 := (hFc _ hne).1.trans (x1_st F e c)
    rcases hp2 with ⟨h0, h2, h3⟩ | ⟨h0, h2, h3⟩
    · have hp : p_again F (p_all F M d) e c = (0, c2) := by simp [p_again, hpe, p_up, h0]
      have hq3 : q_step T e 2 r2 = (0, r2) := by rw [hq2, ix_30 hT.1, hk0, h3]; rfl
      have := hfr' h0
      rw [hp]
      refine mid_zero _ ht hM (hs hM.2.1) hq3 ⟨rfl, rfl, rfl, rfl⟩ hM.2.1.1 FrR.rf FrC.rf rfl hfr' ?_
      rw [zK_s, zK_s]; omega
    · -- once more
      have hq3 : q_step T e 2 r2 = q_ask T e 0 1 (u_ph (u_kp r2 (3 * e) 0) (f_x F (ix e)) 0) := by
        rw [hq2, ix_30 hT.1, hk0, h3 hk, if_neg (by decide), q_first_eq hpx]
      have hF3 : FrC (Sb F (d + 1) e) c2 (s_st c2 (f_x F (ix e)) 0) := fc_st (hsub _ (Tr_self hx))
      have hst0 : c_st (s_st c2 (f_x F (ix e)) 0) (ix (f_x F (ix e))) = 0 := pk_us
      have hst3 : c_st (s_st c2 (f_x F (ix e)) 0) (ix e) = 1 := (pk_un (Ne.symm hxe)).trans hst2
      have hB := mid_ask (p := p1 + p2) (u_ph (u_kp r2 (3 * e) 0) (f_x F (ix e)) 0) hS ht (mid_c hM hF3 rfl) (hs hM.2.1) hx hne hsub hq3 hpx ⟨rfl, rfl, rfl, rfl⟩ hM.2.1.1 ((fr_kp (k := ix e) (b := 0) (Or.inl rfl) (by decide) (ix_30 hT.1)).tr (fr_ph (Or.inr (Tr_self hx)))) (id_fresh hx hne hst0)
      have hpe2 : p_again F (p_all F M d) e c = p_up e (f_x F (ix e)) (p_all F M d (f_x F (ix e)) (s_st c2 (f_x F (ix e)) 0)) := by simp [p_again, hpe, h0, p_try]
      generalize p_all F M d (f_x F (ix e)) (s_st c2 (f_x F (ix e)) 0) = q at hB hpe2
      obtain ⟨v, c3⟩ := q
      have hk00 : r_kp (u_ph (u_kp r2 (3 * e) 0) (f_x F (ix e)) 0) (3 * ix e) = 0 := by
        show vp_updL (r_kp r2) (ix (3 * e)) 0 (3 * ix e) = 0
        rw [ix_30 hT.1]; exact pk_uLs
      obtain ⟨hFd, ⟨hv, n3, m3, r3, p4, hn3, hM3, hph3, -, hk3, -, -, hFr3, hgv3, hL3, hb3⟩ | ⟨hv, n3, m3, r3, hn3, hfr3, hM3, hph3, -, hk3, -, -, hFr3, hb3⟩ | ⟨hv, n3, hn3, herr⟩⟩ := hB
      · dsimp only at hv; subst hv
        have hp : p_again F (p_all F M d) e c = (1, s_rs c3 e (c_rs c3 (ix (f_x F (ix e))))) := by rw [hpe2]; simp [p_up, p_give]
        rw [hp]
        exact fin c c3 r3 n3 _ p4 hM3 (by omega) hgv3 hL3 ((hFd _ hne).1.trans hst3) hph3 (by rw [zK_s, zK_s]; omega)
      · dsimp only at hv; subst hv
        have := hfr3 hst0
        have hp : p_again F (p_all F M d) e c = (0, c3) := by rw [hpe2]; simp [p_up]
        have hq4 : q_step T e 2 r3 = (0, r3) := by rw [hq2, ix_30 hT.1, hk3, hk00]; rfl
        rw [hp]
        refine mid_zero _ ht hM3 (hs hM3.2.1) hq4 ⟨rfl, rfl, rfl, rfl⟩ hM3.2.1.1 FrR.rf FrC.rf rfl (fun h => absurd h h0) ?_
        rw [zK_s, zK_s]; omega
      · have hp : p_again F (p_all F M d) e c = (v, c3) := by rw [hpe2]; simp [p_up, neg1 hv]
        rw [hp]
        exact herr c3 v rfl rfl (((x1_F (Or.inl rfl) (hsub _ (Tr_self hx))).tr (hFc.wk hsub)).tr (hF3.tr (hFd.wk hsub))) (by omega)
  · have hp : p_again F (p_all F M d) e c = (v, c2) := by simp [p_again, hpe, p_up, neg1 hv, neg0 hv]
    rw [hp]
    exact herr c2 v rfl rfl ((x1_F (Or.inl rfl) (hsub _ (Tr_self hx))).tr (hFc.wk hsub)) (by omega)
end
section
/-! Kinds that hand one part's results up: EITHER, THEN, IF. -/
theorem mid_tail {F : zF} {T : zT} {M f d t n n1 m p p1 : Nat} {e y w i th st : Int32} {c c1 : zC} {r r1 : zR} (r0 : zR) (hS : zSim F T M f d) (ht : t + (d + 1) < 16) (hs : ∀ (c : zC) (r : zR) (n : Nat) (w : Int32), zUp F f t e c r n → ¬ w = 0 → q_safe T (r, w)) (hy : Tr F T d y) (hne : ¬ Sb F d y (ix e)) (hsub : ∀ j, Sb F d y j → Sb F (d + 1) e j) (hpy : t_p T (ix (3 * e + i)) = y)
    (hq1 : ∀ r2 : zR, r_ph r2 (ix e) = th → q_step T e 1 r2 = (1, r2)) (hq2 : ∀ r2 : zR, r_ph r2 (ix e) = th → q_step T e 2 r2 = (0, r2)) (hLv : ∀ (c : zC) (r : zR) (p : Nat), c_st c (ix e) = st → r_ph r (ix e) = th → Lv F d y c r p → Lv F (d + 1) e c r (p + 4))
    (hM : Mid F T f d t e c r n c1 r1 w n1 m) (hs1 : q_safe T (r1, w)) (hq : q_step T e w r1 = q_ask T e i th r0) (hR : Ro r1 r0) (hN : Nm F r0) (hF : FrR (fun j => j = ix e ∨ Sb F d y j) r1 r0) (hI : Idl F d y c1 (pu r0 e th t y) p1) (hst : c_st c1 (ix e) = st) (hfr : c_st c (ix e) = 0 → c_st c1 (ix y) = 0)
    (hb1 : m + p1 + zK d n + 20 * n ≤ p + zK d n1 + 20 * n1 + 3) (hb2 : c_st c1 (ix y) = 0 ∨ m + p1 + 2 + zK d n + 20 * n ≤ p + zK d n1 + 20 * n1) : Out F T f (d + 1) t e c r p n (p_up e y (p_all F M d y c1)) := by
  have hF1 := hM.2.2.2.1
  have hA := mid_ask (p := p) r0 hS ht hM hs1 hy hne hsub hq hpy hR hN hF hI
  generalize p_all F M d y c1 = q at hA
  obtain ⟨v, c2⟩ := q
  obtain ⟨hFc, ⟨hv, n2, m2, r2, p3, hn, hM2, hph, -, -, -, -, hFr, hgv, hL, hb⟩ | ⟨hv, n2, m2, r2, hn, hfr2, hM2, hph, -, -, -, -, hFr, hb⟩ | ⟨hv, n2, hn, herr⟩⟩ := hA
  · dsimp only at hv; subst hv
    have hn0 := hM.2.2.2.2.2
    have hp : p_up e y ((1 : Int32), c2) = (1, s_rs c2 e (c_rs c2 (ix y))) := by simp [p_up, p_give]
    rw [hp]
    refine mid_one _ ht hM2 (hs _ _ _ _ hM2.2.1 (by decide)) (hq1 r2 hph) ⟨rfl, rfl, rfl⟩ hM2.2.1.1 hM2.2.1.2.1 hM2.2.1.2.2.1 FrR.rf (fc_rs (Or.inl rfl)) (hgv.trans (pk_us (f := c_rs c2)).symm) (hLv _ _ p3 ((hFc _ hne).1.trans hst) hph ?_) (by omega) ?_
    · exact Lv_cong d _ _ (Ag.of (D := fun j => j = ix e) (E := fun j => j = ix e) (fc_rs (D := fun j => j = ix e) rfl) fr_tp (fun _ h q => hne (q ▸ h)) (fun _ h q => hne (q ▸ h))) hL
    · rw [zK_s, zK_s]; omega
  · dsimp only at hv; subst hv
    have hn0 := hM.2.2.2.2.2
    have hp : p_up e y ((0 : Int32), c2) = (0, c2) := by simp [p_up]
    rw [hp]
    refine mid_zero _ ht hM2 (hs _ _ _ _ hM2.2.1 (by decide)) (hq2 r2 hph) ⟨rfl, rfl, rfl, rfl⟩ hM2.2.1.1 FrR.rf FrC.rf rfl (fun h => by have := hfr2 (hfr h); omega) ?_
    rw [zK_s, zK_s]
    rcases hb2 with h | h
    · have := hfr2 h; omega
    · omega
  · have hp : p_up e y (v, c2) = (v, c2) := by simp [p_up, neg1 hv]
    rw [hp]
    exact herr c2 v rfl rfl (hF1.tr (hFc.wk hsub)) hb1
theorem sm_either {F : zF} {T : zT} {M f d t n p : Nat} {e : Int32} {c : zC} {r : zR} (hS : zSim F T M f d) (hT : Tr F T (d + 1) e) (hk : f_k F (ix e) = 6) (ht : t + (d + 1) < 16) (hU : zUp F f t e c r n) (hI : Idl F (d + 1) e c r p) : Out F T f (d + 1) t e c r p n (p_either F (p_all F M d) e c) := by
  have a1 : 1 ≤ f_a F e := by simp [f_a, hk]
  have a2 : 2 ≤ f_a F e := by simp [f_a, hk]
  obtain ⟨hx, hpx, hne⟩ := hT.2.2.2.2.1 a1
  obtain ⟨hy, hpy, hney, -⟩ := hT.2.2.2.2.2.1 a2
  have hxe : ix (f_x F (ix e)) ≠ ix e := ne_of hx hne
  have hye : ix (f_y F (ix e)) ≠ ix e := ne_of hy hney
  have hsub : ∀ j, Sb F d (f_x F (ix e)) j → Sb F (d + 1) e j := fun j h => Or.inr (Or.inl ⟨a1, h⟩)
  have hsuby : ∀ j, Sb F d (f_y F (ix e)) j → Sb F (d + 1) e j := fun j h => Or.inr (Or.inr (Or.inl ⟨a2, h⟩))
  have hs : ∀ (c : zC) (r : zR) (n : Nat) (w : Int32), zUp F f t e c r n → ¬ w = 0 → q_safe T (r, w) := fun c r n w hU hw => safe_of hT (by omega) hU (fun _ h => absurd h hw) (fun h => by rw [hk] at h; simp at h)
  have hq1 : ∀ r2 : zR, q_step T e 1 r2 = (1, r2) := fun r2 => by simp [q_step, q_binary, hT.2.2.1, hk, t_kc]
  have hq2 : ∀ r2 : zR, q_step T e 2 r2 = if r_ph r2 (ix e) = 1 then q_first T e 1 2 r2 else (0, r2) := fun r2 => by simp [q_step, q_binary, hT.2.2.1, hk, t_kc]
  have hq0 : q_step T e 0 r = if r_ph r (ix e) = 0 then q_first T e 0 1 r else q_ask T e (r_ph r (ix e) - 1) (r_ph r (ix e)) r := by simp [q_step, q_binary, hT.2.2.1, hk, t_kc]
  have hLx : ∀ (c : zC) (r : zR) (p : Nat), c_st c (ix e) = 1 → r_ph r (ix e) = 1 → Lv F d (f_x F (ix e)) c r p → Lv F (d + 1) e c r (p + 4) := fun c r p h1 h2 h3 => (Lv_6 hk).mpr (Or.inl ⟨h1, h2, p, h3, rfl⟩)
  have hLy : ∀ (c : zC) (r : zR) (p : Nat), c_st c (ix e) = 2 → r_ph r (ix e) = 2 → Lv F d (f_y F (ix e)) c r p → Lv F (d + 1) e c r (p + 4) := fun c r p h1 h2 h3 => (Lv_6 hk).mpr (Or.inr ⟨h1, h2, p, h3, rfl⟩)
  have hqy2 : ∀ r2 : zR, r_ph r2 (ix e) = 2 → q_step T e 2 r2 = (0, r2) := fun r2 h => by rw [hq2, h]; rfl
  -- the way by x
  have goX : ∀ (r0 : zR) (p1 p2 : Nat), ¬ c_st c (ix e) = 2 → q_safe T (r, 0) → q_step T e 0 r = q_ask T e 0 1 r0 → Ro r r0 → Nm F r0 → FrR (fun j => j = ix e ∨ Sb F d (f_x F (ix e)) j) r r0 → Idl F d (f_x F (ix e)) (p_x1 F e c) (pu r0 e 1 t (f_x F (ix e))) p1 → p = p1 + p2 → p2 ≤ 4 → Out F T f (d + 1) t e c r p n (p_either F (p_all F M d) e c) := by
    intro r0 p1 p2 hst hs0 hq hR hN hF hI9 hp2 hp4
    subst hp2
    have hA := mid_ask (p := p1 + p2) r0 hS ht (mid_c (mid_0 (T := T) (d := d) hU) (x1_F (Or.inl rfl) (hsub _ (Tr_self hx))) (x1_g F e c)) hs0 hx hne hsub hq hpx hR hN hF hI9
    have hpe := p_x_eq F (p_all F M d) e c
    generalize p_all F M d (f_x F (ix e)) (p_x1 F e c) = q at hA hpe
    obtain ⟨v, c2⟩ := q
    obtain ⟨hFc, ⟨hv, n2, m2, r2, p3, hn, hM, hph, -, -, -, -, hFr, hgv, hL, hb⟩ | ⟨hv, n2, m2, r2, hn, hfr, hM, hph, -, -, -, -, hFr, hb⟩ | ⟨hv, n2, hn, herr⟩⟩ := hA
    · dsimp only at hv; subst hv
      have hp : p_either F (p_all F M d) e c = (1, s_rs c2 e (c_rs c2 (ix (f_x F (ix e))))) := by simp [p_either, hpe, p_up, p_give, hst]
      rw [hp]
      refine mid_one _ ht hM (hs _ _ _ _ hM.2.1 (by decide)) (hq1 r2) ⟨rfl, rfl, rfl⟩ hM.2.1.1 hM.2.1.2.1 hM.2.1.2.2.1 FrR.rf (fc_rs (Or.inl rfl)) (hgv.trans (pk_us (f := c_rs c2)).symm) (hLx _ _ p3 ((hFc _ hne).1.trans (x1_st F e c)) hph ?_) hn ?_
      · exact Lv_cong d _ _ (Ag.of (D := fun j => j = ix e) (E := fun j => j = ix e) (fc_rs (D := fun j => j = ix e) rfl) fr_tp (fun _ h q => hne (q ▸ h)) (fun _ h q => hne (q ▸ h))) hL
      · rw [zK_s, zK_s]; omega
    · dsimp only at hv; subst hv
      have hp : p_either F (p_all F M d) e c = p_up e (f_y F (ix e)) (p_all F M d (f_y F (ix e)) (s_st (s_st c2 e 2) (f_y F (ix e)) 0)) := by simp [p_either, hpe, hst]
      rw [hp]
      have hq3 : q_step T e 2 r2 = q_ask T e 1 2 (u_ph r2 (f_y F (ix e)) 0) := by rw [hq2, if_pos hph, q_first_eq hpy]
      have hst0 : c_st (s_st (s_st c2 e 2) (f_y F (ix e)) 0) (ix (f_y F (ix e))) = 0 := pk_us
      exact mid_tail (p1 := 0) (st := 2) (u_ph r2 (f_y F (ix e)) 0) hS ht hs hy hney hsuby hpy (fun r2 _ => hq1 r2) hqy2 hLy (mid_c hM ((fc_st (Or.inl rfl)).tr (fc_st (hsuby _ (Tr_self hy)))) rfl) (hs _ _ _ _ hM.2.1 (by decide)) hq3 ⟨rfl, rfl, rfl, rfl⟩ hM.2.1.1 (fr_ph (Or.inr (Tr_self hy))) (id_fresh hy hney hst0) ((pk_un (Ne.symm hye)).trans pk_us) (fun _ => hst0) (by omega) (Or.inl hst0)
    · have hp : p_either F (p_all F M d) e c = (v, c2) := by simp [p_either, hpe, p_up, hst, neg1 hv, neg0 hv]
      rw [hp]
      exact herr c2 v rfl rfl ((x1_F (Or.inl rfl) (hsub _ (Tr_self hx))).tr (hFc.wk hsub)) (by omega)
  rcases hI with ⟨h1, h2, rfl⟩ | hL
  · have hs0 : q_safe T (r, 0) := safe_of hT (by omega) hU (fun _ _ => Or.inl h2) (fun h => by rw [hk] at h; simp at h)
    refine goX (u_ph r (f_x F (ix e)) 0) 0 0 (by rw [h1]; decide) hs0 (by rw [hq0, if_pos h2, q_first_eq hpx]) ⟨rfl, rfl, rfl, rfl⟩ hU.1 (fr_ph (Or.inr (Tr_self hx))) (id_fresh hx hne (x1_f hxe h1)) rfl (by omega)
  · rcases (Lv_6 hk).mp hL with ⟨h1, h2, p1, hL1, rfl⟩ | ⟨h1, h2, p1, hL1, rfl⟩
    · have hs0 : q_safe T (r, 0) := safe_of hT (by omega) hU (fun _ _ => Or.inr (Or.inl h2)) (fun h => by rw [hk] at h; simp at h)
      refine goX r p1 4 (by rw [h1]; decide) hs0 (by rw [hq0, h2]; rfl) ⟨rfl, rfl, rfl, rfl⟩ hU.1 FrR.rf ?_ rfl (by omega)
      unfold p_x1; rw [if_neg (by rw [h1]; decide)]
      exact id_live hne hL1 (fc_st (D := fun j => j = ix e) rfl)
    · have hs0 : q_safe T (r, 0) := safe_of hT (by omega) hU (fun _ _ => Or.inr (Or.inr (Or.inl h2))) (fun h => by rw [hk] at h; simp at h)
      have hp : p_either F (p_all F M d) e c = p_up e (f_y F (ix e)) (p_all F M d (f_y F (ix e)) c) := by simp [p_either, h1]
      rw [hp]
      exact mid_tail (st := 2) r hS ht hs hy hney hsuby hpy (fun r2 _ => hq1 r2) hqy2 hLy (mid_0 hU) hs0 (by rw [hq0, h2]; rfl) ⟨rfl, rfl, rfl, rfl⟩ hU.1 FrR.rf (id_live hney hL1 FrC.rf) h1 (fun h => absurd (h.symm.trans h1) (by decide)) (by omega) (Or.inr (by omega))
theorem sm_then {F : zF} {T : zT} {M f d t n p : Nat} {e : Int32} {c : zC} {r : zR} (hS : zSim F T M f d) (hT : Tr F T (d + 1) e) (hk : f_k F (ix e) = 17) (ht : t + (d + 1) < 16) (hU : zUp F f t e c r n) (hI : Idl F (d + 1) e c r p) : Out F T f (d + 1) t e c r p n (p_then F (p_all F M d) e c) := by
  have a1 : 1 ≤ f_a F e := by simp [f_a, hk]
  have a2 : 2 ≤ f_a F e := by simp [f_a, hk]
  obtain ⟨hx, hpx, hne⟩ := hT.2.2.2.2.1 a1
  obtain ⟨hy, hpy, hney, -⟩ := hT.2.2.2.2.2.1 a2
  have hxe : ix (f_x F (ix e)) ≠ ix e := ne_of hx hne
  have hye : ix (f_y F (ix e)) ≠ ix e := ne_of hy hney
  have hsub : ∀ j, Sb F d (f_x F (ix e)) j → Sb F (d + 1) e j := fun j h => Or.inr (Or.inl ⟨a1, h⟩)
  have hsuby : ∀ j, Sb F d (f_y F (ix e)) j → Sb F (d + 1) e j := fun j h => Or.inr (Or.inr (Or.inl ⟨a2, h⟩))
  have hs : ∀ (c : zC) (r : zR) (n : Nat) (w : Int32), zUp F f t e c r n → q_safe T (r, w) := fun c r n w hU => safe_of hT (by omega) hU (fun h => by rw [hk] at h; simp at h) (fun h => by rw [hk] at h; simp at h)
  have hq0 : q_step T e 0 r = if r_ph r (ix e) = 0 then q_first T e 0 1 r else q_ask T e 1 2 r := by simp [q_step, q_binary, hT.2.2.1, hk, t_kc]
  have hqw : ∀ (r2 : zR) (w : Int32), ¬ w = 0 → r_ph r2 (ix e) = 1 → q_step T e w r2 = q_first T e 1 2 r2 := fun r2 w hw h => by simp [q_step, q_binary, hT.2.2.1, hk, t_kc, hw, h]
  have hq1 : ∀ r2 : zR, r_ph r2 (ix e) = 2 → q_step T e 1 r2 = (1, r2) := fun r2 h => by simp [q_step, q_binary, hT.2.2.1, hk, t_kc, h]
  have hq2 : ∀ r2 : zR, r_ph r2 (ix e) = 2 → q_step T e 2 r2 = (0, r2) := fun r2 h => by simp [q_step, q_binary, hT.2.2.1, hk, t_kc, h]
  have hLy : ∀ (c : zC) (r : zR) (p : Nat), c_st c (ix e) = 2 → r_ph r (ix e) = 2 → Lv F d (f_y F (ix e)) c r p → Lv F (d + 1) e c r (p + 4) := fun c r p h1 h2 h3 => (Lv_17 hk).mpr ⟨h1, h2, p, h3, rfl⟩
  rcases hI with ⟨h1, h2, rfl⟩ | hL
  · have hF1 : FrC (Sb F (d + 1) e) c (s_st c (f_x F (ix e)) 0) := fc_st (hsub _ (Tr_self hx))
    have hA := mid_ask (p := 0) (u_ph r (f_x F (ix e)) 0) hS ht (mid_c (mid_0 (T := T) (d := d) hU) hF1 rfl) (hs _ _ _ _ hU) hx hne hsub (by rw [hq0, if_pos h2, q_first_eq hpx]) hpx ⟨rfl, rfl, rfl, rfl⟩ hU.1 (fr_ph (Or.inr (Tr_self hx))) (id_fresh hx hne pk_us)
    have hpe : p_then F (p_all F M d) e c = (let q := p_all F M d (f_x F (ix e)) (s_st c (f_x F (ix e)) 0); if q.1 < 0 then q else p_up e (f_y F (ix e)) (p_all F M d (f_y F (ix e)) (s_st (s_st q.2 e 2) (f_y F (ix e)) 0))) := by
      unfold p_then; rw [if_pos h1]; rfl
    generalize p_all F M d (f_x F (ix e)) (s_st c (f_x F (ix e)) 0) = q at hA hpe
    obtain ⟨v, c2⟩ := q
    have hst0 : c_st (s_st (s_st c2 e 2) (f_y F (ix e)) 0) (ix (f_y F (ix e))) = 0 := pk_us
    -- both ways out of x go on with y
    have goY : ∀ (r2 : zR) (w : Int32) (n2 m : Nat), ¬ w = 0 → ¬ v < 0 → Mid F T f d t e c r n c2 r2 w n2 m → r_ph r2 (ix e) = 1 → m + 0 + zK d n + 20 * n ≤ 0 + zK d n2 + 20 * n2 + 3 → Out F T f (d + 1) t e c r 0 n (p_then F (p_all F M d) e c) := by
      intro r2 w n2 m hw hv hM hph hb
      rw [hpe]
      simp only [if_neg hv]
      exact mid_tail (p1 := 0) (st := 2) (u_ph r2 (f_y F (ix e)) 0) hS ht (fun c r n w h _ => hs c r n w h) hy hney hsuby hpy hq1 hq2 hLy (mid_c hM ((fc_st (Or.inl rfl)).tr (fc_st (hsuby _ (Tr_self hy)))) rfl) (hs _ _ _ _ hM.2.1) (by rw [hqw r2 w hw hph, q_first_eq hpy]) ⟨rfl, rfl, rfl, rfl⟩ hM.2.1.1 (fr_ph (Or.inr (Tr_self hy))) (id_fresh hy hney hst0) ((pk_un (Ne.symm hye)).trans pk_us) (fun _ => hst0) hb (Or.inl hst0)
    obtain ⟨hFc, ⟨hv, n2, m2, r2, p3, hn, hM, hph, -, -, -, -, hFr, hgv, hL, hb⟩ | ⟨hv, n2, m2, r2, hn, hfr, hM, hph, -, -, -, -, hFr, hb⟩ | ⟨hv, n2, hn, herr⟩⟩ := hA
    · dsimp only at hv
      exact goY r2 1 n2 _ (by decide) (by rw [hv]; decide) hM hph (by omega)
    · dsimp only at hv
      exact goY r2 2 n2 _ (by decide) (by rw [hv]; decide) hM hph (by omega)
    · have hp : p_then F (p_all F M d) e c = (v, c2) := by rw [hpe]; simp only [if_pos hv]
      rw [hp]
      exact herr c2 v rfl rfl (hF1.tr (hFc.wk hsub)) (by omega)
  · obtain ⟨h1, h2, p1, hL1, rfl⟩ := (Lv_17 hk).mp hL
    have hp : p_then F (p_all F M d) e c = p_up e (f_y F (ix e)) (p_all F M d (f_y F (ix e)) c) := by simp [p_then, h1]
    rw [hp]
    exact mid_tail (st := 2) r hS ht (fun c r n w h _ => hs c r n w h) hy hney hsuby hpy hq1 hq2 hLy (mid_0 hU) (hs _ _ _ _ hU) (by rw [hq0, h2]; rfl) ⟨rfl, rfl, rfl, rfl⟩ hU.1 FrR.rf (id_live hney hL1 FrC.rf) h1 (fun h => absurd (h.symm.trans h1) (by decide)) (by omega) (Or.inr (by omega))
theorem sm_if {F : zF} {T : zT} {M f d t n p : Nat} {e : Int32} {c : zC} {r : zR} (hS : zSim F T M f d) (hT : Tr F T (d + 1) e) (hk : f_k F (ix e) = 19) (ht : t + (d + 1) < 16) (hU : zUp F f t e c r n) (hI : Idl F (d + 1) e c r p) : Out F T f (d + 1) t e c r p n (p_if F (p_all F M d) e c) := by
  have a1 : 1 ≤ f_a F e := by simp [f_a, hk]
  have a2 : 2 ≤ f_a F e := by simp [f_a, hk]
  have a3 : 3 ≤ f_a F e := by simp [f_a, hk]
  obtain ⟨hx, hpx, hne⟩ := hT.2.2.2.2.1 a1
  obtain ⟨hy, hpy, hney, -⟩ := hT.2.2.2.2.2.1 a2
  obtain ⟨hz, hpz, hnez, -⟩ := hT.2.2.2.2.2.2 a3
  have hxe : ix (f_x F (ix e)) ≠ ix e := ne_of hx hne
  have hye : ix (f_y F (ix e)) ≠ ix e := ne_of hy hney
  have hze : ix (f_z F (ix e)) ≠ ix e := ne_of hz hnez
  have hsub : ∀ j, Sb F d (f_x F (ix e)) j → Sb F (d + 1) e j := fun j h => Or.inr (Or.inl ⟨a1, h⟩)
  have hsuby : ∀ j, Sb F d (f_y F (ix e)) j → Sb F (d + 1) e j := fun j h => Or.inr (Or.inr (Or.inl ⟨a2, h⟩))
  have hsubz : ∀ j, Sb F d (f_z F (ix e)) j → Sb F (d + 1) e j := fun j h => Or.inr (Or.inr (Or.inr ⟨a3, h⟩))
  have hs : ∀ (c : zC) (r : zR) (n : Nat) (w : Int32), zUp F f t e c r n → ¬ w = 0 → q_safe T (r, w) := fun c r n w hU hw => safe_of hT (by omega) hU (fun _ h => absurd h hw) (fun h => by rw [hk] at h; simp at h)
  have hq0 : q_step T e 0 r = if r_ph r (ix e) = 0 then q_first T e 0 1 r else q_ask T e (r_ph r (ix e) - 1) (r_ph r (ix e)) r := by simp [q_step, q_if, hT.2.2.1, hk, t_kc]
  have hq11 : ∀ r2 : zR, r_ph r2 (ix e) = 1 → q_step T e 1 r2 = q_first T e 1 2 r2 := fun r2 h => by simp [q_step, q_if, hT.2.2.1, hk, t_kc, h]
  have hq12 : ∀ r2 : zR, r_ph r2 (ix e) = 1 → q_step T e 2 r2 = q_first T e 2 3 r2 := fun r2 h => by simp [q_step, q_if, hT.2.2.1, hk, t_kc, h]
  have hq1 : ∀ (r2 : zR) (th : Int32), ¬ th = 1 → r_ph r2 (ix e) = th → q_step T e 1 r2 = (1, r2) := fun r2 th h0 h => by simp [q_step, q_if, hT.2.2.1, hk, t_kc, h, h0]
  have hq2 : ∀ (r2 : zR) (th : Int32), ¬ th = 1 → r_ph r2 (ix e) = th → q_step T e 2 r2 = (0, r2) := fun r2 th h0 h => by simp [q_step, q_if, hT.2.2.1, hk, t_kc, h, h0]
  have hLy : ∀ (c : zC) (r : zR) (p : Nat), c_st c (ix e) = 2 → r_ph r (ix e) = 2 → Lv F d (f_y F (ix e)) c r p → Lv F (d + 1) e c r (p + 4) := fun c r p h1 h2 h3 => (Lv_19 hk).mpr (Or.inl ⟨h1, h2, p, h3, rfl⟩)
  have hLz : ∀ (c : zC) (r : zR) (p : Nat), c_st c (ix e) = 3 → r_ph r (ix e) = 3 → Lv F d (f_z F (ix e)) c r p → Lv F (d + 1) e c r (p + 4) := fun c r p h1 h2 h3 => (Lv_19 hk).mpr (Or.inr ⟨h1, h2, p, h3, rfl⟩)
  rcases hI with ⟨h1, h2, rfl⟩ | hL
  · have hs0 : q_safe T (r, 0) := safe_of hT (by omega) hU (fun _ _ => Or.inl h2) (fun h => by rw [hk] at h; simp at h)
    have hF1 : FrC (Sb F (d + 1) e) c (s_st c (f_x F (ix e)) 0) := fc_st (hsub _ (Tr_self hx))
    have hA := mid_ask (p := 0) (u_ph r (f_x F (ix e)) 0) hS ht (mid_c (mid_0 (T := T) (d := d) hU) hF1 rfl) hs0 hx hne hsub (by rw [hq0, if_pos h2, q_first_eq hpx]) hpx ⟨rfl, rfl, rfl, rfl⟩ hU.1 (fr_ph (Or.inr (Tr_self hx))) (id_fresh hx hne pk_us)
    have hpe : p_if F (p_all F M d) e c = (let q := p_all F M d (f_x F (ix e)) (s_st c (f_x F (ix e)) 0); if q.1 < 0 then q else
        let s1 := s_st q.2 e (if q.1 = 1 then 2 else 3)
        let s2 := s_st s1 (p_branch F e s1) 0
        p_up e (p_branch F e s2) (p_all F M d (p_branch F e s2) s2)) := by
      unfold p_if; rw [if_pos h1]; rfl
    generalize p_all F M d (f_x F (ix e)) (s_st c (f_x F (ix e)) 0) = q at hA hpe
    obtain ⟨v, c2⟩ := q
    obtain ⟨hFc, ⟨hv, n2, m2, r2, p3, hn, hM, hph, -, -, -, -, hFr, hgv, hL, hb⟩ | ⟨hv, n2, m2, r2, hn, hfr, hM, hph, -, -, -, -, hFr, hb⟩ | ⟨hv, n2, hn, herr⟩⟩ := hA
    · dsimp only at hv; subst hv
      have b1 : p_branch F e (s_st c2 e 2) = f_y F (ix e) := if_pos pk_us
      have st2 : c_st (s_st (s_st c2 e 2) (f_y F (ix e)) 0) (ix e) = 2 := (pk_un (Ne.symm hye)).trans pk_us
      have b2 : p_branch F e (s_st (s_st c2 e 2) (f_y F (ix e)) 0) = f_y F (ix e) := if_pos st2
      have hp : p_if F (p_all F M d) e c = p_up e (f_y F (ix e)) (p_all F M d (f_y F (ix e)) (s_st (s_st c2 e 2) (f_y F (ix e)) 0)) := by
        rw [hpe]; simp only [if_true, b1, b2]; rfl
      rw [hp]
      exact mid_tail (p1 := 0) (st := 2) (u_ph r2 (f_y F (ix e)) 0) hS ht hs hy hney hsuby hpy (fun r2 h => hq1 r2 2 (by decide) h) (fun r2 h => hq2 r2 2 (by decide) h) hLy (mid_c hM ((fc_st (Or.inl rfl)).tr (fc_st (hsuby _ (Tr_self hy)))) rfl) (hs _ _ _ _ hM.2.1 (by decide)) (by rw [hq11 r2 hph, q_first_eq hpy]) ⟨rfl, rfl, rfl, rfl⟩ hM.2.1.1 (fr_ph (Or.inr (Tr_self hy))) (id_fresh hy hney pk_us) st2 (fun _ => pk_us) (by omega) (Or.inl pk_us)
    · dsimp only at hv; subst hv
      have st3 : c_st (s_st c2 e 3) (ix e) = 3 := pk_us
      have b1 : p_branch F e (s_st c2 e 3) = f_z F (ix e) := if_neg (by rw [st3]; decide)
      have st2 : c_st (s_st (s_st c2 e 3) (f_z F (ix e)) 0) (ix e) = 3 := (pk_un (Ne.symm hze)).trans pk_us
      have b2 : p_branch F e (s_st (s_st c2 e 3) (f_z F (ix e)) 0) = f_z F (ix e) := if_neg (by rw [st2]; decide)
      have hp : p_if F (p_all F M d) e c = p_up e (f_z F (ix e)) (p_all F M d (f_z F (ix e)) (s_st (s_st c2 e 3) (f_z F (ix e)) 0)) := by
        rw [hpe]
        have e1 : (if (0 : Int32) = 1 then (2 : Int32) else 3) = 3 := if_neg (by decide)
        have e2 : ¬ (0 : Int32) < 0 := by decide
        simp only [e1, if_neg e2, b1, b2]
      rw [hp]
      exact mid_tail (p1 := 0) (st := 3) (u_ph r2 (f_z F (ix e)) 0) hS ht hs hz hnez hsubz hpz (fun r2 h => hq1 r2 3 (by decide) h) (fun r2 h => hq2 r2 3 (by decide) h) hLz (mid_c hM ((fc_st (Or.inl rfl)).tr (fc_st (hsubz _ (Tr_self hz)))) rfl) (hs _ _ _ _ hM.2.1 (by decide)) (by rw [hq12 r2 hph, q_first_eq hpz]) ⟨rfl, rfl, rfl, rfl⟩ hM.2.1.1 (fr_ph (Or.inr (Tr_self hz))) (id_fresh hz hnez pk_us) st2 (fun _ => pk_us) (by omega) (Or.inl pk_us)
    · have hp : p_if F (p_all F M d) e c = (v, c2) := by rw [hpe]; simp only [if_pos hv]
      rw [hp]
      exact herr c2 v rfl rfl (hF1.tr (hFc.wk hsub)) (by omega)
  · rcases (Lv_19 hk).mp hL with ⟨h1, h2, p1, hL1, rfl⟩ | ⟨h1, h2, p1, hL1, rfl⟩
    · have hs0 : q_safe T (r, 0) := safe_of hT (by omega) hU (fun _ _ => Or.inr (Or.inr (Or.inl h2))) (fun h => by rw [hk] at h; simp at h)
      have b : p_branch F e c = f_y F (ix e) := if_pos h1
      have hp : p_if F (p_all F M d) e c = p_up e (f_y F (ix e)) (p_all F M d (f_y F (ix e)) c) := by simp [p_if, h1, b]
      rw [hp]
      exact mid_tail (st := 2) r hS ht hs hy hney hsuby hpy (fun r2 h => hq1 r2 2 (by decide) h) (fun r2 h => hq2 r2 2 (by decide) h) hLy (mid_0 hU) hs0 (by rw [hq0, h2]; rfl) ⟨rfl, rfl, rfl, rfl⟩ hU.1 FrR.rf (id_live hney hL1 FrC.rf) h1 (fun h => absurd (h.symm.trans h1) (by decide)) (by omega) (Or.inr (by omega))
    · have hs0 : q_safe T (r, 0) := safe_of hT (by omega) hU (fun _ _ => Or.inr (Or.inr (Or.inr h2))) (fun h => by rw [hk] at h; simp at h)
      have b : p_branch F e c = f_z F (ix e) := if_neg (by rw [h1]; decide)
      have hp : p_if F (p_all F M d) e c = p_up e (f_z F (ix e)) (p_all F M d (f_z F (ix e)) c) := by simp [p_if, h1, b]
      rw [hp]
      exact mid_tail (st := 3) r hS ht hs hz hnez hsubz hpz (fun r2 h => hq1 r2 3 (by decide) h) (fun r2 h => hq2 r2 3 (by decide) h) hLz (mid_0 hU) hs0 (by rw [hq0, h2]; rfl) ⟨rfl, rfl, rfl, rfl⟩ hU.1 FrR.rf (id_live hnez hL1 FrC.rf) h1 (fun h => absurd (h.symm.trans h1) (by decide)) (by omega) (Or.inr (by omega))
end
section
/-! The loop over pairs, as both sides go through it. -/
def Prt (F : zF) (T : zT) (d : Nat) (e i x : Int32) : Prop := Tr F T d x ∧ t_p T (ix (3 * e + i)) = x ∧ ¬ Sb F d x (ix e) ∧ ∀ j, Sb F d x j → Sb F (d + 1) e j
/-- how the machine keeps the result of x in mind -/
def Mem (F : zF) (T : zT) (f t : Nat) (e : Int32) (mm : zR → zR) (MO : zR → Int32 → Prop) : Prop :=
  (∀ r, Ro r (mm r) ∧ (Nm F r → Nm F (mm r)) ∧ FrR (fun j => j = ix e) r (mm r) ∧ r_gv (mm r) = r_gv r ∧ MO (mm r) (r_gv r)) ∧ (∀ r r' v, r_nm r' (ix e) = r_nm r (ix e) → r_kp r' (3 * ix e) = r_kp r (3 * ix e) → MO r v → MO r' v) ∧
  (∀ r, r_ph r (ix e) = 1 → q_step T e 1 r = q_first T e 1 2 (mm r)) ∧ (∀ r, r_ph r (ix e) = 2 → q_step T e 2 r = q_ask T e 0 1 r) ∧ ∀ c r n w, zUp F f t e c r n → ¬ w = 0 → r_ph r (ix e) = 1 ∨ r_ph r (ix e) = 2 ∨ r_ph r (ix e) = 3 → q_safe T (r, w)
/-- what the loop comes to, from the way's state at n1, m1, with p1 laid by -/
def PairedS (sl : Nat) (F : zF) (T : zT) (f d t : Nat) (e : Int32) (MO : zR → Int32 → Prop) (c : zC) (r : zR) (p n n1 m1 p1 : Nat) (fr : Prop) (q : Int32 × zC) : Prop :=
  FrC (Sb F (d + 1) e) c q.2 ∧
  ((q.1 = 1 ∧ ∃ n2 m2 r2 px py, n1 < n2 ∧ Mid F T f d t e c r n q.2 r2 1 n2 m2 ∧ r_ph r2 (ix e) = 2 ∧ c_st q.2 (ix e) = 2 ∧ MO r2 (c_rs q.2 (ix (f_x F (ix e)))) ∧ r_gv r2 = c_rs q.2 (ix (f_y F (ix e))) ∧ Lv F d (f_x F (ix e)) q.2 r2 px ∧ Lv F d (f_y F (ix e)) q.2 r2 py ∧ m2 + px + py + sl + zK d n1 + 10 * n1 ≤ m1 + p1 + zK d n2 + 10 * n2) ∨
   (q.1 = 0 ∧ ∃ n2 m2 r2, n1 ≤ n2 ∧ (fr → n1 < n2) ∧ Mid F T f d t e c r n q.2 r2 2 n2 m2 ∧ r_ph r2 (ix e) = 1 ∧ m2 + sl + zK d n1 + 10 * n1 ≤ m1 + p1 + zK d n2 + 10 * n2 + 2) ∨
   (q.1 < 0 ∧ ∀ c3, c_g c3 = c_g q.2 → FrC (Sb F (d + 1) e) c c3 → Out F T f (d + 1) t e c r p n (q.1, c3)))
def Paired (F : zF) (T : zT) (f d t : Nat) (e : Int32) (MO : zR → Int32 → Prop) (c : zC) (r : zR) (p n n1 m1 p1 : Nat) (fr : Prop) (q : Int32 × zC) : Prop := PairedS 0 F T f d t e MO c r p n n1 m1 p1 fr q
theorem pS_0 {F : zF} {T : zT} {f d t : Nat} {e : Int32} {MO : zR → Int32 → Prop} {c : zC} {r : zR} {p n n1 m1 p1 : Nat} {fr : Prop} {q : Int32 × zC} (h : PairedS 1 F T f d t e MO c r p n n1 m1 p1 fr q) : Paired F T f d t e MO c r p n n1 m1 p1 fr q := by
  obtain ⟨hF9, ⟨h1, n9, m9, r9, px, py, h2, h3, h4, h5, h6, h7, h8, h9, hb9⟩ | ⟨h1, n9, m9, r9, h2, h3, h4, h5, hb9⟩ | ⟨h1, h2⟩⟩ := h
  · exact ⟨hF9, Or.inl ⟨h1, n9, m9, r9, px, py, h2, h3, h4, h5, h6, h7, h8, h9, by omega⟩⟩
  · exact ⟨hF9, Or.inr (Or.inl ⟨h1, n9, m9, r9, h2, h3, h4, h5, by omega⟩)⟩
  · exact ⟨hF9, Or.inr (Or.inr ⟨h1, h2⟩)⟩
/-- x is asked next -/
theorem pair_X1 {F : zF} {T : zT} {M f d t n p : Nat} {e : Int32} {c : zC} {r : zR} {mm : zR → zR} {MO : zR → Int32 → Prop} (hS : zSim F T M f d) (ht : t + (d + 1) < 16) (hX : Prt F T d e 0 (f_x F (ix e))) (hY : Prt F T d e 1 (f_y F (ix e))) (hD : ∀ j, Sb F d (f_x F (ix e)) j → ¬ Sb F d (f_y F (ix e)) j) (hm : Mem F T f t e mm MO) :
    ∀ (τ : Nat) (c1 : zC) (r1 r0 : zR) (w : Int32) (n1 m1 p1 : Nat), Mid F T f d t e c r n c1 r1 w n1 m1 → f + 1 ≤ n1 + τ → ¬ c_st c1 (ix e) = 2 → q_safe T (r1, w) → q_step T e w r1 = q_ask T e 0 1 r0 → Ro r1 r0 → Nm F r0 → FrR (fun j => j = ix e ∨ Sb F d (f_x F (ix e)) j) r1 r0 → Idl F d (f_x F (ix e)) (p_x1 F e c1) (pu r0 e 1 t (f_x F (ix e))) p1 → m1 + p1 + zK d n + 20 * n ≤ p + zK d n1 + 20 * n1 + 3 →
      PairedS 1 F T f d t e MO c r p n n1 m1 p1 (c_st c1 (ix e) = 0) (p_pairL F (p_all F M d) e τ c1) := by
  intro τ
  induction τ with
  | zero =>
    intro c1 r1 r0 w n1 m1 p1 hM hτ hst hs hq hR hN hF hI hE
    have := hM.2.1.2.2.1.2.1
    omega
  | succ τ ihτ =>
    intro c1 r1 r0 w n1 m1 p1 hM hτ hst hs hq hR hN hF hI hE
    obtain ⟨hx, hpx, hne, hsub⟩ := hX
    obtain ⟨hy, hpy, hney, hsuby⟩ := hY
    have hxe : ix (f_x F (ix e)) ≠ ix e := ne_of hx hne
    have hye : ix (f_y F (ix e)) ≠ ix e := ne_of hy hney
    have hxy : ¬ Sb F d (f_y F (ix e)) (ix (f_x F (ix e))) := hD _ (Tr_self hx)
    have hM1 := mid_c hM (x1_F (D := Sb F (d + 1) e) (Or.inl rfl) (hsub _ (Tr_self hx))) (x1_g F e c1)
    have hA := mid_ask (p := p) r0 hS ht hM1 hs hx hne hsub hq hpx hR hN hF hI
    have hpe : p_pairL F (p_all F M d) e (τ + 1) c1 = (let q := p_all F M d (f_x F (ix e)) (p_x1 F e c1); if q.1 = 1 then
        let q2 := p_all F M d (f_y F (ix e)) (s_st (s_st q.2 e 2) (f_y F (ix e)) 0)
        if q2.1 = 0 then p_pairL F (p_all F M d) e τ (s_st q2.2 e 1) else q2
      else q) := by
      show (if c_st c1 (ix e) = 2 then _ else _) = _
      rw [if_neg hst]; rfl
    generalize p_all F M d (f_x F (ix e)) (p_x1 F e c1) = q at hA hpe
    obtain ⟨v, c2⟩ := q
    obtain ⟨hFc, ⟨hv, n2, m2, r2, p3, hn, hM2, hph, -, -, -, -, hFr, hgv, hL, hb⟩ | ⟨hv, n2, m2, r2, hn, hfr, hM2, hph, -, -, -, -, hFr, hb⟩ | ⟨hv, n2, hn, herr⟩⟩ := hA
    · dsimp only at hv; subst hv
      simp only [if_true] at hpe
      obtain ⟨hmr, hmn, hmf, hmg, hmo⟩ := hm.1 r2
      have hF3 : FrC (Sb F (d + 1) e) c2 (s_st (s_st c2 e 2) (f_y F (ix e)) 0) := (fc_st (Or.inl rfl)).tr (fc_st (hsuby _ (Tr_self hy)))
      have hst3 : c_st (s_st (s_st c2 e 2) (f_y F (ix e)) 0) (ix e) = 2 := (pk_un (Ne.symm hye)).trans pk_us
      have hst0 : c_st (s_st (s_st c2 e 2) (f_y F (ix e)) 0) (ix (f_y F (ix e))) = 0 := pk_us
      have hB := mid_ask (p := p) (p1 := 0) (u_ph (mm r2) (f_y F (ix e)) 0) hS ht (mid_c hM2 hF3 rfl) (hm.2.2.2.2 _ _ _ _ hM2.2.1 (by decide) (Or.inl hph)) hy hney hsuby (by rw [hm.2.2.1 r2 hph, q_first_eq hpy]) hpy hmr (hmn hM2.2.1.1) ((hmf.wk fun _ h => Or.inl h).tr (fr_ph (Or.inr (Tr_self hy)))) (id_fresh hy hney hst0)
      generalize p_all F M d (f_y F (ix e)) (s_st (s_st c2 e 2) (f_y F (ix e)) 0) = q at hB hpe
      obtain ⟨v, c4⟩ := q
      -- x keeps its state while y is asked
      have keep : ∀ r4 : zR, FrC (Sb F d (f_y F (ix e))) (s_st (s_st c2 e 2) (f_y F (ix e)) 0) c4 → FrR (fun j => j = ix e ∨ Sb F d (f_y F (ix e)) j) r2 r4 → Lv F d (f_x F (ix e)) c4 r4 p3 ∧ c_rs c4 (ix (f_x F (ix e))) = c_rs c2 (ix (f_x F (ix e))) := fun r4 hC hR4 => by
        have hC' : FrC (fun j => j = ix e ∨ Sb F d (f_y F (ix e)) j) c2 c4 := ((fc_st (Or.inl rfl)).tr (fc_st (Or.inr (Tr_self hy)))).tr (hC.wk fun _ h => Or.inr h)
        have hout : ∀ j, Sb F d (f_x F (ix e)) j → ¬ (j = ix e ∨ Sb F d (f_y F (ix e)) j) := fun j hj h => by
          rcases h with h | h
          · exact hne (h ▸ hj)
          · exact hD j hj h
        exact ⟨Lv_cong d _ _ (Ag.of hC' hR4 hout hout) hL, (hC' _ (hout _ (Tr_self hx))).2.1⟩
      obtain ⟨hFd, ⟨hv, n3, m3, r3, p4, hn3, hM3, hph3, hnm3, hk3, -, -, hFr3, hgv3, hL3, hb3⟩ | ⟨hv, n3, m3, r3, hn3, hfr3, hM3, hph3, -, -, -, -, hFr3, hb3⟩ | ⟨hv, n3, hn3, herr⟩⟩ := hB
      · dsimp only at hv; subst hv
        have hp : p_pairL F (p_all F M d) e (τ + 1) c1 = (1, c4) := by rw [hpe]; simp
        obtain ⟨hLx, hrs⟩ := keep r3 hFd hFr3
        rw [hp]
        refine ⟨hM3.2.2.2.1, Or.inl ⟨rfl, n3, _, r3, p3, p4, by omega, hM3, hph3, (hFd _ hney).1.trans hst3, ?_, hgv3, hLx, hL3, by omega⟩⟩
        rw [hrs, ← hgv]
        exact hm.2.1 (mm r2) r3 _ hnm3 hk3 hmo
      · dsimp only at hv; subst hv
        have hn4 := hfr3 hst0
        have hp : p_pairL F (p_all F M d) e (τ + 1) c1 = p_pairL F (p_all F M d) e τ (s_st c4 e 1) := by rw [hpe]; simp
        obtain ⟨hLx, -⟩ := keep r3 hFd hFr3
        have hst5 : c_st (s_st c4 e 1) (ix e) = 1 := pk_us
        have hI5 : Idl F d (f_x F (ix e)) (p_x1 F e (s_st c4 e 1)) (pu r3 e 1 t (f_x F (ix e))) p3 := by
          unfold p_x1; rw [if_neg (by rw [hst5]; decide)]
          exact id_live hne hLx ((fc_st (D := fun j => j = ix e) rfl).tr (fc_st (D := fun j => j = ix e) rfl))
        have ih := ihτ (s_st c4 e 1) r3 r3 2 n3 _ p3 (mid_c hM3 (fc_st (Or.inl rfl)) rfl) (by omega) (by rw [hst5]; decide) (hm.2.2.2.2 _ _ _ _ hM3.2.1 (by decide) (Or.inr (Or.inl hph3))) (hm.2.2.2.1 r3 hph3) ⟨rfl, rfl, rfl, rfl⟩ hM3.2.1.1 FrR.rf hI5 (by omega)
        rw [hp]
        generalize p_pairL F (p_all F M d) e τ (s_st c4 e 1) = q at ih
        obtain ⟨hF9, ⟨h1, n9, m9, r9, px, py, h2, h3, h4, h5, h6, h7, h8, h9, hb9⟩ | ⟨h1, n9, m9, r9, h2, h3, h4, h5, hb9⟩ | ⟨h1, h2⟩⟩ := ih
        · exact ⟨hF9, Or.inl ⟨h1, n9, m9, r9, px, py, by omega, h3, h4, h5, h6, h7, h8, h9, by omega⟩⟩
        · exact ⟨hF9, Or.inr (Or.inl ⟨h1, n9, m9, r9, by omega, fun _ => by omega, h4, h5, by omega⟩)⟩
        · exact ⟨hF9, Or.inr (Or.inr ⟨h1, h2⟩)⟩
      · have hp : p_pairL F (p_all F M d) e (τ + 1) c1 = (v, c4) := by rw [hpe]; simp [neg0 hv]
        rw [hp]
        exact ⟨(hM2.2.2.2.1.tr hF3).tr (hFd.wk hsuby), Or.inr (Or.inr ⟨hv, fun c3 hg hF9 => herr c3 v hg rfl hF9 (by omega)⟩)⟩
    · dsimp only at hv; subst hv
      have hp : p_pairL F (p_all F M d) e (τ + 1) c1 = (0, c2) := by rw [hpe]; simp
      rw [hp]
      exact ⟨hM2.2.2.2.1, Or.inr (Or.inl ⟨rfl, n2, _, r2, hn, fun h => hfr (x1_f hxe h), hM2, hph, by omega⟩)⟩
    · have hp : p_pairL F (p_all F M d) e (τ + 1) c1 = (v, c2) := by rw [hpe]; simp [neg1 hv]
      rw [hp]
      exact ⟨hM1.2.2.2.1.tr (hFc.wk hsub), Or.inr (Or.inr ⟨hv, fun c3 hg hF9 => herr c3 v hg rfl hF9 (by omega)⟩)⟩
theorem pair_X {F : zF} {T : zT} {M f d t n p : Nat} {e : Int32} {c : zC} {r : zR} {mm : zR → zR} {MO : zR → Int32 → Prop} (hS : zSim F T M f d) (ht : t + (d + 1) < 16) (hX : Prt F T d e 0 (f_x F (ix e))) (hY : Prt F T d e 1 (f_y F (ix e))) (hD : ∀ j, Sb F d (f_x F (ix e)) j → ¬ Sb F d (f_y F (ix e)) j) (hm : Mem F T f t e mm MO) :
    ∀ (τ : Nat) (c1 : zC) (r1 r0 : zR) (w : Int32) (n1 m1 p1 : Nat), Mid F T f d t e c r n c1 r1 w n1 m1 → f + 1 ≤ n1 + τ → ¬ c_st c1 (ix e) = 2 → q_safe T (r1, w) → q_step T e w r1 = q_ask T e 0 1 r0 → Ro r1 r0 → Nm F r0 → FrR (fun j => j = ix e ∨ Sb F d (f_x F (ix e)) j) r1 r0 → Idl F d (f_x F (ix e)) (p_x1 F e c1) (pu r0 e 1 t (f_x F (ix e))) p1 → m1 + p1 + zK d n + 20 * n ≤ p + zK d n1 + 20 * n1 + 3 →
      Paired F T f d t e MO c r p n n1 m1 p1 (c_st c1 (ix e) = 0) (p_pairL F (p_all F M d) e τ c1) :=
  fun τ c1 r1 r0 w n1 m1 p1 a1 a2 a3 a4 a5 a6 a7 a8 a9 a10 => pS_0 (pair_X1 hS ht hX hY hD hm τ c1 r1 r0 w n1 m1 p1 a1 a2 a3 a4 a5 a6 a7 a8 a9 a10)
/-- y is asked next -/
theorem pair_Y {F : zF} {T : zT} {M f d t n p : Nat} {e : Int32} {c : zC} {r : zR} {mm : zR → zR} {MO : zR → Int32 → Prop} (hS : zSim F T M f d) (ht : t + (d + 1) < 16) (hX : Prt F T d e 0 (f_x F (ix e))) (hY : Prt F T d e 1 (f_y F (ix e))) (hD : ∀ j, Sb F d (f_x F (ix e)) j → ¬ Sb F d (f_y F (ix e)) j) (hm : Mem F T f t e mm MO)
    (τ : Nat) (c1 : zC) (r1 : zR) (w : Int32) (n1 m1 px py : Nat) (hM : Mid F T f d t e c r n c1 r1 w n1 m1) (hτ : f + 1 ≤ n1 + τ) (hst : c_st c1 (ix e) = 2) (hs : q_safe T (r1, w)) (hq : q_step T e w r1 = q_ask T e 1 2 r1) (hLx : Lv F d (f_x F (ix e)) c1 r1 px) (hLy : Lv F d (f_y F (ix e)) c1 r1 py) (hmo : MO r1 (c_rs c1 (ix (f_x F (ix e))))) (hE : m1 + px + py + zK d n + 20 * n ≤ p + zK d n1 + 20 * n1 + 2) :
      Paired F T f d t e MO c r p n n1 m1 (px + py) False (p_pairL F (p_all F M d) e (τ + 1) c1) := by
  obtain ⟨hx, hpx, hne, hsub⟩ := hX
  obtain ⟨hy, hpy, hney, hsuby⟩ := hY
  have hA := mid_ask (p := p) r1 hS ht hM hs hy hney hsuby hq hpy ⟨rfl, rfl, rfl, rfl⟩ hM.2.1.1 FrR.rf (id_live hney hLy FrC.rf)
  have hpe : p_pairL F (p_all F M d) e (τ + 1) c1 = (let q := p_all F M d (f_y F (ix e)) c1; if q.1 = 0 then p_pairL F (p_all F M d) e τ (s_st q.2 e 1) else q) := by
    show (if c_st c1 (ix e) = 2 then _ else _) = _
    rw [if_pos hst]
  generalize p_all F M d (f_y F (ix e)) c1 = q at hA hpe
  obtain ⟨v, c4⟩ := q
  have keep : ∀ r4 : zR, FrC (Sb F d (f_y F (ix e))) c1 c4 → FrR (fun j => j = ix e ∨ Sb F d (f_y F (ix e)) j) r1 r4 → Lv F d (f_x F (ix e)) c4 r4 px ∧ c_rs c4 (ix (f_x F (ix e))) = c_rs c1 (ix (f_x F (ix e))) := fun r4 hC hR4 => by
    have hout : ∀ j, Sb F d (f_x F (ix e)) j → ¬ (j = ix e ∨ Sb F d (f_y F (ix e)) j) := fun j hj h => by
      rcases h with h | h
      · exact hne (h ▸ hj)
      · exact hD j hj h
    exact ⟨Lv_cong d _ _ (Ag.of hC hR4 (fun j hj => hD j hj) hout) hLx, (hC _ (hD _ (Tr_self hx))).2.1⟩
  obtain ⟨hFd, ⟨hv, n3, m3, r3, p4, hn3, hM3, hph3, hnm3, hk3, -, -, hFr3, hgv3, hL3, hb3⟩ | ⟨hv, n3, m3, r3, hn3, hfr3, hM3, hph3, -, -, -, -, hFr3, hb3⟩ | ⟨hv, n3, hn3, herr⟩⟩ := hA
  · dsimp only at hv; subst hv
    have hp : p_pairL F (p_all F M d) e (τ + 1) c1 = (1, c4) := by rw [hpe]; simp
    obtain ⟨hLx4, hrs⟩ := keep r3 hFd hFr3
    rw [hp]
    refine ⟨hM3.2.2.2.1, Or.inl ⟨rfl, n3, _, r3, px, p4, hn3, hM3, hph3, (hFd _ hney).1.trans hst, ?_, hgv3, hLx4, hL3, by omega⟩⟩
    rw [hrs]
    exact hm.2.1 r1 r3 _ hnm3 hk3 hmo
  · dsimp only at hv; subst hv
    have hp : p_pairL F (p_all F M d) e (τ + 1) c1 = p_pairL F (p_all F M d) e τ (s_st c4 e 1) := by rw [hpe]; simp
    obtain ⟨hLx4, -⟩ := keep r3 hFd hFr3
    have hst5 : c_st (s_st c4 e 1) (ix e) = 1 := pk_us
    have hI5 : Idl F d (f_x F (ix e)) (p_x1 F e (s_st c4 e 1)) (pu r3 e 1 t (f_x F (ix e))) px := by
      unfold p_x1; rw [if_neg (by rw [hst5]; decide)]
      exact id_live hne hLx4 ((fc_st (D := fun j => j = ix e) rfl).tr (fc_st (D := fun j => j = ix e) rfl))
    have ih := pair_X1 hS ht ⟨hx, hpx, hne, hsub⟩ ⟨hy, hpy, hney, hsuby⟩ hD hm (n := n) (p := p) (c := c) (r := r) τ (s_st c4 e 1) r3 r3 2 n3 _ px (mid_c hM3 (fc_st (Or.inl rfl)) rfl) (by omega) (by rw [hst5]; decide) (hm.2.2.2.2 _ _ _ _ hM3.2.1 (by decide) (Or.inr (Or.inl hph3))) (hm.2.2.2.1 r3 hph3) ⟨rfl, rfl, rfl, rfl⟩ hM3.2.1.1 FrR.rf hI5 (by omega)
    rw [hp]
    generalize p_pairL F (p_all F M d) e τ (s_st c4 e 1) = q at ih
    obtain ⟨hF9, ⟨h1, n9, m9, r9, px9, py9, h2, h3, h4, h5, h6, h7, h8, h9, hb9⟩ | ⟨h1, n9, m9, r9, h2, h3, h4, h5, hb9⟩ | ⟨h1, h2⟩⟩ := ih
    · exact ⟨hF9, Or.inl ⟨h1, n9, m9, r9, px9, py9, by omega, h3, h4, h5, h6, h7, h8, h9, by omega⟩⟩
    · exact ⟨hF9, Or.inr (Or.inl ⟨h1, n9, m9, r9, by omega, fun h => h.elim, h4, h5, by omega⟩)⟩
    · exact ⟨hF9, Or.inr (Or.inr ⟨h1, h2⟩)⟩
  · have hp : p_pairL F (p_all F M d) e (τ + 1) c1 = (v, c4) := by rw [hpe]; simp [neg0 hv]
    rw [hp]
    exact ⟨hM.2.2.2.1.tr (hFd.wk hsuby), Or.inr (Or.inr ⟨hv, fun c3 hg hF9 => herr c3 v hg rfl hF9 (by omega)⟩)⟩
end
section
/-! Kinds over pairs: AND, PLUS, MINUS, TIMES, LESS, EQUAL, OTHER. -/
def m_pr (e : Int32) (r : zR) : zR := u_kp r (3 * e) (r_gv r).toInt64
def m_po (e : Int32) (r : zR) (v : Int32) : Prop := r_kp r (3 * ix e) = v.toInt64
def K7 (k : Int32) : Prop := k = 7 ∨ k = 8 ∨ k = 9 ∨ k = 10 ∨ k = 11 ∨ k = 12 ∨ k = 13
theorem pr_mem {F : zF} {T : zT} {f d t : Nat} {e : Int32} (hT : Tr F T (d + 1) e) (hk : K7 (f_k F (ix e))) (ht : t + (d + 1) < 16) : Mem F T f t e (m_pr e) (m_po e) := by
  refine ⟨fun r => ⟨⟨rfl, rfl, rfl, rfl⟩, fun h => h, fr_kp (k := ix e) (b := 0) rfl (by decide) (ix_30 hT.1), rfl, ?_⟩, fun r r' v _ h2 h3 => h2.trans h3, fun r h => ?_, fun r h => ?_, fun c r n w hU hw _ => ?_⟩
  · show vp_updL (r_kp r) (ix (3 * e)) (r_gv r).toInt64 (3 * ix e) = _
    rw [ix_30 hT.1]; exact pk_uLs
  · rcases hk with k | k | k | k | k | k | k <;> simp [q_step, q_pair, hT.2.2.1, k, t_kc, h, m_pr]
  · rcases hk with k | k | k | k | k | k | k <;> simp [q_step, q_pair, hT.2.2.1, k, t_kc, h]
  · refine safe_of hT (by omega) hU (fun h => ?_) (fun h => ?_) <;> rcases hk with k | k | k | k | k | k | k <;> rw [k] at h <;> simp at h
theorem pr_lv {F : zF} {d : Nat} {e : Int32} {c : zC} {r : zR} {p : Nat} (hk : K7 (f_k F (ix e))) : Lv F (d + 1) e c r p ↔ (c_st c (ix e) = 2 ∧ r_ph r (ix e) = 2 ∧ r_kp r (3 * ix e) = (c_rs c (ix (f_x F (ix e)))).toInt64 ∧ ∃ p1 p2, Lv F d (f_x F (ix e)) c r p1 ∧ Lv F d (f_y F (ix e)) c r p2 ∧ p = p1 + p2 + 4) := by
  rcases hk with k | k | k | k | k | k | k
  · exact Lv_7 k
  · exact Lv_8 k
  · exact Lv_9 k
  · exact Lv_10 k
  · exact Lv_11 k
  · exact Lv_12 k
  · exact Lv_13 k
theorem pr_parts {F : zF} {T : zT} {d : Nat} {e : Int32} (hT : Tr F T (d + 1) e) (a2 : 2 ≤ f_a F e) : Prt F T d e 0 (f_x F (ix e)) ∧ Prt F T d e 1 (f_y F (ix e)) ∧ ∀ j, Sb F d (f_x F (ix e)) j → ¬ Sb F d (f_y F (ix e)) j := by
  have a1 : 1 ≤ f_a F e := by omega
  obtain ⟨hx, hpx, hne⟩ := hT.2.2.2.2.1 a1
  obtain ⟨hy, hpy, hney, hD⟩ := hT.2.2.2.2.2.1 a2
  exact ⟨⟨hx, hpx, hne, fun j h => Or.inr (Or.inl ⟨a1, h⟩)⟩, ⟨hy, hpy, hney, fun j h => Or.inr (Or.inr (Or.inl ⟨a2, h⟩))⟩, hD⟩
theorem k7_a {F : zF} {e : Int32} (hk : K7 (f_k F (ix e))) : 2 ≤ f_a F e := by rcases hk with k | k | k | k | k | k | k <;> simp [f_a, k]
/-- the first run of the loop when e is asked -/
theorem pr_start {F : zF} {T : zT} {M f d t n p : Nat} {e : Int32} {c : zC} {r : zR} (hO : Ok F T M f) (hS : zSim F T M f d) (hT : Tr F T (d + 1) e) (hk : K7 (f_k F (ix e))) (ht : t + (d + 1) < 16) (hU : zUp F f t e c r n) (hI : Idl F (d + 1) e c r p) :
    ∃ p1 p2, p = p1 + p2 ∧ (c_st c (ix e) = 0 ∧ p2 = 0 ∨ ¬ c_st c (ix e) = 0 ∧ p2 = 4) ∧ Paired F T f d t e (m_po e) c r p n n 0 p1 (c_st c (ix e) = 0) (p_pairL F (p_all F M d) e M c) := by
  obtain ⟨hX, hY, hD⟩ := pr_parts hT (k7_a hk)
  have hm := pr_mem (f := f) hT hk ht
  obtain ⟨-, -, hf, hMM⟩ := hO
  have hs : q_safe T (r, 0) := safe_of hT (by omega) hU (fun h => by rcases hk with k | k | k | k | k | k | k <;> rw [k] at h <;> simp at h) (fun h => by rcases hk with k | k | k | k | k | k | k <;> rw [k] at h <;> simp at h)
  have hq0 : q_step T e 0 r = if r_ph r (ix e) = 0 then q_first T e 0 1 r else q_ask T e 1 2 r := by
    rcases hk with k | k | k | k | k | k | k <;> simp [q_step, q_pair, hT.2.2.1, k, t_kc]
  rcases hI with ⟨h1, h2, rfl⟩ | hL
  · refine ⟨0, 0, rfl, Or.inl ⟨h1, rfl⟩, ?_⟩
    have hxe : ix (f_x F (ix e)) ≠ ix e := ne_of hX.1 hX.2.2.1
    exact pair_X hS ht hX hY hD hm M c r (u_ph r (f_x F (ix e)) 0) 0 n 0 0 (mid_0 hU) (by omega) (by rw [h1]; decide) hs (by rw [hq0, if_pos h2, q_first_eq hX.2.1]) ⟨rfl, rfl, rfl, rfl⟩ hU.1 (fr_ph (Or.inr (Tr_self hX.1))) (id_fresh hX.1 hX.2.2.1 (x1_f hxe h1)) (by omega)
  · obtain ⟨h1, h2, h3, px, py, hLx, hLy, rfl⟩ := (pr_lv hk).mp hL
    have h10 : ¬ c_st c (ix e) = 0 := by rw [h1]; decide
    refine ⟨px + py, 4, by omega, Or.inr ⟨h10, rfl⟩, ?_⟩
    obtain ⟨M', rfl⟩ : ∃ M', M = M' + 1 := ⟨M - 1, by omega⟩
    obtain ⟨hF9, ⟨g1, g2⟩ | ⟨g1, n2, m2, r2, g2, -, g3⟩ | g⟩ := pair_Y hS ht hX hY hD hm M' c r 0 n 0 px py (mid_0 hU) (by omega) h1 hs (by rw [hq0, h2]; rfl) hLx hLy h3 (p := px + py + 4) (by omega)
    · exact ⟨hF9, Or.inl ⟨g1, g2⟩⟩
    · exact ⟨hF9, Or.inr (Or.inl ⟨g1, n2, m2, r2, g2, fun h => absurd h h10, g3⟩)⟩
    · exact ⟨hF9, Or.inr (Or.inr g)⟩
/-- x failed: all fails -/
theorem pr_zero {F : zF} {T : zT} {f d t n p n2 m2 : Nat} {e : Int32} {c c2 : zC} {r r2 : zR} (hT : Tr F T (d + 1) e) (hk : K7 (f_k F (ix e))) (ht : t + (d + 1) < 16) (hM : Mid F T f d t e c r n c2 r2 2 n2 m2) (hph : r_ph r2 (ix e) = 1) (hn : c_st c (ix e) = 0 → n < n2) (hb : m2 + 1 + zK d n + 20 * n ≤ p + zK d n2 + 20 * n2) : Out F T f (d + 1) t e c r p n (0, c2) := by
  have hs := (pr_mem (f := f) hT hk ht).2.2.2.2 _ _ _ 2 hM.2.1 (by decide) (Or.inl hph)
  have hq : q_step T e 2 r2 = (0, r2) := by rcases hk with k | k | k | k | k | k | k <;> simp [q_step, q_pair, hT.2.2.1, k, t_kc, hph]
  refine mid_zero _ ht hM hs hq ⟨rfl, rfl, rfl, rfl⟩ hM.2.1.1 FrR.rf FrC.rf rfl hn ?_
  rw [zK_s, zK_s]; omega
/-- a pair gave a result v -/
theorem pr_one {F : zF} {T : zT} {f d t n p n2 m2 px py : Nat} {e v : Int32} {c c2 : zC} {r r2 : zR} (r0 : zR) (hT : Tr F T (d + 1) e) (hk : K7 (f_k F (ix e))) (ht : t + (d + 1) < 16) (hM : Mid F T f d t e c r n c2 r2 1 n2 m2) (hq : q_step T e 1 r2 = (1, r0)) (h0 : r0 = r2 ∧ r_gv r2 = v ∨ r0 = u_gv r2 v) (hph : r_ph r2 (ix e) = 2) (hst : c_st c2 (ix e) = 2) (hmo : m_po e r2 (c_rs c2 (ix (f_x F (ix e))))) (hLx : Lv F d (f_x F (ix e)) c2 r2 px) (hLy : Lv F d (f_y F (ix e)) c2 r2 py) (hn : n < n2)
    (hb : m2 + px + py + 5 + zK d n + 20 * n ≤ p + zK d n2 + 20 * n2) : Out F T f (d + 1) t e c r p n (1, s_rs c2 e v) := by
  obtain ⟨hX, hY, hD⟩ := pr_parts hT (k7_a hk)
  have hs := (pr_mem (f := f) hT hk ht).2.2.2.2 _ _ _ 1 hM.2.1 (by decide) (Or.inr (Or.inl hph))
  have hxe : ix (f_x F (ix e)) ≠ ix e := ne_of hX.1 hX.2.2.1
  have hr : FrR (fun _ => False) r2 r0 ∧ Ro r2 r0 ∧ r_gv r0 = v := by
    rcases h0 with ⟨rfl, h⟩ | rfl
    · exact ⟨FrR.rf, ⟨rfl, rfl, rfl, rfl⟩, h⟩
    · exact ⟨fr_gv, ⟨rfl, rfl, rfl, rfl⟩, rfl⟩
  obtain ⟨hr1, hr2, hr3⟩ := hr
  have hag : ∀ x : Int32, ¬ Sb F d x (ix e) → Ag (Sb F d x) c2 (s_rs c2 e v) r2 (u_tp r0 (nI t)) := fun x hx => Ag.of (D := fun j => j = ix e) (E := fun _ => False) (fc_rs (D := fun j => j = ix e) rfl) (hr1.tr fr_tp) (fun _ h q => hx (q ▸ h)) (fun _ _ q => q)
  have hN : Nm F r0 := fun j hj => ((hr1 j (fun q => q)).2.1).trans (hM.2.1.1 j hj)
  refine mid_one r0 ht hM hs hq ⟨hr2.2.1, hr2.2.2.1, hr2.2.2.2⟩ hN (hr2.1.trans hM.2.1.2.1) hM.2.1.2.2.1 (hr1.wk fun _ h => h.elim) (fc_rs (Or.inl rfl)) (hr3.trans (pk_us (f := c_rs c2)).symm) ((pr_lv hk).mpr ⟨hst, ((hr1 _ (fun q => q)).1).trans hph, ?_, px, py, Lv_cong d _ _ (hag _ hX.2.2.1) hLx, Lv_cong d _ _ (hag _ hY.2.2.1) hLy, rfl⟩) hn ?_
  · show r_kp r0 (3 * ix e) = (upd (c_rs c2) (ix e) v (ix (f_x F (ix e)))).toInt64
    rw [pk_un hxe, (hr1 _ (fun q => q)).2.2.1]
    exact hmo
  · rw [zK_s, zK_s]; omega
theorem sm_and {F : zF} {T : zT} {M f d t n p : Nat} {e : Int32} {c : zC} {r : zR} (hO : Ok F T M f) (hS : zSim F T M f d) (hT : Tr F T (d + 1) e) (hk : f_k F (ix e) = 7) (ht : t + (d + 1) < 16) (hU : zUp F f t e c r n) (hI : Idl F (d + 1) e c r p) : Out F T f (d + 1) t e c r p n (p_up e (f_y F (ix e)) (p_pairL F (p_all F M d) e M c)) := by
  have hk7 : K7 (f_k F (ix e)) := Or.inl hk
  obtain ⟨p1, p2, rfl, hp2, hP⟩ := pr_start hO hS hT hk7 ht hU hI
  generalize p_pairL F (p_all F M d) e M c = q at hP
  obtain ⟨v, c2⟩ := q
  obtain ⟨hF9, ⟨hv, n2, m2, r2, px, py, hn, hM, hph, hst, hmo, hgv, hLx, hLy, hb⟩ | ⟨hv, n2, m2, r2, hn, hfr, hM, hph, hb⟩ | ⟨hv, herr⟩⟩ := hP
  · dsimp only at hv; subst hv
    have hp : p_up e (f_y F (ix e)) ((1 : Int32), c2) = (1, s_rs c2 e (c_rs c2 (ix (f_y F (ix e))))) := by simp [p_up, p_give]
    rw [hp]
    exact pr_one r2 hT hk7 ht hM (by simp [q_step, q_pair, hT.2.2.1, hk, t_kc, hph]) (Or.inl ⟨rfl, hgv⟩) hph hst hmo hLx hLy hn (by omega)
  · dsimp only at hv; subst hv
    have hp : p_up e (f_y F (ix e)) ((0 : Int32), c2) = (0, c2) := by simp [p_up]
    rw [hp]
    refine pr_zero hT hk7 ht hM hph hfr ?_
    rcases hp2 with ⟨h0, h2⟩ | ⟨h0, h2⟩
    · have := hfr h0; omega
    · omega
  · have hp : p_up e (f_y F (ix e)) (v, c2) = (v, c2) := by simp [p_up, neg1 hv]
    rw [hp]
    exact herr c2 rfl hF9
theorem sm_arith {F : zF} {T : zT} {M f d t n p : Nat} {e : Int32} {c : zC} {r : zR} (hO : Ok F T M f) (hS : zSim F T M f d) (hT : Tr F T (d + 1) e) (hk : f_k F (ix e) = 8 ∨ f_k F (ix e) = 9 ∨ f_k F (ix e) = 10) (ht : t + (d + 1) < 16) (hU : zUp F f t e c r n) (hI : Idl F (d + 1) e c r p) : Out F T f (d + 1) t e c r p n (p_arith F (p_all F M d) M e c) := by
  have hk7 : K7 (f_k F (ix e)) := by
    rcases hk with k | k | k
    · exact Or.inr (Or.inl k)
    · exact Or.inr (Or.inr (Or.inl k))
    · exact Or.inr (Or.inr (Or.inr (Or.inl k)))
  obtain ⟨p1, p2, rfl, hp2, hP⟩ := pr_start hO hS hT hk7 ht hU hI
  have hpe : p_arith F (p_all F M d) M e c = (let q := p_pairL F (p_all F M d) e M c; if q.1 = 1 then
      let v := p_calc (f_k F (ix e)) (c_rs q.2 (ix (f_x F (ix e)))).toInt64 (c_rs q.2 (ix (f_y F (ix e)))).toInt64
      if v = v.toInt32.toInt64 then p_give e v.toInt32 q.2 else (-4, q.2) else q) := rfl
  generalize p_pairL F (p_all F M d) e M c = q at hP hpe
  obtain ⟨v, c2⟩ := q
  obtain ⟨hF9, ⟨hv, n2, m2, r2, px, py, hn, hM, hph, hst, hmo, hgv, hLx, hLy, hb⟩ | ⟨hv, n2, m2, r2, hn, hfr, hM, hph, hb⟩ | ⟨hv, herr⟩⟩ := hP
  · dsimp only at hv; subst hv
    generalize hz : p_calc (f_k F (ix e)) (c_rs c2 (ix (f_x F (ix e)))).toInt64 (c_rs c2 (ix (f_y F (ix e)))).toInt64 = z at hpe
    have hq1 : q_step T e 1 r2 = if z = z.toInt32.toInt64 then (1, u_gv r2 z.toInt32) else (0, u_er r2 (-4)) := by
      have hmo' : r_kp r2 (ix (3 * e)) = (c_rs c2 (ix (f_x F (ix e)))).toInt64 := by rw [ix_30 hT.1]; exact hmo
      rw [← hz]
      rcases hk with k | k | k <;> simp [q_step, q_pair, hT.2.2.1, k, t_kc, hph, hmo', hgv, p_calc, q_give]
    by_cases hfit : z = z.toInt32.toInt64
    · have hp : p_arith F (p_all F M d) M e c = (1, s_rs c2 e z.toInt32) := by
        rw [hpe]; simp only [if_true, hz]; rw [if_pos hfit]; rfl
      rw [if_pos hfit] at hq1
      rw [hp]
      exact pr_one _ hT hk7 ht hM hq1 (Or.inr rfl) hph hst hmo hLx hLy hn (by omega)
    · have hp : p_arith F (p_all F M d) M e c = (-4, c2) := by
        rw [hpe]; simp only [if_true, hz]; rw [if_neg hfit]
      rw [if_neg hfit] at hq1
      rw [hp]
      refine mid_bad ht hM ((pr_mem (f := f) hT hk7 ht).2.2.2.2 _ _ _ 1 hM.2.1 (by decide) (Or.inr (Or.inl hph))) hq1 rfl (by decide) hM.2.1.2.1 hM.2.1.2.2.1 FrC.rf ?_
      rw [zK_s, zK_s]; omega
  · dsimp only at hv; subst hv
    have hp : p_arith F (p_all F M d) M e c = (0, c2) := by rw [hpe]; simp
    rw [hp]
    refine pr_zero hT hk7 ht hM hph hfr ?_
    rcases hp2 with ⟨h0, h2⟩ | ⟨h0, h2⟩
    · have := hfr h0; omega
    · omega
  · have hp : p_arith F (p_all F M d) M e c = (v, c2) := by rw [hpe]; simp [neg1 hv]
    rw [hp]
    exact herr c2 rfl hF9
theorem i64_lt (a b : Int32) : a.toInt64 < b.toInt64 ↔ a < b := by
  rw [Int64.lt_iff_toInt_lt, Int32.lt_iff_toInt_lt, Int32.toInt_toInt64, Int32.toInt_toInt64]
theorem i64_eq (a b : Int32) : a.toInt64 = b.toInt64 ↔ a = b := by
  rw [← Int64.toInt_inj, ← Int32.toInt_inj, Int32.toInt_toInt64, Int32.toInt_toInt64]
theorem i64_0 (a : Int32) : (0 : Int64) < a.toInt64 ↔ 0 < a := i64_lt 0 a
/-- from a run of the loop on: the comparison holds, or the next run -/
theorem cmp_L {F : zF} {T : zT} {M f d t n p : Nat} {e : Int32} {c : zC} {r : zR} (hO : Ok F T M f) (hS : zSim F T M f d) (hT : Tr F T (d + 1) e) (hk : f_k F (ix e) = 11 ∨ f_k F (ix e) = 12 ∨ f_k F (ix e) = 13) (ht : t + (d + 1) < 16) :
    ∀ (τ : Nat) (c1 : zC) (n1 m1 p1 : Nat) (fr : Prop), Paired F T f d t e (m_po e) c r p n n1 m1 p1 fr (p_pairL F (p_all F M d) e M c1) → f ≤ n1 + τ → n ≤ n1 → (c_st c (ix e) = 0 → n < n1 ∨ fr) → m1 + p1 + zK d n + 13 * n ≤ p + zK d n1 + 13 * n1 → n < n1 ∨ fr ∨ m1 + p1 + 4 + zK d n + 13 * n ≤ p + zK d n1 + 13 * n1 →
      Out F T f (d + 1) t e c r p n (p_compL F (p_all F M d) M e (τ + 1) c1) := by
  have hk7 : K7 (f_k F (ix e)) := by
    rcases hk with k | k | k
    · exact Or.inr (Or.inr (Or.inr (Or.inr (Or.inl k))))
    · exact Or.inr (Or.inr (Or.inr (Or.inr (Or.inr (Or.inl k)))))
    · exact Or.inr (Or.inr (Or.inr (Or.inr (Or.inr (Or.inr k)))))
  obtain ⟨hX, hY, hD⟩ := pr_parts hT (k7_a hk7)
  have hm := pr_mem (f := f) hT hk7 ht
  intro τ
  induction τ with
  | zero =>
    intro c1 n1 m1 p1 fr hP hτ hn1 hfr1 hb1 hb2
    have hpe : p_compL F (p_all F M d) M e (0 + 1) c1 = (let q := p_pairL F (p_all F M d) e M c1; if q.1 = 1 then
        if p_holds (f_k F (ix e)) (c_rs q.2 (ix (f_x F (ix e)))) (c_rs q.2 (ix (f_y F (ix e)))) = true then p_give e (c_rs q.2 (ix (f_y F (ix e)))) q.2 else p_compL F (p_all F M d) M e 0 q.2 else q) := rfl
    generalize p_pairL F (p_all F M d) e M c1 = q at hP hpe
    obtain ⟨v, c2⟩ := q
    obtain ⟨hF9, ⟨hv, n2, m2, r2, px, py, hn, hM, hph, hst, hmo, hgv, hLx, hLy, hb⟩ | ⟨hv, n2, m2, r2, hn, hfr, hM, hph, hb⟩ | ⟨hv, herr⟩⟩ := hP
    · have := hM.2.1.2.2.1.2.1
      omega
    · dsimp only at hv; subst hv
      have hp : p_compL F (p_all F M d) M e (0 + 1) c1 = (0, c2) := by rw [hpe]; simp
      rw [hp]
      refine pr_zero hT hk7 ht hM hph (fun h => ?_) ?_
      · rcases hfr1 h with h | h
        · omega
        · have := hfr h; omega
      · rcases hb2 with h | h | h
        · omega
        · have := hfr h; omega
        · omega
    · have hp : p_compL F (p_all F M d) M e (0 + 1) c1 = (v, c2) := by rw [hpe]; simp [neg1 hv]
      rw [hp]
      exact herr c2 rfl hF9
  | succ τ ih =>
    intro c1 n1 m1 p1 fr hP hτ hn1 hfr1 hb1 hb2
    have hpe : p_compL F (p_all F M d) M e (τ + 1 + 1) c1 = (let q := p_pairL F (p_all F M d) e M c1; if q.1 = 1 then
        if p_holds (f_k F (ix e)) (c_rs q.2 (ix (f_x F (ix e)))) (c_rs q.2 (ix (f_y F (ix e)))) = true then p_give e (c_rs q.2 (ix (f_y F (ix e)))) q.2 else p_compL F (p_all F M d) M e (τ + 1) q.2 else q) := rfl
    generalize p_pairL F (p_all F M d) e M c1 = q at hP hpe
    obtain ⟨v, c2⟩ := q
    obtain ⟨hF9, ⟨hv, n2, m2, r2, px, py, hn, hM, hph, hst, hmo, hgv, hLx, hLy, hb⟩ | ⟨hv, n2, m2, r2, hn, hfr, hM, hph, hb⟩ | ⟨hv, herr⟩⟩ := hP
    · dsimp only at hv; subst hv
      simp only [if_true] at hpe
      have hq1 : q_step T e 1 r2 = if p_holds (f_k F (ix e)) (c_rs c2 (ix (f_x F (ix e)))) (c_rs c2 (ix (f_y F (ix e)))) = true then (1, r2) else q_ask T e 1 2 r2 := by
        have hmo' : r_kp r2 (ix (3 * e)) = (c_rs c2 (ix (f_x F (ix e)))).toInt64 := by rw [ix_30 hT.1]; exact hmo
        rcases hk with k | k | k <;> simp [q_step, q_pair, hT.2.2.1, k, t_kc, hph, hmo', hgv, p_holds, i64_lt, i64_eq]
      by_cases hh : p_holds (f_k F (ix e)) (c_rs c2 (ix (f_x F (ix e)))) (c_rs c2 (ix (f_y F (ix e)))) = true
      · rw [if_pos hh] at hq1
        have hp : p_compL F (p_all F M d) M e (τ + 1 + 1) c1 = (1, s_rs c2 e (c_rs c2 (ix (f_y F (ix e))))) := by rw [hpe, if_pos hh]; rfl
        rw [hp]
        exact pr_one r2 hT hk7 ht hM hq1 (Or.inl ⟨rfl, hgv⟩) hph hst hmo hLx hLy (by omega) (by omega)
      · rw [if_neg hh] at hq1
        have hp : p_compL F (p_all F M d) M e (τ + 1 + 1) c1 = p_compL F (p_all F M d) M e (τ + 1) c2 := by rw [hpe, if_neg hh]
        rw [hp]
        obtain ⟨M', rfl⟩ : ∃ M', M = M' + 1 := ⟨M - 1, by have := hO.2.2.2; omega⟩
        have hfO := hO.2.2
        have hY2 := pair_Y hS ht hX hY hD hm M' c2 r2 1 n2 m2 px py hM (by omega) hst (hm.2.2.2.2 _ _ _ 1 hM.2.1 (by decide) (Or.inr (Or.inl hph))) hq1 hLx hLy hmo (p := p) (by omega)
        exact ih c2 n2 m2 (px + py) False hY2 (by omega) (by omega) (fun _ => Or.inl (by omega)) (by omega) (Or.inl (by omega))
    · dsimp only at hv; subst hv
      have hp : p_compL F (p_all F M d) M e (τ + 1 + 1) c1 = (0, c2) := by rw [hpe]; simp
      rw [hp]
      refine pr_zero hT hk7 ht hM hph (fun h => ?_) ?_
      · rcases hfr1 h with h | h
        · omega
        · have := hfr h; omega
      · rcases hb2 with h | h | h
        · omega
        · have := hfr h; omega
        · omega
    · have hp : p_compL F (p_all F M d) M e (τ + 1 + 1) c1 = (v, c2) := by rw [hpe]; simp [neg1 hv]
      rw [hp]
      exact herr c2 rfl hF9
theorem sm_comp {F : zF} {T : zT} {M f d t n p : Nat} {e : Int32} {c : zC} {r : zR} (hO : Ok F T M f) (hS : zSim F T M f d) (hT : Tr F T (d + 1) e) (hk : f_k F (ix e) = 11 ∨ f_k F (ix e) = 12 ∨ f_k F (ix e) = 13) (ht : t + (d + 1) < 16) (hU : zUp F f t e c r n) (hI : Idl F (d + 1) e c r p) : Out F T f (d + 1) t e c r p n (p_compL F (p_all F M d) M e M c) := by
  have hk7 : K7 (f_k F (ix e)) := by
    rcases hk with k | k | k
    · exact Or.inr (Or.inr (Or.inr (Or.inr (Or.inl k))))
    · exact Or.inr (Or.inr (Or.inr (Or.inr (Or.inr (Or.inl k)))))
    · exact Or.inr (Or.inr (Or.inr (Or.inr (Or.inr (Or.inr k)))))
  obtain ⟨p1, p2, rfl, hp2, hP⟩ := pr_start hO hS hT hk7 ht hU hI
  have hM := hO.2.2
  have h := cmp_L hO hS hT hk ht (M - 1) c n 0 p1 _ hP (by omega) (Nat.le_refl _) (fun h => Or.inr h) (by omega) (by
    rcases hp2 with ⟨h0, h2⟩ | ⟨h0, h2⟩
    · exact Or.inr (Or.inl h0)
    · exact Or.inr (Or.inr (by omega)))
  rw [show M - 1 + 1 = M by omega] at h
  exact h
end
section
/-! LIMIT, EVERY and WHILE. -/
theorem pr_g {α β γ δ : Type} (a b : α) (t : β × γ × δ) : (a, t).2.2.2 = (b, t).2.2.2 := rfl
theorem cg_st (s : zC) (e v : Int32) : c_g (s_st s e v) = c_g s := pr_g (upd s.1 (ix e) v) s.1 s.2
theorem lim_q {F : zF} {T : zT} {d : Nat} {e : Int32} (hT : Tr F T (d + 1) e) (hk : f_k F (ix e) = 14) (w : Int32) (r : zR) : q_step T e w r = q_limit T e w r := by simp [q_step, q_binary, hT.2.2.1, hk, t_kc]
/-- the limit's number is asked next -/
theorem lim_B {F : zF} {T : zT} {M f d t n p : Nat} {e : Int32} {c : zC} {r : zR} (hS : zSim F T M f d) (hT : Tr F T (d + 1) e) (hk : f_k F (ix e) = 14) (ht : t + (d + 1) < 16) :
    ∀ (τ : Nat) (c1 : zC) (r1 r0 : zR) (w : Int32) (n1 m1 p1 : Nat), Mid F T f d t e c r n c1 r1 w n1 m1 → f + 1 ≤ n1 + τ → ¬ c_st c1 (ix e) = 1 → q_step T e w r1 = q_ask T e 1 1 r0 → Ro r1 r0 → Nm F r0 → FrR (fun j => j = ix e ∨ Sb F d (f_y F (ix e)) j) r1 r0 → Idl F d (f_y F (ix e)) (if c_st c1 (ix e) = 0 then s_st c1 (f_y F (ix e)) 0 else c1) (pu r0 e 1 t (f_y F (ix e))) p1 →
      (c_st c (ix e) = 0 → n < n1 ∨ c_st c1 (ix e) = 0) → m1 + p1 + zK d n + 13 * n ≤ p + zK d n1 + 13 * n1 + 1 → n < n1 ∨ c_st c1 (ix e) = 0 ∨ m1 + p1 + 2 + zK d n + 13 * n ≤ p + zK d n1 + 13 * n1 →
      Out F T f (d + 1) t e c r p n (p_limitL F (p_all F M d) e τ c1) := by
  have a2 : 2 ≤ f_a F e := by simp [f_a, hk]
  obtain ⟨⟨hx, hpx, hne, hsub⟩, ⟨hy, hpy, hney, hsuby⟩, hD⟩ := pr_parts hT a2
  have hxe : ix (f_x F (ix e)) ≠ ix e := ne_of hx hne
  have hye : ix (f_y F (ix e)) ≠ ix e := ne_of hy hney
  have hs : ∀ (c : zC) (r : zR) (n : Nat) (w : Int32), zUp F f t e c r n → q_safe T (r, w) := fun c r n w hU => safe_of hT (by omega) hU (fun h => by rw [hk] at h; simp at h) (fun h => by rw [hk] at h; simp at h)
  intro τ
  induction τ with
  | zero =>
    intro c1 r1 r0 w n1 m1 p1 hM hτ
    have := hM.2.1.2.2.1.2.1
    omega
  | succ τ ih =>
    intro c1 r1 r0 w n1 m1 p1 hM hτ hst hq hR hN hF hI hfr1 hb1 hb2
    have hFb : FrC (Sb F (d + 1) e) c1 (if c_st c1 (ix e) = 0 then s_st c1 (f_y F (ix e)) 0 else c1) := by
      split
      · exact fc_st (hsuby _ (Tr_self hy))
      · exact FrC.rf
    have hgb : c_g (if c_st c1 (ix e) = 0 then s_st c1 (f_y F (ix e)) 0 else c1) = c_g c1 := by split <;> rfl
    have hA := mid_ask (p := p) r0 hS ht (mid_c hM hFb hgb) (hs _ _ _ _ hM.2.1) hy hney hsuby hq hpy hR hN hF hI
    have hpe : p_limitL F (p_all F M d) e (τ + 1) c1 = (let q0 := p_all F M d (f_y F (ix e)) (if c_st c1 (ix e) = 0 then s_st c1 (f_y F (ix e)) 0 else c1)
        let q : Int32 × zC := (q0.1, s_ct q0.2 e (c_rs q0.2 (ix (f_y F (ix e)))).toInt64)
        if q.1 = 1 then
          let s1 := s_st (s_st q.2 e 1) (f_x F (ix e)) 0
          if 0 < c_ct s1 (ix e) then
            let q := p_all F M d (f_x F (ix e)) (s_ct s1 e (c_ct s1 (ix e) - 1))
            if q.1 = 0 then p_limitL F (p_all F M d) e τ (s_st q.2 e 2) else p_up e (f_x F (ix e)) q
          else p_limitL F (p_all F M d) e τ (s_st s1 e 2)
        else q) := by
      show (if c_st c1 (ix e) = 1 then _ else _) = _
      rw [if_neg hst]; rfl
    have hstb : c_st c1 (ix e) = 0 → c_st (if c_st c1 (ix e) = 0 then s_st c1 (f_y F (ix e)) 0 else c1) (ix (f_y F (ix e))) = 0 := fun h => by rw [if_pos h]; exact pk_us
    generalize (if c_st c1 (ix e) = 0 then s_st c1 (f_y F (ix e)) 0 else c1) = cb at hA hpe hFb hgb hstb
    generalize p_all F M d (f_y F (ix e)) cb = q at hA hpe
    obtain ⟨v, c2⟩ := q
    have hn0 := hM.2.2.2.2.2
    obtain ⟨hFc, ⟨hv, n2, m2, r2, p3, hn, hM2, hph, -, -, -, -, hFr, hgv, hL, hb⟩ | ⟨hv, n2, m2, r2, hn, hfr, hM2, hph, -, -, -, -, hFr, hb⟩ | ⟨hv, n2, hn, herr⟩⟩ := hA
    · dsimp only at hv; subst hv
      simp only [if_true] at hpe
      -- the state behind the number
      generalize hs1 : s_st (s_st (s_ct c2 e (c_rs c2 (ix (f_y F (ix e)))).toInt64) e 1) (f_x F (ix e)) 0 = s1 at hpe
      have hct : c_ct s1 (ix e) = (c_rs c2 (ix (f_y F (ix e)))).toInt64 := by rw [← hs1]; exact pk_uLs
      have hF1 : FrC (fun j => j = ix e ∨ Sb F d (f_x F (ix e)) j) c2 s1 := by rw [← hs1]; exact ((fc_ct (Or.inl rfl)).tr (fc_st (Or.inl rfl))).tr (fc_st (Or.inr (Tr_self hx)))
      have hin : ∀ j, (j = ix e ∨ Sb F d (f_x F (ix e)) j) → Sb F (d + 1) e j := fun j h => by
        rcases h with h | h
        · exact Or.inl h
        · exact hsub j h
      have hg1 : c_g s1 = c_g c2 := by rw [← hs1]; rfl
      have hst1 : c_st s1 (ix e) = 1 := by rw [← hs1]; exact (pk_un (Ne.symm hxe)).trans pk_us
      have hst1x : c_st s1 (ix (f_x F (ix e))) = 0 := by rw [← hs1]; exact pk_us
      have houty : ∀ j, Sb F d (f_y F (ix e)) j → ¬ (j = ix e ∨ Sb F d (f_x F (ix e)) j) := fun j hj h => by
        rcases h with h | h
        · exact hney (h ▸ hj)
        · exact hD j h hj
      have hq1 : q_step T e 1 r2 = if 0 < r_gv r2 then q_first T e 0 2 (u_kp r2 (3 * e) (r_gv r2).toInt64) else q_ask T e 1 1 (u_kp r2 (3 * e) (r_gv r2).toInt64) := by
        rw [lim_q hT hk]; simp [q_limit, hph]; rfl
      have hRk : Ro r2 (u_kp r2 (3 * e) (r_gv r2).toInt64) := ⟨rfl, rfl, rfl, rfl⟩
      have hFk : FrR (fun j => j = ix e) r2 (u_kp r2 (3 * e) (r_gv r2).toInt64) := fr_kp (k := ix e) (b := 0) rfl (by decide) (ix_30 hT.1)
      by_cases hpos : 0 < c_rs c2 (ix (f_y F (ix e)))
      · have hpos' : 0 < c_ct s1 (ix e) := by rw [hct]; exact (i64_0 _).mpr hpos
        rw [if_pos hpos'] at hpe
        rw [if_pos (by rw [hgv]; exact hpos), q_first_eq hpx] at hq1
        have hFs : FrC (Sb F (d + 1) e) c2 (s_ct s1 e (c_ct s1 (ix e) - 1)) := (hF1.wk hin).tr (fc_ct (Or.inl rfl))
        have hB := mid_ask (p := p) (p1 := 0) (u_ph (u_kp r2 (3 * e) (r_gv r2).toInt64) (f_x F (ix e)) 0) hS ht (mid_c hM2 hFs hg1) (hs _ _ _ _ hM2.2.1) hx hne hsub hq1 hpx ⟨rfl, rfl, rfl, rfl⟩ hM2.2.1.1 ((hFk.wk fun _ h => Or.inl h).tr (fr_ph (Or.inr (Tr_self hx)))) (id_fresh hx hne hst1x)
        generalize hcs : s_ct s1 e (c_ct s1 (ix e) - 1) = cs at hB hpe hFs
        have hcts : c_ct cs (ix e) = (c_rs c2 (ix (f_y F (ix e)))).toInt64 - 1 := by rw [← hcs, ← hct]; exact pk_uLs
        have hsts : c_st cs (ix e) = 1 := by rw [← hcs]; exact hst1
        have hstx : c_st cs (ix (f_x F (ix e))) = 0 := by rw [← hcs]; exact hst1x
        have hFcs : FrC (fun j => j = ix e ∨ Sb F d (f_x F (ix e)) j) c2 cs := by rw [← hcs]; exact hF1.tr (fc_ct (Or.inl rfl))
        generalize p_all F M d (f_x F (ix e)) cs = q at hB hpe
        obtain ⟨v, c4⟩ := q
        have keep : ∀ r4 : zR, FrC (Sb F d (f_x F (ix e))) cs c4 → FrR (fun j => j = ix e ∨ Sb F d (f_x F (ix e)) j) r2 r4 → Lv F d (f_y F (ix e)) c4 r4 p3 := fun r4 hC hR4 =>
          Lv_cong d _ _ (Ag.of (hFcs.tr (hC.wk fun _ h => Or.inr h)) hR4 houty houty) hL
        obtain ⟨hFd, ⟨hv, n3, m3, r3, p4, hn3, hM3, hph3, -, hk3, -, -, hFr3, hgv3, hL3, hb3⟩ | ⟨hv, n3, m3, r3, hn3, hfr3, hM3, hph3, -, -, -, -, hFr3, hb3⟩ | ⟨hv, n3, hn3, herr⟩⟩ := hB
        · dsimp only at hv; subst hv
          have hp : p_limitL F (p_all F M d) e (τ + 1) c1 = (1, s_rs c4 e (c_rs c4 (ix (f_x F (ix e))))) := by rw [hpe]; simp [p_up, p_give]
          have hLy := keep r3 hFd hFr3
          have hkp : r_kp r3 (3 * ix e) = (c_rs c2 (ix (f_y F (ix e)))).toInt64 := by
            rw [hk3, ← hgv]
            show vp_updL (r_kp r2) (ix (3 * e)) _ (3 * ix e) = _
            rw [ix_30 hT.1]; exact pk_uLs
          have hq3 : q_step T e 1 r3 = (1, u_kp r3 (3 * e) (r_kp r3 (ix (3 * e)) - 1)) := by rw [lim_q hT hk]; simp [q_limit, hph3]
          have hag : ∀ x : Int32, ¬ Sb F d x (ix e) → Ag (Sb F d x) c4 (s_rs c4 e (c_rs c4 (ix (f_x F (ix e))))) r3 (u_tp (u_kp r3 (3 * e) (r_kp r3 (ix (3 * e)) - 1)) (nI t)) := fun x hx => Ag.of (D := fun j => j = ix e) (E := fun j => j = ix e) (fc_rs (D := fun j => j = ix e) rfl) ((fr_kp (D := fun j => j = ix e) (k := ix e) (b := 0) rfl (by decide) (ix_30 hT.1)).tr fr_tp) (fun _ h q => hx (q ▸ h)) (fun _ h q => hx (q ▸ h))
          rw [hp]
          refine mid_one _ ht hM3 (hs _ _ _ _ hM3.2.1) hq3 ⟨rfl, rfl, rfl⟩ hM3.2.1.1 hM3.2.1.2.1 hM3.2.1.2.2.1 (fr_kp (k := ix e) (b := 0) (Or.inl rfl) (by decide) (ix_30 hT.1)) (fc_rs (Or.inl rfl)) (hgv3.trans (pk_us (f := c_rs c4)).symm) ((Lv_14 hk).mpr ⟨(hFd _ hne).1.trans hsts, hph3, ?_, p4, p3, Lv_cong d _ _ (hag _ hne) hL3, Lv_cong d _ _ (hag _ hney) hLy, rfl⟩) (by omega) ?_
          · show vp_updL (r_kp r3) (ix (3 * e)) (r_kp r3 (ix (3 * e)) - 1) (3 * ix e) = c_ct c4 (ix e)
            rw [(hFd _ hne).2.2, hcts, ix_30 hT.1, pk_uLs, hkp]
          · rw [zK_s, zK_s]; omega
        · dsimp only at hv; subst hv
          have hn4 := hfr3 hstx
          have hp : p_limitL F (p_all F M d) e (τ + 1) c1 = p_limitL F (p_all F M d) e τ (s_st c4 e 2) := by rw [hpe]; simp
          have hLy := keep r3 hFd hFr3
          have hq3 : q_step T e 2 r3 = q_ask T e 1 1 r3 := by rw [lim_q hT hk]; simp [q_limit, hph3]
          have hst5 : c_st (s_st c4 e 2) (ix e) = 2 := pk_us
          rw [hp]
          refine ih (s_st c4 e 2) r3 r3 2 n3 _ p3 (mid_c hM3 (fc_st (Or.inl rfl)) rfl) (by omega) (by rw [hst5]; decide) hq3 ⟨rfl, rfl, rfl, rfl⟩ hM3.2.1.1 FrR.rf ?_ (fun _ => Or.inl (by omega)) (by omega) (Or.inl (by omega))
          rw [if_neg (by rw [hst5]; decide)]
          exact id_live hney hLy (fc_st (D := fun j => j = ix e) rfl)
        · have hp : p_limitL F (p_all F M d) e (τ + 1) c1 = (v, c4) := by rw [hpe]; simp [p_up, neg1 hv, neg0 hv]
          rw [hp]
          exact herr c4 v rfl rfl ((hM2.2.2.2.1.tr hFs).tr (hFd.wk hsub)) (by omega)
      · have hpos' : ¬ 0 < c_ct s1 (ix e) := by rw [hct]; exact fun h => hpos ((i64_0 _).mp h)
        rw [if_neg hpos'] at hpe
        rw [if_neg (by rw [hgv]; exact hpos)] at hq1
        have hst5 : c_st (s_st s1 e 2) (ix e) = 2 := pk_us
        rw [hpe]
        refine ih (s_st s1 e 2) r2 (u_kp r2 (3 * e) (r_gv r2).toInt64) 1 n2 _ p3 (mid_c hM2 ((hF1.wk hin).tr (fc_st (Or.inl rfl))) ((cg_st s1 e 2).trans hg1)) (by omega) (by rw [hst5]; decide) hq1 hRk hM2.2.1.1 (hFk.wk fun _ h => Or.inl h) ?_ (fun _ => Or.inl (by omega)) (by omega) (Or.inl (by omega))
        rw [if_neg (by rw [hst5]; decide)]
        refine Or.inr (Lv_cong d _ _ (Ag.of (hF1.tr (fc_st (Or.inl rfl))) ((hFk.tr (fr_pu (D := fun j => j = ix e) rfl)).wk fun _ h => Or.inl h) houty houty) hL)
    · dsimp only at hv; subst hv
      have hp : p_limitL F (p_all F M d) e (τ + 1) c1 = (0, s_ct c2 e (c_rs c2 (ix (f_y F (ix e)))).toInt64) := by rw [hpe]; simp
      have hq3 : q_step T e 2 r2 = (0, r2) := by rw [lim_q hT hk]; simp [q_limit, hph]
      rw [hp]
      refine mid_zero _ ht hM2 (hs _ _ _ _ hM2.2.1) hq3 ⟨rfl, rfl, rfl, rfl⟩ hM2.2.1.1 FrR.rf (fc_ct (Or.inl rfl)) rfl (fun h => ?_) ?_
      · rcases hfr1 h with h | h
        · omega
        · have := hfr (hstb h); omega
      · rw [zK_s, zK_s]
        rcases hb2 with h | h | h
        · omega
        · have := hfr (hstb h); omega
        · omega
    · have hp : p_limitL F (p_all F M d) e (τ + 1) c1 = (v, s_ct c2 e (c_rs c2 (ix (f_y F (ix e)))).toInt64) := by rw [hpe]; simp [neg1 hv]
      rw [hp]
      exact herr _ v rfl rfl ((hM.2.2.2.1.tr hFb).tr ((hFc.wk hsuby).tr (fc_ct (Or.inl rfl)))) (by omega)
theorem sm_limit {F : zF} {T : zT} {M f d t n p : Nat} {e : Int32} {c : zC} {r : zR} (hO : Ok F T M f) (hS : zSim F T M f d) (hT : Tr F T (d + 1) e) (hk : f_k F (ix e) = 14) (ht : t + (d + 1) < 16) (hU : zUp F f t e c r n) (hI : Idl F (d + 1) e c r p) : Out F T f (d + 1) t e c r p n (p_limitL F (p_all F M d) e M c) := by
  have a2 : 2 ≤ f_a F e := by simp [f_a, hk]
  obtain ⟨⟨hx, hpx, hne, hsub⟩, ⟨hy, hpy, hney, hsuby⟩, hD⟩ := pr_parts hT a2
  have hxe : ix (f_x F (ix e)) ≠ ix e := ne_of hx hne
  have hye : ix (f_y F (ix e)) ≠ ix e := ne_of hy hney
  obtain ⟨-, -, hf, hMM⟩ := hO
  have hs : ∀ (c : zC) (r : zR) (n : Nat) (w : Int32), zUp F f t e c r n → q_safe T (r, w) := fun c r n w hU => safe_of hT (by omega) hU (fun h => by rw [hk] at h; simp at h) (fun h => by rw [hk] at h; simp at h)
  rcases hI with ⟨h1, h2, rfl⟩ | hL
  · have hq0 : q_step T e 0 r = q_ask T e 1 1 (u_ph r (f_y F (ix e)) 0) := by rw [lim_q hT hk, ← q_first_eq hpy]; simp [q_limit, h2]
    refine lim_B hS hT hk ht M c r (u_ph r (f_y F (ix e)) 0) 0 n 0 0 (mid_0 hU) (by omega) (by rw [h1]; decide) hq0 ⟨rfl, rfl, rfl, rfl⟩ hU.1 (fr_ph (Or.inr (Tr_self hy))) ?_ (fun h => Or.inr h) (by omega) (Or.inr (Or.inl h1))
    rw [if_pos h1]
    exact id_fresh hy hney pk_us
  · obtain ⟨h1, h2, h3, px, py, hLx, hLy, rfl⟩ := (Lv_14 hk).mp hL
    obtain ⟨M', rfl⟩ : ∃ M', M = M' + 1 := ⟨M - 1, by omega⟩
    have hkp : r_kp r (ix (3 * e)) = c_ct c (ix e) := by rw [ix_30 hT.1]; exact h3
    have hq0 : q_step T e 0 r = if 0 < c_ct c (ix e) then q_ask T e 0 2 r else q_ask T e 1 1 r := by rw [lim_q hT hk]; simp [q_limit, h2, hkp]
    have hpe : p_limitL F (p_all F (M' + 1) d) e (M' + 1) c = (if 0 < c_ct c (ix e) then
            let q := p_all F (M' + 1) d (f_x F (ix e)) (s_ct c e (c_ct c (ix e) - 1))
            if q.1 = 0 then p_limitL F (p_all F (M' + 1) d) e M' (s_st q.2 e 2) else p_up e (f_x F (ix e)) q
          else p_limitL F (p_all F (M' + 1) d) e M' (s_st c e 2)) := by
      show (if c_st c (ix e) = 1 then _ else _) = _
      rw [if_pos h1]
    have houty : ∀ j, Sb F d (f_y F (ix e)) j → ¬ (j = ix e ∨ Sb F d (f_x F (ix e)) j) := fun j hj h => by
      rcases h with h | h
      · exact hney (h ▸ hj)
      · exact hD j h hj
    by_cases hpos : 0 < c_ct c (ix e)
    · rw [if_pos hpos] at hq0 hpe
      have hFs : FrC (fun j => j = ix e) c (s_ct c e (c_ct c (ix e) - 1)) := fc_ct rfl
      have hA := mid_ask (p := px + py + 4) r hS ht (mid_c (mid_0 (T := T) (d := d) hU) (hFs.wk fun j h => Or.inl h) rfl) (hs _ _ _ _ hU) hx hne hsub hq0 hpx ⟨rfl, rfl, rfl, rfl⟩ hU.1 FrR.rf (id_live hne hLx hFs)
      have hcts : c_ct (s_ct c e (c_ct c (ix e) - 1)) (ix e) = c_ct c (ix e) - 1 := pk_uLs
      have hsts : c_st (s_ct c e (c_ct c (ix e) - 1)) (ix e) = 1 := h1
      generalize s_ct c e (c_ct c (ix e) - 1) = cs at hA hpe hFs hcts hsts
      generalize p_all F (M' + 1) d (f_x F (ix e)) cs = q at hA hpe
      obtain ⟨v, c4⟩ := q
      have keep : ∀ r4 : zR, FrC (Sb F d (f_x F (ix e))) cs c4 → FrR (fun j => j = ix e ∨ Sb F d (f_x F (ix e)) j) r r4 → Lv F d (f_y F (ix e)) c4 r4 py := fun r4 hC hR4 =>
        Lv_cong d _ _ (Ag.of ((hFs.wk fun _ h => Or.inl h).tr (hC.wk fun _ h => Or.inr h)) hR4 houty houty) hLy
      obtain ⟨hFd, ⟨hv, n3, m3, r3, p4, hn3, hM3, hph3, -, hk3, -, -, hFr3, hgv3, hL3, hb3⟩ | ⟨hv, n3, m3, r3, hn3, hfr3, hM3, hph3, -, -, -, -, hFr3, hb3⟩ | ⟨hv, n3, hn3, herr⟩⟩ := hA
      · dsimp only at hv; subst hv
        have hp : p_limitL F (p_all F (M' + 1) d) e (M' + 1) c = (1, s_rs c4 e (c_rs c4 (ix (f_x F (ix e))))) := by rw [hpe]; simp [p_up, p_give]
        have hLy4 := keep r3 hFd hFr3
        have hq3 : q_step T e 1 r3 = (1, u_kp r3 (3 * e) (r_kp r3 (ix (3 * e)) - 1)) := by rw [lim_q hT hk]; simp [q_limit, hph3]
        have hag : ∀ x : Int32, ¬ Sb F d x (ix e) → Ag (Sb F d x) c4 (s_rs c4 e (c_rs c4 (ix (f_x F (ix e))))) r3 (u_tp (u_kp r3 (3 * e) (r_kp r3 (ix (3 * e)) - 1)) (nI t)) := fun x hx => Ag.of (D := fun j => j = ix e) (E := fun j => j = ix e) (fc_rs (D := fun j => j = ix e) rfl) ((fr_kp (D := fun j => j = ix e) (k := ix e) (b := 0) rfl (by decide) (ix_30 hT.1)).tr fr_tp) (fun _ h q => hx (q ▸ h)) (fun _ h q => hx (q ▸ h))
        rw [hp]
        refine mid_one _ ht hM3 (hs _ _ _ _ hM3.2.1) hq3 ⟨rfl, rfl, rfl⟩ hM3.2.1.1 hM3.2.1.2.1 hM3.2.1.2.2.1 (fr_kp (k := ix e) (b := 0) (Or.inl rfl) (by decide) (ix_30 hT.1)) (fc_rs (Or.inl rfl)) (hgv3.trans (pk_us (f := c_rs c4)).symm) ((Lv_14 hk).mpr ⟨(hFd _ hne).1.trans hsts, hph3, ?_, p4, py, Lv_cong d _ _ (hag _ hne) hL3, Lv_cong d _ _ (hag _ hney) hLy4, rfl⟩) hn3 ?_
        · show vp_updL (r_kp r3) (ix (3 * e)) (r_kp r3 (ix (3 * e)) - 1) (3 * ix e) = c_ct c4 (ix e)
          rw [(hFd _ hne).2.2, hcts, ix_30 hT.1, pk_uLs, hk3, h3]
        · rw [zK_s, zK_s]; omega
      · dsimp only at hv; subst hv
        have hp : p_limitL F (p_all F (M' + 1) d) e (M' + 1) c = p_limitL F (p_all F (M' + 1) d) e M' (s_st c4 e 2) := by rw [hpe]; simp
        have hLy4 := keep r3 hFd hFr3
        have hq3 : q_step T e 2 r3 = q_ask T e 1 1 r3 := by rw [lim_q hT hk]; simp [q_limit, hph3]
        have hst5 : c_st (s_st c4 e 2) (ix e) = 2 := pk_us
        have hm := zK_m d hn3
        rw [hp]
        refine lim_B hS hT hk ht M' (s_st c4 e 2) r3 r3 2 n3 _ py (mid_c hM3 (fc_st (Or.inl rfl)) rfl) (by omega) (by rw [hst5]; decide) hq3 ⟨rfl, rfl, rfl, rfl⟩ hM3.2.1.1 FrR.rf ?_ (fun h => absurd (h.symm.trans h1) (by decide)) (by omega) (Or.inr (Or.inr (by omega)))
        rw [if_neg (by rw [hst5]; decide)]
        exact id_live hney hLy4 (fc_st (D := fun j => j = ix e) rfl)
      · have hp : p_limitL F (p_all F (M' + 1) d) e (M' + 1) c = (v, c4) := by rw [hpe]; simp [p_up, neg1 hv, neg0 hv]
        rw [hp]
        exact herr c4 v rfl rfl ((hFs.wk fun j h => Or.inl h).tr (hFd.wk hsub)) (by omega)
    · rw [if_neg hpos] at hq0 hpe
      have hst5 : c_st (s_st c e 2) (ix e) = 2 := pk_us
      rw [hpe]
      refine lim_B hS hT hk ht M' (s_st c e 2) r r 0 n 0 py (mid_c (mid_0 hU) (fc_st (Or.inl rfl)) rfl) (by omega) (by rw [hst5]; decide) hq0 ⟨rfl, rfl, rfl, rfl⟩ hU.1 FrR.rf ?_ (fun h => absurd (h.symm.trans h1) (by decide)) (by omega) (Or.inr (Or.inr (by omega)))
      rw [if_neg (by rw [hst5]; decide)]
      exact id_live hney hLy (fc_st (D := fun j => j = ix e) rfl)
/-- the state from which EVERY and WHILE ask x -/
def p_e1 (F : zF) (e : Int32) (c : zC) : zC := if f_k F (ix e) = 16 then s_st c (f_x F (ix e)) 0 else p_x1 F e c
theorem ev_X {F : zF} {T : zT} {M f d t n p : Nat} {e : Int32} {c : zC} {r : zR} (hS : zSim F T M f d) (hT : Tr F T (d + 1) e) (hk : f_k F (ix e) = 15 ∨ f_k F (ix e) = 16) (ht : t + (d + 1) < 16) :
    ∀ (τ : Nat) (c1 : zC) (r1 r0 : zR) (w : Int32) (n1 m1 p1 : Nat), Mid F T f d t e c r n c1 r1 w n1 m1 → f + 1 ≤ n1 + τ → q_step T e w r1 = q_ask T e 0 1 r0 → Ro r1 r0 → Nm F r0 → FrR (fun j => j = ix e ∨ Sb F d (f_x F (ix e)) j) r1 r0 → Idl F d (f_x F (ix e)) (p_e1 F e c1) (pu r0 e 1 t (f_x F (ix e))) p1 →
      n < n1 ∨ c_st (p_e1 F e c1) (ix (f_x F (ix e))) = 0 → m1 + p1 + zK d n + 13 * n ≤ p + zK d n1 + 13 * n1 →
      Out F T f (d + 1) t e c r p n (p_everyL F (p_all F M d) e τ c1) := by
  have a2 : 2 ≤ f_a F e := by rcases hk with k | k <;> simp [f_a, k]
  obtain ⟨⟨hx, hpx, hne, hsub⟩, ⟨hy, hpy, hney, hsuby⟩, hD⟩ := pr_parts hT a2
  have hxe : ix (f_x F (ix e)) ≠ ix e := ne_of hx hne
  have hye : ix (f_y F (ix e)) ≠ ix e := ne_of hy hney
  have hs : ∀ (c : zC) (r : zR) (n : Nat) (w : Int32), zUp F f t e c r n → q_safe T (r, w) := fun c r n w hU => safe_of hT (by omega) hU (fun h => by rcases hk with k | k <;> rw [k] at h <;> simp at h) (fun h => by rcases hk with k | k <;> rw [k] at h <;> simp at h)
  have hq1 : ∀ r2 : zR, r_ph r2 (ix e) = 1 → q_step T e 1 r2 = q_first T e 1 2 r2 := fun r2 h => by rcases hk with k | k <;> simp [q_step, q_binary, hT.2.2.1, k, t_kc, h]
  have hq2 : ∀ r2 : zR, r_ph r2 (ix e) = 1 → q_step T e 2 r2 = (0, r2) := fun r2 h => by rcases hk with k | k <;> simp [q_step, q_binary, hT.2.2.1, k, t_kc, h]
  have hq3 : ∀ (r2 : zR) (w : Int32), ¬ w = 0 → r_ph r2 (ix e) = 2 → q_step T e w r2 = if f_k F (ix e) = 16 then q_first T e 0 1 r2 else q_ask T e 0 1 r2 := fun r2 w hw h => by rcases hk with k | k <;> simp [q_step, q_binary, hT.2.2.1, k, t_kc, h, hw]
  have hoX : ∀ j, Sb F d (f_x F (ix e)) j → ¬ (j = ix e ∨ Sb F d (f_y F (ix e)) j) := fun j hj h => by
    rcases h with h | h
    · exact hne (h ▸ hj)
    · exact hD j hj h
  intro τ
  induction τ with
  | zero =>
    intro c1 r1 r0 w n1 m1 p1 hM hτ
    have := hM.2.1.2.2.1.2.1
    omega
  | succ τ ih =>
    intro c1 r1 r0 w n1 m1 p1 hM hτ hq hR hN hF hI hfr1 hb1
    have hFe : FrC (Sb F (d + 1) e) c1 (p_e1 F e c1) := by
      unfold p_e1; split
      · exact fc_st (hsub _ (Tr_self hx))
      · exact x1_F (Or.inl rfl) (hsub _ (Tr_self hx))
    have hge : c_g (p_e1 F e c1) = c_g c1 := by
      unfold p_e1; split
      · rfl
      · exact x1_g F e c1
    have hste : ¬ f_k F (ix e) = 16 → c_st (p_e1 F e c1) (ix e) = 1 := fun h => by unfold p_e1; rw [if_neg h]; exact x1_st F e c1
    have hA := mid_ask (p := p) r0 hS ht (mid_c hM hFe hge) (hs _ _ _ _ hM.2.1) hx hne hsub hq hpx hR hN hF hI
    have hpe : p_everyL F (p_all F M d) e (τ + 1) c1 = (let q := p_all F M d (f_x F (ix e)) (p_e1 F e c1); if q.1 = 1 then
        let q2 := p_all F M d (f_y F (ix e)) (s_st q.2 (f_y F (ix e)) 0)
        if q2.1 < 0 then q2 else p_everyL F (p_all F M d) e τ q2.2
      else q) := by
      have h16 : (if f_k F (ix e) = 16 then p_try (p_all F M d) (f_x F (ix e)) c1 else p_x F (p_all F M d) e c1) = p_all F M d (f_x F (ix e)) (p_e1 F e c1) := by
        unfold p_e1
        split
        · rfl
        · exact p_x_eq F (p_all F M d) e c1
      show (let q := (if f_k F (ix e) = 16 then p_try (p_all F M d) (f_x F (ix e)) c1 else p_x F (p_all F M d) e c1); if q.1 = 1 then
        let q2 := p_try (p_all F M d) (f_y F (ix e)) q.2
        if q2.1 < 0 then q2 else p_everyL F (p_all F M d) e τ q2.2
        else q) = _
      rw [h16]
      rfl
    generalize p_e1 F e c1 = ce at hA hpe hFe hge hste hfr1
    generalize p_all F M d (f_x F (ix e)) ce = q at hA hpe
    obtain ⟨v, c2⟩ := q
    have hn0 := hM.2.2.2.2.2
    obtain ⟨hFc, ⟨hv, n2, m2, r2, p3, hn, hM2, hph, -, -, -, -, hFr, hgv, hL, hb⟩ | ⟨hv, n2, m2, r2, hn, hfr, hM2, hph, -, -, -, -, hFr, hb⟩ | ⟨hv, n2, hn, herr⟩⟩ := hA
    · dsimp only at hv; subst hv
      simp only [if_true] at hpe
      have hF3 : FrC (Sb F (d + 1) e) c2 (s_st c2 (f_y F (ix e)) 0) := fc_st (hsuby _ (Tr_self hy))
      have hst0 : c_st (s_st c2 (f_y F (ix e)) 0) (ix (f_y F (ix e))) = 0 := pk_us
      have hB := mid_ask (p := p) (p1 := 0) (u_ph r2 (f_y F (ix e)) 0) hS ht (mid_c hM2 hF3 rfl) (hs _ _ _ _ hM2.2.1) hy hney hsuby (by rw [hq1 r2 hph, q_first_eq hpy]) hpy ⟨rfl, rfl, rfl, rfl⟩ hM2.2.1.1 (fr_ph (Or.inr (Tr_self hy))) (id_fresh hy hney hst0)
      generalize p_all F M d (f_y F (ix e)) (s_st c2 (f_y F (ix e)) 0) = q at hB hpe
      obtain ⟨v, c4⟩ := q
      -- whatever came of y, x goes on
      have goX : ∀ (r3 : zR) (w3 : Int32) (n3 m3 : Nat), ¬ w3 = 0 → ¬ v < 0 → FrC (Sb F d (f_y F (ix e))) (s_st c2 (f_y F (ix e)) 0) c4 → FrR (fun j => j = ix e ∨ Sb F d (f_y F (ix e)) j) r2 r3 → Mid F T f d t e c r n c4 r3 w3 n3 m3 → r_ph r3 (ix e) = 2 → n2 < n3 → m3 + p3 + zK d n + 13 * n ≤ p + zK d n3 + 13 * n3 → Out F T f (d + 1) t e c r p n (p_everyL F (p_all F M d) e (τ + 1) c1) := by
        intro r3 w3 n3 m3 hw3 hv hFd hFr3 hM3 hph3 hn3 hb3
        have hp : p_everyL F (p_all F M d) e (τ + 1) c1 = p_everyL F (p_all F M d) e τ c4 := by rw [hpe]; simp only [if_neg hv]
        rw [hp]
        have hq4 := hq3 r3 w3 hw3 hph3
        by_cases h16 : f_k F (ix e) = 16
        · rw [if_pos h16, q_first_eq hpx] at hq4
          have hpz : p_e1 F e c4 = s_st c4 (f_x F (ix e)) 0 := if_pos h16
          exact ih c4 r3 (u_ph r3 (f_x F (ix e)) 0) w3 n3 m3 0 hM3 (by omega) hq4 ⟨rfl, rfl, rfl, rfl⟩ hM3.2.1.1 (fr_ph (Or.inr (Tr_self hx))) (by rw [hpz]; exact id_fresh hx hne pk_us) (Or.inl (by omega)) (by omega)
        · rw [if_neg h16] at hq4
          have hpz : p_e1 F e c4 = p_x1 F e c4 := if_neg h16
          have hst4 : c_st c4 (ix e) = 1 := (hFd _ hney).1.trans ((pk_un (Ne.symm hye)).trans ((hFc _ hne).1.trans (hste h16)))
          have hC' : FrC (fun j => j = ix e ∨ Sb F d (f_y F (ix e)) j) c2 c4 := (fc_st (Or.inr (Tr_self hy))).tr (hFd.wk fun _ h => Or.inr h)
          have hLx : Lv F d (f_x F (ix e)) c4 r3 p3 := Lv_cong d _ _ (Ag.of hC' hFr3 hoX hoX) hL
          refine ih c4 r3 r3 w3 n3 m3 p3 hM3 (by omega) hq4 ⟨rfl, rfl, rfl, rfl⟩ hM3.2.1.1 FrR.rf ?_ (Or.inl (by omega)) (by omega)
          rw [hpz]
          unfold p_x1; rw [if_neg (by rw [hst4]; decide)]
          exact id_live hne hLx (fc_st (D := fun j => j = ix e) rfl)
      obtain ⟨hFd, ⟨hv, n3, m3, r3, p4, hn3, hM3, hph3, -, -, -, -, hFr3, hgv3, hL3, hb3⟩ | ⟨hv, n3, m3, r3, hn3, hfr3, hM3, hph3, -, -, -, -, hFr3, hb3⟩ | ⟨hv, n3, hn3, herr⟩⟩ := hB
      · dsimp only at hv
        exact goX r3 1 n3 _ (by decide) (by rw [hv]; decide) hFd hFr3 hM3 hph3 hn3 (by omega)
      · dsimp only at hv
        have hn4 := hfr3 hst0
        exact goX r3 2 n3 _ (by decide) (by rw [hv]; decide) hFd hFr3 hM3 hph3 hn4 (by omega)
      · have hp : p_everyL F (p_all F M d) e (τ + 1) c1 = (v, c4) := by rw [hpe]; simp only [if_pos hv]
        rw [hp]
        exact herr c4 v rfl rfl ((hM2.2.2.2.1.tr hF3).tr (hFd.wk hsuby)) (by omega)
    · dsimp only at hv; subst hv
      have hp : p_everyL F (p_all F M d) e (τ + 1) c1 = (0, c2) := by rw [hpe]; simp
      have hlt : n < n2 := by
        rcases hfr1 with h | h
        · omega
        · have := hfr h; omega
      rw [hp]
      refine mid_zero _ ht hM2 (hs _ _ _ _ hM2.2.1) (hq2 r2 hph) ⟨rfl, rfl, rfl, rfl⟩ hM2.2.1.1 FrR.rf FrC.rf rfl (fun _ => hlt) ?_
      rw [zK_s, zK_s]; omega
    · have hp : p_everyL F (p_all F M d) e (τ + 1) c1 = (v, c2) := by rw [hpe]; simp [neg1 hv]
      rw [hp]
      exact herr c2 v rfl rfl ((hM.2.2.2.1.tr hFe).tr (hFc.wk hsub)) (by omega)
theorem sm_every {F : zF} {T : zT} {M f d t n p : Nat} {e : Int32} {c : zC} {r : zR} (hO : Ok F T M f) (hS : zSim F T M f d) (hT : Tr F T (d + 1) e) (hk : f_k F (ix e) = 15 ∨ f_k F (ix e) = 16) (ht : t + (d + 1) < 16) (hU : zUp F f t e c r n) (hI : Idl F (d + 1) e c r p) : Out F T f (d + 1) t e c r p n (p_everyL F (p_all F M d) e M c) := by
  have a1 : 1 ≤ f_a F e := by rcases hk with k | k <;> simp [f_a, k]
  obtain ⟨hx, hpx, hne⟩ := hT.2.2.2.2.1 a1
  have hxe : ix (f_x F (ix e)) ≠ ix e := ne_of hx hne
  obtain ⟨-, -, hf, hMM⟩ := hO
  have hq0 : q_step T e 0 r = q_ask T e 0 1 (u_ph r (f_x F (ix e)) 0) := by
    rw [← q_first_eq hpx]
    rcases hk with k | k <;> simp [q_step, q_binary, hT.2.2.1, k, t_kc]
  rcases hI with ⟨h1, h2, rfl⟩ | hL
  · have hst : c_st (p_e1 F e c) (ix (f_x F (ix e))) = 0 := by
      unfold p_e1; split
      · exact pk_us
      · exact x1_f hxe h1
    exact ev_X hS hT hk ht M c r (u_ph r (f_x F (ix e)) 0) 0 n 0 0 (mid_0 hU) (by omega) hq0 ⟨rfl, rfl, rfl, rfl⟩ hU.1 (fr_ph (Or.inr (Tr_self hx))) (id_fresh hx hne hst) (Or.inr hst) (by omega)
  · rcases hk with k | k
    · exact ((Lv_15 k).mp hL).elim
    · exact ((Lv_16 k).mp hL).elim
end
section
/-! TO. -/
def m_tr (e : Int32) (r : zR) : zR := u_nm r e (r_gv r)
def m_to (e : Int32) (r : zR) (v : Int32) : Prop := r_nm r (ix e) = v
theorem ix_321 {e : Int32} (h : vp_in e 60) : ix (3 * e + 2 - 1) = 3 * ix e + 1 := by
  obtain ⟨j, hj, rfl⟩ := vp_in_of h (by decide)
  have h3 : (3 : Int32) = nI 3 := rfl
  have h2 : (2 : Int32) = nI 2 := rfl
  rw [h3, h2, pk_mul, nI_add, show 3 * j + 2 = (3 * j + 1) + 1 by omega, nI_pred, ix_nI (by omega), ix_nI (by omega)]
theorem ix_331 {e : Int32} (h : vp_in e 60) : ix (3 * e + 3 - 1) = 3 * ix e + 2 := by
  obtain ⟨j, hj, rfl⟩ := vp_in_of h (by decide)
  have h3 : (3 : Int32) = nI 3 := rfl
  rw [h3, pk_mul, nI_add, show 3 * j + 3 = (3 * j + 2) + 1 by omega, nI_pred, ix_nI (by omega), ix_nI (by omega)]
theorem to_q {F : zF} {T : zT} {d : Nat} {e : Int32} (hT : Tr F T (d + 1) e) (hk : f_k F (ix e) = 18) (w : Int32) (r : zR) : q_step T e w r = q_to T e w r := by simp [q_step, hT.2.2.1, hk, t_kc]
theorem to_mem {F : zF} {T : zT} {f d t : Nat} {e : Int32} (hT : Tr F T (d + 1) e) (hk : f_k F (ix e) = 18) (ht : t + (d + 1) < 16) : Mem F T f t e (m_tr e) (m_to e) := by
  refine ⟨fun r => ⟨⟨rfl, rfl, rfl, rfl⟩, fun h j hj => ?_, fr_nm rfl, rfl, pk_us⟩, fun r r' v h1 _ h3 => h1.trans h3, fun r h => ?_, fun r h => ?_, fun c r n w hU hw hph => ?_⟩
  · have hne : j ≠ ix e := fun q => hj (by rw [q]; exact hk)
    exact (pk_un hne).trans (h j hj)
  · rw [to_q hT hk]; simp [q_to, h, m_tr]
  · rw [to_q hT hk]; simp [q_to, h]
  · exact safe_of hT (by omega) hU (fun h => by rw [hk] at h; simp at h) (fun _ _ => hph)
theorem to_q22 {F : zF} {T : zT} {d : Nat} {e : Int32} {r : zR} (hT : Tr F T (d + 1) e) (hk : f_k F (ix e) = 18) (h : r_ph r (ix e) = 3) : q_step T e 2 r = q_ask T e 1 2 r := by
  rw [to_q hT hk]
  unfold q_to
  dsimp only
  rw [if_neg (show ¬ (2 : Int32) = 0 by decide), if_pos (show (2 : Int32) = 2 from rfl), h, if_neg (show ¬ (3 : Int32) = 1 by decide)]
  rfl
theorem to_q12 {F : zF} {T : zT} {d : Nat} {e : Int32} {r : zR} (hT : Tr F T (d + 1) e) (hk : f_k F (ix e) = 18) (h : r_ph r (ix e) = 2) : q_step T e 1 r = q_first T e 2 3 (u_kp r (3 * e + 2 - 1) (r_gv r).toInt64) := by
  rw [to_q hT hk]
  unfold q_to
  dsimp only
  rw [if_neg (show ¬ (1 : Int32) = 0 by decide), if_neg (show ¬ (1 : Int32) = 2 by decide), h, if_neg (show ¬ (2 : Int32) = 1 by decide), if_pos (show (2 : Int32) = 2 from rfl)]
theorem to_q13 {F : zF} {T : zT} {d : Nat} {e : Int32} {r : zR} (hT : Tr F T (d + 1) e) (hk : f_k F (ix e) = 18) (h : r_ph r (ix e) = 3) : q_step T e 1 r = if r_gv r = 0 then (0, u_er (u_kp r (3 * e + 3 - 1) (r_gv r).toInt64) (-3)) else q_on T e (u_kp (u_kp r (3 * e + 3 - 1) (r_gv r).toInt64) (3 * e) (r_nm r (ix e)).toInt64) := by
  rw [to_q hT hk]
  unfold q_to
  dsimp only
  rw [if_neg (show ¬ (1 : Int32) = 0 by decide), if_neg (show ¬ (1 : Int32) = 2 by decide), h, if_neg (show ¬ (3 : Int32) = 1 by decide), if_neg (show ¬ (3 : Int32) = 2 by decide)]
  rfl
def TripledS (sl : Nat) (F : zF) (T : zT) (f d t : Nat) (e : Int32) (c : zC) (r : zR) (p n n1 m1 p1 b : Nat) (fr : Prop) (q : Int32 × zC) : Prop :=
  FrC (Sb F (d + 1) e) c q.2 ∧
  ((q.1 = 1 ∧ ∃ n2 m2 r2 px py pz, n1 < n2 ∧ Mid F T f d t e c r n q.2 r2 1 n2 m2 ∧ r_ph r2 (ix e) = 3 ∧ c_st q.2 (ix e) = 3 ∧ r_nm r2 (ix e) = c_rs q.2 (ix (f_x F (ix e))) ∧ r_kp r2 (3 * ix e + 1) = (c_rs q.2 (ix (f_y F (ix e)))).toInt64 ∧ r_gv r2 = c_rs q.2 (ix (f_z F (ix e))) ∧ Lv F d (f_x F (ix e)) q.2 r2 px ∧ Lv F d (f_y F (ix e)) q.2 r2 py ∧ Lv F d (f_z F (ix e)) q.2 r2 pz ∧ m2 + px + py + pz + sl + zK d n1 + 13 * n1 ≤ m1 + p1 + zK d n2 + 13 * n2) ∨
   (q.1 = 0 ∧ ∃ n2 m2 r2, n1 ≤ n2 ∧ (fr → n1 < n2) ∧ Mid F T f d t e c r n q.2 r2 2 n2 m2 ∧ r_ph r2 (ix e) = 1 ∧ m2 + zK d n1 + 13 * n1 ≤ m1 + p1 + zK d n2 + 13 * n2 + b) ∨
   (q.1 < 0 ∧ ∀ c3, c_g c3 = c_g q.2 → FrC (Sb F (d + 1) e) c c3 → Out F T f (d + 1) t e c r p n (q.1, c3)))
def Tripled (F : zF) (T : zT) (f d t : Nat) (e : Int32) (c : zC) (r : zR) (p n n1 m1 p1 b : Nat) (fr : Prop) (q : Int32 × zC) : Prop := TripledS 0 F T f d t e c r p n n1 m1 p1 b fr q
theorem tS_0 {F : zF} {T : zT} {f d t : Nat} {e : Int32} {c : zC} {r : zR} {p n n1 m1 p1 b : Nat} {fr : Prop} {q : Int32 × zC} (h : TripledS 1 F T f d t e c r p n n1 m1 p1 b fr q) : Tripled F T f d t e c r p n n1 m1 p1 b fr q := by
  obtain ⟨hF9, ⟨h1, n9, m9, r9, qx, qy, qz, h2, h3, h4, h5, h6, h7, h8, k1, k2, k3, hb9⟩ | ⟨h1, n9, m9, r9, h2, h3, h4, h5, hb9⟩ | ⟨h1, h2⟩⟩ := h
  · exact ⟨hF9, Or.inl ⟨h1, n9, m9, r9, qx, qy, qz, h2, h3, h4, h5, h6, h7, h8, k1, k2, k3, by omega⟩⟩
  · exact ⟨hF9, Or.inr (Or.inl ⟨h1, n9, m9, r9, h2, h3, h4, h5, hb9⟩)⟩
  · exact ⟨hF9, Or.inr (Or.inr ⟨h1, h2⟩)⟩
theorem to_parts {F : zF} {T : zT} {d : Nat} {e : Int32} (hT : Tr F T (d + 1) e) (hk : f_k F (ix e) = 18) : Prt F T d e 2 (f_z F (ix e)) ∧ (∀ j, Sb F d (f_x F (ix e)) j → ¬ Sb F d (f_z F (ix e)) j) ∧ ∀ j, Sb F d (f_y F (ix e)) j → ¬ Sb F d (f_z F (ix e)) j := by
  have a3 : 3 ≤ f_a F e := by simp [f_a, hk]
  obtain ⟨hz, hpz, hnez, hDx, hDy⟩ := hT.2.2.2.2.2.2 a3
  exact ⟨⟨hz, hpz, hnez, fun j h => Or.inr (Or.inr (Or.inr ⟨a3, h⟩))⟩, hDx, hDy⟩
/-- z's question, seen from x and y -/
theorem to_keep {F : zF} {T : zT} {d p : Nat} {e x z : Int32} {c c4 : zC} {r r4 : zR} (hx : Tr F T d x) (hne : ¬ Sb F d x (ix e)) (hD : ∀ j, Sb F d x j → ¬ Sb F d z j) (hC : FrC (fun j => j = ix e ∨ Sb F d z j) c c4) (hR : FrR (fun j => j = ix e ∨ Sb F d z j) r r4) (hL : Lv F d x c r p) : Lv F d x c4 r4 p ∧ c_rs c4 (ix x) = c_rs c (ix x) := by
  have hout : ∀ j, Sb F d x j → ¬ (j = ix e ∨ Sb F d z j) := fun j hj h => by
    rcases h with h | h
    · exact hne (h ▸ hj)
    · exact hD j hj h
  exact ⟨Lv_cong d _ _ (Ag.of hC hR hout hout) hL, (hC _ (hout _ (Tr_self hx))).2.1⟩
theorem tri_P1 {F : zF} {T : zT} {M f d t n p : Nat} {e : Int32} {c : zC} {r : zR} (hO : Ok F T M f) (hS : zSim F T M f d) (hT : Tr F T (d + 1) e) (hk : f_k F (ix e) = 18) (ht : t + (d + 1) < 16) :
    ∀ (τ : Nat) (c1 : zC) (n1 m1 p1 : Nat) (fr : Prop), Paired F T f d t e (m_to e) c r p n n1 m1 p1 fr (p_pairL F (p_all F M d) e M c1) → ¬ c_st c1 (ix e) = 3 → n1 ≤ f → f + 1 ≤ n1 + τ → m1 + p1 + zK d n + 20 * n ≤ p + zK d n1 + 20 * n1 + 2 →
      TripledS 1 F T f d t e c r p n n1 m1 p1 2 fr (p_tripleL F (p_all F M d) M e τ c1) := by
  have a2 : 2 ≤ f_a F e := by simp [f_a, hk]
  obtain ⟨hX, hY, hD⟩ := pr_parts hT a2
  obtain ⟨hZ, hDx, hDy⟩ := to_parts hT hk
  have hm := to_mem (f := f) hT hk ht
  have hze : ix (f_z F (ix e)) ≠ ix e := ne_of hZ.1 hZ.2.2.1
  intro τ
  induction τ with
  | zero => intro c1 n1 m1 p1 fr _ _ h1 h2; omega
  | succ τ ih =>
    intro c1 n1 m1 p1 fr hP hst hn1 hτ hE
    have hpe : p_tripleL F (p_all F M d) M e (τ + 1) c1 = (let q := p_pairL F (p_all F M d) e M c1; if q.1 = 1 then
        let q2 := p_all F M d (f_z F (ix e)) (s_st (s_st q.2 e 3) (f_z F (ix e)) 0)
        if q2.1 = 0 then p_tripleL F (p_all F M d) M e τ (s_st q2.2 e 2) else q2
      else q) := by
      show (if c_st c1 (ix e) = 3 then _ else _) = _
      rw [if_neg hst]
    generalize p_pairL F (p_all F M d) e M c1 = q at hP hpe
    obtain ⟨v, c2⟩ := q
    obtain ⟨hF9, ⟨hv, n2, m2, r2, px, py, hn, hM, hph, hst2, hmo, hgv, hLx, hLy, hb⟩ | ⟨hv, n2, m2, r2, hn, hfr, hM, hph, hb⟩ | ⟨hv, herr⟩⟩ := hP
    · dsimp only at hv; subst hv
      simp only [if_true] at hpe
      have hF3 : FrC (fun j => j = ix e ∨ Sb F d (f_z F (ix e)) j) c2 (s_st (s_st c2 e 3) (f_z F (ix e)) 0) := (fc_st (Or.inl rfl)).tr (fc_st (Or.inr (Tr_self hZ.1)))
      have hin : ∀ j, (j = ix e ∨ Sb F d (f_z F (ix e)) j) → Sb F (d + 1) e j := fun j h => by
        rcases h with h | h
        · exact Or.inl h
        · exact hZ.2.2.2 j h
      have hst3 : c_st (s_st (s_st c2 e 3) (f_z F (ix e)) 0) (ix e) = 3 := (pk_un (Ne.symm hze)).trans pk_us
      have hst0 : c_st (s_st (s_st c2 e 3) (f_z F (ix e)) 0) (ix (f_z F (ix e))) = 0 := pk_us
      have hkk : r_kp (u_ph (u_kp r2 (3 * e + 2 - 1) (r_gv r2).toInt64) (f_z F (ix e)) 0) (3 * ix e + 1) = (r_gv r2).toInt64 := by
        show vp_updL (r_kp r2) (ix (3 * e + 2 - 1)) (r_gv r2).toInt64 (3 * ix e + 1) = _
        rw [ix_321 hT.1]; exact pk_uLs
      have hB := mid_ask (p := p) (p1 := 0) (u_ph (u_kp r2 (3 * e + 2 - 1) (r_gv r2).toInt64) (f_z F (ix e)) 0) hS ht (mid_c hM (hF3.wk hin) rfl) (hm.2.2.2.2 _ _ _ 1 hM.2.1 (by decide) (Or.inr (Or.inl hph))) hZ.1 hZ.2.2.1 hZ.2.2.2 (by rw [to_q12 hT hk hph, q_first_eq hZ.2.1]) hZ.2.1 ⟨rfl, rfl, rfl, rfl⟩ hM.2.1.1 ((fr_kp (k := ix e) (b := 1) (Or.inl rfl) (by decide) (ix_321 hT.1)).tr (fr_ph (Or.inr (Tr_self hZ.1)))) (id_fresh hZ.1 hZ.2.2.1 hst0)
      generalize p_all F M d (f_z F (ix e)) (s_st (s_st c2 e 3) (f_z F (ix e)) 0) = q at hB hpe
      obtain ⟨v, c4⟩ := q
      obtain ⟨hFd, ⟨hv, n3, m3, r3, p4, hn3, hM3, hph3, hnm3, hk3, hk31, -, hFr3, hgv3, hL3, hb3⟩ | ⟨hv, n3, m3, r3, hn3, hfr3, hM3, hph3, hnm3, -, -, -, hFr3, hb3⟩ | ⟨hv, n3, hn3, herr⟩⟩ := hB
      · dsimp only at hv; subst hv
        have hp : p_tripleL F (p_all F M d) M e (τ + 1) c1 = (1, c4) := by rw [hpe]; simp
        have hC4 := hF3.tr (hFd.wk fun _ h => Or.inr h)
        obtain ⟨hLx4, hrx⟩ := to_keep hX.1 hX.2.2.1 hDx hC4 hFr3 hLx
        obtain ⟨hLy4, hry⟩ := to_keep hY.1 hY.2.2.1 hDy hC4 hFr3 hLy
        rw [hp]
        refine ⟨hM3.2.2.2.1, Or.inl ⟨rfl, n3, _, r3, px, py, p4, by omega, hM3, hph3, (hFd _ hZ.2.2.1).1.trans hst3, ?_, ?_, hgv3, hLx4, hLy4, hL3, by omega⟩⟩
        · rw [hrx, hnm3]; exact hmo
        · rw [hry, hk31, hkk, hgv]
      · dsimp only at hv; subst hv
        have hn4 := hfr3 hst0
        have hp : p_tripleL F (p_all F M d) M e (τ + 1) c1 = p_tripleL F (p_all F M d) M e τ (s_st c4 e 2) := by rw [hpe]; simp
        have hC4 := (hF3.tr (hFd.wk fun _ h => Or.inr h)).tr (fc_st (e := e) (v := 2) (Or.inl rfl))
        obtain ⟨hLx4, hrx⟩ := to_keep hX.1 hX.2.2.1 hDx hC4 hFr3 hLx
        obtain ⟨hLy4, hry⟩ := to_keep hY.1 hY.2.2.1 hDy hC4 hFr3 hLy
        have hst5 : c_st (s_st c4 e 2) (ix e) = 2 := pk_us
        obtain ⟨M', hM'⟩ : ∃ M', M = M' + 1 := ⟨M - 1, by have := hO.2.2.2; omega⟩
        have hfO := hO.2.2
        have hnf3 := hM3.2.1.2.2.1.2.1
        have hP2 := pair_Y hS ht hX hY hD hm M' (s_st c4 e 2) r3 2 n3 _ px py (mid_c hM3 (fc_st (Or.inl rfl)) rfl) (by omega) hst5 (hm.2.2.2.2 _ _ _ 2 hM3.2.1 (by decide) (Or.inr (Or.inr hph3))) (to_q22 hT hk hph3) hLx4 hLy4 (by rw [hrx]; exact hnm3.trans hmo) (p := p) (by omega)
        rw [← hM'] at hP2
        have h9 := ih (s_st c4 e 2) n3 _ (px + py) False hP2 (by rw [hst5]; decide) hnf3 (by omega) (by omega)
        rw [hp]
        generalize p_tripleL F (p_all F M d) M e τ (s_st c4 e 2) = q at h9
        obtain ⟨hF9, ⟨h1, n9, m9, r9, qx, qy, qz, h2, h3, h4, h5, h6, h7, h8, k1, k2, k3, hb9⟩ | ⟨h1, n9, m9, r9, h2, h3, h4, h5, hb9⟩ | ⟨h1, h2⟩⟩ := h9
        · exact ⟨hF9, Or.inl ⟨h1, n9, m9, r9, qx, qy, qz, by omega, h3, h4, h5, h6, h7, h8, k1, k2, k3, by omega⟩⟩
        · exact ⟨hF9, Or.inr (Or.inl ⟨h1, n9, m9, r9, by omega, fun _ => by omega, h4, h5, by omega⟩)⟩
        · exact ⟨hF9, Or.inr (Or.inr ⟨h1, h2⟩)⟩
      · have hp : p_tripleL F (p_all F M d) M e (τ + 1) c1 = (v, c4) := by rw [hpe]; simp [neg0 hv]
        rw [hp]
        exact ⟨(hM.2.2.2.1.tr (hF3.wk hin)).tr (hFd.wk hZ.2.2.2), Or.inr (Or.inr ⟨hv, fun c3 hg hF9 => herr c3 v hg rfl hF9 (by omega)⟩)⟩
    · dsimp only at hv; subst hv
      have hp : p_tripleL F (p_all F M d) M e (τ + 1) c1 = (0, c2) := by rw [hpe]; simp
      rw [hp]
      exact ⟨hF9, Or.inr (Or.inl ⟨rfl, n2, m2, r2, hn, hfr, hM, hph, by omega⟩)⟩
    · have hp : p_tripleL F (p_all F M d) M e (τ + 1) c1 = (v, c2) := by rw [hpe]; simp [neg1 hv]
      rw [hp]
      exact ⟨hF9, Or.inr (Or.inr ⟨hv, herr⟩)⟩
theorem tri_P {F : zF} {T : zT} {M f d t n p : Nat} {e : Int32} {c : zC} {r : zR} (hO : Ok F T M f) (hS : zSim F T M f d) (hT : Tr F T (d + 1) e) (hk : f_k F (ix e) = 18) (ht : t + (d + 1) < 16) :
    ∀ (τ : Nat) (c1 : zC) (n1 m1 p1 : Nat) (fr : Prop), Paired F T f d t e (m_to e) c r p n n1 m1 p1 fr (p_pairL F (p_all F M d) e M c1) → ¬ c_st c1 (ix e) = 3 → n1 ≤ f → f + 1 ≤ n1 + τ → m1 + p1 + zK d n + 20 * n ≤ p + zK d n1 + 20 * n1 + 2 →
      Tripled F T f d t e c r p n n1 m1 p1 2 fr (p_tripleL F (p_all F M d) M e τ c1) :=
  fun τ c1 n1 m1 p1 fr a1 a2 a3 a4 a5 => tS_0 (tri_P1 hO hS hT hk ht τ c1 n1 m1 p1 fr a1 a2 a3 a4 a5)
/-- z is asked next -/
theorem tri_Z {F : zF} {T : zT} {M f d t n p : Nat} {e : Int32} {c : zC} {r : zR} (hO : Ok F T M f) (hS : zSim F T M f d) (hT : Tr F T (d + 1) e) (hk : f_k F (ix e) = 18) (ht : t + (d + 1) < 16)
    (τ : Nat) (c1 : zC) (r1 r0 : zR) (w : Int32) (n1 m1 px py pz : Nat) (hM : Mid F T f d t e c r n c1 r1 w n1 m1) (hτ : f + 1 ≤ n1 + τ) (hst : c_st c1 (ix e) = 3) (hs : q_safe T (r1, w)) (hq : q_step T e w r1 = q_ask T e 2 3 r0) (hR : Ro r1 r0) (hN : Nm F r0) (hF : FrR (fun j => j = ix e) r1 r0) (hLx : Lv F d (f_x F (ix e)) c1 r1 px) (hLy : Lv F d (f_y F (ix e)) c1 r1 py) (hLz : Lv F d (f_z F (ix e)) c1 r1 pz)
    (hnm : r_nm r0 (ix e) = c_rs c1 (ix (f_x F (ix e)))) (hk1 : r_kp r0 (3 * ix e + 1) = (c_rs c1 (ix (f_y F (ix e)))).toInt64) (hE : m1 + px + py + pz + zK d n + 20 * n ≤ p + zK d n1 + 20 * n1) :
      Tripled F T f d t e c r p n n1 m1 (px + py + pz) 3 False (p_tripleL F (p_all F M d) M e (τ + 1) c1) := by
  have a2 : 2 ≤ f_a F e := by simp [f_a, hk]
  obtain ⟨hX, hY, hD⟩ := pr_parts hT a2
  obtain ⟨hZ, hDx, hDy⟩ := to_parts hT hk
  have hm := to_mem (f := f) hT hk ht
  have hIz : Idl F d (f_z F (ix e)) c1 (pu r0 e 3 t (f_z F (ix e))) pz := Or.inr (Lv_cong d _ _ (Ag.of (D := fun j => j = ix e) (E := fun j => j = ix e) FrC.rf (hF.tr (fr_pu (D := fun j => j = ix e) rfl)) (fun _ h q => hZ.2.2.1 (q ▸ h)) (fun _ h q => hZ.2.2.1 (q ▸ h))) hLz)
  have hA := mid_ask (p := p) r0 hS ht hM hs hZ.1 hZ.2.2.1 hZ.2.2.2 hq hZ.2.1 hR hN (hF.wk fun _ h => Or.inl h) hIz
  have hpe : p_tripleL F (p_all F M d) M e (τ + 1) c1 = (let q := p_all F M d (f_z F (ix e)) c1; if q.1 = 0 then p_tripleL F (p_all F M d) M e τ (s_st q.2 e 2) else q) := by
    show (if c_st c1 (ix e) = 3 then _ else _) = _
    rw [if_pos hst]
  generalize p_all F M d (f_z F (ix e)) c1 = q at hA hpe
  obtain ⟨v, c4⟩ := q
  obtain ⟨hFd, ⟨hv, n3, m3, r3, p4, hn3, hM3, hph3, hnm3, hk3, hk31, -, hFr3, hgv3, hL3, hb3⟩ | ⟨hv, n3, m3, r3, hn3, hfr3, hM3, hph3, hnm3, -, -, -, hFr3, hb3⟩ | ⟨hv, n3, hn3, herr⟩⟩ := hA
  · dsimp only at hv; subst hv
    have hp : p_tripleL F (p_all F M d) M e (τ + 1) c1 = (1, c4) := by rw [hpe]; simp
    have hC4 : FrC (fun j => j = ix e ∨ Sb F d (f_z F (ix e)) j) c1 c4 := hFd.wk fun _ h => Or.inr h
    obtain ⟨hLx4, hrx⟩ := to_keep hX.1 hX.2.2.1 hDx hC4 hFr3 hLx
    obtain ⟨hLy4, hry⟩ := to_keep hY.1 hY.2.2.1 hDy hC4 hFr3 hLy
    rw [hp]
    refine ⟨hM3.2.2.2.1, Or.inl ⟨rfl, n3, _, r3, px, py, p4, by omega, hM3, hph3, (hFd _ hZ.2.2.1).1.trans hst, ?_, ?_, hgv3, hLx4, hLy4, hL3, by omega⟩⟩
    · rw [hrx, hnm3]; exact hnm
    · rw [hry, hk31]; exact hk1
  · dsimp only at hv; subst hv
    have hp : p_tripleL F (p_all F M d) M e (τ + 1) c1 = p_tripleL F (p_all F M d) M e τ (s_st c4 e 2) := by rw [hpe]; simp
    have hC4 : FrC (fun j => j = ix e ∨ Sb F d (f_z F (ix e)) j) c1 (s_st c4 e 2) := (hFd.wk fun _ h => Or.inr h).tr (fc_st (Or.inl rfl))
    obtain ⟨hLx4, hrx⟩ := to_keep hX.1 hX.2.2.1 hDx hC4 hFr3 hLx
    obtain ⟨hLy4, hry⟩ := to_keep hY.1 hY.2.2.1 hDy hC4 hFr3 hLy
    have hst5 : c_st (s_st c4 e 2) (ix e) = 2 := pk_us
    obtain ⟨M', hM'⟩ : ∃ M', M = M' + 1 := ⟨M - 1, by have := hO.2.2.2; omega⟩
    have hfO := hO.2.2
    have hnf3 := hM3.2.1.2.2.1.2.1
    have hP2 := pair_Y hS ht hX hY hD hm M' (s_st c4 e 2) r3 2 n3 _ px py (mid_c hM3 (fc_st (Or.inl rfl)) rfl) (by omega) hst5 (hm.2.2.2.2 _ _ _ 2 hM3.2.1 (by decide) (Or.inr (Or.inr hph3))) (to_q22 hT hk hph3) hLx4 hLy4 (by rw [hrx]; exact hnm3.trans hnm) (p := p) (by omega)
    rw [← hM'] at hP2
    have h9 := tri_P1 hO hS hT hk ht τ (s_st c4 e 2) n3 _ (px + py) False hP2 (by rw [hst5]; decide) hnf3 (by omega) (by omega)
    rw [hp]
    generalize p_tripleL F (p_all F M d) M e τ (s_st c4 e 2) = q at h9
    obtain ⟨hF9, ⟨h1, n9, m9, r9, qx, qy, qz, h2, h3, h4, h5, h6, h7, h8, k1, k2, k3, hb9⟩ | ⟨h1, n9, m9, r9, h2, h3, h4, h5, hb9⟩ | ⟨h1, h2⟩⟩ := h9
    · exact ⟨hF9, Or.inl ⟨h1, n9, m9, r9, qx, qy, qz, by omega, h3, h4, h5, h6, h7, h8, k1, k2, k3, by omega⟩⟩
    · exact ⟨hF9, Or.inr (Or.inl ⟨h1, n9, m9, r9, by omega, fun h => h.elim, h4, h5, by omega⟩)⟩
    · exact ⟨hF9, Or.inr (Or.inr ⟨h1, h2⟩)⟩
  · have hp : p_tripleL F (p_all F M d) M e (τ + 1) c1 = (v, c4) := by rw [hpe]; simp [neg0 hv]
    rw [hp]
    exact ⟨hM.2.2.2.1.tr (hFd.wk hZ.2.2.2), Or.inr (Or.inr ⟨hv, fun c3 hg hF9 => herr c3 v hg rfl hF9 (by omega)⟩)⟩
/-- the next value of a TO, or none any more -/
theorem to_on {F : zF} {T : zT} {M f d t n p n2 m2 px py pz : Nat} {e w : Int32} {c c2 s1 : zC} {r r2 : zR} (r0 : zR) (hO : Ok F T M f) (hT : Tr F T (d + 1) e) (hk : f_k F (ix e) = 18) (ht : t + (d + 1) < 16) (hM : Mid F T f d t e c r n c2 r2 w n2 m2) (hs : q_safe T (r2, w)) (hq : q_step T e w r2 = q_on T e r0) (hR : Ro r2 r0) (hN : Nm F r0) (hF : FrR (fun j => j = ix e) r2 r0) (hC : FrC (fun j => j = ix e) c2 s1) (hg : c_g s1 = c_g c2) (hst : c_st s1 (ix e) = 4)
    (hnm : r_nm r0 (ix e) = c_rs s1 (ix (f_x F (ix e)))) (hk1 : r_kp r0 (3 * ix e + 1) = (c_rs s1 (ix (f_y F (ix e)))).toInt64) (hk2 : r_kp r0 (3 * ix e + 2) = (c_rs s1 (ix (f_z F (ix e)))).toInt64) (hk0 : r_kp r0 (3 * ix e) = c_ct s1 (ix e)) (hLx : Lv F d (f_x F (ix e)) c2 r2 px) (hLy : Lv F d (f_y F (ix e)) c2 r2 py) (hLz : Lv F d (f_z F (ix e)) c2 r2 pz) (hn : n ≤ n2)
    (hb : m2 + px + py + pz + zK d n + 20 * n ≤ p + zK d n2 + 20 * n2 + 4) :
    (p_upto F e s1 = true → Out F T f (d + 1) t e c r p n (p_fuel F e (c_ct s1 (ix e)).toInt32 s1)) ∧ (¬ p_upto F e s1 = true → q_step T e w r2 = q_ask T e 2 3 r0) := by
  have a2 : 2 ≤ f_a F e := by simp [f_a, hk]
  obtain ⟨hX, hY, hD⟩ := pr_parts hT a2
  obtain ⟨hZ, hDx, hDy⟩ := to_parts hT hk
  have hxe : ix (f_x F (ix e)) ≠ ix e := ne_of hX.1 hX.2.2.1
  have hye : ix (f_y F (ix e)) ≠ ix e := ne_of hY.1 hY.2.2.1
  have hze : ix (f_z F (ix e)) ≠ ix e := ne_of hZ.1 hZ.2.2.1
  have e0 : r_kp r0 (ix (3 * e)) = c_ct s1 (ix e) := by rw [ix_30 hT.1]; exact hk0
  have e1 : r_kp r0 (ix (3 * e + 1)) = (c_rs s1 (ix (f_y F (ix e)))).toInt64 := by rw [ix_31 hT.1]; exact hk1
  have e2 : r_kp r0 (ix (3 * e + 2)) = (c_rs s1 (ix (f_z F (ix e)))).toInt64 := by rw [ix_32 hT.1]; exact hk2
  have hon : q_on T e r0 = if p_upto F e s1 = true then q_paid T (c_ct s1 (ix e)).toInt32 (u_kp (u_ph r0 e 4) (3 * e) (c_ct s1 (ix e) + (c_rs s1 (ix (f_z F (ix e)))).toInt64)) else q_ask T e 2 3 r0 := by
    unfold q_on p_upto
    simp only [e0, e1, e2, i64_0]
    by_cases hp : 0 < c_rs s1 (ix (f_z F (ix e)))
    · simp only [if_pos hp, decide_eq_true_eq]
      by_cases hu : (c_rs s1 (ix (f_y F (ix e)))).toInt64 < c_ct s1 (ix e)
      · rw [if_pos hu, if_neg (fun q => q hu)]
      · rw [if_neg hu, if_pos hu]
    · simp only [if_neg hp, decide_eq_true_eq]
      by_cases hu : c_ct s1 (ix e) < (c_rs s1 (ix (f_y F (ix e)))).toInt64
      · rw [if_pos hu, if_neg (fun q => q hu)]
      · rw [if_neg hu, if_pos hu]
  refine ⟨fun hu => ?_, fun hu => by rw [hq, hon, if_neg hu]⟩
  rw [if_pos hu] at hon
  obtain ⟨hf1, hf2, hf3, -⟩ := hO
  have hUm := hM.2.1
  obtain ⟨hsp, hnf, w0, hw, hwc⟩ := hUm.2.2.1
  have hgr : r_g r0 = c_g s1 := hR.1.trans (hUm.2.1.trans hg.symm)
  have hCs : FrC (Sb F (d + 1) e) c2 s1 := hC.wk fun j h => Or.inl h
  by_cases hnf2 : n2 = f
  · have p1 : p_fuel F e (c_ct s1 (ix e)).toInt32 s1 = (-5, s1) := by
      unfold p_fuel; rw [if_neg]; rw [hf1, hg, hsp, hnf2]; exact Int32.lt_irrefl
    have q1 : q_paid T (c_ct s1 (ix e)).toInt32 (u_kp (u_ph r0 e 4) (3 * e) (c_ct s1 (ix e) + (c_rs s1 (ix (f_z F (ix e)))).toInt64)) = (0, u_er (u_kp (u_ph r0 e 4) (3 * e) (c_ct s1 (ix e) + (c_rs s1 (ix (f_z F (ix e)))).toInt64)) (-5)) := by
      unfold q_paid; rw [if_pos]; show g_sp (r_g r0) = t_f T; rw [hgr, hg, hsp, hf2, hnf2]
    rw [p1]
    refine mid_bad ht hM hs (hq.trans (hon.trans q1)) rfl (by decide) hgr (by rw [hg]; exact hUm.2.2.1) hCs ?_
    rw [zK_s, zK_s]; omega
  · have p1 : p_fuel F e (c_ct s1 (ix e)).toInt32 s1 = (1, s_rs (s_g s1 (h_sp (c_g s1))) e (c_ct s1 (ix e)).toInt32) := by
      unfold p_fuel
      rw [if_pos]
      · rfl
      · rw [hf1, hg, hsp, nI_ltI (by omega) (by omega)]; omega
    have q1 : q_paid T (c_ct s1 (ix e)).toInt32 (u_kp (u_ph r0 e 4) (3 * e) (c_ct s1 (ix e) + (c_rs s1 (ix (f_z F (ix e)))).toInt64)) = (1, u_gv (u_g (u_kp (u_ph r0 e 4) (3 * e) (c_ct s1 (ix e) + (c_rs s1 (ix (f_z F (ix e)))).toInt64)) (h_sp (r_g r0))) (c_ct s1 (ix e)).toInt32) := by
      unfold q_paid
      rw [if_neg]
      · rfl
      · show ¬ g_sp (r_g r0) = t_f T
        rw [hgr, hg, hsp, hf2, nI_eq (by omega) (by omega)]; exact hnf2
    have hgo := go_pop1 hs (by omega) hUm.2.2.2.2.1 hUm.2.2.2.2.2 (hq.trans (hon.trans q1)) (hR.2.2.1.trans hUm.2.2.2.2.1) (hR.2.1.trans hUm.2.2.2.1)
    have hFr : FrR (fun j => j = ix e) r2 (u_tp (u_gv (u_g (u_kp (u_ph r0 e 4) (3 * e) (c_ct s1 (ix e) + (c_rs s1 (ix (f_z F (ix e)))).toInt64)) (h_sp (r_g r0))) (c_ct s1 (ix e)).toInt32) (nI t)) := hF.tr ((fr_ph (D := fun j => j = ix e) rfl).tr ((fr_kp (D := fun j => j = ix e) (k := ix e) (b := 0) rfl (by decide) (ix_30 hT.1)).tr (fr_g.tr (fr_gv.tr fr_tp))))
    have hCr : FrC (fun j => j = ix e) c2 (s_rs (s_g s1 (h_sp (c_g s1))) e (c_ct s1 (ix e)).toInt32) := hC.tr (fc_g.tr (fc_rs (D := fun j => j = ix e) rfl))
    have hag : ∀ x : Int32, ¬ Sb F d x (ix e) → Ag (Sb F d x) c2 (s_rs (s_g s1 (h_sp (c_g s1))) e (c_ct s1 (ix e)).toInt32) r2 _ := fun x hx => Ag.of hCr hFr (fun _ h q => hx (q ▸ h)) (fun _ h q => hx (q ▸ h))
    rw [p1]
    have hm := zK_m d (Nat.le_add_right n2 1)
    refine ⟨n2 + 1, by omega, hM.2.2.2.1.tr (hCr.wk fun j h => Or.inl h), Or.inl ⟨rfl, by omega, m2 + 1, _, px + py + pz + 4, Go_trans _ _ _ _ _ hM.1 hgo, ⟨hN, ?_, ⟨?_, by omega, w0, hw, ?_⟩, hR.2.1.trans hUm.2.2.2.1, rfl, fun j hj => (congrFun hR.2.2.2 j).trans (hM.2.2.1 j hj)⟩, hM.2.2.2.2.1.tr (hFr.wk fun j h => Or.inl h), (pk_us (f := c_rs s1)).symm, (Lv_18 hk).mpr ⟨hst, pk_us, ?_, ?_, ?_, ?_, px, py, pz, Lv_cong d _ _ (hag _ hX.2.2.1) hLx, Lv_cong d _ _ (hag _ hY.2.2.1) hLy, Lv_cong d _ _ (hag _ hZ.2.2.1) hLz, rfl⟩, ?_⟩⟩
    · show h_sp (r_g r0) = h_sp (c_g s1); rw [hgr]
    · show g_sp (c_g s1) + 1 = nI (n2 + 1); rw [hg, hsp, nI_succ]
    · show g_wc (c_g s1) = nI w0; rw [hg]; exact hwc
    · show r_nm r0 (ix e) = upd (c_rs s1) (ix e) _ (ix (f_x F (ix e))); rw [pk_un hxe]; exact hnm
    · show vp_updL (r_kp r0) (ix (3 * e)) _ (3 * ix e + 1) = (upd (c_rs s1) (ix e) _ (ix (f_y F (ix e)))).toInt64
      rw [pk_un hye, ix_30 hT.1, pk_uLn (by omega)]; exact hk1
    · show vp_updL (r_kp r0) (ix (3 * e)) _ (3 * ix e + 2) = (upd (c_rs s1) (ix e) _ (ix (f_z F (ix e)))).toInt64
      rw [pk_un hze, ix_30 hT.1, pk_uLn (by omega)]; exact hk2
    · show vp_updL (r_kp r0) (ix (3 * e)) _ (3 * ix e) = c_ct s1 (ix e) + (upd (c_rs s1) (ix e) _ (ix (f_z F (ix e)))).toInt64
      rw [pk_un hze, ix_30 hT.1, pk_uLs]
    · rw [zK_s, zK_s]; omega
theorem to_L {F : zF} {T : zT} {M f d t n p : Nat} {e : Int32} {c : zC} {r : zR} (hO : Ok F T M f) (hS : zSim F T M f d) (hT : Tr F T (d + 1) e) (hk : f_k F (ix e) = 18) (ht : t + (d + 1) < 16) :
    ∀ (τ : Nat) (c1 : zC) (n1 m1 p1 b : Nat) (fr : Prop), Tripled F T f d t e c r p n n1 m1 p1 b fr (p_tripleL F (p_all F M d) M e M c1) → ¬ c_st c1 (ix e) = 4 → b ≤ 3 → n1 ≤ f → f + 1 ≤ n1 + τ → n ≤ n1 → (c_st c (ix e) = 0 → n < n1 ∨ fr) → m1 + p1 + zK d n + 16 * n ≤ p + zK d n1 + 16 * n1 → n < n1 ∨ fr ∨ m1 + p1 + 4 + zK d n + 16 * n ≤ p + zK d n1 + 16 * n1 →
      Out F T f (d + 1) t e c r p n (p_toL F (p_all F M d) M e τ c1) := by
  have a2 : 2 ≤ f_a F e := by simp [f_a, hk]
  obtain ⟨hX, hY, hD⟩ := pr_parts hT a2
  obtain ⟨hZ, hDx, hDy⟩ := to_parts hT hk
  have hm := to_mem (f := f) hT hk ht
  have hxe : ix (f_x F (ix e)) ≠ ix e := ne_of hX.1 hX.2.2.1
  intro τ
  induction τ with
  | zero => intro c1 n1 m1 p1 b fr _ _ _ h1 h2; omega
  | succ τ ih =>
    intro c1 n1 m1 p1 b fr hP hst hb3 hn1 hτ hn0 hfr1 hb1 hb2
    have hpe : p_toL F (p_all F M d) M e (τ + 1) c1 = (let q := p_tripleL F (p_all F M d) M e M c1; if q.1 = 1 then
        if c_rs q.2 (ix (f_z F (ix e))) = 0 then (-3, q.2) else
          let s1 := s_st (s_ct q.2 e (c_rs q.2 (ix (f_x F (ix e)))).toInt64) e 4
          if p_upto F e s1 = true then p_fuel F e (c_ct s1 (ix e)).toInt32 s1 else p_toL F (p_all F M d) M e τ (s_st s1 e 3)
      else q) := by
      show (if c_st c1 (ix e) = 4 then _ else _) = _
      rw [if_neg hst]
    generalize p_tripleL F (p_all F M d) M e M c1 = q at hP hpe
    obtain ⟨v, c2⟩ := q
    obtain ⟨hF9, ⟨hv, n2, m2, r2, px, py, pz, hn, hM, hph, hst2, hnm, hk1, hgv, hLx, hLy, hLz, hb⟩ | ⟨hv, n2, m2, r2, hn, hfr, hM, hph, hb⟩ | ⟨hv, herr⟩⟩ := hP
    · dsimp only at hv; subst hv
      simp only [if_true] at hpe
      have hs := hm.2.2.2.2 _ _ _ 1 hM.2.1 (by decide) (Or.inr (Or.inr hph))
      have hq1 := to_q13 hT hk hph
      by_cases hz0 : c_rs c2 (ix (f_z F (ix e))) = 0
      · rw [if_pos hz0] at hpe
        rw [if_pos (by rw [hgv]; exact hz0)] at hq1
        rw [hpe]
        refine mid_bad ht hM hs hq1 rfl (by decide) hM.2.1.2.1 hM.2.1.2.2.1 FrC.rf ?_
        rw [zK_s, zK_s]; omega
      · rw [if_neg hz0] at hpe
        rw [if_neg (by rw [hgv]; exact hz0)] at hq1
        generalize hs1 : s_st (s_ct c2 e (c_rs c2 (ix (f_x F (ix e)))).toInt64) e 4 = s1 at hpe
        have hC1 : FrC (fun j => j = ix e) c2 s1 := by rw [← hs1]; exact (fc_ct (D := fun j => j = ix e) rfl).tr (fc_st (D := fun j => j = ix e) rfl)
        have hg1 : c_g s1 = c_g c2 := by rw [← hs1]; rfl
        have hct : c_ct s1 (ix e) = (c_rs c2 (ix (f_x F (ix e)))).toInt64 := by rw [← hs1]; exact pk_uLs
        have hst4 : c_st s1 (ix e) = 4 := by rw [← hs1]; exact pk_us
        have hrs : c_rs s1 = c_rs c2 := by rw [← hs1]; rfl
        have hR0 : Ro r2 (u_kp (u_kp r2 (3 * e + 3 - 1) (r_gv r2).toInt64) (3 * e) (r_nm r2 (ix e)).toInt64) := ⟨rfl, rfl, rfl, rfl⟩
        have hFk : FrR (fun j => j = ix e) r2 (u_kp (u_kp r2 (3 * e + 3 - 1) (r_gv r2).toInt64) (3 * e) (r_nm r2 (ix e)).toInt64) := (fr_kp (D := fun j => j = ix e) (k := ix e) (b := 2) rfl (by decide) (ix_331 hT.1)).tr (fr_kp (D := fun j => j = ix e) (k := ix e) (b := 0) rfl (by decide) (ix_30 hT.1))
        have k1 : r_kp (u_kp (u_kp r2 (3 * e + 3 - 1) (r_gv r2).toInt64) (3 * e) (r_nm r2 (ix e)).toInt64) (3 * ix e + 1) = (c_rs s1 (ix (f_y F (ix e)))).toInt64 := by
          show vp_updL (vp_updL (r_kp r2) (ix (3 * e + 3 - 1)) _) (ix (3 * e)) _ (3 * ix e + 1) = _
          rw [ix_30 hT.1, ix_331 hT.1, pk_uLn (by omega), pk_uLn (by omega), hrs]; exact hk1
        have k2 : r_kp (u_kp (u_kp r2 (3 * e + 3 - 1) (r_gv r2).toInt64) (3 * e) (r_nm r2 (ix e)).toInt64) (3 * ix e + 2) = (c_rs s1 (ix (f_z F (ix e)))).toInt64 := by
          show vp_updL (vp_updL (r_kp r2) (ix (3 * e + 3 - 1)) _) (ix (3 * e)) _ (3 * ix e + 2) = _
          rw [ix_30 hT.1, ix_331 hT.1, pk_uLn (by omega), pk_uLs, hrs, hgv]
        have k0 : r_kp (u_kp (u_kp r2 (3 * e + 3 - 1) (r_gv r2).toInt64) (3 * e) (r_nm r2 (ix e)).toInt64) (3 * ix e) = c_ct s1 (ix e) := by
          show vp_updL (vp_updL (r_kp r2) (ix (3 * e + 3 - 1)) _) (ix (3 * e)) _ (3 * ix e) = _
          rw [ix_30 hT.1, pk_uLs, hct, hnm]
        obtain ⟨on1, on2⟩ := to_on (p := p) _ hO hT hk ht hM hs hq1 hR0 hM.2.1.1 hFk hC1 hg1 hst4 (by rw [hrs]; exact hnm) k1 k2 k0 hLx hLy hLz (by omega) (by omega)
        by_cases hu : p_upto F e s1 = true
        · rw [hpe, if_pos hu]
          exact on1 hu
        · rw [hpe, if_neg hu]
          have hst5 : c_st (s_st s1 e 3) (ix e) = 3 := pk_us
          have hC5 : FrC (fun j => j = ix e) c2 (s_st s1 e 3) := hC1.tr (fc_st (D := fun j => j = ix e) rfl)
          have hag : ∀ x : Int32, ¬ Sb F d x (ix e) → Ag (Sb F d x) c2 (s_st s1 e 3) r2 r2 := fun x hx => Ag.of (E := fun _ => False) hC5 FrR.rf (fun _ h q => hx (q ▸ h)) (fun _ _ q => q)
          obtain ⟨M', hM'⟩ : ∃ M', M = M' + 1 := ⟨M - 1, by have := hO.2.2.2; omega⟩
          have hfO := hO.2.2
          have hnf2 := hM.2.1.2.2.1.2.1
          have h9 := tri_Z hO hS hT hk ht M' (s_st s1 e 3) r2 _ 1 n2 m2 px py pz (mid_c hM (hC5.wk fun j h => Or.inl h) hg1) (by omega) hst5 hs (on2 hu) hR0 hM.2.1.1 hFk (Lv_cong d _ _ (hag _ hX.2.2.1) hLx) (Lv_cong d _ _ (hag _ hY.2.2.1) hLy) (Lv_cong d _ _ (hag _ hZ.2.2.1) hLz) (by show r_nm r2 (ix e) = c_rs s1 _; rw [hrs]; exact hnm) k1 (p := p) (by omega)
          rw [← hM'] at h9
          exact ih (s_st s1 e 3) n2 m2 (px + py + pz) 3 False h9 (by rw [hst5]; decide) (by omega) hnf2 (by omega) (by omega) (fun _ => Or.inl (by omega)) (by omega) (Or.inl (by omega))
    · dsimp only at hv; subst hv
      have hp : p_toL F (p_all F M d) M e (τ + 1) c1 = (0, c2) := by rw [hpe]; simp
      have hq2 : q_step T e 2 r2 = (0, r2) := by rw [to_q hT hk]; simp [q_to, hph]
      rw [hp]
      refine mid_zero _ ht hM (hm.2.2.2.2 _ _ _ 2 hM.2.1 (by decide) (Or.inl hph)) hq2 ⟨rfl, rfl, rfl, rfl⟩ hM.2.1.1 FrR.rf FrC.rf rfl (fun h => ?_) ?_
      · rcases hfr1 h with h | h
        · omega
        · have := hfr h; omega
      · rw [zK_s, zK_s]
        rcases hb2 with h | h | h
        · omega
        · have := hfr h; omega
        · omega
    · have hp : p_toL F (p_all F M d) M e (τ + 1) c1 = (v, c2) := by rw [hpe]; simp [neg1 hv]
      rw [hp]
      exact herr c2 rfl hF9
theorem sm_to {F : zF} {T : zT} {M f d t n p : Nat} {e : Int32} {c : zC} {r : zR} (hO : Ok F T M f) (hS : zSim F T M f d) (hT : Tr F T (d + 1) e) (hk : f_k F (ix e) = 18) (ht : t + (d + 1) < 16) (hU : zUp F f t e c r n) (hI : Idl F (d + 1) e c r p) : Out F T f (d + 1) t e c r p n (p_toL F (p_all F M d) M e M c) := by
  have a2 : 2 ≤ f_a F e := by simp [f_a, hk]
  obtain ⟨hX, hY, hD⟩ := pr_parts hT a2
  obtain ⟨hZ, hDx, hDy⟩ := to_parts hT hk
  have hm := to_mem (f := f) hT hk ht
  have hxe : ix (f_x F (ix e)) ≠ ix e := ne_of hX.1 hX.2.2.1
  have hs : q_safe T (r, 0) := safe_of hT (by omega) hU (fun h => by rw [hk] at h; simp at h) (fun _ h => absurd rfl h)
  have hfO := hO.2.2
  have hnf := hU.2.2.1.2.1
  have hq0 : q_step T e 0 r = if r_ph r (ix e) = 0 then q_first T e 0 1 r else q_on T e r := by rw [to_q hT hk]; simp [q_to]
  rcases hI with ⟨h1, h2, rfl⟩ | hL
  · have hP := pair_X hS ht hX hY hD hm M c r (u_ph r (f_x F (ix e)) 0) 0 n 0 0 (mid_0 hU) (by omega) (by rw [h1]; decide) hs (by rw [hq0, if_pos h2, q_first_eq hX.2.1]) ⟨rfl, rfl, rfl, rfl⟩ hU.1 (fr_ph (Or.inr (Tr_self hX.1))) (id_fresh hX.1 hX.2.2.1 (x1_f hxe h1)) (p := 0) (by omega)
    have h9 := tri_P hO hS hT hk ht M c n 0 0 _ hP (by rw [h1]; decide) hnf (by omega) (by omega)
    exact to_L hO hS hT hk ht M c n 0 0 2 _ h9 (by rw [h1]; decide) (by omega) hnf (by omega) (Nat.le_refl _) (fun h => Or.inr h) (by omega) (Or.inr (Or.inl h1))
  · obtain ⟨h1, h2, h3, h4, h5, h6, px, py, pz, hLx, hLy, hLz, rfl⟩ := (Lv_18 hk).mp hL
    rw [if_neg (by rw [h2]; decide)] at hq0
    obtain ⟨M', hM'⟩ : ∃ M', M = M' + 1 := ⟨M - 1, by omega⟩
    generalize hs1 : s_ct c e (c_ct c (ix e) + (c_rs c (ix (f_z F (ix e)))).toInt64) = s1
    have hC1 : FrC (fun j => j = ix e) c s1 := by rw [← hs1]; exact fc_ct rfl
    have hg1 : c_g s1 = c_g c := by rw [← hs1]; rfl
    have hct : c_ct s1 (ix e) = c_ct c (ix e) + (c_rs c (ix (f_z F (ix e)))).toInt64 := by rw [← hs1]; exact pk_uLs
    have hst4 : c_st s1 (ix e) = 4 := by rw [← hs1]; exact h1
    have hrs : c_rs s1 = c_rs c := by rw [← hs1]; rfl
    obtain ⟨on1, on2⟩ := to_on (p := px + py + pz + 4) r hO hT hk ht (mid_0 (T := T) hU) hs hq0 ⟨rfl, rfl, rfl, rfl⟩ hU.1 FrR.rf hC1 hg1 hst4 (by rw [hrs]; exact h3) (by rw [hrs]; exact h4) (by rw [hrs]; exact h5) (by rw [hct]; exact h6) hLx hLy hLz (Nat.le_refl _) (by omega)
    have hgoal : p_toL F (p_all F M d) M e M c = p_toL F (p_all F M d) M e (M' + 1) c := by rw [← hM']
    rw [hgoal, show p_toL F (p_all F M d) M e (M' + 1) c = if p_upto F e s1 = true then p_fuel F e (c_ct s1 (ix e)).toInt32 s1 else p_toL F (p_all F M d) M e M' (s_st s1 e 3) by
      show (if c_st c (ix e) = 4 then _ else _) = _
      rw [if_pos h1, hs1]]
    by_cases hu : p_upto F e s1 = true
    · rw [if_pos hu]; exact on1 hu
    · rw [if_neg hu]
      have hst5 : c_st (s_st s1 e 3) (ix e) = 3 := pk_us
      have hC5 : FrC (fun j => j = ix e) c (s_st s1 e 3) := hC1.tr (fc_st (D := fun j => j = ix e) rfl)
      have hag : ∀ x : Int32, ¬ Sb F d x (ix e) → Ag (Sb F d x) c (s_st s1 e 3) r r := fun x hx => Ag.of (E := fun _ => False) hC5 FrR.rf (fun _ h q => hx (q ▸ h)) (fun _ _ q => q)
      have h9 := tri_Z hO hS hT hk ht M' (s_st s1 e 3) r r 0 n 0 px py pz (mid_c (mid_0 (T := T) (d := d) hU) (hC5.wk fun j h => Or.inl h) hg1) (by omega) hst5 hs (on2 hu) ⟨rfl, rfl, rfl, rfl⟩ hU.1 FrR.rf (Lv_cong d _ _ (hag _ hX.2.2.1) hLx) (Lv_cong d _ _ (hag _ hY.2.2.1) hLy) (Lv_cong d _ _ (hag _ hZ.2.2.1) hLz) (by show r_nm r (ix e) = c_rs s1 _; rw [hrs]; exact h3) (by show r_kp r _ = (c_rs s1 _).toInt64; rw [hrs]; exact h4) (p := px + py + pz + 4) (by omega)
      rw [← hM'] at h9
      exact to_L hO hS hT hk ht M' (s_st s1 e 3) n 0 (px + py + pz) 3 False h9 (by rw [hst5]; decide) (by omega) hnf (by omega) (Nat.le_refl _) (fun h => absurd (h.symm.trans h1) (by decide)) (by omega) (Or.inr (Or.inr (by omega)))
/-- one question of the recursion is a row of turns of the machine -/
theorem sim_all {F : zF} {T : zT} {M f : Nat} (hO : Ok F T M f) : ∀ d : Nat, zSim F T M f d
  | 0 => fun t e c r p n hT => hT.elim
  | d + 1 => by
    intro t e c r p n hT ht hU hI
    have hS := sim_all hO d
    obtain ⟨k, hk, hke⟩ := hT.2.1
    have hall : p_all F M (d + 1) e c = p_ask F (p_all F M d) M e c := rfl
    rw [hall]
    have hk' : k = 0 ∨ k = 1 ∨ k = 2 ∨ k = 3 ∨ k = 4 ∨ k = 5 ∨ k = 6 ∨ k = 7 ∨ k = 8 ∨ k = 9 ∨ k = 10 ∨ k = 11 ∨ k = 12 ∨ k = 13 ∨ k = 14 ∨ k = 15 ∨ k = 16 ∨ k = 17 ∨ k = 18 ∨ k = 19 := by omega
    rcases hk' with rfl | rfl | rfl | rfl | rfl | rfl | rfl | rfl | rfl | rfl | rfl | rfl | rfl | rfl | rfl | rfl | rfl | rfl | rfl | rfl
    · have h : f_k F (ix e) = 0 := hke
      rw [show p_ask F (p_all F M d) M e c = p_leaf F e (f_n F (ix e)) c by simp [p_ask, h]]
      exact sm_leaf hO hT (Or.inl h) ht hU hI (by rw [if_pos h])
    · have h : f_k F (ix e) = 1 := hke
      rw [show p_ask F (p_all F M d) M e c = p_leaf F e (g_va (c_g c) (ix (f_n F (ix e)))) c by simp [p_ask, h]]
      exact sm_leaf hO hT (Or.inr h) ht hU hI (by rw [if_neg (by rw [h]; decide)])
    · have h : f_k F (ix e) = 2 := hke
      rw [show p_ask F (p_all F M d) M e c = p_assign F (p_all F M d) e c by simp [p_ask, h]]
      exact sm_assign hS hT h ht hU hI
    · have h : f_k F (ix e) = 3 := hke
      rw [show p_ask F (p_all F M d) M e c = p_write F (p_all F M d) e c by simp [p_ask, h]]
      exact sm_write hS hT h ht hU hI
    · have h : f_k F (ix e) = 4 := hke
      rw [show p_ask F (p_all F M d) M e c = p_not F (p_all F M d) e c by simp [p_ask, h]]
      exact sm_not hS hT h ht hU hI
    · have h : f_k F (ix e) = 5 := hke
      rw [show p_ask F (p_all F M d) M e c = p_again F (p_all F M d) e c by simp [p_ask, h]]
      exact sm_again hS hT h ht hU hI
    · have h : f_k F (ix e) = 6 := hke
      rw [show p_ask F (p_all F M d) M e c = p_either F (p_all F M d) e c by simp [p_ask, h]]
      exact sm_either hS hT h ht hU hI
    · have h : f_k F (ix e) = 7 := hke
      rw [show p_ask F (p_all F M d) M e c = p_up e (f_y F (ix e)) (p_pairL F (p_all F M d) e M c) by simp [p_ask, h]]
      exact sm_and hO hS hT h ht hU hI
    · have h : f_k F (ix e) = 8 := hke
      rw [show p_ask F (p_all F M d) M e c = p_arith F (p_all F M d) M e c by simp [p_ask, h]]
      exact sm_arith hO hS hT (Or.inl h) ht hU hI
    · have h : f_k F (ix e) = 9 := hke
      rw [show p_ask F (p_all F M d) M e c = p_arith F (p_all F M d) M e c by simp [p_ask, h]]
      exact sm_arith hO hS hT (Or.inr (Or.inl h)) ht hU hI
    · have h : f_k F (ix e) = 10 := hke
      rw [show p_ask F (p_all F M d) M e c = p_arith F (p_all F M d) M e c by simp [p_ask, h]]
      exact sm_arith hO hS hT (Or.inr (Or.inr h)) ht hU hI
    · have h : f_k F (ix e) = 11 := hke
      rw [show p_ask F (p_all F M d) M e c = p_compL F (p_all F M d) M e M c by simp [p_ask, h]]
      exact sm_comp hO hS hT (Or.inl h) ht hU hI
    · have h : f_k F (ix e) = 12 := hke
      rw [show p_ask F (p_all F M d) M e c = p_compL F (p_all F M d) M e M c by simp [p_ask, h]]
      exact sm_comp hO hS hT (Or.inr (Or.inl h)) ht hU hI
    · have h : f_k F (ix e) = 13 := hke
      rw [show p_ask F (p_all F M d) M e c = p_compL F (p_all F M d) M e M c by simp [p_ask, h]]
      exact sm_comp hO hS hT (Or.inr (Or.inr h)) ht hU hI
    · have h : f_k F (ix e) = 14 := hke
      rw [show p_ask F (p_all F M d) M e c = p_limitL F (p_all F M d) e M c by simp [p_ask, h]]
      exact sm_limit hO hS hT h ht hU hI
    · have h : f_k F (ix e) = 15 := hke
      rw [show p_ask F (p_all F M d) M e c = p_everyL F (p_all F M d) e M c by simp [p_ask, h]]
      exact sm_every hO hS hT (Or.inl h) ht hU hI
    · have h : f_k F (ix e) = 16 := hke
      rw [show p_ask F (p_all F M d) M e c = p_everyL F (p_all F M d) e M c by simp [p_ask, h]]
      exact sm_every hO hS hT (Or.inr h) ht hU hI
    · have h : f_k F (ix e) = 17 := hke
      rw [show p_ask F (p_all F M d) M e c = p_then F (p_all F M d) e c by simp [p_ask, h]]
      exact sm_then hS hT h ht hU hI
    · have h : f_k F (ix e) = 18 := hke
      rw [show p_ask F (p_all F M d) M e c = p_toL F (p_all F M d) M e M c by simp [p_ask, h]]
      exact sm_to hO hS hT h ht hU hI
    · have h : f_k F (ix e) = 19 := hke
      rw [show p_ask F (p_all F M d) M e c = p_if F (p_all F M d) e c by simp [p_ask, h]]
      exact sm_if hS hT h ht hU hI
end
section
/-! the cells -/
/-- forest, search, depth, free, count, latest, begun, last answer -/
abbrev zX : Type := zF × zC × (Nat → Int32) × (Nat → Int32) × Int32 × Int32 × Int32 × Int32
def x_F (X : zX) : zF := X.1
def x_c (X : zX) : zC := X.2.1
def x_d (X : zX) : Nat → Int32 := X.2.2.1
def x_f (X : zX) : Nat → Int32 := X.2.2.2.1
def x_n (X : zX) : Int32 := X.2.2.2.2.1
def x_l (X : zX) : Int32 := X.2.2.2.2.2.1
def x_b (X : zX) : Int32 := X.2.2.2.2.2.2.1
def x_a (X : zX) : Int32 := X.2.2.2.2.2.2.2
def X_c (X : zX) (s : zC) : zX := (X.1, s, X.2.2)
/-- cells: GoalSearch, Search, Forest, seven rows of the forest, five of the search; a: addresses, k: the rows' array sorts -/
def wX (a : Nat → Nat) (k : Nat → ClassId) (X : zX) : va_W := [(a 0, .inr (2, [.ref (a 1), .ref (a 2)])),
  (a 1, .inr (1, [.ref (a 2), .ref (a 10), .ref (a 11), .ref (a 12), .ref (a 13), .ref (a 14), .int (g_wc (c_g (x_c X))), .int (g_sp (c_g (x_c X))), .int (x_l X), .int (f_f (x_F X)), .int (x_b X), .int (x_a X)])),
  (a 2, .inr (0, [.ref (a 3), .ref (a 4), .ref (a 5), .ref (a 6), .ref (a 7), .ref (a 8), .ref (a 9), .int (x_n X)])),
  (a 3, .inl (k 3, 60, .inl (f_k (x_F X)))), (a 4, .inl (k 4, 60, .inl (f_n (x_F X)))), (a 5, .inl (k 5, 60, .inl (f_x (x_F X)))), (a 6, .inl (k 6, 60, .inl (f_y (x_F X)))), (a 7, .inl (k 7, 60, .inl (f_z (x_F X)))), (a 8, .inl (k 8, 60, .inl (x_d X))), (a 9, .inl (k 9, 60, .inl (x_f X))),
  (a 10, .inl (k 10, 60, .inl (c_st (x_c X)))), (a 11, .inl (k 11, 60, .inl (c_rs (x_c X)))), (a 12, .inl (k 12, 60, .inr (.inl (c_ct (x_c X))))), (a 13, .inl (k 13, 8, .inl (g_va (c_g (x_c X))))), (a 14, .inl (k 14, 32, .inl (g_wr (c_g (x_c X)))))]
def yX (k : Nat → ClassId) : List (ClassId × FieldType) := [(k 3, .int), (k 4, .int), (k 5, .int), (k 6, .int), (k 7, .int), (k 8, .int), (k 9, .boolean), (k 10, .int), (k 11, .int), (k 12, .long), (k 13, .int), (k 14, .int)]
def wS (a : Nat → Nat) (k : Nat → ClassId) (X : zX) (s : zC) : va_W := wX a k (X_c X s)
/-- the written count is in range -/
def Wk (s : zC) : Prop := ∃ n : Nat, n ≤ 32 ∧ g_wc (c_g s) = nI n
theorem wk_in {s : zC} (h : Wk s) (hc : g_wc (c_g s) < 32) : vp_in (g_wc (c_g s)) 32 := by
  obtain ⟨n, hn, e⟩ := h
  rw [e] at hc ⊢
  exact vp_in_nI ((nI_ltI (b := 32) (by omega) (by decide)).mp hc) (by decide)
theorem wk_up {s : zC} {i v : Int32} (h : Wk s) (hc : g_wc (c_g s) < 32) : Wk (s_g (s_g s (h_w0 (c_g s) i v)) (h_w1 (c_g (s_g s (h_w0 (c_g s) i v))))) := by
  obtain ⟨n, hn, e⟩ := h
  rw [e] at hc
  have h32 := (nI_ltI (b := 32) (by omega) (by decide)).mp hc
  refine ⟨n + 1, h32, ?_⟩
  show g_wc (c_g s) + 1 = nI (n + 1)
  rw [e, nI_succ]
theorem wr_eq (s : zC) (v : Int32) : s_g (s_g s (h_w0 (c_g s) (g_wc (c_g s)) v)) (h_w1 (c_g (s_g s (h_w0 (c_g s) (g_wc (c_g s)) v)))) = s_g s (h_wr (c_g s) v) := rfl
theorem tn_lt {n : Nat} (h : n < 1000000) : nI n < 1000000 := nI_lt h (by decide)
theorem tn_ge {n : Nat} (h : nI n < 1000000) (hn : n = 1000000) : False := by
  subst hn
  exact absurd h (by decide)
theorem i64_nle {x y : Int64} (h : ¬ x ≤ y) : y < x := by
  rw [Int64.le_iff_toInt_le] at h; rw [Int64.lt_iff_toInt_lt]; omega
theorem i64_nlt {x y : Int64} (h : x ≤ y) : ¬ y < x := by
  rw [Int64.le_iff_toInt_le] at h; rw [Int64.lt_iff_toInt_lt]; omega
theorem br_tr {F : zF} {T : zT} {d : Nat} {e : Int32} {s : zC} (hy : Tr F T d (f_y F (ix e))) (hz : Tr F T d (f_z F (ix e))) : Tr F T d (p_branch F e s) := by
  unfold p_branch; split
  · exact hy
  · exact hz
/-! The whole objects: pure pictures of the calls, one a method, on both sides. -/
abbrev mx (x y : Int32) : Int32 := if x < y then y else x
def h_c (g : zG) (v : Int32) : zG := (g.1, g.2.1, g.2.2.1, v)
def h_wc (g : zG) (v : Int32) : zG := (g.1, g.2.1, v, g.2.2.2)
def X_q (X : zX) (f : zC → zC) : zX := (X.1, f X.2.1, X.2.2)
def X_k (X : zX) (i v : Int32) : zX := ((upd X.1.1 (ix i) v, X.1.2), X.2)
def X_m (X : zX) (i v : Int32) : zX := ((X.1.1, upd X.1.2.1 (ix i) v, X.1.2.2), X.2)
def X_x (X : zX) (i v : Int32) : zX := ((X.1.1, X.1.2.1, upd X.1.2.2.1 (ix i) v, X.1.2.2.2), X.2)
def X_y (X : zX) (i v : Int32) : zX := ((X.1.1, X.1.2.1, X.1.2.2.1, upd X.1.2.2.2.1 (ix i) v, X.1.2.2.2.2), X.2)
def X_z (X : zX) (i v : Int32) : zX := ((X.1.1, X.1.2.1, X.1.2.2.1, X.1.2.2.2.1, upd X.1.2.2.2.2.1 (ix i) v, X.1.2.2.2.2.2), X.2)
def X_u (X : zX) (v : Int32) : zX := ((X.1.1, X.1.2.1, X.1.2.2.1, X.1.2.2.2.1, X.1.2.2.2.2.1, v), X.2)
def X_d (X : zX) (i v : Int32) : zX := (X.1, X.2.1, upd X.2.2.1 (ix i) v, X.2.2.2)
def X_f (X : zX) (i v : Int32) : zX := (X.1, X.2.1, X.2.2.1, upd X.2.2.2.1 (ix i) v, X.2.2.2.2)
def X_n (X : zX) (v : Int32) : zX := (X.1, X.2.1, X.2.2.1, X.2.2.2.1, v, X.2.2.2.2.2)
def X_l (X : zX) (v : Int32) : zX := (X.1, X.2.1, X.2.2.1, X.2.2.2.1, X.2.2.2.2.1, v, X.2.2.2.2.2.2)
def X_b (X : zX) (v : Int32) : zX := (X.1, X.2.1, X.2.2.1, X.2.2.2.1, X.2.2.2.2.1, X.2.2.2.2.2.1, v, X.2.2.2.2.2.2.2)
def X_a (X : zX) (v : Int32) : zX := (X.1, X.2.1, X.2.2.1, X.2.2.2.1, X.2.2.2.2.1, X.2.2.2.2.2.1, X.2.2.2.2.2.2.1, v)
def p_bel (x y : Int32) : Bool := if x < 0 then false else if x < y then true else false
def p_full (X : zX) : Bool := if x_n X < 60 then false else true
def p_over (X : zX) (x y z : Int32) : Int32 := 1 + mx (x_d X (ix x)) (mx (x_d X (ix y)) (x_d X (ix z)))
def p_leafX (X : zX) (kd v : Int32) : Int32 × zX := (x_n X, X_n (X_f (X_d (X_m (X_k X (x_n X) kd) (x_n X) v) (x_n X) 1) (x_n X) 1) (x_n X + 1))
def p_overX (X : zX) (kd v x y z : Int32) : Int32 × zX :=
  let q := p_leafX X kd v
  let U := X_z (X_y (X_x q.2 q.1 x) q.1 y) q.1 z
  (q.1, X_f (X_f (X_f (X_d U q.1 (p_over U x y z)) x 0) y 0) z 0)
def p_gleaf (X : zX) (kd v : Int32) : Int32 × zX :=
  if p_bel kd 2 = true then
    if 0 + kd = 1 then
      if p_bel v 8 = true then if p_full X = true then (-4, X) else p_leafX X (0 + kd) v else (-1, X)
    else if p_full X = true then (-4, X) else p_leafX X (0 + kd) v
  else (-1, X)
def p_join (X : zX) (kd v x y z tw : Int32) : Int32 × zX :=
  if p_bel x (x_n X) = true then
    if p_bel y (x_n X) = true then
      if p_bel z (x_n X) = true then
        if tw = 0 then
          if x_f X (ix x) = 0 then (-3, X)
          else if x_f X (ix y) = 0 then (-3, X)
          else if x_f X (ix z) = 0 then (-3, X)
          else if p_full X = true then (-4, X)
          else if 12 < p_over X x y z then (-5, X)
          else p_overX X kd v x y z
        else (-3, X)
      else (-2, X)
    else (-2, X)
  else (-2, X)
def p_gun (X : zX) (kd v x : Int32) : Int32 × zX :=
  if p_bel kd 4 = true then
    if 2 + kd = 2 then if p_bel v 8 = true then p_join X (2 + kd) v x x x 0 else (-1, X)
    else p_join X (2 + kd) v x x x 0
  else (-1, X)
def p_gbin (X : zX) (kd x y : Int32) : Int32 × zX := if p_bel kd 12 = true then if x = y then p_join X (6 + kd) 0 x y y 1 else p_join X (6 + kd) 0 x y y 0 else (-1, X)
def p_gter (X : zX) (kd x y z : Int32) : Int32 × zX :=
  if p_bel kd 2 = true then
    if x = y then p_join X (18 + kd) 0 x y z 1 else if y = z then p_join X (18 + kd) 0 x y z 1 else if x = z then p_join X (18 + kd) 0 x y z 1 else p_join X (18 + kd) 0 x y z 0
  else (-1, X)
def p_about (X : zX) (x : Int32) : Int32 := if p_bel x (x_n X) = true then if x_f X (ix x) = 0 then x_d X (ix x) + 0 else x_d X (ix x) + 32 else -2
def p_set (X : zX) (x v : Int32) : Int32 × zX := if p_bel x 8 = true then (g_va (c_g (x_c X)) (ix x), X_q X (fun s => s_g s (h_va (c_g s) x v))) else (0, X)
def p_var (X : zX) (x : Int32) : Int32 := if p_bel x 8 = true then g_va (c_g (x_c X)) (ix x) else 0
def p_open (X : zX) (x v : Int32) : zX := X_a (X_l (X_q (X_q (X_u (X_b (X_c X (s_st (x_c X) x 0)) x) v) (fun s => s_g s (h_c (c_g s) 0))) (fun s => s_g s (h_wc (c_g s) 0))) 0) 1
def p_begin (X : zX) (x v : Int32) : Int32 × zX :=
  if p_bel x (x_n X) = true then if x_f X (ix x) = 0 then (-3, X) else if p_bel v 2001 = true then (0, p_open X x v) else (-1, X) else (-2, X)
def p_proc (M : Nat) (X : zX) : Int32 × zX :=
  if x_a X = 1 then
    let q := p_all (x_F X) M 12 (x_b X) (x_c X)
    if q.1 = 1 then (q.1, X_l (X_a (X_c X q.2) q.1) (c_rs q.2 (ix (x_b X)))) else (q.1, X_a (X_c X q.2) q.1)
  else (x_a X, X)
def p_written (X : zX) (x : Int32) : Int64 := if p_bel x (g_wc (c_g (x_c X))) = true then (g_wr (c_g (x_c X)) (ix x)).toInt64 else 4294967296
/-- what the calls of the class rest on -/
def VX (X : zX) : Prop := (∃ n : Nat, n ≤ 60 ∧ x_n X = nI n) ∧ Wk (x_c X)
def VT (T : zT) (X : zX) : Prop := (∃ n : Nat, n ≤ 60 ∧ x_n X = nI n) ∧ Wk (x_c X) ∧ (x_a X = 1 → Tr (x_F X) T 12 (x_b X))
theorem bel_of {x y : Int32} {n : Nat} (h : p_bel x y = true) (hy : y = nI n) (hn : n < 2 ^ 31) : ∃ j : Nat, j < n ∧ x = nI j := by
  unfold p_bel at h
  by_cases h0 : x < 0
  · rw [if_pos h0] at h; exact absurd h (by decide)
  rw [if_neg h0] at h
  by_cases h1 : x < y
  · obtain ⟨j, hj, rfl⟩ := nI_of h0
    rw [hy] at h1
    exact ⟨j, (nI_ltI hj hn).mp h1, rfl⟩
  · rw [if_neg h1] at h; exact absurd h (by decide)
theorem bel_8 {x : Int32} (h : p_bel x 8 = true) : vp_in x 8 := by
  obtain ⟨j, hj, rfl⟩ := bel_of (n := 8) h rfl (by decide)
  exact vp_in_nI hj (by decide)
theorem bel_n {x y : Int32} (hn : ∃ n : Nat, n ≤ 60 ∧ y = nI n) (h : p_bel x y = true) : vp_in x 60 := by
  obtain ⟨n, hn, e⟩ := hn
  obtain ⟨j, hj, rfl⟩ := bel_of h e (by omega)
  exact vp_in_nI (by omega) (by decide)
theorem bel_w {x : Int32} {s : zC} (hw : Wk s) (h : p_bel x (g_wc (c_g s)) = true) : vp_in x 32 := by
  obtain ⟨n, hn, e⟩ := hw
  obtain ⟨j, hj, rfl⟩ := bel_of h e (by omega)
  exact vp_in_nI (by omega) (by decide)
theorem full_n {X : zX} (hn : ∃ n : Nat, n ≤ 60 ∧ x_n X = nI n) (h : p_full X = false) : vp_in (x_n X) 60 := by
  obtain ⟨n, hn, e⟩ := hn
  unfold p_full at h
  by_cases h1 : x_n X < 60
  · rw [e] at h1 ⊢
    exact vp_in_nI ((nI_ltI (b := 60) (by omega) (by decide)).mp h1) (by decide)
  · rw [if_neg h1] at h; exact absurd h (by decide)
theorem lf_in {X u : zX} {kd v r : Int32} (h : p_leafX X kd v = (r, u)) (hn : vp_in (x_n X) 60) : vp_in r 60 := by
  have : x_n X = r := congrArg Prod.fst h
  rw [← this]; exact hn
/-! the other side -/
/-- tables, step state, depth, used, count, begun, end, latest -/
abbrev zY : Type := zT × zR × (Nat → Int32) × (Nat → Int32) × Int32 × Int32 × Int32 × Int32
def y_T (Y : zY) : zT := Y.1
def y_r (Y : zY) : zR := Y.2.1
def y_d (Y : zY) : Nat → Int32 := Y.2.2.1
def y_u (Y : zY) : Nat → Int32 := Y.2.2.2.1
def y_n (Y : zY) : Int32 := Y.2.2.2.2.1
def y_b (Y : zY) : Int32 := Y.2.2.2.2.2.1
def y_e (Y : zY) : Int32 := Y.2.2.2.2.2.2.1
def y_l (Y : zY) : Int32 := Y.2.2.2.2.2.2.2
def Y_r (Y : zY) (r : zR) : zY := (Y.1, r, Y.2.2)
def Y_q (Y : zY) (f : zR → zR) : zY := (Y.1, f Y.2.1, Y.2.2)
def Y_k (Y : zY) (i v : Int32) : zY := ((upd Y.1.1 (ix i) v, Y.1.2), Y.2)
def Y_p (Y : zY) (i v : Int32) : zY := ((Y.1.1, upd Y.1.2.1 (ix i) v, Y.1.2.2), Y.2)
def Y_f (Y : zY) (v : Int32) : zY := ((Y.1.1, Y.1.2.1, v), Y.2)
def Y_d (Y : zY) (i v : Int32) : zY := (Y.1, Y.2.1, upd Y.2.2.1 (ix i) v, Y.2.2.2)
def Y_u (Y : zY) (i v : Int32) : zY := (Y.1, Y.2.1, Y.2.2.1, upd Y.2.2.2.1 (ix i) v, Y.2.2.2.2)
def Y_n (Y : zY) (v : Int32) : zY := (Y.1, Y.2.1, Y.2.2.1, Y.2.2.2.1, v, Y.2.2.2.2.2)
def Y_b (Y : zY) (v : Int32) : zY := (Y.1, Y.2.1, Y.2.2.1, Y.2.2.2.1, Y.2.2.2.2.1, v, Y.2.2.2.2.2.2)
def Y_e (Y : zY) (v : Int32) : zY := (Y.1, Y.2.1, Y.2.2.1, Y.2.2.2.1, Y.2.2.2.2.1, Y.2.2.2.2.2.1, v, Y.2.2.2.2.2.2.2)
def Y_l (Y : zY) (v : Int32) : zY := (Y.1, Y.2.1, Y.2.2.1, Y.2.2.2.1, Y.2.2.2.2.1, Y.2.2.2.2.2.1, Y.2.2.2.2.2.2.1, v)
def wY (b : Nat → Nat) (h : Nat → ClassId) (Y : zY) : va_W := [(b 0, .inr (3, [.int (y_n Y), .ref (b 1), .ref (b 2), .ref (b 3), .ref (b 4), .ref (b 5), .ref (b 6), .ref (b 7), .ref (b 8), .ref (b 9), .int (g_wc (r_g (y_r Y))), .int (y_b Y), .int (y_e Y), .int (t_f (y_T Y)), .int (g_sp (r_g (y_r Y))), .int (y_l Y), .ref (b 10), .int (r_tp (y_r Y)), .int (r_gv (y_r Y)), .int (r_er (y_r Y))])),
  (b 1, .inl (h 1, 60, .inl (t_k (y_T Y)))), (b 2, .inl (h 2, 60, .inl (r_nm (y_r Y)))), (b 3, .inl (h 3, 180, .inl (t_p (y_T Y)))), (b 4, .inl (h 4, 60, .inl (y_d Y))), (b 5, .inl (h 5, 60, .inl (y_u Y))),
  (b 6, .inl (h 6, 60, .inl (r_ph (y_r Y)))), (b 7, .inl (h 7, 180, .inr (.inl (r_kp (y_r Y))))), (b 8, .inl (h 8, 8, .inl (g_va (r_g (y_r Y))))), (b 9, .inl (h 9, 32, .inl (g_wr (r_g (y_r Y))))), (b 10, .inl (h 10, 16, .inl (r_sk (y_r Y))))]
def yY (h : Nat → ClassId) : List (ClassId × FieldType) := [(h 1, .int), (h 2, .int), (h 3, .int), (h 4, .int), (h 5, .boolean), (h 6, .int), (h 7, .long), (h 8, .int), (h 9, .int), (h 10, .int)]
def wR (b : Nat → Nat) (h : Nat → ClassId) (Y : zY) (r : zR) : va_W := wY b h (Y_r Y r)
def Tp (r : zR) : Prop := ∃ t : Nat, t < 15 ∧ r_tp r = nI (t + 1)
theorem tp_in {r : zR} (h : Tp r) : vp_in (r_tp r) 16 := by
  obtain ⟨t, ht, e⟩ := h
  rw [e]; exact vp_in_nI (by omega) (by decide)
theorem in_03 : vp_in (0 : Int32) 3 := vp_in_nI (n := 0) (by decide) (by decide)
theorem in_13 : vp_in (1 : Int32) 3 := vp_in_nI (n := 1) (by decide) (by decide)
theorem in_23 : vp_in (2 : Int32) 3 := vp_in_nI (n := 2) (by decide) (by decide)
theorem in3 {e i : Int32} (he : vp_in e 60) (hi : vp_in i 3) : vp_in (3 * e + i) 180 := by
  obtain ⟨a, ha, rfl⟩ := vp_in_of he (by decide)
  obtain ⟨c, hc, rfl⟩ := vp_in_of hi (by decide)
  have h3 : (3 : Int32) = nI 3 := rfl
  rw [h3, pk_mul, nI_add]
  exact vp_in_nI (by omega) (by decide)
theorem in3_0 {e : Int32} (he : vp_in e 60) : vp_in (3 * e) 180 := by
  obtain ⟨a, ha, rfl⟩ := vp_in_of he (by decide)
  have h3 : (3 : Int32) = nI 3 := rfl
  rw [h3, pk_mul]
  exact vp_in_nI (by omega) (by decide)
theorem in3_p {e i : Int32} (he : vp_in e 60) (hi : i = 1 ∨ i = 2 ∨ i = 3) : vp_in (3 * e + i - 1) 180 := by
  obtain ⟨a, ha, rfl⟩ := vp_in_of he (by decide)
  have h3 : (3 : Int32) = nI 3 := rfl
  have h1 : (1 : Int32) = nI 1 := rfl
  have h2 : (2 : Int32) = nI 2 := rfl
  rcases hi with rfl | rfl | rfl
  · rw [h3, pk_mul, h1, nI_add, pk_sub (by omega)]; exact vp_in_nI (by omega) (by decide)
  · rw [h3, pk_mul, h2, nI_add, h1, pk_sub (by omega)]; exact vp_in_nI (by omega) (by decide)
  · rw [h3, pk_mul, nI_add, h1, pk_sub (by omega)]; exact vp_in_nI (by omega) (by decide)
theorem ph_1 {v : Int32} (h : v = 0 ∨ v = 1 ∨ v = 2 ∨ v = 3) (h0 : ¬ v = 0) : vp_in (v - 1) 3 := by
  rcases h with h | h | h | h
  · exact absurd h h0
  · rw [h]; exact in_03
  · rw [h]; exact in_13
  · rw [h]; exact in_23
theorem ph_2 {v : Int32} (h : v = 1 ∨ v = 2 ∨ v = 3) (h0 : ¬ v = 1) : vp_in (v - 2) 3 := by
  rcases h with h | h | h
  · exact absurd h h0
  · rw [h]; exact in_03
  · rw [h]; exact in_13
theorem wr_in {c : Int32} (h : ∃ n : Nat, n ≤ 32 ∧ c = nI n) (h0 : ¬ c = 32) : vp_in c 32 := by
  obtain ⟨n, hn, rfl⟩ := h
  have : n ≠ 32 := fun q => h0 (by rw [q]; rfl)
  exact vp_in_nI (by omega) (by decide)
theorem neg_in : ¬ (-1 : Int32) < 0 → vp_in (-1) 60 := fun h => absurd (by decide) h
def p_with (x lo hi : Int32) : Bool := if x < lo then false else if hi < x then false else true
theorem with_of {x hi : Int32} {n : Nat} (h : p_with x 0 hi = true) (hh : hi = nI n) (hn : n < 2 ^ 31) : ∃ j : Nat, j ≤ n ∧ x = nI j := by
  unfold p_with at h
  by_cases h0 : x < 0
  · rw [if_pos h0] at h; exact absurd h (by decide)
  rw [if_neg h0] at h
  by_cases h1 : hi < x
  · rw [if_pos h1] at h; exact absurd h (by decide)
  · obtain ⟨j, hj, rfl⟩ := nI_of h0
    rw [hh] at h1
    refine ⟨j, ?_, rfl⟩
    exact Nat.not_lt.mp fun q => h1 ((nI_ltI hn hj).mpr q)
theorem with_8 {x : Int32} (h : p_with x 0 7 = true) : vp_in x 8 := by
  obtain ⟨j, hj, rfl⟩ := with_of (n := 7) h rfl (by decide)
  exact vp_in_nI (by omega) (by decide)
theorem with_lt {x y : Int32} {n : Nat} (h : p_with x 0 (y - 1) = true) (hy : y = nI n) (hn : n < 2 ^ 31) : ∃ j : Nat, j < n ∧ x = nI j := by
  cases n with
  | zero =>
    exfalso
    have e : y - 1 = -1 := by rw [hy]; decide
    rw [e] at h
    unfold p_with at h
    by_cases h0 : x < 0
    · rw [if_pos h0] at h; exact absurd h (by decide)
    rw [if_neg h0] at h
    by_cases h1 : -1 < x
    · rw [if_pos h1] at h; exact absurd h (by decide)
    · obtain ⟨j, hj, rfl⟩ := nI_of h0
      apply h1
      rw [Int32.lt_iff_toInt_lt, nI_toInt hj]
      have : (-1 : Int32).toInt = -1 := by decide
      omega
  | succ n =>
    rw [hy, nI_pred] at h
    obtain ⟨j, hj, e⟩ := with_of h rfl (by omega)
    exact ⟨j, by omega, e⟩
theorem with_n {x y : Int32} (hn : ∃ n : Nat, n ≤ 60 ∧ y = nI n) (h : p_with x 0 (y - 1) = true) : vp_in x 60 := by
  obtain ⟨n, hn, e⟩ := hn
  obtain ⟨j, hj, rfl⟩ := with_lt h e (by omega)
  exact vp_in_nI (by omega) (by decide)
theorem with_w {x y : Int32} (hn : ∃ n : Nat, n ≤ 32 ∧ y = nI n) (h : p_with x 0 (y - 1) = true) : vp_in x 32 := by
  obtain ⟨n, hn, e⟩ := hn
  obtain ⟨j, hj, rfl⟩ := with_lt h e (by omega)
  exact vp_in_nI (by omega) (by decide)
theorem cnt_in {y : Int32} (hn : ∃ n : Nat, n ≤ 60 ∧ y = nI n) (h : ¬ y = 60) : vp_in y 60 := by
  obtain ⟨n, hn, rfl⟩ := hn
  have : n ≠ 60 := fun q => h (by rw [q]; rfl)
  exact vp_in_nI (by omega) (by decide)
def VY (Y : zY) : Prop := (∃ n : Nat, n ≤ 60 ∧ y_n Y = nI n) ∧ ∃ n : Nat, n ≤ 32 ∧ g_wc (r_g (y_r Y)) = nI n
def m_make (Y : zY) (kd v x y z dp : Int32) : Int32 × zY :=
  let e := y_n Y
  let Y1 := Y_u (Y_d (Y_p (Y_p (Y_p (Y_q (Y_k (Y_n Y (e + 1)) e kd) (fun r => u_nm r e v)) (3 * e) x) (3 * e + 1) y) (3 * e + 2) z) e dp) e 0
  let Y2 := if x < 0 then Y1 else Y_u Y1 x 1
  let Y3 := if y < 0 then Y2 else Y_u Y2 y 1
  (e, if z < 0 then Y3 else Y_u Y3 z 1)
def m_leaf (Y : zY) (kd v : Int32) : Int32 × zY :=
  if p_with kd 0 1 = true then
    if kd = 1 then if p_with v 0 7 = true then if y_n Y = 60 then (-4, Y) else m_make Y kd v (-1) (-1) (-1) 1 else (-1, Y)
    else if y_n Y = 60 then (-4, Y) else m_make Y kd v (-1) (-1) (-1) 1
  else (-1, Y)
def m_un1 (Y : zY) (kd v x : Int32) : Int32 × zY :=
  if p_with x 0 (y_n Y - 1) = true then
    if y_u Y (ix x) = 0 then if y_n Y = 60 then (-4, Y) else if y_d Y (ix x) = 12 then (-5, Y) else m_make Y (10 + kd) v x (-1) (-1) (y_d Y (ix x) + 1)
    else (-3, Y)
  else (-2, Y)
def m_unary (Y : zY) (kd v x : Int32) : Int32 × zY :=
  if p_with kd 0 3 = true then if kd = 0 then if p_with v 0 7 = true then m_un1 Y kd v x else (-1, Y) else m_un1 Y kd v x
  else (-1, Y)
def m_binary (Y : zY) (kd x y : Int32) : Int32 × zY :=
  if p_with kd 0 11 = true then
    if p_with x 0 (y_n Y - 1) = true then
      if p_with y 0 (y_n Y - 1) = true then
        if y_u Y (ix x) = 0 then
          if y_u Y (ix y) = 0 then
            if x = y then (-3, Y)
            else if y_n Y = 60 then (-4, Y)
            else if y_d Y (ix y) < y_d Y (ix x) then if y_d Y (ix x) = 12 then (-5, Y) else m_make Y (20 + kd) 0 x y (-1) (y_d Y (ix x) + 1)
            else if y_d Y (ix y) = 12 then (-5, Y) else m_make Y (20 + kd) 0 x y (-1) (y_d Y (ix y) + 1)
          else (-3, Y)
        else (-3, Y)
      else (-2, Y)
    else (-2, Y)
  else (-1, Y)
def m_ter1 (Y : zY) (kd x y z d : Int32) : Int32 × zY := if d = 12 then (-5, Y) else m_make Y (40 + kd) 0 x y z (d + 1)
def m_ter2 (Y : zY) (kd x y z d : Int32) : Int32 × zY := if d < y_d Y (ix z) then m_ter1 Y kd x y z (y_d Y (ix z)) else m_ter1 Y kd x y z d
def m_ternary (Y : zY) (kd x y z : Int32) : Int32 × zY :=
  if p_with kd 0 1 = true then
    if p_with x 0 (y_n Y - 1) = true then
      if p_with y 0 (y_n Y - 1) = true then
        if p_with z 0 (y_n Y - 1) = true then
          if y_u Y (ix x) = 0 then
            if y_u Y (ix y) = 0 then
              if y_u Y (ix z) = 0 then
                if x = y then (-3, Y) else if x = z then (-3, Y) else if y = z then (-3, Y)
                else if y_n Y = 60 then (-4, Y)
                else if y_d Y (ix y) < y_d Y (ix x) then m_ter2 Y kd x y z (y_d Y (ix x)) else m_ter2 Y kd x y z (y_d Y (ix y))
              else (-3, Y)
            else (-3, Y)
          else (-3, Y)
        else (-2, Y)
      else (-2, Y)
    else (-2, Y)
  else (-1, Y)
def m_about (Y : zY) (x : Int32) : Int32 := if p_with x 0 (y_n Y - 1) = true then if y_u Y (ix x) = 0 then y_d Y (ix x) + 32 else y_d Y (ix x) + 0 else -2
def m_set (Y : zY) (x v : Int32) : Int32 × zY := if p_with x 0 7 = true then (g_va (r_g (y_r Y)) (ix x), Y_q Y (fun r => u_g r (h_va (r_g r) x v))) else (0, Y)
def m_var (Y : zY) (x : Int32) : Int32 := if p_with x 0 7 = true then g_va (r_g (y_r Y)) (ix x) else 0
def m_open (Y : zY) (x v : Int32) : zY := Y_q (Y_l (Y_q (Y_f (Y_e (Y_q (Y_b Y x) (fun r => u_ph r x 0)) 2) v) (fun r => u_g r (h_c (r_g r) 0))) 0) (fun r => u_g r (h_wc (r_g r) 0))
def m_begin (Y : zY) (x v : Int32) : Int32 × zY :=
  if p_with x 0 (y_n Y - 1) = true then if y_u Y (ix x) = 0 then if p_with v 0 2000 = true then (0, m_open Y x v) else (-1, Y) else (-3, Y) else (-2, Y)
def m_written (Y : zY) (x : Int32) : Int64 := if p_with x 0 (g_wc (r_g (y_r Y)) - 1) = true then (g_wr (r_g (y_r Y)) (ix x)).toInt64 else 4294967296
end
section
/-! What `next` of the other side comes to. -/
/-- a row of calls that each want a result: stopped at n or at the first that gave none -/
def Sk {S : Type} (sq : Nat → S) (an : Nat → Int32) (n r : Int32) (u : S) : Prop := ∃ j : Nat, r = nI j ∧ (∀ i, i < j → an i = 1 ∧ nI i < n) ∧ (¬ nI j < n ∧ u = sq j ∨ nI j < n ∧ ¬ an j = 1 ∧ u = sq (j + 1))
theorem with_100 {n : Int32} (h : p_with n 1 100 = true) : ¬ nI 100 < n := fun q => by
  unfold p_with at h
  by_cases h0 : n < 1
  · rw [if_pos h0] at h; exact absurd h (by decide)
  rw [if_neg h0, if_pos (show (100 : Int32) < n from q)] at h
  exact absurd h (by decide)
def r_0 (Y : zY) : zR := u_tp (u_sk (u_er (y_r Y) 0) 0 (y_b Y)) 1
def NxtE (Y : zY) (r : zR) (w v : Int32) (U : zY) : Prop :=
  (r_tp r = 0 ∧ (w = 2 ∧ v = 0 ∧ U = Y_e (Y_r Y r) 0 ∨ ¬ w = 2 ∧ v = 1 ∧ U = Y_l (Y_r Y r) (r_gv r))) ∨
  (q_safe (y_T Y) (r, w) ∧ ¬ v = 0 ∧ r_er (q_step (y_T Y) (r_sk r (ix (r_tp r - 1))) w r).2 = v ∧ U = Y_e (Y_r Y (q_step (y_T Y) (r_sk r (ix (r_tp r - 1))) w r).2) v)
def NxtY (Y : zY) (v : Int32) (U : zY) : Prop :=
  (y_b Y < 0 ∧ v = -1 ∧ U = Y) ∨ (¬ y_b Y < 0 ∧ ¬ y_e Y = 2 ∧ v = y_e Y ∧ U = Y) ∨
  (¬ y_b Y < 0 ∧ y_e Y = 2 ∧ ∃ (m : Nat) (r : zR) (w : Int32), m < 8000000 ∧ Go (y_T Y) m (r_0 Y, 0) (r, w) ∧ NxtE Y r w v U)
section NX
variable {Y U : zY} {v w : Int32} {r : zR}
theorem nx_a (h : NxtY Y v U) (c : y_b Y < 0) : -1 = v ∧ Y = U := by
  rcases h with ⟨_, h1, h2⟩ | ⟨h1, _⟩ | ⟨h1, _⟩
  · exact ⟨h1.symm, h2.symm⟩
  · exact absurd c h1
  · exact absurd c h1
theorem nx_b (h : NxtY Y v U) (c : ¬ y_b Y < 0) (c2 : ¬ y_e Y = 2) : y_e Y = v ∧ Y = U := by
  rcases h with ⟨h1, _⟩ | ⟨_, _, h1, h2⟩ | ⟨_, h1, _⟩
  · exact absurd h1 c
  · exact ⟨h1.symm, h2.symm⟩
  · exact absurd h1 c2
theorem nx_c (h : NxtY Y v U) (c : ¬ y_b Y < 0) (c2 : y_e Y = 2) : ∃ (m : Nat) (r : zR) (w : Int32), m < 8000000 ∧ Go (y_T Y) m (r_0 Y, 0) (r, w) ∧ NxtE Y r w v U := by
  rcases h with ⟨h1, _⟩ | ⟨_, h1, _⟩ | ⟨_, _, h⟩
  · exact absurd h1 c
  · exact absurd c2 h1
  · exact h
theorem go_end (h : NxtE Y r w v U) : r_tp r = 0 ∨ q_safe (y_T Y) (r, w) := by
  rcases h with ⟨h, _⟩ | ⟨h, _⟩
  · exact Or.inl h
  · exact Or.inr h
theorem tp_pr {t : Nat} (h : t < 15) (e : r_tp r = nI (t + 1)) : vp_in (r_tp r - 1) 16 := by
  rw [e, nI_pred]; exact vp_in_nI (by omega) (by decide)
theorem tp_pos {t : Nat} (h : t < 15) (e : r_tp r = nI (t + 1)) : 0 < r_tp r := by
  rw [e]; exact nI_lt (a := 0) (by omega) (by omega)
theorem tp_no (h : NxtE Y r w v U) (h0 : r_tp r = 0) : w = 2 ∧ v = 0 ∧ U = Y_e (Y_r Y r) 0 ∨ ¬ w = 2 ∧ v = 1 ∧ U = Y_l (Y_r Y r) (r_gv r) := by
  rcases h with ⟨_, h⟩ | ⟨⟨t, ht, htp, _⟩, _⟩
  · exact h
  · exfalso
    have := tp_pos (r := r) ht htp
    rw [h0] at this
    exact absurd this (by decide)
theorem nx_2 (h : NxtE Y r w v U) (h0 : r_tp r = 0) (c : w = 2) : 0 = v ∧ Y_e (Y_r Y r) 0 = U := by
  rcases tp_no h h0 with ⟨_, h1, h2⟩ | ⟨h1, _⟩
  · exact ⟨h1.symm, h2.symm⟩
  · exact absurd c h1
theorem nx_1 (h : NxtE Y r w v U) (h0 : r_tp r = 0) (c : ¬ w = 2) : 1 = v ∧ Y_l (Y_r Y r) (r_gv r) = U := by
  rcases tp_no h h0 with ⟨h1, _⟩ | ⟨_, h1, h2⟩
  · exact absurd h1 c
  · exact ⟨h1.symm, h2.symm⟩
theorem nx_st (h : NxtE Y r w v U) (hp : 0 < r_tp r) : ¬ v = 0 ∧ r_er (q_step (y_T Y) (r_sk r (ix (r_tp r - 1))) w r).2 = v ∧ U = Y_e (Y_r Y (q_step (y_T Y) (r_sk r (ix (r_tp r - 1))) w r).2) v := by
  rcases h with ⟨h, _⟩ | ⟨_, h⟩
  · rw [h] at hp; exact absurd hp (by decide)
  · exact h
theorem nx_er {a : Int32} {u : zR} (h : NxtE Y r w v U) (hp : 0 < r_tp r) (hq : q_step (y_T Y) (r_sk r (ix (r_tp r - 1))) w r = (a, u)) (c : r_er u = 0) : False := by
  obtain ⟨h1, h2, _⟩ := nx_st h hp
  rw [hq] at h2
  exact h1 (h2.symm.trans c)
theorem nx_bad {a : Int32} {u : zR} (h : NxtE Y r w v U) (hp : 0 < r_tp r) (hq : q_step (y_T Y) (r_sk r (ix (r_tp r - 1))) w r = (a, u)) : r_er u = v ∧ Y_e (Y_r Y u) (r_er u) = U := by
  obtain ⟨h1, h2, h3⟩ := nx_st h hp
  rw [hq] at h2 h3
  have h2 : r_er u = v := h2
  exact ⟨h2, by rw [h2]; exact h3.symm⟩
theorem rn_lt {n : Nat} (h : n < 10000000) : nI n < 10000000 := nI_lt h (by decide)
theorem qt_eq {T : zT} {a : Int32} {u : zR} (hq : q_step T (r_sk r (ix (r_tp r - 1))) w r = (a, u)) : q_turn T (r, w) = if a = 2 then (u, 0) else (u_tp u (r_tp u - 1), if a = 1 then 1 else 2) := by
  unfold q_turn; simp only [hq]
theorem qt_er {T : zT} {a : Int32} {u : zR} (hq : q_step T (r_sk r (ix (r_tp r - 1))) w r = (a, u)) (h : r_er (q_turn T (r, w)).1 = 0) : r_er u = 0 := by
  rw [qt_eq hq] at h
  by_cases h2 : a = 2
  · rw [if_pos h2] at h; exact h
  · rw [if_neg h2] at h; exact h
theorem qt_2 {T : zT} {a : Int32} {u : zR} {m : Nat} {z : zR × Int32} (hq : q_step T (r_sk r (ix (r_tp r - 1))) w r = (a, u)) (h : Go T m (q_turn T (r, w)) z) (c : a = 2) : Go T m (u, 0) z := by
  rw [qt_eq hq, if_pos c] at h; exact h
theorem qt_1 {T : zT} {a : Int32} {u : zR} {m : Nat} {z : zR × Int32} (hq : q_step T (r_sk r (ix (r_tp r - 1))) w r = (a, u)) (h : Go T m (q_turn T (r, w)) z) (c : ¬ a = 2) (c1 : a = 1) : Go T m (u_tp u (r_tp u - 1), 1) z := by
  rw [qt_eq hq, if_neg c, if_pos c1] at h; exact h
theorem qt_0 {T : zT} {a : Int32} {u : zR} {m : Nat} {z : zR × Int32} (hq : q_step T (r_sk r (ix (r_tp r - 1))) w r = (a, u)) (h : Go T m (q_turn T (r, w)) z) (c : ¬ a = 2) (c1 : ¬ a = 1) : Go T m (u_tp u (r_tp u - 1), 2) z := by
  rw [qt_eq hq, if_neg c, if_neg c1] at h; exact h
end NX
end
section
/-! Both forests: how trees stay when a node is added. -/
theorem Sb_s {F : zF} : ∀ (d : Nat) (e : Int32) (j : Nat), Sb F d e j → Sb F (d + 1) e j
  | 0, _, _, h => h.elim
  | d + 1, e, j, h => by
    rcases h with h | ⟨a, h⟩ | ⟨a, h⟩ | ⟨a, h⟩
    · exact Or.inl h
    · exact Or.inr (Or.inl ⟨a, Sb_s d _ _ h⟩)
    · exact Or.inr (Or.inr (Or.inl ⟨a, Sb_s d _ _ h⟩))
    · exact Or.inr (Or.inr (Or.inr ⟨a, Sb_s d _ _ h⟩))
theorem Sb_m {F : zF} {d d' : Nat} (h : d ≤ d') {e : Int32} {j : Nat} (hs : Sb F d e j) : Sb F d' e j := by
  induction h with
  | refl => exact hs
  | step _ ih => exact Sb_s _ _ _ ih
theorem Sb_b {F : zF} {T : zT} : ∀ (d : Nat) (e : Int32) (j : Nat), Tr F T d e → Sb F (d + 1) e j → Sb F d e j
  | 0, _, _, h, _ => h.elim
  | d + 1, e, j, hT, h => by
    rcases h with h | ⟨a, h⟩ | ⟨a, h⟩ | ⟨a, h⟩
    · exact Or.inl h
    · exact Or.inr (Or.inl ⟨a, Sb_b d _ _ (hT.2.2.2.2.1 a).1 h⟩)
    · exact Or.inr (Or.inr (Or.inl ⟨a, Sb_b d _ _ (hT.2.2.2.2.2.1 a).1 h⟩))
    · exact Or.inr (Or.inr (Or.inr ⟨a, Sb_b d _ _ (hT.2.2.2.2.2.2 a).1 h⟩))
theorem Tr_s {F : zF} {T : zT} : ∀ (d : Nat) (e : Int32), Tr F T d e → Tr F T (d + 1) e
  | 0, _, h => h.elim
  | d + 1, e, h => by
    obtain ⟨h1, h2, h3, h4, h5, h6, h7⟩ := h
    refine ⟨h1, h2, h3, h4, fun a => ?_, fun a => ?_, fun a => ?_⟩
    · obtain ⟨g1, g2, g3⟩ := h5 a
      exact ⟨Tr_s d _ g1, g2, fun q => g3 (Sb_b d _ _ g1 q)⟩
    · obtain ⟨g1, g2, g3, g4⟩ := h6 a
      obtain ⟨k1, -, -⟩ := h5 (by omega)
      exact ⟨Tr_s d _ g1, g2, fun q => g3 (Sb_b d _ _ g1 q), fun j q q' => g4 j (Sb_b d _ _ k1 q) (Sb_b d _ _ g1 q')⟩
    · obtain ⟨g1, g2, g3, g4, g5⟩ := h7 a
      obtain ⟨k1, -, -⟩ := h5 (by omega)
      obtain ⟨l1, -, -, -⟩ := h6 (by omega)
      exact ⟨Tr_s d _ g1, g2, fun q => g3 (Sb_b d _ _ g1 q), fun j q q' => g4 j (Sb_b d _ _ k1 q) (Sb_b d _ _ g1 q'), fun j q q' => g5 j (Sb_b d _ _ l1 q) (Sb_b d _ _ g1 q')⟩
theorem Tr_m {F : zF} {T : zT} {d d' : Nat} (h : d ≤ d') {e : Int32} (hs : Tr F T d e) : Tr F T d' e := by
  induction h with
  | refl => exact hs
  | step _ ih => exact Tr_s _ _ ih
theorem Sb_dn {F : zF} {T : zT} {d k : Nat} {e : Int32} {j : Nat} (hT : Tr F T d e) (h : Sb F (d + k) e j) : Sb F d e j := by
  induction k with
  | zero => exact h
  | succ k ih => exact ih (Sb_b (d + k) e j (Tr_m (Nat.le_add_right d k) hT) h)
/-- the tables are alike at the nodes D -/
def AgF (D : Nat → Prop) (F F' : zF) (T T' : zT) : Prop := ∀ j, D j → f_k F' j = f_k F j ∧ f_n F' j = f_n F j ∧ f_x F' j = f_x F j ∧ f_y F' j = f_y F j ∧ f_z F' j = f_z F j ∧ t_k T' j = t_k T j ∧ t_p T' (3 * j) = t_p T (3 * j) ∧ t_p T' (3 * j + 1) = t_p T (3 * j + 1) ∧ t_p T' (3 * j + 2) = t_p T (3 * j + 2)
theorem AgF.wk {D E : Nat → Prop} {F F' : zF} {T T' : zT} (h : AgF D F F' T T') (s : ∀ j, E j → D j) : AgF E F F' T T' := fun j hj => h j (s j hj)
theorem Sb_cong {F F' : zF} {T T' : zT} : ∀ (d : Nat) (e : Int32) (j : Nat), AgF (Sb F d e) F F' T T' → (Sb F' d e j ↔ Sb F d e j)
  | 0, _, _, _ => Iff.rfl
  | d + 1, e, j, hA => by
    obtain ⟨e1, e2, e3, e4, e5, -, -, -, -⟩ := hA (ix e) (Or.inl rfl)
    have fa : f_a F' e = f_a F e := by unfold f_a; rw [e1]
    have hx : 1 ≤ f_a F e → (Sb F' d (f_x F (ix e)) j ↔ Sb F d (f_x F (ix e)) j) := fun a => Sb_cong d _ _ (hA.wk fun q hq => Or.inr (Or.inl ⟨a, hq⟩))
    have hy : 2 ≤ f_a F e → (Sb F' d (f_y F (ix e)) j ↔ Sb F d (f_y F (ix e)) j) := fun a => Sb_cong d _ _ (hA.wk fun q hq => Or.inr (Or.inr (Or.inl ⟨a, hq⟩)))
    have hz : 3 ≤ f_a F e → (Sb F' d (f_z F (ix e)) j ↔ Sb F d (f_z F (ix e)) j) := fun a => Sb_cong d _ _ (hA.wk fun q hq => Or.inr (Or.inr (Or.inr ⟨a, hq⟩)))
    show (j = ix e ∨ (1 ≤ f_a F' e ∧ Sb F' d (f_x F' (ix e)) j) ∨ (2 ≤ f_a F' e ∧ Sb F' d (f_y F' (ix e)) j) ∨ (3 ≤ f_a F' e ∧ Sb F' d (f_z F' (ix e)) j)) ↔ (j = ix e ∨ (1 ≤ f_a F e ∧ Sb F d (f_x F (ix e)) j) ∨ (2 ≤ f_a F e ∧ Sb F d (f_y F (ix e)) j) ∨ (3 ≤ f_a F e ∧ Sb F d (f_z F (ix e)) j))
    rw [fa, e3, e4, e5]
    exact or_congr Iff.rfl (or_congr (and_congr_right hx) (or_congr (and_congr_right hy) (and_congr_right hz)))
theorem Tr_cong {F F' : zF} {T T' : zT} : ∀ (d : Nat) (e : Int32), AgF (Sb F d e) F F' T T' → Tr F T d e → Tr F' T' d e
  | 0, _, _, h => h
  | d + 1, e, hA, h => by
    obtain ⟨e1, e2, e3, e4, e5, e6, e7, e8, e9⟩ := hA (ix e) (Or.inl rfl)
    have fa : f_a F' e = f_a F e := by unfold f_a; rw [e1]
    have hx : 1 ≤ f_a F e → AgF (Sb F d (f_x F (ix e))) F F' T T' := fun a => hA.wk fun q hq => Or.inr (Or.inl ⟨a, hq⟩)
    have hy : 2 ≤ f_a F e → AgF (Sb F d (f_y F (ix e))) F F' T T' := fun a => hA.wk fun q hq => Or.inr (Or.inr (Or.inl ⟨a, hq⟩))
    have hz : 3 ≤ f_a F e → AgF (Sb F d (f_z F (ix e))) F F' T T' := fun a => hA.wk fun q hq => Or.inr (Or.inr (Or.inr ⟨a, hq⟩))
    obtain ⟨h1, h2, h3, h4, h5, h6, h7⟩ := h
    have i0 : ix (3 * e + 0) = 3 * ix e := ix_3 h1 0 (by decide)
    refine ⟨h1, by rw [e1]; exact h2, by rw [e6, e1]; exact h3, by rw [e1, e2]; exact h4, fun a => ?_, fun a => ?_, fun a => ?_⟩
    · rw [fa] at a
      obtain ⟨g1, g2, g3⟩ := h5 a
      rw [e3]
      exact ⟨Tr_cong d _ (hx a) g1, by rw [i0, e7]; rw [i0] at g2; exact g2, fun q => g3 ((Sb_cong d _ _ (hx a)).mp q)⟩
    · rw [fa] at a
      obtain ⟨g1, g2, g3, g4⟩ := h6 a
      have a1 : 1 ≤ f_a F e := by omega
      rw [e3, e4]
      exact ⟨Tr_cong d _ (hy a) g1, by rw [ix_31 h1, e8]; rw [ix_31 h1] at g2; exact g2, fun q => g3 ((Sb_cong d _ _ (hy a)).mp q), fun j q q' => g4 j ((Sb_cong d _ _ (hx a1)).mp q) ((Sb_cong d _ _ (hy a)).mp q')⟩
    · rw [fa] at a
      obtain ⟨g1, g2, g3, g4, g5⟩ := h7 a
      have a1 : 1 ≤ f_a F e := by omega
      have a2 : 2 ≤ f_a F e := by omega
      rw [e3, e4, e5]
      exact ⟨Tr_cong d _ (hz a) g1, by rw [ix_32 h1, e9]; rw [ix_32 h1] at g2; exact g2, fun q => g3 ((Sb_cong d _ _ (hz a)).mp q), fun j q q' => g4 j ((Sb_cong d _ _ (hx a1)).mp q) ((Sb_cong d _ _ (hz a)).mp q'), fun j q q' => g5 j ((Sb_cong d _ _ (hy a2)).mp q) ((Sb_cong d _ _ (hz a)).mp q')⟩
theorem Lv_congF {F F' : zF} {T T' : zT} {c : zC} {r : zR} : ∀ (d : Nat) (e : Int32) (p : Nat), AgF (Sb F d e) F F' T T' → Lv F d e c r p → Lv F' d e c r p
  | 0, _, _, _, h => h
  | d + 1, e, p, hA, h => by
    obtain ⟨e1, e2, e3, e4, e5, -, -, -, -⟩ := hA (ix e) (Or.inl rfl)
    have hx : 1 ≤ f_a F e → AgF (Sb F d (f_x F (ix e))) F F' T T' := fun a => hA.wk fun q hq => Or.inr (Or.inl ⟨a, hq⟩)
    have hy : 2 ≤ f_a F e → AgF (Sb F d (f_y F (ix e))) F F' T T' := fun a => hA.wk fun q hq => Or.inr (Or.inr (Or.inl ⟨a, hq⟩))
    have hz : 3 ≤ f_a F e → AgF (Sb F d (f_z F (ix e))) F F' T T' := fun a => hA.wk fun q hq => Or.inr (Or.inr (Or.inr ⟨a, hq⟩))
    simp only [Lv] at h ⊢
    simp only [e1, e3, e4, e5]
    by_cases k1 : f_k F (ix e) < 2
    · simp only [if_pos k1] at h ⊢; exact h
    have a1 := f_a1 k1
    simp only [if_neg k1] at h ⊢
    by_cases k2 : f_k F (ix e) < 6
    · simp only [if_pos k2] at h ⊢
      by_cases k3 : f_k F (ix e) < 4
      · simp only [if_pos k3] at h ⊢
        obtain ⟨h1, h2, p1, h3, h4⟩ := h
        exact ⟨h1, h2, p1, Lv_congF d _ _ (hx a1) h3, h4⟩
      simp only [if_neg k3] at h ⊢
      by_cases k4 : f_k F (ix e) = 4
      · simp only [if_pos k4] at h ⊢; exact h
      simp only [if_neg k4] at h ⊢
      obtain ⟨h1, h2, h5, p1, h3, h4⟩ := h
      exact ⟨h1, h2, h5, p1, Lv_congF d _ _ (hx a1) h3, h4⟩
    have a2 := f_a2 k1 k2
    simp only [if_neg k2] at h ⊢
    by_cases k5 : f_k F (ix e) < 18
    · simp only [if_pos k5] at h ⊢
      by_cases k6 : f_k F (ix e) = 6
      · simp only [if_pos k6] at h ⊢
        rcases h with ⟨h1, h2, p1, h3, h4⟩ | ⟨h1, h2, p1, h3, h4⟩
        · exact Or.inl ⟨h1, h2, p1, Lv_congF d _ _ (hx a1) h3, h4⟩
        · exact Or.inr ⟨h1, h2, p1, Lv_congF d _ _ (hy a2) h3, h4⟩
      simp only [if_neg k6] at h ⊢
      by_cases k7 : f_k F (ix e) < 14
      · simp only [if_pos k7] at h ⊢
        obtain ⟨h1, h2, h5, p1, p2, h3, h3', h4⟩ := h
        exact ⟨h1, h2, h5, p1, p2, Lv_congF d _ _ (hx a1) h3, Lv_congF d _ _ (hy a2) h3', h4⟩
      simp only [if_neg k7] at h ⊢
      by_cases k8 : f_k F (ix e) = 14
      · simp only [if_pos k8] at h ⊢
        obtain ⟨h1, h2, h5, p1, p2, h3, h3', h4⟩ := h
        exact ⟨h1, h2, h5, p1, p2, Lv_congF d _ _ (hx a1) h3, Lv_congF d _ _ (hy a2) h3', h4⟩
      simp only [if_neg k8] at h ⊢
      by_cases k9 : f_k F (ix e) < 17
      · simp only [if_pos k9] at h
      simp only [if_neg k9] at h ⊢
      obtain ⟨h1, h2, p1, h3, h4⟩ := h
      exact ⟨h1, h2, p1, Lv_congF d _ _ (hy a2) h3, h4⟩
    have a3 := f_a3 k1 k2 k5
    simp only [if_neg k5] at h ⊢
    by_cases k6 : f_k F (ix e) = 18
    · simp only [if_pos k6] at h ⊢
      obtain ⟨h1, h2, h5, h6, h7, h8, p1, p2, p3, g1, g2, g3, h4⟩ := h
      exact ⟨h1, h2, h5, h6, h7, h8, p1, p2, p3, Lv_congF d _ _ (hx a1) g1, Lv_congF d _ _ (hy a2) g2, Lv_congF d _ _ (hz a3) g3, h4⟩
    simp only [if_neg k6] at h ⊢
    rcases h with ⟨h1, h2, p1, h3, h4⟩ | ⟨h1, h2, p1, h3, h4⟩
    · exact Or.inl ⟨h1, h2, p1, Lv_congF d _ _ (hy a2) h3, h4⟩
    · exact Or.inr ⟨h1, h2, p1, Lv_congF d _ _ (hz a3) h3, h4⟩
/-- what is made so far, on both sides: dp, yd the depths; fr, yu: free, used -/
def Fo (F : zF) (T : zT) (n : Nat) (dp fr yd yu : Nat → Int32) : Prop :=
  (∀ i, i < n → (∃ d : Nat, 1 ≤ d ∧ d ≤ 12 ∧ dp i = nI d ∧ yd i = nI d ∧ Tr F T d (nI i)) ∧ (∀ j, Sb F 12 (nI i) j → j ≤ i) ∧ (fr i = 1 ∧ yu i = 0 ∨ fr i = 0 ∧ yu i = 1)) ∧
  ∀ i i', i < n → i' < n → i ≠ i' → fr i = 1 → fr i' = 1 → ∀ j, Sb F 12 (nI i) j → ¬ Sb F 12 (nI i') j
theorem fo_add {F F' : zF} {T T' : zT} {n : Nat} {dp fr yd yu dp' fr' yd' yu' : Nat → Int32} (h : Fo F T n dp fr yd yu) (hA : AgF (fun j => j < n) F F' T T') (hdp : ∀ i, i < n → dp' i = dp i ∧ yd' i = yd i)
    (hfr : ∀ i, i < n → fr' i = 1 ∧ yu' i = 0 ∨ fr' i = 0 ∧ yu' i = 1) (hfs : ∀ i, i < n → fr' i = 1 → fr i = 1) (hnew : ∃ d : Nat, 1 ≤ d ∧ d ≤ 12 ∧ dp' n = nI d ∧ yd' n = nI d ∧ Tr F' T' d (nI n)) (hSn : ∀ j, Sb F' 12 (nI n) j → j ≤ n) (hfn : fr' n = 1 ∧ yu' n = 0)
    (hdis : ∀ i, i < n → fr' i = 1 → ∀ q, Sb F' 12 (nI n) q → ¬ Sb F 12 (nI i) q) : Fo F' T' (n + 1) dp' fr' yd' yu' := by
  obtain ⟨h1, h2⟩ := h
  have hS : ∀ i, i < n → AgF (Sb F 12 (nI i)) F F' T T' := fun i hi => hA.wk fun j hj => Nat.lt_of_le_of_lt ((h1 i hi).2.1 j hj) hi
  have hc : ∀ i, i < n → ∀ j, Sb F' 12 (nI i) j ↔ Sb F 12 (nI i) j := fun i hi j => Sb_cong 12 _ _ (hS i hi)
  refine ⟨fun i hi => ?_, fun i i' hi hi' hne hf hf' j hj hj' => ?_⟩
  · by_cases hin : i = n
    · subst hin
      exact ⟨hnew, hSn, Or.inl hfn⟩
    have hi : i < n := by omega
    obtain ⟨⟨d, d1, d2, d3, d4, d5⟩, g2, -⟩ := h1 i hi
    exact ⟨⟨d, d1, d2, (hdp i hi).1.trans d3, (hdp i hi).2.trans d4, Tr_cong d _ ((hS i hi).wk fun j hj => Sb_m d2 hj) d5⟩, fun j hj => g2 j ((hc i hi j).mp hj), hfr i hi⟩
  · by_cases hin : i = n
    · subst hin
      have hi' : i' < i := by omega
      exact hdis i' hi' hf' j hj ((hc i' hi' j).mp hj')
    have hi : i < n := by omega
    by_cases hin' : i' = n
    · subst hin'
      exact hdis i hi hf j hj' ((hc i hi j).mp hj)
    have hi' : i' < n := by omega
    exact h2 i i' hi hi' hne (hfs i hi hf) (hfs i' hi' hf') j ((hc i hi j).mp hj) ((hc i' hi' j).mp hj')
/-- a part of the new node: it was free, and not deeper than d -/
def Prp (n d : Nat) (fr dp : Nat → Int32) (x tx : Int32) : Prop := ∃ i, i < n ∧ x = nI i ∧ tx = x ∧ fr i = 1 ∧ ∃ k : Nat, k ≤ d ∧ dp i = nI k
theorem tr_new {F F' : zF} {T T' : zT} {n d : Nat} {dp fr yd yu : Nat → Int32} (h : Fo F T n dp fr yd yu) (hA : AgF (fun j => j < n) F F' T T') (hn : n < 60) (hd : d ≤ 11) (hk : ∃ k : Nat, k < 20 ∧ f_k F' n = nI k) (htk : t_k T' n = t_kc (f_k F' n)) (hnm : f_k F' n = 1 ∨ f_k F' n = 2 → vp_in (f_n F' n) 8)
    (hx : 1 ≤ f_a F' (nI n) → Prp n d fr dp (f_x F' n) (t_p T' (3 * n))) (hy : 2 ≤ f_a F' (nI n) → Prp n d fr dp (f_y F' n) (t_p T' (3 * n + 1)) ∧ f_x F' n ≠ f_y F' n)
    (hz : 3 ≤ f_a F' (nI n) → Prp n d fr dp (f_z F' n) (t_p T' (3 * n + 2)) ∧ f_x F' n ≠ f_z F' n ∧ f_y F' n ≠ f_z F' n) :
    Tr F' T' (d + 1) (nI n) ∧ ∀ q, Sb F' 12 (nI n) q → q = n ∨ ∃ i, i < n ∧ fr i = 1 ∧ Sb F 12 (nI i) q ∧ (1 ≤ f_a F' (nI n) ∧ nI i = f_x F' n ∨ 2 ≤ f_a F' (nI n) ∧ nI i = f_y F' n ∨ 3 ≤ f_a F' (nI n) ∧ nI i = f_z F' n) := by
  obtain ⟨h1, h2⟩ := h
  have hin : ix (nI n) = n := ix_nI (by omega)
  have hv : vp_in (nI n) 60 := vp_in_nI hn (by decide)
  have i0 : ix (3 * nI n + 0) = 3 * n := (ix_3 hv 0 (by decide)).trans (by rw [hin]; rfl)
  have i1 : ix (3 * nI n + 1) = 3 * n + 1 := (ix_31 hv).trans (by rw [hin])
  have i2 : ix (3 * nI n + 2) = 3 * n + 2 := (ix_32 hv).trans (by rw [hin])
  have hS : ∀ i, i < n → AgF (Sb F 12 (nI i)) F F' T T' := fun i hi => hA.wk fun j hj => Nat.lt_of_le_of_lt ((h1 i hi).2.1 j hj) hi
  have hc : ∀ i, i < n → ∀ j, Sb F' 12 (nI i) j ↔ Sb F 12 (nI i) j := fun i hi j => Sb_cong 12 _ _ (hS i hi)
  -- a part as a tree of the new tables
  have pt : ∀ x tx : Int32, Prp n d fr dp x tx → ∃ i, i < n ∧ x = nI i ∧ tx = x ∧ fr i = 1 ∧ Tr F' T' d x ∧ ∀ j, Sb F' d x j → Sb F 12 (nI i) j := by
    rintro x tx ⟨i, hi, rfl, htx, hf, k, hk, hdk⟩
    obtain ⟨⟨d', d1, d2, d3, d4, d5⟩, -, -⟩ := h1 i hi
    have hdd : d' = k := (nI_eq (by omega) (by omega)).mp (d3.symm.trans hdk)
    subst hdd
    have ht : Tr F' T' d' (nI i) := Tr_cong d' _ ((hS i hi).wk fun j hj => Sb_m d2 hj) d5
    exact ⟨i, hi, rfl, htx, hf, Tr_m hk ht, fun j hj => (hc i hi j).mp (Sb_m (by omega) hj)⟩
  have lo : ∀ i, i < n → ∀ j, Sb F 12 (nI i) j → j ≠ n := fun i hi j hj q => by have := (h1 i hi).2.1 j hj; omega
  have dj : ∀ i i', i < n → i' < n → nI i ≠ nI i' → fr i = 1 → fr i' = 1 → ∀ j, Sb F 12 (nI i) j → ¬ Sb F 12 (nI i') j := fun i i' hi hi' hne => h2 i i' hi hi' (fun q => hne (by rw [q]))
  have hT : Tr F' T' (d + 1) (nI n) := by
    refine ⟨hv, by rw [hin]; exact hk, by rw [hin]; exact htk, by rw [hin]; exact hnm, fun a => ?_, fun a => ?_, fun a => ?_⟩
    · obtain ⟨i, hi, e, et, hf, t, s⟩ := pt _ _ (hx a)
      rw [hin, i0]
      exact ⟨t, et, fun q => lo i hi _ (s _ q) rfl⟩
    · obtain ⟨i, hi, e, et, hf, t, s⟩ := pt _ _ (hx (by omega))
      obtain ⟨i', hi', e', et', hf', t', s'⟩ := pt _ _ (hy a).1
      rw [hin, i1]
      refine ⟨t', et', fun q => lo i' hi' _ (s' _ q) rfl, fun j q q' => dj i i' hi hi' (by rw [← e, ← e']; exact (hy a).2) hf hf' j (s j q) (s' j q')⟩
    · obtain ⟨i, hi, e, et, hf, t, s⟩ := pt _ _ (hx (by omega))
      obtain ⟨i', hi', e', et', hf', t', s'⟩ := pt _ _ (hy (by omega)).1
      obtain ⟨i3, hi3, e3, et3, hf3, t3, s3⟩ := pt _ _ (hz a).1
      rw [hin, i2]
      refine ⟨t3, et3, fun q => lo i3 hi3 _ (s3 _ q) rfl, fun j q q' => dj i i3 hi hi3 (by rw [← e, ← e3]; exact (hz a).2.1) hf hf3 j (s j q) (s3 j q'), fun j q q' => dj i' i3 hi' hi3 (by rw [← e', ← e3]; exact (hz a).2.2) hf' hf3 j (s' j q) (s3 j q')⟩
  refine ⟨hT, fun q hq => ?_⟩
  have hq1 : Sb F' (d + 1) (nI n) q := by
    have : Sb F' (d + 1 + (11 - d)) (nI n) q := by rw [show d + 1 + (11 - d) = 12 by omega]; exact hq
    exact Sb_dn hT this
  rcases hq1 with hq1 | ⟨a, hq1⟩ | ⟨a, hq1⟩ | ⟨a, hq1⟩
  · exact Or.inl (hq1.trans hin)
  · obtain ⟨i, hi, e, et, hf, t, s⟩ := pt _ _ (hx a)
    rw [hin] at hq1
    exact Or.inr ⟨i, hi, hf, s _ hq1, Or.inl ⟨a, e.symm⟩⟩
  · obtain ⟨i, hi, e, et, hf, t, s⟩ := pt _ _ (hy a).1
    rw [hin] at hq1
    exact Or.inr ⟨i, hi, hf, s _ hq1, Or.inr (Or.inl ⟨a, e.symm⟩)⟩
  · obtain ⟨i, hi, e, et, hf, t, s⟩ := pt _ _ (hz a).1
    rw [hin] at hq1
    exact Or.inr ⟨i, hi, hf, s _ hq1, Or.inr (Or.inr ⟨a, e.symm⟩)⟩
/-- tables, depths and marks behind a node that was added -/
theorem fo_new {F F' : zF} {T T' : zT} {n d : Nat} {dp fr yd yu dp' fr' yd' yu' : Nat → Int32} (h : Fo F T n dp fr yd yu) (hA : AgF (fun j => j < n) F F' T T') (hn : n < 60) (hd : d ≤ 11) (hk : ∃ k : Nat, k < 20 ∧ f_k F' n = nI k) (htk : t_k T' n = t_kc (f_k F' n)) (hnm : f_k F' n = 1 ∨ f_k F' n = 2 → vp_in (f_n F' n) 8)
    (hx : 1 ≤ f_a F' (nI n) → Prp n d fr dp (f_x F' n) (t_p T' (3 * n))) (hy : 2 ≤ f_a F' (nI n) → Prp n d fr dp (f_y F' n) (t_p T' (3 * n + 1)) ∧ f_x F' n ≠ f_y F' n)
    (hz : 3 ≤ f_a F' (nI n) → Prp n d fr dp (f_z F' n) (t_p T' (3 * n + 2)) ∧ f_x F' n ≠ f_z F' n ∧ f_y F' n ≠ f_z F' n)
    (hdp : ∀ i, i < n → dp' i = dp i ∧ yd' i = yd i) (hdn : dp' n = nI (d + 1) ∧ yd' n = nI (d + 1)) (hfn : fr' n = 1 ∧ yu' n = 0)
    (hfr : ∀ i, i < n → (fr' i = fr i ∧ yu' i = yu i) ∨ (fr' i = 0 ∧ yu' i = 1)) (hpx : 1 ≤ f_a F' (nI n) → fr' (ix (f_x F' n)) = 0) (hpy : 2 ≤ f_a F' (nI n) → fr' (ix (f_y F' n)) = 0) (hpz : 3 ≤ f_a F' (nI n) → fr' (ix (f_z F' n)) = 0) : Fo F' T' (n + 1) dp' fr' yd' yu' := by
  obtain ⟨hT, hq⟩ := tr_new h hA hn hd hk htk hnm hx hy hz
  have h1 := h.1
  have h2 := h.2
  refine fo_add h hA hdp (fun i hi => ?_) (fun i hi hf => ?_) ⟨d + 1, by omega, by omega, hdn.1, hdn.2, hT⟩ (fun j hj => ?_) hfn (fun i hi hf q hq' hs => ?_)
  · rcases hfr i hi with ⟨a, b⟩ | ⟨a, b⟩
    · rw [a, b]; exact (h1 i hi).2.2
    · exact Or.inr ⟨a, b⟩
  · rcases hfr i hi with ⟨a, b⟩ | ⟨a, b⟩
    · rw [← a]; exact hf
    · rw [a] at hf; exact absurd hf (by decide)
  · rcases hq j hj with h | ⟨i, hi, -, hs, -⟩
    · omega
    · have := (h1 i hi).2.1 j hs; omega
  · rcases hq q hq' with h9 | ⟨i', hi', hf', hs', hp⟩
    · have := (h1 i hi).2.1 q hs; omega
    · have hne : i' ≠ i := by
        rintro rfl
        have hz0 : fr' i' = 0 := by
          have e9 : ix (nI i') = i' := ix_nI (by omega)
          rcases hp with ⟨a, e⟩ | ⟨a, e⟩ | ⟨a, e⟩
          · rw [← e9, e]; exact hpx a
          · rw [← e9, e]; exact hpy a
          · rw [← e9, e]; exact hpz a
        rw [hz0] at hf; exact absurd hf (by decide)
      have hfi : fr i = 1 := by
        rcases hfr i hi with ⟨a, b⟩ | ⟨a, b⟩
        · rw [← a]; exact hf
        · rw [a] at hf; exact absurd hf (by decide)
      exact h2 i' i hi' hi hne hf' hfi q hs' hs
end
section
/-! Both objects side by side. -/
def Kd (F : zF) (T : zT) : Prop := ∀ j, (∃ k : Nat, k < 20 ∧ f_k F j = nI k) ∧ t_k T j = t_kc (f_k F j)
def zRun (F : zF) (c : zC) (r : zR) (n q : Nat) (a b yb ye : Int32) : Prop :=
  (a = -1 ∧ yb = -1) ∨ ∃ i, i < n ∧ b = nI i ∧ yb = nI i ∧ ((a = 1 ∧ ye = 2 ∧ ∃ p, Idl F 12 (nI i) c r p ∧ p ≤ zK 12 q) ∨ (¬ a = 1 ∧ ye = a ∧ ¬ ye = 2))
def Jn (X : zX) (Y : zY) (n f q : Nat) : Prop := n ≤ 60 ∧ x_n X = nI n ∧ y_n Y = nI n ∧ Fo (x_F X) (y_T Y) n (x_d X) (x_f X) (y_d Y) (y_u Y) ∧ Kd (x_F X) (y_T Y) ∧ Nm (x_F X) (y_r Y) ∧ r_g (y_r Y) = c_g (x_c X) ∧ Ok (x_F X) (y_T Y) 1000000 f ∧ Gk f (c_g (x_c X)) q ∧ x_l X = y_l Y ∧ zRun (x_F X) (x_c X) (y_r Y) n q (x_a X) (x_b X) (y_b Y) (y_e Y)
def zJ (X : zX) (Y : zY) : Prop := ∃ n f q : Nat, Jn X Y n f q
theorem bel_iff {x y : Int32} {n : Nat} (hy : y = nI n) (hn : n < 2 ^ 31) : p_bel x y = true ↔ ∃ j : Nat, j < n ∧ x = nI j := by
  refine ⟨fun h => bel_of h hy hn, ?_⟩
  rintro ⟨j, hj, rfl⟩
  unfold p_bel
  rw [if_neg (nI_pos (by omega)), if_pos (by rw [hy]; exact nI_lt hj hn)]
theorem with_iff {x y : Int32} {n : Nat} (hy : y = nI n) (hn : n < 2 ^ 31) : p_with x 0 (y - 1) = true ↔ ∃ j : Nat, j < n ∧ x = nI j := by
  refine ⟨fun h => with_lt h hy hn, ?_⟩
  rintro ⟨j, hj, rfl⟩
  unfold p_with
  obtain ⟨k, rfl⟩ : ∃ k, n = k + 1 := ⟨n - 1, by omega⟩
  rw [if_neg (nI_pos (by omega)), hy, nI_pred, if_neg (nI_nlt (by omega) (by omega))]
theorem with_bel {x y : Int32} {n : Nat} (hy : y = nI n) (hn : n < 2 ^ 31) : p_with x 0 (y - 1) = p_bel x y := by
  have h1 := with_iff (x := x) hy hn
  have h2 := bel_iff (x := x) hy hn
  exact Bool.eq_iff_iff.mpr (h1.trans h2.symm)
theorem with_c1 (x : Int32) : p_with x 0 1 = p_bel x 2 := with_bel (x := x) (y := 2) (n := 2) rfl (by decide)
theorem with_c3 (x : Int32) : p_with x 0 3 = p_bel x 4 := with_bel (x := x) (y := 4) (n := 4) rfl (by decide)
theorem with_c7 (x : Int32) : p_with x 0 7 = p_bel x 8 := with_bel (x := x) (y := 8) (n := 8) rfl (by decide)
theorem with_c11 (x : Int32) : p_with x 0 11 = p_bel x 12 := with_bel (x := x) (y := 12) (n := 12) rfl (by decide)
theorem with_c2000 (x : Int32) : p_with x 0 2000 = p_bel x 2001 := with_bel (x := x) (y := 2001) (n := 2001) rfl (by decide)
/-- the index of a node that is there or is not -/
theorem full_iff {X : zX} {n : Nat} (hn : x_n X = nI n) (h : n ≤ 60) : p_full X = true ↔ n = 60 := by
  unfold p_full
  rw [hn]
  by_cases h6 : n = 60
  · subst h6
    rw [if_neg (show ¬ nI 60 < 60 from nI_nlt (a := 60) (b := 60) (by omega) (by omega))]
    simp
  · rw [if_pos (show nI n < 60 from nI_lt (b := 60) (by omega) (by omega))]
    simp [h6]
theorem y60_iff {y : Int32} {n : Nat} (hn : y = nI n) (h : n ≤ 60) : y = 60 ↔ n = 60 := by
  rw [hn]; exact nI_eq (b := 60) (by omega) (by decide)
theorem id_cong {F F' : zF} {T T' : zT} {e : Int32} {c c' : zC} {r r' : zR} {p : Nat} (h : Idl F 12 e c r p) (hA : AgF (Sb F 12 e) F F' T T') (hs : Sb F 12 e (ix e)) (hR : Ag (Sb F 12 e) c c' r r') : Idl F' 12 e c' r' p := by
  rcases h with ⟨h1, h2, h3⟩ | h
  · exact Or.inl ⟨((hR _ hs).1).trans h1, ((hR _ hs).2.2.2.1).trans h2, h3⟩
  · exact Or.inr (Lv_congF 12 e p hA (Lv_cong 12 e p hR h))
theorem id_congF {F F' : zF} {T T' : zT} {e : Int32} {c : zC} {r : zR} {p : Nat} (h : Idl F 12 e c r p) (hA : AgF (Sb F 12 e) F F' T T') : Idl F' 12 e c r p := by
  rcases h with h | h
  · exact Or.inl h
  · exact Or.inr (Lv_congF 12 e p hA h)
/-- a node is added on both sides -/
theorem j_add {X X' : zX} {Y Y' : zY} {n f q d : Nat} {kd v : Int32} (hJ : Jn X Y n f q) (h60 : n < 60) (hd : d ≤ 11)
    (a1 : f_k (x_F X') = upd (f_k (x_F X)) n kd) (a2 : f_n (x_F X') = upd (f_n (x_F X)) n v) (a3 : ∀ j, j ≠ n → f_x (x_F X') j = f_x (x_F X) j ∧ f_y (x_F X') j = f_y (x_F X) j ∧ f_z (x_F X') j = f_z (x_F X) j) (a4 : f_f (x_F X') = f_f (x_F X)) (a5 : x_c X' = x_c X) (a6 : x_n X' = nI (n + 1)) (a7 : x_l X' = x_l X) (a8 : x_b X' = x_b X) (a9 : x_a X' = x_a X)
    (b1 : t_k (y_T Y') = upd (t_k (y_T Y)) n (t_kc kd)) (b2 : y_r Y' = u_nm (y_r Y) (nI n) v) (b3 : ∀ j, j ≠ n → t_p (y_T Y') (3 * j) = t_p (y_T Y) (3 * j) ∧ t_p (y_T Y') (3 * j + 1) = t_p (y_T Y) (3 * j + 1) ∧ t_p (y_T Y') (3 * j + 2) = t_p (y_T Y) (3 * j + 2)) (b4 : t_f (y_T Y') = t_f (y_T Y)) (b6 : y_n Y' = nI (n + 1)) (b7 : y_l Y' = y_l Y) (b8 : y_b Y' = y_b Y) (b9 : y_e Y' = y_e Y)
    (hk : ∃ k : Nat, k < 20 ∧ kd = nI k) (hnm : kd = 1 ∨ kd = 2 → vp_in v 8)
    (hx : 1 ≤ f_a (x_F X') (nI n) → Prp n d (x_f X) (x_d X) (f_x (x_F X') n) (t_p (y_T Y') (3 * n))) (hy : 2 ≤ f_a (x_F X') (nI n) → Prp n d (x_f X) (x_d X) (f_y (x_F X') n) (t_p (y_T Y') (3 * n + 1)) ∧ f_x (x_F X') n ≠ f_y (x_F X') n)
    (hz : 3 ≤ f_a (x_F X') (nI n) → Prp n d (x_f X) (x_d X) (f_z (x_F X') n) (t_p (y_T Y') (3 * n + 2)) ∧ f_x (x_F X') n ≠ f_z (x_F X') n ∧ f_y (x_F X') n ≠ f_z (x_F X') n)
    (hdp : ∀ i, i < n → x_d X' i = x_d X i ∧ y_d Y' i = y_d Y i) (hdn : x_d X' n = nI (d + 1) ∧ y_d Y' n = nI (d + 1)) (hfn : x_f X' n = 1 ∧ y_u Y' n = 0)
    (hfr : ∀ i, i < n → (x_f X' i = x_f X i ∧ y_u Y' i = y_u Y i) ∨ (x_f X' i = 0 ∧ y_u Y' i = 1)) (hpx : 1 ≤ f_a (x_F X') (nI n) → x_f X' (ix (f_x (x_F X') n)) = 0) (hpy : 2 ≤ f_a (x_F X') (nI n) → x_f X' (ix (f_y (x_F X') n)) = 0) (hpz : 3 ≤ f_a (x_F X') (nI n) → x_f X' (ix (f_z (x_F X') n)) = 0) : zJ X' Y' := by
  obtain ⟨j1, j2, j3, jF, jK, jN, jg, jO, jG, jl, jR⟩ := hJ
  have ek : f_k (x_F X') n = kd := by rw [a1]; exact pk_us
  have ev : f_n (x_F X') n = v := by rw [a2]; exact pk_us
  have etk : t_k (y_T Y') n = t_kc kd := by rw [b1]; exact pk_us
  have hA : AgF (fun j => j ≠ n) (x_F X) (x_F X') (y_T Y) (y_T Y') := fun j hj => ⟨by rw [a1]; exact pk_un hj, by rw [a2]; exact pk_un hj, (a3 j hj).1, (a3 j hj).2.1, (a3 j hj).2.2, by rw [b1]; exact pk_un hj, (b3 j hj).1, (b3 j hj).2.1, (b3 j hj).2.2⟩
  have hA1 : AgF (fun j => j < n) (x_F X) (x_F X') (y_T Y) (y_T Y') := hA.wk fun j hj => by omega
  have hFo := fo_new jF hA1 h60 hd (by rw [ek]; exact hk) (by rw [etk, ek]) (by rw [ek, ev]; exact hnm) hx hy hz hdp hdn hfn hfr hpx hpy hpz
  have enm : r_nm (y_r Y') = upd (r_nm (y_r Y)) n v := by
    rw [b2]
    show upd _ (ix (nI n)) v = _
    rw [ix_nI (by omega)]
    rfl
  refine ⟨n + 1, f, q, by omega, a6, b6, hFo, fun j => ?_, fun j hj => ?_, ?_, ?_, ?_, by rw [a7, b7]; exact jl, ?_⟩
  · by_cases h : j = n
    · subst h; rw [ek, etk]; exact ⟨hk, rfl⟩
    · rw [(hA j h).1, (hA j h).2.2.2.2.2.1]; exact jK j
  · by_cases h : j = n
    · subst h; rw [enm, ev]; exact pk_us
    · rw [enm, pk_un h, (hA j h).2.1]
      rw [(hA j h).1] at hj
      exact jN j hj
  · rw [b2, a5]; exact jg
  · exact ⟨a4.trans jO.1, b4.trans jO.2.1, jO.2.2⟩
  · rw [a5]; exact jG
  · rw [a5, a8, a9, b8, b9]
    rcases jR with h | ⟨i, hi, hb, hyb, h⟩
    · exact Or.inl h
    · refine Or.inr ⟨i, by omega, hb, hyb, ?_⟩
      rcases h with ⟨h1, h2, p, hI, hp⟩ | h
      · refine Or.inl ⟨h1, h2, p, ?_, hp⟩
        obtain ⟨⟨d', d1, d2, -, -, d5⟩, hlow, -⟩ := jF.1 i hi
        have hself : Sb (x_F X) 12 (nI i) (ix (nI i)) := Sb_m d2 (Tr_self d5)
        have hlt : ∀ j, Sb (x_F X) 12 (nI i) j → j ≠ n := fun j hj => by have := hlow j hj; omega
        refine id_cong hI (hA.wk hlt) hself fun j hj => ⟨rfl, rfl, rfl, ?_, ?_, ?_, ?_, ?_⟩
        · rw [b2]; rfl
        · rw [enm]; exact pk_un (hlt j hj)
        · rw [b2]; rfl
        · rw [b2]; rfl
        · rw [b2]; rfl
      · exact Or.inr h
theorem kd_split {kd : Int32} {n m : Nat} (h : p_bel kd (nI n) = true) (hn : n < 2 ^ 31) : ∃ k : Nat, k < n ∧ kd = nI k ∧ nI m + kd = nI (m + k) := by
  obtain ⟨k, hk, rfl⟩ := bel_of h rfl hn
  exact ⟨k, hk, rfl, nI_add m k⟩
theorem mx_nI {a b : Nat} (ha : a < 2 ^ 31) (hb : b < 2 ^ 31) : mx (nI a) (nI b) = nI (max a b) := by
  unfold mx
  by_cases h : a < b
  · rw [if_pos (nI_lt h hb), Nat.max_eq_right (by omega)]
  · rw [if_neg (nI_nlt (by omega) ha), Nat.max_eq_left (by omega)]
theorem ifd_nI {a b : Nat} (ha : a < 2 ^ 31) (hb : b < 2 ^ 31) : (if nI a < nI b then nI b else nI a) = nI (max a b) := mx_nI ha hb
/-- what making leaves on the other side -/
theorem mk_rows (Y : zY) (kd v x y z dp : Int32) : (m_make Y kd v x y z dp).1 = y_n Y ∧ t_k (y_T (m_make Y kd v x y z dp).2) = upd (t_k (y_T Y)) (ix (y_n Y)) kd ∧ y_r (m_make Y kd v x y z dp).2 = u_nm (y_r Y) (y_n Y) v ∧
    t_p (y_T (m_make Y kd v x y z dp).2) = upd (upd (upd (t_p (y_T Y)) (ix (3 * y_n Y)) x) (ix (3 * y_n Y + 1)) y) (ix (3 * y_n Y + 2)) z ∧ t_f (y_T (m_make Y kd v x y z dp).2) = t_f (y_T Y) ∧ y_n (m_make Y kd v x y z dp).2 = y_n Y + 1 ∧ y_l (m_make Y kd v x y z dp).2 = y_l Y ∧ y_b (m_make Y kd v x y z dp).2 = y_b Y ∧ y_e (m_make Y kd v x y z dp).2 = y_e Y ∧
    y_d (m_make Y kd v x y z dp).2 = upd (y_d Y) (ix (y_n Y)) dp ∧
    y_u (m_make Y kd v x y z dp).2 = (let u0 := upd (y_u Y) (ix (y_n Y)) 0; let u1 := if x < 0 then u0 else upd u0 (ix x) 1; let u2 := if y < 0 then u1 else upd u1 (ix y) 1; if z < 0 then u2 else upd u2 (ix z) 1) := by
  unfold m_make
  by_cases hx : x < 0 <;> by_cases hy : y < 0 <;> by_cases hz : z < 0 <;> refine ⟨?_, ?_, ?_, ?_, ?_, ?_, ?_, ?_, ?_, ?_, ?_⟩ <;> first | rfl | (simp only [hx, hy, hz, if_true, if_false]; done) | (simp only [hx, hy, hz, if_true, if_false]; rfl)
theorem p3_out {n j : Nat} {f : Nat → Int32} {x y z : Int32} (hn : n < 60) (hj : j ≠ n) : (∀ b, b < 3 → upd (upd (upd f (ix (3 * nI n)) x) (ix (3 * nI n + 1)) y) (ix (3 * nI n + 2)) z (3 * j + b) = f (3 * j + b)) := fun b hb => by
  have hv : vp_in (nI n) 60 := vp_in_nI hn (by decide)
  rw [ix_30 hv, ix_31 hv, ix_32 hv, ix_nI (by omega), pk_un (by omega), pk_un (by omega), pk_un (by omega)]
theorem p3_in {n : Nat} {f : Nat → Int32} {x y z : Int32} (hn : n < 60) : upd (upd (upd f (ix (3 * nI n)) x) (ix (3 * nI n + 1)) y) (ix (3 * nI n + 2)) z (3 * n) = x ∧ upd (upd (upd f (ix (3 * nI n)) x) (ix (3 * nI n + 1)) y) (ix (3 * nI n + 2)) z (3 * n + 1) = y ∧ upd (upd (upd f (ix (3 * nI n)) x) (ix (3 * nI n + 1)) y) (ix (3 * nI n + 2)) z (3 * n + 2) = z := by
  have hv : vp_in (nI n) 60 := vp_in_nI hn (by decide)
  rw [ix_30 hv, ix_31 hv, ix_32 hv, ix_nI (by omega)]
  refine ⟨?_, ?_, ?_⟩
  · rw [pk_un (by omega), pk_un (by omega)]; exact pk_us
  · rw [pk_un (by omega)]; exact pk_us
  · exact pk_us
/-- a leaf -/
theorem j_leaf {X : zX} {Y : zY} (hJ : zJ X Y) (kd v : Int32) : ∃ w X' Y', p_gleaf X kd v = (w, X') ∧ m_leaf Y kd v = (w, Y') ∧ zJ X' Y' := by
  obtain ⟨n, f, q, hJn⟩ := hJ
  have hJ' : zJ X Y := ⟨n, f, q, hJn⟩
  obtain ⟨j1, j2, j3, jF, -⟩ := id hJn
  have h0 : (0 : Int32) + kd = kd := by simp
  unfold p_gleaf m_leaf
  rw [with_c1, with_c7, h0]
  by_cases hk : p_bel kd 2 = true
  rotate_left
  · rw [if_neg hk, if_neg hk]; exact ⟨_, _, _, rfl, rfl, hJ'⟩
  rw [if_pos hk, if_pos hk]
  have main : (kd = 1 → p_bel v 8 = true) → ∃ w X' Y', (if p_full X = true then ((-4 : Int32), X) else p_leafX X kd v) = (w, X') ∧ (if y_n Y = 60 then ((-4 : Int32), Y) else m_make Y kd v (-1) (-1) (-1) 1) = (w, Y') ∧ zJ X' Y' := by
    intro hv
    by_cases h6 : n = 60
    · rw [if_pos ((full_iff j2 j1).mpr h6), if_pos ((y60_iff j3 j1).mpr h6)]; exact ⟨_, _, _, rfl, rfl, hJ'⟩
    rw [if_neg (fun h => h6 ((full_iff j2 j1).mp h)), if_neg (fun h => h6 ((y60_iff j3 j1).mp h))]
    have h60 : n < 60 := by omega
    obtain ⟨k, hk2, rfl⟩ := bel_of (n := 2) hk rfl (by decide)
    have hin : ix (nI n) = n := ix_nI (by omega)
    have hkc : t_kc (nI k) = nI k := by
      have : k = 0 ∨ k = 1 := by omega
      rcases this with rfl | rfl <;> rfl
    obtain ⟨m1, m2, m3, m4, m5, m6, m7, m8, m9, m10, m11⟩ := mk_rows Y (nI k) v (-1) (-1) (-1) 1
    rw [j3] at m1 m2 m3 m4 m6 m10 m11
    rw [hin] at m2 m10 m11
    have e1 : p_leafX X (nI k) v = (nI n, (p_leafX X (nI k) v).2) := by rw [← j2]; rfl
    have e2 : m_make Y (nI k) v (-1) (-1) (-1) 1 = (nI n, (m_make Y (nI k) v (-1) (-1) (-1) 1).2) := by rw [← m1]
    refine ⟨_, _, _, e1, e2, ?_⟩
    have c1 : f_k (x_F (p_leafX X (nI k) v).2) = upd (f_k (x_F X)) n (nI k) := by show upd (f_k (x_F X)) (ix (x_n X)) _ = _; rw [j2, hin]
    have c2 : f_n (x_F (p_leafX X (nI k) v).2) = upd (f_n (x_F X)) n v := by show upd (f_n (x_F X)) (ix (x_n X)) _ = _; rw [j2, hin]
    have c3 : x_d (p_leafX X (nI k) v).2 = upd (x_d X) n 1 := by show upd (x_d X) (ix (x_n X)) _ = _; rw [j2, hin]
    have c4 : x_f (p_leafX X (nI k) v).2 = upd (x_f X) n 1 := by show upd (x_f X) (ix (x_n X)) _ = _; rw [j2, hin]
    have c5 : x_n (p_leafX X (nI k) v).2 = nI (n + 1) := by show x_n X + 1 = _; rw [j2, nI_succ]
    have fa : f_a (x_F (p_leafX X (nI k) v).2) (nI n) = 0 := by
      unfold f_a
      rw [hin, c1, pk_us, if_pos (show nI k < 2 from nI_lt (b := 2) hk2 (by decide))]
    refine j_add (n := n) (f := f) (q := q) (d := 0) (kd := nI k) (v := v) hJn h60 (by omega) c1 c2 (fun j _ => ⟨rfl, rfl, rfl⟩) rfl rfl c5 rfl rfl rfl (by rw [m2, hkc]) m3 (fun j hj => ?_) m5 (by rw [m6, nI_succ]) m7 m8 m9 ⟨k, by omega, rfl⟩ (fun h => ?_) (fun h => ?_) (fun h => ?_) (fun h => ?_) (fun i hi => ?_) ⟨by rw [c3]; exact pk_us, by rw [m10]; exact pk_us⟩ ⟨by rw [c4]; exact pk_us, ?_⟩ (fun i hi => ?_) (fun h => ?_) (fun h => ?_) (fun h => ?_)
    · rw [m4]; exact ⟨p3_out h60 hj 0 (by decide), p3_out h60 hj 1 (by decide), p3_out h60 hj 2 (by decide)⟩
    · rcases h with h | h
      · exact bel_8 (hv h)
      · have : k = 2 := (nI_eq (b := 2) (by omega) (by decide)).mp h
        omega
    · omega
    · omega
    · omega
    · rw [c3, m10]; exact ⟨pk_un (by omega), pk_un (by omega)⟩
    · rw [m11]; exact pk_us
    · rw [c4, m11]; exact Or.inl ⟨pk_un (by omega), pk_un (by omega)⟩
    · omega
    · omega
    · omega
  by_cases h1 : kd = 1
  · rw [if_pos h1, if_pos h1]
    by_cases hv : p_bel v 8 = true
    · rw [if_pos hv, if_pos hv]; exact main fun _ => hv
    · rw [if_neg hv, if_neg hv]; exact ⟨_, _, _, rfl, rfl, hJ'⟩
  · rw [if_neg h1, if_neg h1]; exact main fun h => absurd h h1
def ka (k : Int32) : Nat := if k < 2 then 0 else if k < 6 then 1 else if k < 18 then 2 else 3
/-- a node over parts -/
theorem j_over {X : zX} {Y Y' : zY} {n f q D i1 i2 i3 d1 d2 d3 : Nat} {kd v dp : Int32} (hJ : Jn X Y n f q) (h60 : n < 60) (hk : ∃ k : Nat, k < 20 ∧ kd = nI k) (hnm : kd = 1 ∨ kd = 2 → vp_in v 8) (h1 : i1 < n) (h2 : i2 < n) (h3 : i3 < n) (f1 : x_f X i1 = 1) (f2 : x_f X i2 = 1) (f3 : x_f X i3 = 1) (e1 : x_d X i1 = nI d1) (e2 : x_d X i2 = nI d2) (e3 : x_d X i3 = nI d3)
    (hD : D = max d1 (max d2 d3)) (hD1 : D ≤ 11) (hd : dp = nI (D + 1)) (b1 : t_k (y_T Y') = upd (t_k (y_T Y)) n (t_kc kd)) (b2 : y_r Y' = u_nm (y_r Y) (nI n) v) (b3 : ∀ j, j ≠ n → ∀ b, b < 3 → t_p (y_T Y') (3 * j + b) = t_p (y_T Y) (3 * j + b)) (b4 : t_f (y_T Y') = t_f (y_T Y)) (b6 : y_n Y' = nI (n + 1)) (b7 : y_l Y' = y_l Y) (b8 : y_b Y' = y_b Y) (b9 : y_e Y' = y_e Y) (b10 : y_d Y' = upd (y_d Y) n dp)
    (p1 : t_p (y_T Y') (3 * n) = nI i1) (p2 : 2 ≤ ka kd → t_p (y_T Y') (3 * n + 1) = nI i2 ∧ i1 ≠ i2) (p3 : 3 ≤ ka kd → t_p (y_T Y') (3 * n + 2) = nI i3 ∧ i1 ≠ i3 ∧ i2 ≠ i3)
    (hu : y_u Y' n = 0 ∧ ∀ i, i < n → ((i = i1 ∨ i = i2 ∨ i = i3) → y_u Y' i = 1) ∧ (¬ (i = i1 ∨ i = i2 ∨ i = i3) → y_u Y' i = y_u Y i)) : (p_overX X kd v (nI i1) (nI i2) (nI i3)).1 = nI n ∧ zJ (p_overX X kd v (nI i1) (nI i2) (nI i3)).2 Y' := by
  obtain ⟨j1, j2, j3, jF, -⟩ := id hJ
  have hin : ix (nI n) = n := ix_nI (by omega)
  have x1 : ix (nI i1) = i1 := ix_nI (by omega)
  have x2 : ix (nI i2) = i2 := ix_nI (by omega)
  have x3 : ix (nI i3) = i3 := ix_nI (by omega)
  have c0 : (p_overX X kd v (nI i1) (nI i2) (nI i3)).1 = nI n := j2
  refine ⟨c0, ?_⟩
  have c1 : f_k (x_F (p_overX X kd v (nI i1) (nI i2) (nI i3)).2) = upd (f_k (x_F X)) n kd := by show upd (f_k (x_F X)) (ix (x_n X)) _ = _; rw [j2, hin]
  have c2 : f_n (x_F (p_overX X kd v (nI i1) (nI i2) (nI i3)).2) = upd (f_n (x_F X)) n v := by show upd (f_n (x_F X)) (ix (x_n X)) _ = _; rw [j2, hin]
  have cx : f_x (x_F (p_overX X kd v (nI i1) (nI i2) (nI i3)).2) = upd (f_x (x_F X)) n (nI i1) := by show upd (f_x (x_F X)) (ix (x_n X)) _ = _; rw [j2, hin]
  have cy : f_y (x_F (p_overX X kd v (nI i1) (nI i2) (nI i3)).2) = upd (f_y (x_F X)) n (nI i2) := by show upd (f_y (x_F X)) (ix (x_n X)) _ = _; rw [j2, hin]
  have cz : f_z (x_F (p_overX X kd v (nI i1) (nI i2) (nI i3)).2) = upd (f_z (x_F X)) n (nI i3) := by show upd (f_z (x_F X)) (ix (x_n X)) _ = _; rw [j2, hin]
  have c5 : x_n (p_overX X kd v (nI i1) (nI i2) (nI i3)).2 = nI (n + 1) := by show x_n X + 1 = _; rw [j2, nI_succ]
  have c4 : x_f (p_overX X kd v (nI i1) (nI i2) (nI i3)).2 = upd (upd (upd (upd (x_f X) n 1) i1 0) i2 0) i3 0 := by
    show upd (upd (upd (upd (x_f X) (ix (x_n X)) 1) (ix (nI i1)) 0) (ix (nI i2)) 0) (ix (nI i3)) 0 = _
    rw [j2, hin, x1, x2, x3]
  have c3 : x_d (p_overX X kd v (nI i1) (nI i2) (nI i3)).2 = upd (upd (x_d X) n 1) n (nI (D + 1)) := by
    show upd (upd (x_d X) (ix (x_n X)) 1) (ix (x_n X)) (1 + mx (upd (x_d X) (ix (x_n X)) 1 (ix (nI i1))) (mx (upd (x_d X) (ix (x_n X)) 1 (ix (nI i2))) (upd (x_d X) (ix (x_n X)) 1 (ix (nI i3))))) = _
    rw [j2, hin, x1, x2, x3, pk_un (by omega), pk_un (by omega), pk_un (by omega), e1, e2, e3, mx_nI (by omega) (by omega), mx_nI (by omega) (by omega), ← hD]
    rw [show (1 : Int32) + nI D = nI (D + 1) by rw [Nat.add_comm D 1]; exact nI_add 1 D]
  have fa : f_a (x_F (p_overX X kd v (nI i1) (nI i2) (nI i3)).2) (nI n) = ka kd := by
    unfold f_a ka
    rw [hin, c1, pk_us]
  have pp : ∀ (i d : Nat), i < n → x_f X i = 1 → x_d X i = nI d → d ≤ D → ∀ tx : Int32, tx = nI i → Prp n D (x_f X) (x_d X) (nI i) tx := fun i d hi hf he hd tx ht => ⟨i, hi, rfl, ht, hf, d, hd, he⟩
  have vx : f_x (x_F (p_overX X kd v (nI i1) (nI i2) (nI i3)).2) n = nI i1 := by rw [cx]; exact pk_us
  have vy : f_y (x_F (p_overX X kd v (nI i1) (nI i2) (nI i3)).2) n = nI i2 := by rw [cy]; exact pk_us
  have vz : f_z (x_F (p_overX X kd v (nI i1) (nI i2) (nI i3)).2) n = nI i3 := by rw [cz]; exact pk_us
  have ne : ∀ a b : Nat, a < n → b < n → a ≠ b → nI a ≠ nI b := fun a b ha hb h q => h ((nI_eq (by omega) (by omega)).mp q)
  have z1 : x_f (p_overX X kd v (nI i1) (nI i2) (nI i3)).2 i1 = 0 := by
    rw [c4]
    unfold upd
    split
    · rfl
    split
    · rfl
    · exact if_pos rfl
  have z2 : x_f (p_overX X kd v (nI i1) (nI i2) (nI i3)).2 i2 = 0 := by
    rw [c4]
    unfold upd
    split
    · rfl
    · exact if_pos rfl
  have z3 : x_f (p_overX X kd v (nI i1) (nI i2) (nI i3)).2 i3 = 0 := by rw [c4]; exact pk_us
  refine j_add (n := n) (f := f) (q := q) (d := D) (kd := kd) (v := v) hJ h60 hD1 c1 c2 (fun j hj => ⟨by rw [cx]; exact pk_un hj, by rw [cy]; exact pk_un hj, by rw [cz]; exact pk_un hj⟩) rfl rfl c5 rfl rfl rfl b1 b2 (fun j hj => ⟨b3 j hj 0 (by decide), b3 j hj 1 (by decide), b3 j hj 2 (by decide)⟩) b4 b6 b7 b8 b9 hk hnm (fun h => ?_) (fun h => ?_) (fun h => ?_) (fun i hi => ?_) ⟨by rw [c3]; exact pk_us, by rw [b10, hd]; exact pk_us⟩ ⟨?_, hu.1⟩ (fun i hi => ?_) (fun _ => by rw [vx, x1]; exact z1) (fun _ => by rw [vy, x2]; exact z2) (fun _ => by rw [vz, x3]; exact z3)
  · rw [vx]; exact pp i1 d1 h1 f1 e1 (by omega) _ p1
  · rw [fa] at h
    rw [vy, vx]
    exact ⟨pp i2 d2 h2 f2 e2 (by omega) _ (p2 h).1, ne _ _ h1 h2 (p2 h).2⟩
  · rw [fa] at h
    rw [vz, vx, vy]
    exact ⟨pp i3 d3 h3 f3 e3 (by omega) _ (p3 h).1, ne _ _ h1 h3 (p3 h).2.1, ne _ _ h2 h3 (p3 h).2.2⟩
  · rw [c3, b10]
    exact ⟨(pk_un (by omega)).trans (pk_un (by omega)), pk_un (by omega)⟩
  · rw [c4, pk_un (by omega), pk_un (by omega), pk_un (by omega)]; exact pk_us
  · by_cases hp : i = i1 ∨ i = i2 ∨ i = i3
    · refine Or.inr ⟨?_, (hu.2 i hi).1 hp⟩
      rcases hp with rfl | rfl | rfl
      · exact z1
      · exact z2
      · exact z3
    · refine Or.inl ⟨?_, (hu.2 i hi).2 hp⟩
      rw [c4, pk_un (fun h => hp (Or.inr (Or.inr h))), pk_un (fun h => hp (Or.inr (Or.inl h))), pk_un (fun h => hp (Or.inl h)), pk_un (by omega)]
/-- a part, on both sides: it is there, and free or not -/
theorem j_part {X : zX} {Y : zY} {n f q : Nat} (hJ : Jn X Y n f q) {x : Int32} (h : p_bel x (x_n X) = true) : ∃ i d, i < n ∧ x = nI i ∧ ix x = i ∧ 1 ≤ d ∧ d ≤ 12 ∧ x_d X i = nI d ∧ y_d Y i = nI d ∧ (x_f X i = 1 ∧ y_u Y i = 0 ∨ x_f X i = 0 ∧ y_u Y i = 1) := by
  obtain ⟨j1, j2, j3, jF, -⟩ := hJ
  obtain ⟨i, hi, rfl⟩ := bel_of h j2 (by omega)
  obtain ⟨⟨d, d1, d2, d3, d4, d5⟩, -, h3⟩ := jF.1 i hi
  exact ⟨i, d, hi, rfl, ix_nI (by omega), d1, d2, d3, d4, h3⟩
theorem over_12 {a : Nat} (h : a ≤ 12) : (12 < (1 : Int32) + nI a) ↔ a = 12 := by
  rw [show (1 : Int32) + nI a = nI (1 + a) from nI_add 1 a]
  rw [show (12 : Int32) = nI 12 from rfl, nI_ltI (by decide) (by omega)]
  omega
theorem eq_12 {a : Nat} (h : a ≤ 12) : nI a = 12 ↔ a = 12 := nI_eq (b := 12) (by omega) (by decide)
theorem j_un {X : zX} {Y : zY} (hJ : zJ X Y) (kd v x : Int32) (hk : p_bel kd 4 = true) (hv : kd = 0 → p_bel v 8 = true) : ∃ w X' Y', p_join X (2 + kd) v x x x 0 = (w, X') ∧ m_un1 Y kd v x = (w, Y') ∧ zJ X' Y' := by
  obtain ⟨n, f, q, hJn⟩ := hJ
  have hJ' : zJ X Y := ⟨n, f, q, hJn⟩
  obtain ⟨j1, j2, j3, jF, -⟩ := id hJn
  unfold p_join m_un1
  rw [with_bel j3 (by omega), show p_bel x (y_n Y) = p_bel x (x_n X) by rw [j2, j3]]
  by_cases h : p_bel x (x_n X) = true
  rotate_left
  · rw [if_neg h, if_neg h]; exact ⟨_, _, _, rfl, rfl, hJ'⟩
  rw [if_pos h, if_pos h, if_pos h, if_pos h, if_pos rfl]
  obtain ⟨i, d, hi, rfl, hix, hd1, hd2, hxd, hyd, hfu⟩ := j_part hJn h
  rw [hix]
  rcases hfu with ⟨hf, hu⟩ | ⟨hf, hu⟩
  rotate_left
  · rw [if_pos hf, if_neg (by rw [hu]; decide)]; exact ⟨_, _, _, rfl, rfl, hJ'⟩
  have hf0 : ¬ x_f X i = 0 := by rw [hf]; decide
  rw [if_neg hf0, if_neg hf0, if_neg hf0, if_pos hu]
  by_cases h6 : n = 60
  · rw [if_pos ((full_iff j2 j1).mpr h6), if_pos ((y60_iff j3 j1).mpr h6)]; exact ⟨_, _, _, rfl, rfl, hJ'⟩
  rw [if_neg (fun h => h6 ((full_iff j2 j1).mp h)), if_neg (fun h => h6 ((y60_iff j3 j1).mp h))]
  have ho : p_over X (nI i) (nI i) (nI i) = 1 + nI d := by
    unfold p_over
    rw [hix, hxd, mx_nI (by omega) (by omega), mx_nI (by omega) (by omega), Nat.max_self, Nat.max_self]
  rw [ho, hyd]
  by_cases h12 : d = 12
  · rw [if_pos ((over_12 hd2).mpr h12), if_pos ((eq_12 hd2).mpr h12)]; exact ⟨_, _, _, rfl, rfl, hJ'⟩
  rw [if_neg (fun h => h12 ((over_12 hd2).mp h)), if_neg (fun h => h12 ((eq_12 hd2).mp h))]
  obtain ⟨k, hk4, rfl⟩ := bel_of (n := 4) hk rfl (by decide)
  have e2 : (2 : Int32) + nI k = nI (2 + k) := nI_add 2 k
  have e10 : (10 : Int32) + nI k = nI (10 + k) := nI_add 10 k
  have hk' : k = 0 ∨ k = 1 ∨ k = 2 ∨ k = 3 := by omega
  have hkc : t_kc (nI (2 + k)) = nI (10 + k) := by rcases hk' with rfl | rfl | rfl | rfl <;> rfl
  have hka : ka (nI (2 + k)) = 1 := by rcases hk' with rfl | rfl | rfl | rfl <;> rfl
  rw [e2, e10, show nI d + 1 = nI (d + 1) from (nI_succ d).symm]
  have h60 : n < 60 := by omega
  have hin : ix (nI n) = n := ix_nI (by omega)
  obtain ⟨m1, m2, m3, m4, m5, m6, m7, m8, m9, m10, m11⟩ := mk_rows Y (nI (10 + k)) v (nI i) (-1) (-1) (nI (d + 1))
  rw [j3] at m1 m2 m3 m4 m6 m10 m11
  rw [hin] at m2 m10 m11
  have hni : ¬ nI i < 0 := nI_pos (by omega)
  simp only [if_neg hni, hix] at m11
  have m11 : y_u (m_make Y (nI (10 + k)) v (nI i) (-1) (-1) (nI (d + 1))).2 = upd (upd (y_u Y) n 0) i 1 := m11
  have hnm9 : nI (2 + k) = 1 ∨ nI (2 + k) = 2 → vp_in v 8 := fun h => by
    rcases h with h | h
    · have : 2 + k = 1 := (nI_eq (b := 1) (by omega) (by decide)).mp h
      omega
    · have : 2 + k = 2 := (nI_eq (b := 2) (by omega) (by decide)).mp h
      exact bel_8 (hv (by rw [show k = 0 by omega]; rfl))
  have hu9 : y_u (m_make Y (nI (10 + k)) v (nI i) (-1) (-1) (nI (d + 1))).2 n = 0 ∧ ∀ a, a < n → ((a = i ∨ a = i ∨ a = i) → y_u (m_make Y (nI (10 + k)) v (nI i) (-1) (-1) (nI (d + 1))).2 a = 1) ∧ (¬ (a = i ∨ a = i ∨ a = i) → y_u (m_make Y (nI (10 + k)) v (nI i) (-1) (-1) (nI (d + 1))).2 a = y_u Y a) := by
    refine ⟨by rw [m11, pk_un (by omega)]; exact pk_us, fun a ha => ⟨fun h => ?_, fun h => ?_⟩⟩
    · have : a = i := by rcases h with h | h | h <;> exact h
      rw [m11, this]; exact pk_us
    · rw [m11, pk_un (fun q => h (Or.inl q)), pk_un (by omega)]
  obtain ⟨r1, r2⟩ := j_over (D := d) (Y' := (m_make Y (nI (10 + k)) v (nI i) (-1) (-1) (nI (d + 1))).2) (kd := nI (2 + k)) (v := v) hJn h60 ⟨2 + k, by omega, rfl⟩ hnm9 hi hi hi hf hf hf hxd hxd hxd (by rw [Nat.max_self, Nat.max_self]) (by omega) rfl (by rw [m2, hkc]) m3 (fun j hj b hb => by rw [m4]; exact p3_out h60 hj b hb) m5 (by rw [m6, nI_succ]) m7 m8 m9 m10 (by rw [m4]; exact (p3_in h60).1) (fun h => by rw [hka] at h; omega) (fun h => by rw [hka] at h; omega) hu9
  exact ⟨nI n, _, _, by rw [← r1], by rw [← m1], r2⟩
theorem j_unary {X : zX} {Y : zY} (hJ : zJ X Y) (kd v x : Int32) : ∃ w X' Y', p_gun X kd v x = (w, X') ∧ m_unary Y kd v x = (w, Y') ∧ zJ X' Y' := by
  unfold p_gun m_unary
  rw [with_c3, with_c7]
  by_cases hk : p_bel kd 4 = true
  rotate_left
  · rw [if_neg hk, if_neg hk]; exact ⟨_, _, _, rfl, rfl, hJ⟩
  rw [if_pos hk, if_pos hk]
  have h2 : (2 : Int32) + kd = 2 ↔ kd = 0 := by
    obtain ⟨k, hk4, rfl⟩ := bel_of (n := 4) hk rfl (by decide)
    rw [show (2 : Int32) + nI k = nI (2 + k) from nI_add 2 k, show (2 : Int32) = nI 2 from rfl, show (0 : Int32) = nI 0 from rfl, nI_eq (by omega) (by decide), nI_eq (by omega) (by decide)]
    omega
  by_cases h0 : kd = 0
  · rw [if_pos (h2.mpr h0), if_pos h0]
    by_cases hv : p_bel v 8 = true
    · rw [if_pos hv, if_pos hv]; exact j_un hJ kd v x hk fun _ => hv
    · rw [if_neg hv, if_neg hv]; exact ⟨_, _, _, rfl, rfl, hJ⟩
  · rw [if_neg (fun h => h0 (h2.mp h)), if_neg h0]; exact j_un hJ kd v x hk fun h => absurd h h0
theorem j_binary {X : zX} {Y : zY} (hJ : zJ X Y) (kd x y : Int32) : ∃ w X' Y', p_gbin X kd x y = (w, X') ∧ m_binary Y kd x y = (w, Y') ∧ zJ X' Y' := by
  obtain ⟨n, f, q, hJn⟩ := hJ
  have hJ' : zJ X Y := ⟨n, f, q, hJn⟩
  obtain ⟨j1, j2, j3, jF, -⟩ := id hJn
  unfold p_gbin m_binary
  rw [with_c11, with_bel j3 (by omega), with_bel j3 (by omega), show y_n Y = x_n X by rw [j2, j3]]
  by_cases hk : p_bel kd 12 = true
  rotate_left
  · rw [if_neg hk, if_neg hk]; exact ⟨_, _, _, rfl, rfl, hJ'⟩
  rw [if_pos hk, if_pos hk]
  unfold p_join
  by_cases hx : p_bel x (x_n X) = true
  rotate_left
  · simp only [if_neg hx, ite_self]; exact ⟨_, _, _, rfl, rfl, hJ'⟩
  by_cases hy : p_bel y (x_n X) = true
  rotate_left
  · simp only [if_pos hx, if_neg hy, ite_self]; exact ⟨_, _, _, rfl, rfl, hJ'⟩
  simp only [if_pos hx, if_pos hy, if_true]
  obtain ⟨i, d, hi, rfl, hix, hd1, hd2, hxd, hyd, hfu⟩ := j_part hJn hx
  obtain ⟨i', d', hi', rfl, hix', hd1', hd2', hxd', hyd', hfu'⟩ := j_part hJn hy
  simp only [hix, hix']
  by_cases hxy : nI i = nI i'
  · rw [if_pos hxy, if_neg (show ¬ (1 : Int32) = 0 by decide)]
    have : i = i' := (nI_eq (by omega) (by omega)).mp hxy
    subst this
    simp only [if_true, ite_self]
    exact ⟨_, _, _, rfl, rfl, hJ'⟩
  rw [if_neg hxy, if_neg hxy]
  have hne : i ≠ i' := fun q => hxy (by rw [q])
  rcases hfu with ⟨hf, hu⟩ | ⟨hf, hu⟩
  rotate_left
  · rw [if_pos hf, if_neg (by rw [hu]; decide)]; exact ⟨_, _, _, rfl, rfl, hJ'⟩
  have hf0 : ¬ x_f X i = 0 := by rw [hf]; decide
  rw [if_neg hf0, if_pos hu]
  rcases hfu' with ⟨hf', hu'⟩ | ⟨hf', hu'⟩
  rotate_left
  · rw [if_pos hf', if_neg (by rw [hu']; decide)]; exact ⟨_, _, _, rfl, rfl, hJ'⟩
  have hf0' : ¬ x_f X i' = 0 := by rw [hf']; decide
  rw [if_neg hf0', if_neg hf0', if_pos hu']
  by_cases h6 : n = 60
  · rw [if_pos ((full_iff j2 j1).mpr h6), if_pos ((y60_iff j2 j1).mpr h6)]; exact ⟨_, _, _, rfl, rfl, hJ'⟩
  rw [if_neg (fun h => h6 ((full_iff j2 j1).mp h)), if_neg (fun h => h6 ((y60_iff j2 j1).mp h))]
  have ho : p_over X (nI i) (nI i') (nI i') = 1 + nI (max d d') := by
    unfold p_over
    rw [hix, hix', hxd, hxd', mx_nI (by omega) (by omega), Nat.max_self, mx_nI (by omega) (by omega)]
  have hm : (if y_d Y i' < y_d Y i then if y_d Y i = 12 then ((-5 : Int32), Y) else m_make Y (20 + kd) 0 (nI i) (nI i') (-1) (y_d Y i + 1) else if y_d Y i' = 12 then (-5, Y) else m_make Y (20 + kd) 0 (nI i) (nI i') (-1) (y_d Y i' + 1)) = if max d d' = 12 then ((-5 : Int32), Y) else m_make Y (20 + kd) 0 (nI i) (nI i') (-1) (nI (max d d' + 1)) := by
    rw [hyd, hyd']
    by_cases hlt : d' < d
    · rw [if_pos (nI_lt hlt (by omega)), Nat.max_eq_left (by omega), ← nI_succ]
      simp only [eq_12 hd2]
    · rw [if_neg (nI_nlt (by omega) (by omega)), Nat.max_eq_right (by omega), ← nI_succ]
      simp only [eq_12 hd2']
  rw [ho, hm]
  have hmx : max d d' ≤ 12 := by omega
  by_cases h12 : max d d' = 12
  · rw [if_pos ((over_12 hmx).mpr h12), if_pos h12]; exact ⟨_, _, _, rfl, rfl, hJ'⟩
  rw [if_neg (fun h => h12 ((over_12 hmx).mp h)), if_neg h12]
  obtain ⟨k, hk12, rfl⟩ := bel_of (n := 12) hk rfl (by decide)
  have e6 : (6 : Int32) + nI k = nI (6 + k) := nI_add 6 k
  have e20 : (20 : Int32) + nI k = nI (20 + k) := nI_add 20 k
  have hk' : k = 0 ∨ k = 1 ∨ k = 2 ∨ k = 3 ∨ k = 4 ∨ k = 5 ∨ k = 6 ∨ k = 7 ∨ k = 8 ∨ k = 9 ∨ k = 10 ∨ k = 11 := by omega
  have hkc : t_kc (nI (6 + k)) = nI (20 + k) := by rcases hk' with rfl | rfl | rfl | rfl | rfl | rfl | rfl | rfl | rfl | rfl | rfl | rfl <;> rfl
  have hka : ka (nI (6 + k)) = 2 := by rcases hk' with rfl | rfl | rfl | rfl | rfl | rfl | rfl | rfl | rfl | rfl | rfl | rfl <;> rfl
  rw [e6, e20]
  have h60 : n < 60 := by omega
  have hin : ix (nI n) = n := ix_nI (by omega)
  obtain ⟨m1, m2, m3, m4, m5, m6, m7, m8, m9, m10, m11⟩ := mk_rows Y (nI (20 + k)) 0 (nI i) (nI i') (-1) (nI (max d d' + 1))
  rw [j3] at m1 m2 m3 m4 m6 m10 m11
  rw [hin] at m2 m10 m11
  simp only [if_neg (nI_pos (n := i) (by omega)), if_neg (nI_pos (n := i') (by omega)), hix, hix'] at m11
  have m11 : y_u (m_make Y (nI (20 + k)) 0 (nI i) (nI i') (-1) (nI (max d d' + 1))).2 = upd (upd (upd (y_u Y) n 0) i 1) i' 1 := m11
  have hnm9 : nI (6 + k) = 1 ∨ nI (6 + k) = 2 → vp_in 0 8 := fun h => by
    rcases h with h | h
    · have : 6 + k = 1 := (nI_eq (b := 1) (by omega) (by decide)).mp h
      omega
    · have : 6 + k = 2 := (nI_eq (b := 2) (by omega) (by decide)).mp h
      omega
  have hu9 : y_u (m_make Y (nI (20 + k)) 0 (nI i) (nI i') (-1) (nI (max d d' + 1))).2 n = 0 ∧ ∀ a, a < n → ((a = i ∨ a = i' ∨ a = i') → y_u (m_make Y (nI (20 + k)) 0 (nI i) (nI i') (-1) (nI (max d d' + 1))).2 a = 1) ∧ (¬ (a = i ∨ a = i' ∨ a = i') → y_u (m_make Y (nI (20 + k)) 0 (nI i) (nI i') (-1) (nI (max d d' + 1))).2 a = y_u Y a) := by
    refine ⟨by rw [m11, pk_un (by omega), pk_un (by omega)]; exact pk_us, fun a ha => ⟨fun h => ?_, fun h => ?_⟩⟩
    · rw [m11]
      by_cases ha' : a = i'
      · rw [ha']; exact pk_us
      · have : a = i := by rcases h with h | h | h <;> first | exact h | exact absurd h ha'
        rw [pk_un ha', this]; exact pk_us
    · rw [m11, pk_un (fun q => h (Or.inr (Or.inl q))), pk_un (fun q => h (Or.inl q)), pk_un (by omega)]
  obtain ⟨r1, r2⟩ := j_over (D := max d d') (Y' := (m_make Y (nI (20 + k)) 0 (nI i) (nI i') (-1) (nI (max d d' + 1))).2) (kd := nI (6 + k)) (v := 0) hJn h60 ⟨6 + k, by omega, rfl⟩ hnm9 hi hi' hi' hf hf' hf' hxd hxd' hxd' (by rw [Nat.max_self]) (by omega) rfl (by rw [m2, hkc]) m3 (fun j hj b hb => by rw [m4]; exact p3_out h60 hj b hb) m5 (by rw [m6, nI_succ]) m7 m8 m9 m10 (by rw [m4]; exact (p3_in h60).1) (fun _ => ⟨by rw [m4]; exact (p3_in h60).2.1, hne⟩) (fun h => by rw [hka] at h; omega) hu9
  exact ⟨nI n, _, _, by rw [← r1], by rw [← m1], r2⟩
theorem j_ternary {X : zX} {Y : zY} (hJ : zJ X Y) (kd x y z : Int32) : ∃ w X' Y', p_gter X kd x y z = (w, X') ∧ m_ternary Y kd x y z = (w, Y') ∧ zJ X' Y' := by
  obtain ⟨n, f, q, hJn⟩ := hJ
  have hJ' : zJ X Y := ⟨n, f, q, hJn⟩
  obtain ⟨j1, j2, j3, jF, -⟩ := id hJn
  unfold p_gter m_ternary
  rw [with_c1, with_bel j3 (by omega), with_bel j3 (by omega), with_bel j3 (by omega), show y_n Y = x_n X by rw [j2, j3]]
  by_cases hk : p_bel kd 2 = true
  rotate_left
  · rw [if_neg hk, if_neg hk]; exact ⟨_, _, _, rfl, rfl, hJ'⟩
  rw [if_pos hk, if_pos hk]
  unfold p_join
  by_cases hx : p_bel x (x_n X) = true
  rotate_left
  · simp only [if_neg hx, ite_self]; exact ⟨_, _, _, rfl, rfl, hJ'⟩
  by_cases hy : p_bel y (x_n X) = true
  rotate_left
  · simp only [if_pos hx, if_neg hy, ite_self]; exact ⟨_, _, _, rfl, rfl, hJ'⟩
  by_cases hz : p_bel z (x_n X) = true
  rotate_left
  · simp only [if_pos hx, if_pos hy, if_neg hz, ite_self]; exact ⟨_, _, _, rfl, rfl, hJ'⟩
  simp only [if_pos hx, if_pos hy, if_pos hz, if_neg (show ¬ (1 : Int32) = 0 by decide), if_true]
  obtain ⟨i, d, hi, rfl, hix, hd1, hd2, hxd, hyd, hfu⟩ := j_part hJn hx
  obtain ⟨i', d', hi', rfl, hix', hd1', hd2', hxd', hyd', hfu'⟩ := j_part hJn hy
  obtain ⟨i3, d3, hi3, rfl, hix3, hd13, hd23, hxd3, hyd3, hfu3⟩ := j_part hJn hz
  simp only [hix, hix', hix3]
  by_cases hxy : nI i = nI i'
  · simp only [if_pos hxy, ite_self]; exact ⟨_, _, _, rfl, rfl, hJ'⟩
  by_cases hyz : nI i' = nI i3
  · simp only [if_neg hxy, if_pos hyz, ite_self]; exact ⟨_, _, _, rfl, rfl, hJ'⟩
  by_cases hxz : nI i = nI i3
  · simp only [if_neg hxy, if_neg hyz, if_pos hxz, ite_self]; exact ⟨_, _, _, rfl, rfl, hJ'⟩
  simp only [if_neg hxy, if_neg hyz, if_neg hxz]
  have hne : i ≠ i' := fun q => hxy (by rw [q])
  have hne2 : i' ≠ i3 := fun q => hyz (by rw [q])
  have hne3 : i ≠ i3 := fun q => hxz (by rw [q])
  rcases hfu with ⟨hf, hu⟩ | ⟨hf, hu⟩
  rotate_left
  · rw [if_pos hf, if_neg (by rw [hu]; decide)]; exact ⟨_, _, _, rfl, rfl, hJ'⟩
  rw [if_neg (by rw [hf]; decide), if_pos hu]
  rcases hfu' with ⟨hf', hu'⟩ | ⟨hf', hu'⟩
  rotate_left
  · rw [if_pos hf', if_neg (by rw [hu']; decide)]; exact ⟨_, _, _, rfl, rfl, hJ'⟩
  rw [if_neg (by rw [hf']; decide), if_pos hu']
  rcases hfu3 with ⟨hf3, hu3⟩ | ⟨hf3, hu3⟩
  rotate_left
  · rw [if_pos hf3, if_neg (by rw [hu3]; decide)]; exact ⟨_, _, _, rfl, rfl, hJ'⟩
  rw [if_neg (by rw [hf3]; decide), if_pos hu3]
  by_cases h6 : n = 60
  · rw [if_pos ((full_iff j2 j1).mpr h6), if_pos ((y60_iff j2 j1).mpr h6)]; exact ⟨_, _, _, rfl, rfl, hJ'⟩
  rw [if_neg (fun h => h6 ((full_iff j2 j1).mp h)), if_neg (fun h => h6 ((y60_iff j2 j1).mp h))]
  have ho : p_over X (nI i) (nI i') (nI i3) = 1 + nI (max d (max d' d3)) := by
    unfold p_over
    rw [hix, hix', hix3, hxd, hxd', hxd3, mx_nI (by omega) (by omega), mx_nI (by omega) (by omega)]
  have ht1 : ∀ a : Nat, a ≤ 12 → m_ter1 Y kd (nI i) (nI i') (nI i3) (nI a) = if a = 12 then ((-5 : Int32), Y) else m_make Y (40 + kd) 0 (nI i) (nI i') (nI i3) (nI (a + 1)) := fun a ha => by
    unfold m_ter1
    rw [← nI_succ]
    simp only [eq_12 ha]
  have ht2 : ∀ a : Nat, a ≤ 12 → m_ter2 Y kd (nI i) (nI i') (nI i3) (nI a) = m_ter1 Y kd (nI i) (nI i') (nI i3) (nI (max a d3)) := fun a ha => by
    unfold m_ter2
    rw [hix3, hyd3]
    by_cases hlt : a < d3
    · rw [if_pos (nI_lt hlt (by omega)), Nat.max_eq_right (by omega)]
    · rw [if_neg (nI_nlt (by omega) (by omega)), Nat.max_eq_left (by omega)]
  have hm : (if y_d Y i' < y_d Y i then m_ter2 Y kd (nI i) (nI i') (nI i3) (y_d Y i) else m_ter2 Y kd (nI i) (nI i') (nI i3) (y_d Y i')) = if max d (max d' d3) = 12 then ((-5 : Int32), Y) else m_make Y (40 + kd) 0 (nI i) (nI i') (nI i3) (nI (max d (max d' d3) + 1)) := by
    rw [hyd, hyd']
    by_cases hlt : d' < d
    · rw [if_pos (nI_lt hlt (by omega)), ht2 d hd2, ht1 _ (by omega), show max d d3 = max d (max d' d3) by omega]
    · rw [if_neg (nI_nlt (by omega) (by omega)), ht2 d' hd2', ht1 _ (by omega), show max d (max d' d3) = max d' d3 by omega]
  rw [ho, hm]
  have hmx : max d (max d' d3) ≤ 12 := by omega
  by_cases h12 : max d (max d' d3) = 12
  · rw [if_pos ((over_12 hmx).mpr h12), if_pos h12]; exact ⟨_, _, _, rfl, rfl, hJ'⟩
  rw [if_neg (fun h => h12 ((over_12 hmx).mp h)), if_neg h12]
  obtain ⟨k, hk2, rfl⟩ := bel_of (n := 2) hk rfl (by decide)
  have e6 : (18 : Int32) + nI k = nI (18 + k) := nI_add 18 k
  have e20 : (40 : Int32) + nI k = nI (40 + k) := nI_add 40 k
  have hk' : k = 0 ∨ k = 1 := by omega
  have hkc : t_kc (nI (18 + k)) = nI (40 + k) := by rcases hk' with rfl | rfl <;> rfl
  have hka : ka (nI (18 + k)) = 3 := by rcases hk' with rfl | rfl <;> rfl
  rw [e6, e20]
  have h60 : n < 60 := by omega
  have hin : ix (nI n) = n := ix_nI (by omega)
  obtain ⟨m1, m2, m3, m4, m5, m6, m7, m8, m9, m10, m11⟩ := mk_rows Y (nI (40 + k)) 0 (nI i) (nI i') (nI i3) (nI (max d (max d' d3) + 1))
  rw [j3] at m1 m2 m3 m4 m6 m10 m11
  rw [hin] at m2 m10 m11
  simp only [if_neg (nI_pos (n := i) (by omega)), if_neg (nI_pos (n := i') (by omega)), if_neg (nI_pos (n := i3) (by omega)), hix, hix', hix3] at m11
  have hnm9 : nI (18 + k) = 1 ∨ nI (18 + k) = 2 → vp_in 0 8 := fun h => by
    rcases h with h | h
    · have : 18 + k = 1 := (nI_eq (b := 1) (by omega) (by decide)).mp h
      omega
    · have : 18 + k = 2 := (nI_eq (b := 2) (by omega) (by decide)).mp h
      omega
  have hu9 : y_u (m_make Y (nI (40 + k)) 0 (nI i) (nI i') (nI i3) (nI (max d (max d' d3) + 1))).2 n = 0 ∧ ∀ a, a < n → ((a = i ∨ a = i' ∨ a = i3) → y_u (m_make Y (nI (40 + k)) 0 (nI i) (nI i') (nI i3) (nI (max d (max d' d3) + 1))).2 a = 1) ∧ (¬ (a = i ∨ a = i' ∨ a = i3) → y_u (m_make Y (nI (40 + k)) 0 (nI i) (nI i') (nI i3) (nI (max d (max d' d3) + 1))).2 a = y_u Y a) := by
    refine ⟨by rw [m11, pk_un (by omega), pk_un (by omega), pk_un (by omega)]; exact pk_us, fun a ha => ⟨fun h => ?_, fun h => ?_⟩⟩
    · rw [m11]
      by_cases ha3 : a = i3
      · rw [ha3]; exact pk_us
      rw [pk_un ha3]
      by_cases ha' : a = i'
      · rw [ha']; exact pk_us
      · have : a = i := by rcases h with h | h | h <;> first | exact h | exact absurd h ha' | exact absurd h ha3
        rw [pk_un ha', this]; exact pk_us
    · rw [m11, pk_un (fun q => h (Or.inr (Or.inr q))), pk_un (fun q => h (Or.inr (Or.inl q))), pk_un (fun q => h (Or.inl q)), pk_un (by omega)]
  obtain ⟨r1, r2⟩ := j_over (D := max d (max d' d3)) (Y' := (m_make Y (nI (40 + k)) 0 (nI i) (nI i') (nI i3) (nI (max d (max d' d3) + 1))).2) (kd := nI (18 + k)) (v := 0) hJn h60 ⟨18 + k, by omega, rfl⟩ hnm9 hi hi' hi3 hf hf' hf3 hxd hxd' hxd3 rfl (by omega) rfl (by rw [m2, hkc]) m3 (fun j hj b hb => by rw [m4]; exact p3_out h60 hj b hb) m5 (by rw [m6, nI_succ]) m7 m8 m9 m10 (by rw [m4]; exact (p3_in h60).1) (fun _ => ⟨by rw [m4]; exact (p3_in h60).2.1, hne⟩) (fun _ => ⟨by rw [m4]; exact (p3_in h60).2.2, hne3, hne2⟩) hu9
  exact ⟨nI n, _, _, by rw [← r1], by rw [← m1], r2⟩
end
section
/-! One call of `next` on both sides; the reading calls; set and begin. -/
theorem nm_step (T : zT) (e w : Int32) (s : zR) (j : Nat) (hj : ¬ t_k T j = 40) : r_nm (q_step T e w s).2 j = r_nm s j := by
  have ask : ∀ (e i th : Int32) (s : zR), r_nm (q_ask T e i th s).2 = r_nm s := fun _ _ _ _ => rfl
  have first : ∀ (e i th : Int32) (s : zR), r_nm (q_first T e i th s).2 = r_nm s := fun _ _ _ _ => rfl
  have paid : ∀ (v : Int32) (s : zR), r_nm (q_paid T v s).2 = r_nm s := fun v s => by unfold q_paid; split <;> rfl
  have on : ∀ (e : Int32) (s : zR), r_nm (q_on T e s).2 = r_nm s := fun e s => by
    unfold q_on
    dsimp only
    by_cases hc : (if 0 < r_kp s (ix (3 * e + 2)) then decide (r_kp s (ix (3 * e + 1)) < r_kp s (ix (3 * e))) else decide (r_kp s (ix (3 * e)) < r_kp s (ix (3 * e + 1)))) = true
    · rw [if_pos hc]; exact ask _ _ _ _
    · rw [if_neg hc]; exact (paid _ _).trans rfl
  have leaf : ∀ (e : Int32) (s : zR), r_nm (q_leaf T e s).2 = r_nm s := fun e s => by
    unfold q_leaf
    split
    · rfl
    · exact (paid _ _).trans rfl
  have unary : ∀ (e w : Int32) (s : zR), r_nm (q_unary T e w s).2 = r_nm s := fun e w s => by
    unfold q_unary
    simp only []
    repeat' split
    all_goals rfl
  have pair : ∀ (e w : Int32) (s : zR), r_nm (q_pair T e w s).2 = r_nm s := fun e w s => by
    unfold q_pair
    simp only []
    repeat' split
    all_goals rfl
  have limit : ∀ (e w : Int32) (s : zR), r_nm (q_limit T e w s).2 = r_nm s := fun e w s => by
    unfold q_limit
    simp only []
    repeat' split
    all_goals rfl
  have binary : ∀ (e w : Int32) (s : zR), r_nm (q_binary T e w s).2 = r_nm s := fun e w s => by
    unfold q_binary
    simp only []
    repeat' split
    all_goals first | exact limit _ _ _ | rfl
  have iff : ∀ (e w : Int32) (s : zR), r_nm (q_if T e w s).2 = r_nm s := fun e w s => by
    unfold q_if
    simp only []
    repeat' split
    all_goals rfl
  unfold q_step
  simp only []
  split
  · rw [leaf]
  split
  · rw [unary]
  split
  · rw [pair]
  split
  · rw [binary]
  split
  · rename_i hk
    have hne : j ≠ ix e := fun q => hj (by rw [q]; exact hk)
    unfold q_to
    simp only []
    split
    · split
      · rfl
      · rw [on]
    split
    · split <;> rfl
    split
    · exact pk_un hne
    split
    · rfl
    split
    · rfl
    · rw [on]; rfl
  · rw [iff]
theorem nm_turn (T : zT) (a : zR × Int32) (j : Nat) (hj : ¬ t_k T j = 40) : r_nm (q_turn T a).1 j = r_nm a.1 j := by
  unfold q_turn
  simp only []
  split
  · exact nm_step T _ _ _ j hj
  · exact nm_step T _ _ _ j hj
theorem nm_go {T : zT} : ∀ (m : Nat) (a b : zR × Int32), Go T m a b → ∀ j, ¬ t_k T j = 40 → r_nm b.1 j = r_nm a.1 j
  | 0, a, b, h, j, _ => by have h : a = b := h; rw [h]
  | m + 1, a, b, h, j, hj => (nm_go m _ b h.2.2 j hj).trans (nm_turn T a j hj)
theorem kc_40 {k : Nat} (hk : k < 20) (h : t_kc (nI k) = 40) : nI k = 18 := by
  have : k = 0 ∨ k = 1 ∨ k = 2 ∨ k = 3 ∨ k = 4 ∨ k = 5 ∨ k = 6 ∨ k = 7 ∨ k = 8 ∨ k = 9 ∨ k = 10 ∨ k = 11 ∨ k = 12 ∨ k = 13 ∨ k = 14 ∨ k = 15 ∨ k = 16 ∨ k = 17 ∨ k = 18 ∨ k = 19 := by omega
  rcases this with rfl | rfl | rfl | rfl | rfl | rfl | rfl | rfl | rfl | rfl | rfl | rfl | rfl | rfl | rfl | rfl | rfl | rfl | rfl | rfl <;> first | rfl | exact absurd h (by decide)
theorem nm_keep {F : zF} {T : zT} {r r' : zR} (hK : Kd F T) (hN : Nm F r) (h : ∀ j, ¬ t_k T j = 40 → r_nm r' j = r_nm r j) : Nm F r' := fun j hj => by
  rw [h j, hN j hj]
  intro q
  obtain ⟨⟨k, hk, e⟩, e2⟩ := hK j
  rw [e2, e] at q
  exact hj (e.trans (kc_40 hk q))
theorem j_vx {X : zX} {Y : zY} (h : zJ X Y) : VX X := by
  obtain ⟨n, f, q, j1, j2, j3, jF, jK, jN, jg, jO, ⟨g1, g2, w, hw, g3⟩, -⟩ := h
  exact ⟨⟨n, j1, j2⟩, w, hw, g3⟩
theorem j_vt {X : zX} {Y : zY} (h : zJ X Y) : VT (y_T Y) X := by
  obtain ⟨n, f, q, j1, j2, j3, jF, jK, jN, jg, jO, ⟨g1, g2, w, hw, g3⟩, jl, jR⟩ := h
  refine ⟨⟨n, j1, j2⟩, ⟨w, hw, g3⟩, fun h1 => ?_⟩
  rcases jR with ⟨h, -⟩ | ⟨i, hi, hb, -, -⟩
  · rw [h] at h1; exact absurd h1 (by decide)
  · obtain ⟨⟨d, d1, d2, -, -, d5⟩, -, -⟩ := jF.1 i hi
    rw [hb]
    exact Tr_m d2 d5
theorem j_vy {X : zX} {Y : zY} (h : zJ X Y) : VY Y := by
  obtain ⟨n, f, q, j1, j2, j3, jF, jK, jN, jg, jO, ⟨g1, g2, w, hw, g3⟩, -⟩ := h
  exact ⟨⟨n, j1, j3⟩, w, hw, by rw [jg]; exact g3⟩
theorem zK_12 {n : Nat} (h : n ≤ 2000) : zK 12 n ≤ 480000 := by unfold zK; omega
theorem j_proc {X : zX} {Y : zY} (hJ : zJ X Y) : ∃ v X' Y', p_proc 1000000 X = (v, X') ∧ NxtY Y v Y' ∧ zJ X' Y' := by
  obtain ⟨n, f, q, hJn⟩ := hJ
  have hJ' : zJ X Y := ⟨n, f, q, hJn⟩
  obtain ⟨j1, j2, j3, jF, jK, jN, jg, jO, jG, jl, jR⟩ := hJn
  rcases jR with ⟨ha, hb⟩ | ⟨i, hi, hb, hyb, ⟨ha, he, p, hI, hp⟩ | ⟨ha, he, h2⟩⟩
  · refine ⟨-1, X, Y, ?_, Or.inl ⟨by rw [hb]; decide, rfl, rfl⟩, hJ'⟩
    unfold p_proc
    rw [if_neg (by rw [ha]; decide), ha]
  · have hn0 : ¬ y_b Y < 0 := by rw [hyb]; exact nI_pos (by omega)
    obtain ⟨⟨d, d1, d2, -, -, d5⟩, -, -⟩ := jF.1 i hi
    have hT : Tr (x_F X) (y_T Y) 12 (nI i) := Tr_m d2 d5
    have hU : zUp (x_F X) f 0 (nI i) (x_c X) (r_0 Y) q := ⟨jN, jg, jG, rfl, rfl, hyb⟩
    have hI0 : Idl (x_F X) 12 (nI i) (x_c X) (r_0 Y) p := by
      rcases hI with h | h
      · exact Or.inl h
      · exact Or.inr (Lv_cong (c := x_c X) (r := y_r Y) 12 (nI i) p (fun j _ => ⟨rfl, rfl, rfl, rfl, rfl, rfl, rfl, rfl⟩) h)
    obtain ⟨q', hq, hF, hout⟩ := sim_all jO 12 0 (nI i) (x_c X) (r_0 Y) p q hT (by decide) hU hI0
    have hpe : p_proc 1000000 X = (let z := p_all (x_F X) 1000000 12 (nI i) (x_c X); if z.1 = 1 then (z.1, X_l (X_a (X_c X z.2) z.1) (c_rs z.2 (ix (nI i)))) else (z.1, X_a (X_c X z.2) z.1)) := by
      unfold p_proc
      rw [if_pos ha, hb]
    generalize p_all (x_F X) 1000000 12 (nI i) (x_c X) = z at hF hout hpe
    obtain ⟨v, c'⟩ := z
    have hf := jO.2.2.1
    rcases hout with ⟨hv, hn, m, r', p', hGo, ⟨k1, k2, k3, k4, k5, k6⟩, hR, hgv, hL, hm⟩ | ⟨hv, -, m, r', hGo, ⟨k1, k2, k3, k4, k5, k6⟩, hR, hm⟩ | ⟨hv, hG', m, r', w, hGo, ⟨b1, b2, b3⟩, hm⟩
    · have hv : v = 1 := hv
      subst hv
      have hz := zK_12 (n := q') (by have := k3.2.1; omega)
      refine ⟨1, X_l (X_a (X_c X c') 1) (c_rs c' (ix (nI i))), Y_l (Y_r Y r') (r_gv r'), by rw [hpe]; rfl, Or.inr (Or.inr ⟨hn0, he, m, r', 1, by omega, hGo, Or.inl ⟨k5, Or.inr ⟨by decide, rfl, rfl⟩⟩⟩), n, f, q', j1, j2, j3, jF, jK, k1, k2, jO, k3, hgv.symm, Or.inr ⟨i, hi, hb, hyb, Or.inl ⟨rfl, he, p', Or.inr hL, by omega⟩⟩⟩
    · have hv : v = 0 := hv
      subst hv
      have hz := zK_12 (n := q') (by have := k3.2.1; omega)
      refine ⟨0, X_a (X_c X c') 0, Y_e (Y_r Y r') 0, by rw [hpe]; rfl, Or.inr (Or.inr ⟨hn0, he, m, r', 2, by omega, hGo, Or.inl ⟨k5, Or.inl ⟨rfl, rfl, rfl⟩⟩⟩), n, f, q', j1, j2, j3, jF, jK, k1, k2, jO, k3, jl, Or.inr ⟨i, hi, hb, hyb, Or.inr ⟨by show ¬ (0 : Int32) = 1; decide, rfl, by show ¬ (0 : Int32) = 2; decide⟩⟩⟩
    · have hv : v < 0 := hv
      have hz := zK_12 (n := q') (by have := hG'.2.1; omega)
      have hb2 : r_er (q_step (y_T Y) (r_sk r' (ix (r_tp r' - 1))) w r').2 = v := b2
      have hb3 : r_g (q_step (y_T Y) (r_sk r' (ix (r_tp r' - 1))) w r').2 = c_g c' := b3
      have hne : ¬ v = 2 := fun q => by rw [q] at hv; exact absurd hv (by decide)
      refine ⟨v, X_a (X_c X c') v, Y_e (Y_r Y (q_step (y_T Y) (r_sk r' (ix (r_tp r' - 1))) w r').2) v, by rw [hpe]; simp only [if_neg (neg1 hv)], Or.inr (Or.inr ⟨hn0, he, m, r', w, by omega, hGo, Or.inr ⟨b1, neg0 hv, hb2, rfl⟩⟩), n, f, q', j1, j2, j3, jF, jK, ?_, hb3, jO, hG', jl, Or.inr ⟨i, hi, hb, hyb, Or.inr ⟨neg1 hv, rfl, hne⟩⟩⟩
      exact nm_keep jK jN fun j hj => (nm_step _ _ _ _ j hj).trans (nm_go m _ _ hGo j hj)
  · refine ⟨x_a X, X, Y, ?_, Or.inr (Or.inl ⟨by rw [hyb]; exact nI_pos (by omega), h2, he.symm, rfl⟩), hJ'⟩
    unfold p_proc
    rw [if_neg ha]
theorem lv_same {F : zF} {e : Int32} {c c' : zC} {r r' : zR} {p : Nat} (h : Idl F 12 e c r p) (hA : ∀ D : Nat → Prop, Ag D c c' r r') : Idl F 12 e c' r' p := by
  rcases h with ⟨h1, h2, h3⟩ | h
  · obtain ⟨e1, -, -, e4, -⟩ := hA (fun _ => True) (ix e) trivial
    exact Or.inl ⟨e1.trans h1, e4.trans h2, h3⟩
  · exact Or.inr (Lv_cong 12 _ _ (hA _) h)
theorem j_set {X : zX} {Y : zY} (hJ : zJ X Y) (x v : Int32) : ∃ w X' Y', p_set X x v = (w, X') ∧ m_set Y x v = (w, Y') ∧ zJ X' Y' := by
  have hJ' := hJ
  obtain ⟨n, f, q, j1, j2, j3, jF, jK, jN, jg, jO, jG, jl, jR⟩ := hJ
  unfold p_set m_set
  rw [with_c7]
  by_cases h : p_bel x 8 = true
  · rw [if_pos h, if_pos h]
    refine ⟨_, _, Y_q Y (fun r => u_g r (h_va (r_g r) x v)), rfl, by rw [jg], n, f, q, j1, j2, j3, jF, jK, jN, ?_, jO, jG, jl, ?_⟩
    · show h_va (r_g (y_r Y)) x v = h_va (c_g (x_c X)) x v
      rw [jg]
    · rcases jR with h | ⟨i, hi, hb, hyb, ⟨ha, he, p, hI, hp⟩ | h⟩
      · exact Or.inl h
      · exact Or.inr ⟨i, hi, hb, hyb, Or.inl ⟨ha, he, p, lv_same hI fun D j _ => ⟨rfl, rfl, rfl, rfl, rfl, rfl, rfl, rfl⟩, hp⟩⟩
      · exact Or.inr ⟨i, hi, hb, hyb, Or.inr h⟩
  · rw [if_neg h, if_neg h]
    exact ⟨_, _, _, rfl, rfl, hJ'⟩
theorem fo_cong {F F' : zF} {T T' : zT} {n : Nat} {dp fr yd yu : Nat → Int32} (h : Fo F T n dp fr yd yu) (hA : ∀ D : Nat → Prop, AgF D F F' T T') : Fo F' T' n dp fr yd yu := by
  obtain ⟨h1, h2⟩ := h
  have hc : ∀ e j, Sb F' 12 e j ↔ Sb F 12 e j := fun e j => Sb_cong 12 e j (hA _)
  refine ⟨fun i hi => ?_, fun i i' hi hi' hne hf hf' j hj hj' => h2 i i' hi hi' hne hf hf' j ((hc _ _).mp hj) ((hc _ _).mp hj')⟩
  obtain ⟨⟨d, d1, d2, d3, d4, d5⟩, g2, g3⟩ := h1 i hi
  exact ⟨⟨d, d1, d2, d3, d4, Tr_cong d _ (hA _) d5⟩, fun j hj => g2 j ((hc _ _).mp hj), g3⟩
theorem j_begin {X : zX} {Y : zY} (hJ : zJ X Y) (x v : Int32) : ∃ w X' Y', p_begin X x v = (w, X') ∧ m_begin Y x v = (w, Y') ∧ zJ X' Y' := by
  have hJ' := hJ
  obtain ⟨n, f, q, j1, j2, j3, jF, jK, jN, jg, jO, jG, jl, jR⟩ := hJ
  unfold p_begin m_begin
  rw [with_bel j3 (by omega), with_c2000, show p_bel x (y_n Y) = p_bel x (x_n X) by rw [j2, j3]]
  by_cases h : p_bel x (x_n X) = true
  rotate_left
  · rw [if_neg h, if_neg h]; exact ⟨_, _, _, rfl, rfl, hJ'⟩
  rw [if_pos h, if_pos h]
  obtain ⟨i, hi, rfl⟩ := bel_of h j2 (by omega)
  have hix : ix (nI i) = i := ix_nI (by omega)
  rw [hix]
  rcases (jF.1 i hi).2.2 with ⟨hf, hu⟩ | ⟨hf, hu⟩
  rotate_left
  · rw [if_pos hf, if_neg (by rw [hu]; decide)]; exact ⟨_, _, _, rfl, rfl, hJ'⟩
  rw [if_neg (by rw [hf]; decide), if_pos hu]
  by_cases hv : p_bel v 2001 = true
  rotate_left
  · rw [if_neg hv, if_neg hv]; exact ⟨_, _, _, rfl, rfl, hJ'⟩
  rw [if_pos hv, if_pos hv]
  obtain ⟨k, hk, rfl⟩ := bel_of (n := 2001) hv rfl (by decide)
  refine ⟨_, _, _, rfl, rfl, n, k, 0, j1, j2, j3, ?_, jK, jN, ?_, ⟨rfl, rfl, by omega, jO.2.2.2⟩, ⟨rfl, Nat.zero_le _, 0, by omega, rfl⟩, rfl, Or.inr ⟨i, hi, rfl, rfl, Or.inl ⟨rfl, rfl, 0, Or.inl ⟨?_, ?_, rfl⟩, Nat.zero_le _⟩⟩⟩
  · exact fo_cong jF fun D j _ => ⟨rfl, rfl, rfl, rfl, rfl, rfl, rfl, rfl, rfl⟩
  · show h_wc (h_c (r_g (y_r Y)) 0) 0 = h_wc (h_c (c_g (x_c X)) 0) 0
    rw [jg]
  · exact pk_us
  · exact pk_us
theorem j_about {X : zX} {Y : zY} (hJ : zJ X Y) (x : Int32) : p_about X x = m_about Y x := by
  obtain ⟨n, f, q, j1, j2, j3, jF, -⟩ := hJ
  unfold p_about m_about
  rw [with_bel j3 (by omega), show p_bel x (y_n Y) = p_bel x (x_n X) by rw [j2, j3]]
  by_cases h : p_bel x (x_n X) = true
  rotate_left
  · rw [if_neg h, if_neg h]
  rw [if_pos h, if_pos h]
  obtain ⟨i, hi, rfl⟩ := bel_of h j2 (by omega)
  rw [ix_nI (by omega)]
  obtain ⟨⟨d, d1, d2, d3, d4, d5⟩, -, h3⟩ := jF.1 i hi
  rw [d3, d4]
  rcases h3 with ⟨hf, hu⟩ | ⟨hf, hu⟩
  · rw [if_neg (by rw [hf]; decide), if_pos hu]
  · rw [if_pos hf, if_neg (by rw [hu]; decide)]
theorem j_count {X : zX} {Y : zY} (hJ : zJ X Y) : x_n X = y_n Y := by
  obtain ⟨n, f, q, j1, j2, j3, -⟩ := hJ
  rw [j2, j3]
theorem j_g {X : zX} {Y : zY} (hJ : zJ X Y) : r_g (y_r Y) = c_g (x_c X) := by
  obtain ⟨n, f, q, j1, j2, j3, jF, jK, jN, jg, -⟩ := hJ
  exact jg
theorem j_l {X : zX} {Y : zY} (hJ : zJ X Y) : x_l X = y_l Y := by
  obtain ⟨n, f, q, j1, j2, j3, jF, jK, jN, jg, jO, jG, jl, -⟩ := hJ
  exact jl
theorem j_var {X : zX} {Y : zY} (hJ : zJ X Y) (x : Int32) : p_var X x = m_var Y x := by
  unfold p_var m_var
  rw [with_c7, j_g hJ]
theorem j_written {X : zX} {Y : zY} (hJ : zJ X Y) (x : Int32) : p_written X x = m_written Y x := by
  obtain ⟨n, f, q, j1, j2, j3, jF, jK, jN, jg, jO, ⟨g1, g2, w, hw, g3⟩, -⟩ := hJ
  unfold p_written m_written
  rw [jg, with_bel g3 (by omega)]
/-- two rows of calls that agree stop alike -/
theorem sk_same {S S' : Type} {sq : Nat → S} {sq' : Nat → S'} {an : Nat → Int32} {n r r' : Int32} {u : S} {u' : S'} (h : Sk sq an n r u) (h' : Sk sq' an n r' u') : r = r' ∧ ∃ j, u = sq j ∧ u' = sq' j := by
  obtain ⟨j, rfl, hl, he⟩ := h
  obtain ⟨j', rfl, hl', he'⟩ := h'
  have hjj : j = j' := by
    rcases Nat.lt_trichotomy j j' with h | h | h
    · obtain ⟨a, b⟩ := hl' j h
      rcases he with ⟨c, -⟩ | ⟨-, c, -⟩
      · exact absurd b c
      · exact absurd a c
    · exact h
    · obtain ⟨a, b⟩ := hl j' h
      rcases he' with ⟨c, -⟩ | ⟨-, c, -⟩
      · exact absurd b c
      · exact absurd a c
  subst hjj
  refine ⟨rfl, ?_⟩
  rcases he with ⟨c, hu⟩ | ⟨c, -, hu⟩ <;> rcases he' with ⟨c', hu'⟩ | ⟨c', -, hu'⟩
  · exact ⟨j, hu, hu'⟩
  · exact absurd c' c
  · exact absurd c c'
  · exact ⟨j + 1, hu, hu'⟩
end
section
-- ===== PART A: goes FIRST, ahead of the names: the tables' words, and 'selects' of the private methods out of them =====
/-- a private method of a class that the tables say can be made, by its rows of tables_1 -/
def lw_okq (q : MethodName × Nat) : Prop := (q.1.cls ≠ "java/lang/invoke/MethodHandle" ∧ q.1.cls ≠ "java/lang/invoke/VarHandle") ∧ Cond.instantiable q.1.cls q.2 ∈ tables_1 ∧ Cond.privateMethod q.1 ∈ tables_1 ∧ Cond.instanceMethod q.1 ∈ tables_1
theorem lw_p0 : lw_okq (⟨"GoalSearch", "join", "(IIIIIZ)I"⟩, 2) := ⟨⟨by decide +kernel, by decide +kernel⟩, List.mem_of_getElem? (i := 7) (by decide +kernel), List.mem_of_getElem? (i := 132) (by decide +kernel), List.mem_of_getElem? (i := 133) (by decide +kernel)⟩
theorem lw_p1 : lw_okq (⟨"GoalSearch$Search", "start", "(I)V"⟩, 12) := ⟨⟨by decide +kernel, by decide +kernel⟩, List.mem_of_getElem? (i := 15) (by decide +kernel), List.mem_of_getElem? (i := 186) (by decide +kernel), List.mem_of_getElem? (i := 187) (by decide +kernel)⟩
theorem lw_p2 : lw_okq (⟨"GoalSearch$Search", "ask", "(I)I"⟩, 12) := ⟨⟨by decide +kernel, by decide +kernel⟩, List.mem_of_getElem? (i := 15) (by decide +kernel), List.mem_of_getElem? (i := 198) (by decide +kernel), List.mem_of_getElem? (i := 199) (by decide +kernel)⟩
theorem lw_p3 : lw_okq (⟨"GoalSearch$Search", "askLeaf", "(II)I"⟩, 12) := ⟨⟨by decide +kernel, by decide +kernel⟩, List.mem_of_getElem? (i := 15) (by decide +kernel), List.mem_of_getElem? (i := 202) (by decide +kernel), List.mem_of_getElem? (i := 203) (by decide +kernel)⟩
theorem lw_p4 : lw_okq (⟨"GoalSearch$Search", "giveForFuel", "(II)I"⟩, 12) := ⟨⟨by decide +kernel, by decide +kernel⟩, List.mem_of_getElem? (i := 15) (by decide +kernel), List.mem_of_getElem? (i := 206) (by decide +kernel), List.mem_of_getElem? (i := 207) (by decide +kernel)⟩
theorem lw_p5 : lw_okq (⟨"GoalSearch$Search", "give", "(II)I"⟩, 12) := ⟨⟨by decide +kernel, by decide +kernel⟩, List.mem_of_getElem? (i := 15) (by decide +kernel), List.mem_of_getElem? (i := 210) (by decide +kernel), List.mem_of_getElem? (i := 211) (by decide +kernel)⟩
theorem lw_p6 : lw_okq (⟨"GoalSearch$Search", "askAssign", "(I)I"⟩, 12) := ⟨⟨by decide +kernel, by decide +kernel⟩, List.mem_of_getElem? (i := 15) (by decide +kernel), List.mem_of_getElem? (i := 214) (by decide +kernel), List.mem_of_getElem? (i := 215) (by decide +kernel)⟩
theorem lw_p7 : lw_okq (⟨"GoalSearch$Search", "askX", "(I)I"⟩, 12) := ⟨⟨by decide +kernel, by decide +kernel⟩, List.mem_of_getElem? (i := 15) (by decide +kernel), List.mem_of_getElem? (i := 218) (by decide +kernel), List.mem_of_getElem? (i := 219) (by decide +kernel)⟩
theorem lw_p8 : lw_okq (⟨"GoalSearch$Search", "handUp", "(III)I"⟩, 12) := ⟨⟨by decide +kernel, by decide +kernel⟩, List.mem_of_getElem? (i := 15) (by decide +kernel), List.mem_of_getElem? (i := 222) (by decide +kernel), List.mem_of_getElem? (i := 223) (by decide +kernel)⟩
theorem lw_p9 : lw_okq (⟨"GoalSearch$Search", "askWrite", "(I)I"⟩, 12) := ⟨⟨by decide +kernel, by decide +kernel⟩, List.mem_of_getElem? (i := 15) (by decide +kernel), List.mem_of_getElem? (i := 226) (by decide +kernel), List.mem_of_getElem? (i := 227) (by decide +kernel)⟩
theorem lw_p10 : lw_okq (⟨"GoalSearch$Search", "askNot", "(I)I"⟩, 12) := ⟨⟨by decide +kernel, by decide +kernel⟩, List.mem_of_getElem? (i := 15) (by decide +kernel), List.mem_of_getElem? (i := 230) (by decide +kernel), List.mem_of_getElem? (i := 231) (by decide +kernel)⟩
theorem lw_p11 : lw_okq (⟨"GoalSearch$Search", "tryOnce", "(I)I"⟩, 12) := ⟨⟨by decide +kernel, by decide +kernel⟩, List.mem_of_getElem? (i := 15) (by decide +kernel), List.mem_of_getElem? (i := 234) (by decide +kernel), List.mem_of_getElem? (i := 235) (by decide +kernel)⟩
theorem lw_p12 : lw_okq (⟨"GoalSearch$Search", "askAgain", "(I)I"⟩, 12) := ⟨⟨by decide +kernel, by decide +kernel⟩, List.mem_of_getElem? (i := 15) (by decide +kernel), List.mem_of_getElem? (i := 238) (by decide +kernel), List.mem_of_getElem? (i := 239) (by decide +kernel)⟩
theorem lw_p13 : lw_okq (⟨"GoalSearch$Search", "askEither", "(I)I"⟩, 12) := ⟨⟨by decide +kernel, by decide +kernel⟩, List.mem_of_getElem? (i := 15) (by decide +kernel), List.mem_of_getElem? (i := 242) (by decide +kernel), List.mem_of_getElem? (i := 243) (by decide +kernel)⟩
theorem lw_p14 : lw_okq (⟨"GoalSearch$Search", "askPair", "(I)I"⟩, 12) := ⟨⟨by decide +kernel, by decide +kernel⟩, List.mem_of_getElem? (i := 15) (by decide +kernel), List.mem_of_getElem? (i := 246) (by decide +kernel), List.mem_of_getElem? (i := 247) (by decide +kernel)⟩
theorem lw_p15 : lw_okq (⟨"GoalSearch$Search", "askArithmetic", "(I)I"⟩, 12) := ⟨⟨by decide +kernel, by decide +kernel⟩, List.mem_of_getElem? (i := 15) (by decide +kernel), List.mem_of_getElem? (i := 251) (by decide +kernel), List.mem_of_getElem? (i := 252) (by decide +kernel)⟩
def lw_privs_1 : List (MethodName × Nat) := [(⟨"GoalSearch", "join", "(IIIIIZ)I"⟩, 2), (⟨"GoalSearch$Search", "start", "(I)V"⟩, 12), (⟨"GoalSearch$Search", "ask", "(I)I"⟩, 12), (⟨"GoalSearch$Search", "askLeaf", "(II)I"⟩, 12), (⟨"GoalSearch$Search", "giveForFuel", "(II)I"⟩, 12), (⟨"GoalSearch$Search", "give", "(II)I"⟩, 12), (⟨"GoalSearch$Search", "askAssign", "(I)I"⟩, 12), (⟨"GoalSearch$Search", "askX", "(I)I"⟩, 12), (⟨"GoalSearch$Search", "handUp", "(III)I"⟩, 12), (⟨"GoalSearch$Search", "askWrite", "(I)I"⟩, 12), (⟨"GoalSearch$Search", "askNot", "(I)I"⟩, 12), (⟨"GoalSearch$Search", "tryOnce", "(I)I"⟩, 12), (⟨"GoalSearch$Search", "askAgain", "(I)I"⟩, 12), (⟨"GoalSearch$Search", "askEither", "(I)I"⟩, 12), (⟨"GoalSearch$Search", "askPair", "(I)I"⟩, 12), (⟨"GoalSearch$Search", "askArithmetic", "(I)I"⟩, 12)]
theorem lw_r1 : ∀ q ∈ lw_privs_1, lw_okq q := List.forall_mem_cons.mpr ⟨lw_p0, List.forall_mem_cons.mpr ⟨lw_p1, List.forall_mem_cons.mpr ⟨lw_p2, List.forall_mem_cons.mpr ⟨lw_p3, List.forall_mem_cons.mpr ⟨lw_p4, List.forall_mem_cons.mpr ⟨lw_p5, List.forall_mem_cons.mpr ⟨lw_p6, List.forall_mem_cons.mpr ⟨lw_p7, List.forall_mem_cons.mpr ⟨lw_p8, List.forall_mem_cons.mpr ⟨lw_p9, List.forall_mem_cons.mpr ⟨lw_p10, List.forall_mem_cons.mpr ⟨lw_p11, List.forall_mem_cons.mpr ⟨lw_p12, List.forall_mem_cons.mpr ⟨lw_p13, List.forall_mem_cons.mpr ⟨lw_p14, List.forall_mem_cons.mpr ⟨lw_p15, fun _ h => absurd h List.not_mem_nil⟩⟩⟩⟩⟩⟩⟩⟩⟩⟩⟩⟩⟩⟩⟩⟩
theorem lw_p16 : lw_okq (⟨"GoalSearch$Search", "askComparison", "(I)I"⟩, 12) := ⟨⟨by decide +kernel, by decide +kernel⟩, List.mem_of_getElem? (i := 15) (by decide +kernel), List.mem_of_getElem? (i := 258) (by decide +kernel), List.mem_of_getElem? (i := 259) (by decide +kernel)⟩
theorem lw_p17 : lw_okq (⟨"GoalSearch$Search", "askLimit", "(I)I"⟩, 12) := ⟨⟨by decide +kernel, by decide +kernel⟩, List.mem_of_getElem? (i := 15) (by decide +kernel), List.mem_of_getElem? (i := 265) (by decide +kernel), List.mem_of_getElem? (i := 266) (by decide +kernel)⟩
theorem lw_p18 : lw_okq (⟨"GoalSearch$Search", "askBound", "(I)I"⟩, 12) := ⟨⟨by decide +kernel, by decide +kernel⟩, List.mem_of_getElem? (i := 15) (by decide +kernel), List.mem_of_getElem? (i := 269) (by decide +kernel), List.mem_of_getElem? (i := 270) (by decide +kernel)⟩
theorem lw_p19 : lw_okq (⟨"GoalSearch$Search", "askEveryOrWhile", "(I)I"⟩, 12) := ⟨⟨by decide +kernel, by decide +kernel⟩, List.mem_of_getElem? (i := 15) (by decide +kernel), List.mem_of_getElem? (i := 273) (by decide +kernel), List.mem_of_getElem? (i := 274) (by decide +kernel)⟩
theorem lw_p20 : lw_okq (⟨"GoalSearch$Search", "askThen", "(I)I"⟩, 12) := ⟨⟨by decide +kernel, by decide +kernel⟩, List.mem_of_getElem? (i := 15) (by decide +kernel), List.mem_of_getElem? (i := 277) (by decide +kernel), List.mem_of_getElem? (i := 278) (by decide +kernel)⟩
theorem lw_p21 : lw_okq (⟨"GoalSearch$Search", "askTo", "(I)I"⟩, 12) := ⟨⟨by decide +kernel, by decide +kernel⟩, List.mem_of_getElem? (i := 15) (by decide +kernel), List.mem_of_getElem? (i := 281) (by decide +kernel), List.mem_of_getElem? (i := 282) (by decide +kernel)⟩
theorem lw_p22 : lw_okq (⟨"GoalSearch$Search", "askTriple", "(I)I"⟩, 12) := ⟨⟨by decide +kernel, by decide +kernel⟩, List.mem_of_getElem? (i := 15) (by decide +kernel), List.mem_of_getElem? (i := 285) (by decide +kernel), List.mem_of_getElem? (i := 286) (by decide +kernel)⟩
theorem lw_p23 : lw_okq (⟨"GoalSearch$Search", "isUpToEnd", "(I)Z"⟩, 12) := ⟨⟨by decide +kernel, by decide +kernel⟩, List.mem_of_getElem? (i := 15) (by decide +kernel), List.mem_of_getElem? (i := 289) (by decide +kernel), List.mem_of_getElem? (i := 290) (by decide +kernel)⟩
theorem lw_p24 : lw_okq (⟨"GoalSearch$Search", "askIf", "(I)I"⟩, 12) := ⟨⟨by decide +kernel, by decide +kernel⟩, List.mem_of_getElem? (i := 15) (by decide +kernel), List.mem_of_getElem? (i := 293) (by decide +kernel), List.mem_of_getElem? (i := 294) (by decide +kernel)⟩
theorem lw_p25 : lw_okq (⟨"GoalSearch$Search", "branch", "(I)I"⟩, 12) := ⟨⟨by decide +kernel, by decide +kernel⟩, List.mem_of_getElem? (i := 15) (by decide +kernel), List.mem_of_getElem? (i := 297) (by decide +kernel), List.mem_of_getElem? (i := 298) (by decide +kernel)⟩
theorem lw_p26 : lw_okq (⟨"GoalSearchModel", "make", "(IIIIII)I"⟩, 20) := ⟨⟨by decide +kernel, by decide +kernel⟩, List.mem_of_getElem? (i := 322) (by decide +kernel), List.mem_of_getElem? (i := 396) (by decide +kernel), List.mem_of_getElem? (i := 397) (by decide +kernel)⟩
theorem lw_p27 : lw_okq (⟨"GoalSearchModel", "is", "(I)Z"⟩, 20) := ⟨⟨by decide +kernel, by decide +kernel⟩, List.mem_of_getElem? (i := 322) (by decide +kernel), List.mem_of_getElem? (i := 404) (by decide +kernel), List.mem_of_getElem? (i := 405) (by decide +kernel)⟩
theorem lw_p28 : lw_okq (⟨"GoalSearchModel", "step", "(II)I"⟩, 20) := ⟨⟨by decide +kernel, by decide +kernel⟩, List.mem_of_getElem? (i := 322) (by decide +kernel), List.mem_of_getElem? (i := 441) (by decide +kernel), List.mem_of_getElem? (i := 442) (by decide +kernel)⟩
theorem lw_p29 : lw_okq (⟨"GoalSearchModel", "leafStep", "(I)I"⟩, 20) := ⟨⟨by decide +kernel, by decide +kernel⟩, List.mem_of_getElem? (i := 322) (by decide +kernel), List.mem_of_getElem? (i := 445) (by decide +kernel), List.mem_of_getElem? (i := 446) (by decide +kernel)⟩
theorem lw_p30 : lw_okq (⟨"GoalSearchModel", "paid", "(I)I"⟩, 20) := ⟨⟨by decide +kernel, by decide +kernel⟩, List.mem_of_getElem? (i := 322) (by decide +kernel), List.mem_of_getElem? (i := 449) (by decide +kernel), List.mem_of_getElem? (i := 450) (by decide +kernel)⟩
theorem lw_p31 : lw_okq (⟨"GoalSearchModel", "give", "(I)I"⟩, 20) := ⟨⟨by decide +kernel, by decide +kernel⟩, List.mem_of_getElem? (i := 322) (by decide +kernel), List.mem_of_getElem? (i := 453) (by decide +kernel), List.mem_of_getElem? (i := 454) (by decide +kernel)⟩
def lw_privs_2 : List (MethodName × Nat) := [(⟨"GoalSearch$Search", "askComparison", "(I)I"⟩, 12), (⟨"GoalSearch$Search", "askLimit", "(I)I"⟩, 12), (⟨"GoalSearch$Search", "askBound", "(I)I"⟩, 12), (⟨"GoalSearch$Search", "askEveryOrWhile", "(I)I"⟩, 12), (⟨"GoalSearch$Search", "askThen", "(I)I"⟩, 12), (⟨"GoalSearch$Search", "askTo", "(I)I"⟩, 12), (⟨"GoalSearch$Search", "askTriple", "(I)I"⟩, 12), (⟨"GoalSearch$Search", "isUpToEnd", "(I)Z"⟩, 12), (⟨"GoalSearch$Search", "askIf", "(I)I"⟩, 12), (⟨"GoalSearch$Search", "branch", "(I)I"⟩, 12), (⟨"GoalSearchModel", "make", "(IIIIII)I"⟩, 20), (⟨"GoalSearchModel", "is", "(I)Z"⟩, 20), (⟨"GoalSearchModel", "step", "(II)I"⟩, 20), (⟨"GoalSearchModel", "leafStep", "(I)I"⟩, 20), (⟨"GoalSearchModel", "paid", "(I)I"⟩, 20), (⟨"GoalSearchModel", "give", "(I)I"⟩, 20)]
theorem lw_r2 : ∀ q ∈ lw_privs_2, lw_okq q := List.forall_mem_cons.mpr ⟨lw_p16, List.forall_mem_cons.mpr ⟨lw_p17, List.forall_mem_cons.mpr ⟨lw_p18, List.forall_mem_cons.mpr ⟨lw_p19, List.forall_mem_cons.mpr ⟨lw_p20, List.forall_mem_cons.mpr ⟨lw_p21, List.forall_mem_cons.mpr ⟨lw_p22, List.forall_mem_cons.mpr ⟨lw_p23, List.forall_mem_cons.mpr ⟨lw_p24, List.forall_mem_cons.mpr ⟨lw_p25, List.forall_mem_cons.mpr ⟨lw_p26, List.forall_mem_cons.mpr ⟨lw_p27, List.forall_mem_cons.mpr ⟨lw_p28, List.forall_mem_cons.mpr ⟨lw_p29, List.forall_mem_cons.mpr ⟨lw_p30, List.forall_mem_cons.mpr ⟨lw_p31, fun _ h => absurd h List.not_mem_nil⟩⟩⟩⟩⟩⟩⟩⟩⟩⟩⟩⟩⟩⟩⟩⟩
theorem lw_p32 : lw_okq (⟨"GoalSearchModel", "unaryStep", "(II)I"⟩, 20) := ⟨⟨by decide +kernel, by decide +kernel⟩, List.mem_of_getElem? (i := 322) (by decide +kernel), List.mem_of_getElem? (i := 457) (by decide +kernel), List.mem_of_getElem? (i := 458) (by decide +kernel)⟩
theorem lw_p33 : lw_okq (⟨"GoalSearchModel", "first", "(III)I"⟩, 20) := ⟨⟨by decide +kernel, by decide +kernel⟩, List.mem_of_getElem? (i := 322) (by decide +kernel), List.mem_of_getElem? (i := 461) (by decide +kernel), List.mem_of_getElem? (i := 462) (by decide +kernel)⟩
theorem lw_p34 : lw_okq (⟨"GoalSearchModel", "ask", "(III)I"⟩, 20) := ⟨⟨by decide +kernel, by decide +kernel⟩, List.mem_of_getElem? (i := 322) (by decide +kernel), List.mem_of_getElem? (i := 465) (by decide +kernel), List.mem_of_getElem? (i := 466) (by decide +kernel)⟩
theorem lw_p35 : lw_okq (⟨"GoalSearchModel", "pairStep", "(II)I"⟩, 20) := ⟨⟨by decide +kernel, by decide +kernel⟩, List.mem_of_getElem? (i := 322) (by decide +kernel), List.mem_of_getElem? (i := 469) (by decide +kernel), List.mem_of_getElem? (i := 470) (by decide +kernel)⟩
theorem lw_p36 : lw_okq (⟨"GoalSearchModel", "binaryStep", "(II)I"⟩, 20) := ⟨⟨by decide +kernel, by decide +kernel⟩, List.mem_of_getElem? (i := 322) (by decide +kernel), List.mem_of_getElem? (i := 473) (by decide +kernel), List.mem_of_getElem? (i := 474) (by decide +kernel)⟩
theorem lw_p37 : lw_okq (⟨"GoalSearchModel", "limit", "(II)I"⟩, 20) := ⟨⟨by decide +kernel, by decide +kernel⟩, List.mem_of_getElem? (i := 322) (by decide +kernel), List.mem_of_getElem? (i := 477) (by decide +kernel), List.mem_of_getElem? (i := 478) (by decide +kernel)⟩
theorem lw_p38 : lw_okq (⟨"GoalSearchModel", "toStep", "(II)I"⟩, 20) := ⟨⟨by decide +kernel, by decide +kernel⟩, List.mem_of_getElem? (i := 322) (by decide +kernel), List.mem_of_getElem? (i := 481) (by decide +kernel), List.mem_of_getElem? (i := 482) (by decide +kernel)⟩
theorem lw_p39 : lw_okq (⟨"GoalSearchModel", "onward", "(I)I"⟩, 20) := ⟨⟨by decide +kernel, by decide +kernel⟩, List.mem_of_getElem? (i := 322) (by decide +kernel), List.mem_of_getElem? (i := 485) (by decide +kernel), List.mem_of_getElem? (i := 486) (by decide +kernel)⟩
theorem lw_p40 : lw_okq (⟨"GoalSearchModel", "choose", "(II)I"⟩, 20) := ⟨⟨by decide +kernel, by decide +kernel⟩, List.mem_of_getElem? (i := 322) (by decide +kernel), List.mem_of_getElem? (i := 489) (by decide +kernel), List.mem_of_getElem? (i := 490) (by decide +kernel)⟩
def lw_privs_3 : List (MethodName × Nat) := [(⟨"GoalSearchModel", "unaryStep", "(II)I"⟩, 20), (⟨"GoalSearchModel", "first", "(III)I"⟩, 20), (⟨"GoalSearchModel", "ask", "(III)I"⟩, 20), (⟨"GoalSearchModel", "pairStep", "(II)I"⟩, 20), (⟨"GoalSearchModel", "binaryStep", "(II)I"⟩, 20), (⟨"GoalSearchModel", "limit", "(II)I"⟩, 20), (⟨"GoalSearchModel", "toStep", "(II)I"⟩, 20), (⟨"GoalSearchModel", "onward", "(I)I"⟩, 20), (⟨"GoalSearchModel", "choose", "(II)I"⟩, 20)]
theorem lw_r3 : ∀ q ∈ lw_privs_3, lw_okq q := List.forall_mem_cons.mpr ⟨lw_p32, List.forall_mem_cons.mpr ⟨lw_p33, List.forall_mem_cons.mpr ⟨lw_p34, List.forall_mem_cons.mpr ⟨lw_p35, List.forall_mem_cons.mpr ⟨lw_p36, List.forall_mem_cons.mpr ⟨lw_p37, List.forall_mem_cons.mpr ⟨lw_p38, List.forall_mem_cons.mpr ⟨lw_p39, List.forall_mem_cons.mpr ⟨lw_p40, fun _ h => absurd h List.not_mem_nil⟩⟩⟩⟩⟩⟩⟩⟩⟩
def lw_privs : List (MethodName × Nat) := lw_privs_1 ++ (lw_privs_2 ++ (lw_privs_3))
def lw_tbl : List Cond := k2_sels lw_privs ++ tables_1
theorem lw_privs_ok : ∀ q ∈ lw_privs, lw_okq q := by
  show ∀ q ∈ lw_privs_1 ++ (lw_privs_2 ++ (lw_privs_3)), lw_okq q
  exact List.forall_mem_append.mpr ⟨lw_r1, List.forall_mem_append.mpr ⟨lw_r2, lw_r3⟩⟩
-- ===== end of PART A; then your names; then what follows =====
end
section
/-! names: by a program of my own out of the listing and the tables -/
def R_L : String := "GoalSearchLaw"
def R_F : String := "GoalSearch$Forest"
def T_F : u_T := fun k => match k with
  | 0 => ("GoalSearch$Forest", "kind", "[I", true)
  | 1 => ("GoalSearch$Forest", "number", "[I", true)
  | 2 => ("GoalSearch$Forest", "partX", "[I", true)
  | 3 => ("GoalSearch$Forest", "partY", "[I", true)
  | 4 => ("GoalSearch$Forest", "partZ", "[I", true)
  | 5 => ("GoalSearch$Forest", "depth", "[I", true)
  | 6 => ("GoalSearch$Forest", "free", "[Z", true)
  | _ => ("GoalSearch$Forest", "count", "I", false)
def t_F : Nat → FieldType := fun k => match k with
  | 0 => .array .int
  | 1 => .array .int
  | 2 => .array .int
  | 3 => .array .int
  | 4 => .array .int
  | 5 => .array .int
  | 6 => .array .boolean
  | _ => .int
theorem n_F : ∀ a, a < 8 → ∀ b, b < 8 → a ≠ b → (T_F a).2.1 ≠ (T_F b).2.1 := by decide +kernel
theorem t_F_ok : ∀ k, k < 8 → parseFieldDescriptor (T_F k).2.2.1 = some (t_F k) := by decide +kernel
def R_S : String := "GoalSearch$Search"
def T_S : u_T := fun k => match k with
  | 0 => ("GoalSearch$Search", "forest", "LGoalSearch$Forest;", true)
  | 1 => ("GoalSearch$Search", "stage", "[I", true)
  | 2 => ("GoalSearch$Search", "result", "[I", true)
  | 3 => ("GoalSearch$Search", "counter", "[J", true)
  | 4 => ("GoalSearch$Search", "variables", "[I", true)
  | 5 => ("GoalSearch$Search", "wrote", "[I", true)
  | 6 => ("GoalSearch$Search", "writeCount", "I", false)
  | 7 => ("GoalSearch$Search", "spent", "I", false)
  | 8 => ("GoalSearch$Search", "latest", "I", false)
  | 9 => ("GoalSearch$Search", "fuel", "I", false)
  | 10 => ("GoalSearch$Search", "begun", "I", false)
  | _ => ("GoalSearch$Search", "lastAnswer", "I", false)
def t_S : Nat → FieldType := fun k => match k with
  | 0 => .object "GoalSearch$Forest"
  | 1 => .array .int
  | 2 => .array .int
  | 3 => .array .long
  | 4 => .array .int
  | 5 => .array .int
  | 6 => .int
  | 7 => .int
  | 8 => .int
  | 9 => .int
  | 10 => .int
  | _ => .int
theorem n_S : ∀ a, a < 12 → ∀ b, b < 12 → a ≠ b → (T_S a).2.1 ≠ (T_S b).2.1 := by decide +kernel
theorem t_S_ok : ∀ k, k < 12 → parseFieldDescriptor (T_S k).2.2.1 = some (t_S k) := by decide +kernel
def R_G : String := "GoalSearch"
def T_G : u_T := fun k => match k with
  | 0 => ("GoalSearch", "search", "LGoalSearch$Search;", true)
  | _ => ("GoalSearch", "forest", "LGoalSearch$Forest;", true)
def t_G : Nat → FieldType := fun k => match k with
  | 0 => .object "GoalSearch$Search"
  | _ => .object "GoalSearch$Forest"
theorem n_G : ∀ a, a < 2 → ∀ b, b < 2 → a ≠ b → (T_G a).2.1 ≠ (T_G b).2.1 := by decide +kernel
theorem t_G_ok : ∀ k, k < 2 → parseFieldDescriptor (T_G k).2.2.1 = some (t_G k) := by decide +kernel
def R_M : String := "GoalSearchModel"
def T_M : u_T := fun k => match k with
  | 0 => ("GoalSearchModel", "count", "I", false)
  | 1 => ("GoalSearchModel", "kind", "[I", true)
  | 2 => ("GoalSearchModel", "number", "[I", true)
  | 3 => ("GoalSearchModel", "part", "[I", true)
  | 4 => ("GoalSearchModel", "depth", "[I", true)
  | 5 => ("GoalSearchModel", "used", "[Z", true)
  | 6 => ("GoalSearchModel", "phase", "[I", true)
  | 7 => ("GoalSearchModel", "kept", "[J", true)
  | 8 => ("GoalSearchModel", "variable", "[I", true)
  | 9 => ("GoalSearchModel", "texts", "[I", true)
  | 10 => ("GoalSearchModel", "textCount", "I", false)
  | 11 => ("GoalSearchModel", "begun", "I", false)
  | 12 => ("GoalSearchModel", "end", "I", false)
  | 13 => ("GoalSearchModel", "fuel", "I", false)
  | 14 => ("GoalSearchModel", "cost", "I", false)
  | 15 => ("GoalSearchModel", "latest", "I", false)
  | 16 => ("GoalSearchModel", "stack", "[I", true)
  | 17 => ("GoalSearchModel", "top", "I", false)
  | 18 => ("GoalSearchModel", "given", "I", false)
  | _ => ("GoalSearchModel", "error", "I", false)
def t_M : Nat → FieldType := fun k => match k with
  | 0 => .int
  | 1 => .array .int
  | 2 => .array .int
  | 3 => .array .int
  | 4 => .array .int
  | 5 => .array .boolean
  | 6 => .array .int
  | 7 => .array .long
  | 8 => .array .int
  | 9 => .array .int
  | 10 => .int
  | 11 => .int
  | 12 => .int
  | 13 => .int
  | 14 => .int
  | 15 => .int
  | 16 => .array .int
  | 17 => .int
  | 18 => .int
  | _ => .int
theorem n_M : ∀ a, a < 20 → ∀ b, b < 20 → a ≠ b → (T_M a).2.1 ≠ (T_M b).2.1 := by decide +kernel
theorem t_M_ok : ∀ k, k < 20 → parseFieldDescriptor (T_M k).2.2.1 = some (t_M k) := by decide +kernel
abbrev vwCl : List vw_C := [(R_F, T_F, 8), (R_S, T_S, 12), (R_G, T_G, 2), (R_M, T_M, 20)]
abbrev b_G_init : ByteArray := prog_1_method_1_code
def y_G_init : MethodName := ⟨R_G, "<init>", "()V"⟩
abbrev b_S_init : ByteArray := prog_3_method_1_code
def y_S_init : MethodName := ⟨R_S, "<init>", "()V"⟩
abbrev b_F_init : ByteArray := prog_2_method_1_code
def y_F_init : MethodName := ⟨R_F, "<init>", "()V"⟩
abbrev b_G_leaf : ByteArray := prog_1_method_2_code
def y_G_leaf : MethodName := ⟨R_G, "leaf", "(II)I"⟩
abbrev b_G_isBelow : ByteArray := prog_1_method_17_code
def y_G_isBelow : MethodName := ⟨R_G, "isBelow", "(II)Z"⟩
abbrev b_F_isFull : ByteArray := prog_2_method_3_code
def y_F_isFull : MethodName := ⟨R_F, "isFull", "()Z"⟩
abbrev b_F_addLeaf : ByteArray := prog_2_method_5_code
def y_F_addLeaf : MethodName := ⟨R_F, "addLeaf", "(II)I"⟩
abbrev b_G_unary : ByteArray := prog_1_method_3_code
def y_G_unary : MethodName := ⟨R_G, "unary", "(III)I"⟩
abbrev b_G_join : ByteArray := prog_1_method_18_code
def y_G_join : MethodName := ⟨R_G, "join", "(IIIIIZ)I"⟩
abbrev b_F_has : ByteArray := prog_2_method_2_code
def y_F_has : MethodName := ⟨R_F, "has", "(I)Z"⟩
abbrev b_F_depthOver : ByteArray := prog_2_method_4_code
def y_F_depthOver : MethodName := ⟨R_F, "depthOver", "(III)I"⟩
abbrev b_F_addOver : ByteArray := prog_2_method_6_code
def y_F_addOver : MethodName := ⟨R_F, "addOver", "(IIIII)I"⟩
abbrev b_G_binary : ByteArray := prog_1_method_4_code
def y_G_binary : MethodName := ⟨R_G, "binary", "(III)I"⟩
abbrev b_G_ternary : ByteArray := prog_1_method_5_code
def y_G_ternary : MethodName := ⟨R_G, "ternary", "(IIII)I"⟩
abbrev b_G_expressions : ByteArray := prog_1_method_6_code
def y_G_expressions : MethodName := ⟨R_G, "expressions", "()I"⟩
abbrev b_G_about : ByteArray := prog_1_method_7_code
def y_G_about : MethodName := ⟨R_G, "about", "(I)I"⟩
abbrev b_G_set : ByteArray := prog_1_method_8_code
def y_G_set : MethodName := ⟨R_G, "set", "(II)I"⟩
abbrev b_G_variable : ByteArray := prog_1_method_9_code
def y_G_variable : MethodName := ⟨R_G, "variable", "(I)I"⟩
abbrev b_G_begin : ByteArray := prog_1_method_10_code
def y_G_begin : MethodName := ⟨R_G, "begin", "(II)I"⟩
abbrev b_S_open : ByteArray := prog_3_method_2_code
def y_S_open : MethodName := ⟨R_S, "open", "(II)V"⟩
abbrev b_S_start : ByteArray := prog_3_method_4_code
def y_S_start : MethodName := ⟨R_S, "start", "(I)V"⟩
abbrev b_G_next : ByteArray := prog_1_method_11_code
def y_G_next : MethodName := ⟨R_G, "next", "()I"⟩
abbrev b_S_proceed : ByteArray := prog_3_method_3_code
def y_S_proceed : MethodName := ⟨R_S, "proceed", "()I"⟩
abbrev b_S_ask : ByteArray := prog_3_method_6_code
def y_S_ask : MethodName := ⟨R_S, "ask", "(I)I"⟩
abbrev b_S_askLeaf : ByteArray := prog_3_method_10_code
def y_S_askLeaf : MethodName := ⟨R_S, "askLeaf", "(II)I"⟩
abbrev b_S_giveForFuel : ByteArray := prog_3_method_8_code
def y_S_giveForFuel : MethodName := ⟨R_S, "giveForFuel", "(II)I"⟩
abbrev b_S_give : ByteArray := prog_3_method_7_code
def y_S_give : MethodName := ⟨R_S, "give", "(II)I"⟩
abbrev b_S_askAssign : ByteArray := prog_3_method_12_code
def y_S_askAssign : MethodName := ⟨R_S, "askAssign", "(I)I"⟩
abbrev b_S_askX : ByteArray := prog_3_method_11_code
def y_S_askX : MethodName := ⟨R_S, "askX", "(I)I"⟩
abbrev b_S_handUp : ByteArray := prog_3_method_9_code
def y_S_handUp : MethodName := ⟨R_S, "handUp", "(III)I"⟩
abbrev b_S_askWrite : ByteArray := prog_3_method_13_code
def y_S_askWrite : MethodName := ⟨R_S, "askWrite", "(I)I"⟩
abbrev b_S_askNot : ByteArray := prog_3_method_14_code
def y_S_askNot : MethodName := ⟨R_S, "askNot", "(I)I"⟩
abbrev b_S_tryOnce : ByteArray := prog_3_method_5_code
def y_S_tryOnce : MethodName := ⟨R_S, "tryOnce", "(I)I"⟩
abbrev b_S_askAgain : ByteArray := prog_3_method_15_code
def y_S_askAgain : MethodName := ⟨R_S, "askAgain", "(I)I"⟩
abbrev b_S_askEither : ByteArray := prog_3_method_16_code
def y_S_askEither : MethodName := ⟨R_S, "askEither", "(I)I"⟩
abbrev b_S_askPair : ByteArray := prog_3_method_17_code
def y_S_askPair : MethodName := ⟨R_S, "askPair", "(I)I"⟩
abbrev b_S_askArithmetic : ByteArray := prog_3_method_18_code
def y_S_askArithmetic : MethodName := ⟨R_S, "askArithmetic", "(I)I"⟩
abbrev b_S_calculate : ByteArray := prog_3_method_19_code
def y_S_calculate : MethodName := ⟨R_S, "calculate", "(IJJ)J"⟩
abbrev b_S_askComparison : ByteArray := prog_3_method_20_code
def y_S_askComparison : MethodName := ⟨R_S, "askComparison", "(I)I"⟩
abbrev b_S_holds : ByteArray := prog_3_method_21_code
def y_S_holds : MethodName := ⟨R_S, "holds", "(III)Z"⟩
abbrev b_S_askLimit : ByteArray := prog_3_method_22_code
def y_S_askLimit : MethodName := ⟨R_S, "askLimit", "(I)I"⟩
abbrev b_S_askBound : ByteArray := prog_3_method_23_code
def y_S_askBound : MethodName := ⟨R_S, "askBound", "(I)I"⟩
abbrev b_S_askEveryOrWhile : ByteArray := prog_3_method_24_code
def y_S_askEveryOrWhile : MethodName := ⟨R_S, "askEveryOrWhile", "(I)I"⟩
abbrev b_S_askThen : ByteArray := prog_3_method_25_code
def y_S_askThen : MethodName := ⟨R_S, "askThen", "(I)I"⟩
abbrev b_S_askTo : ByteArray := prog_3_method_28_code
def y_S_askTo : MethodName := ⟨R_S, "askTo", "(I)I"⟩
abbrev b_S_askTriple : ByteArray := prog_3_method_30_code
def y_S_askTriple : MethodName := ⟨R_S, "askTriple", "(I)I"⟩
abbrev b_S_isUpToEnd : ByteArray := prog_3_method_29_code
def y_S_isUpToEnd : MethodName := ⟨R_S, "isUpToEnd", "(I)Z"⟩
abbrev b_S_askIf : ByteArray := prog_3_method_26_code
def y_S_askIf : MethodName := ⟨R_S, "askIf", "(I)I"⟩
abbrev b_S_branch : ByteArray := prog_3_method_27_code
def y_S_branch : MethodName := ⟨R_S, "branch", "(I)I"⟩
abbrev b_G_skip : ByteArray := prog_1_method_12_code
def y_G_skip : MethodName := ⟨R_G, "skip", "(I)I"⟩
abbrev b_G_value : ByteArray := prog_1_method_13_code
def y_G_value : MethodName := ⟨R_G, "value", "()I"⟩
abbrev b_G_writes : ByteArray := prog_1_method_14_code
def y_G_writes : MethodName := ⟨R_G, "writes", "()I"⟩
abbrev b_G_written : ByteArray := prog_1_method_15_code
def y_G_written : MethodName := ⟨R_G, "written", "(I)J"⟩
abbrev b_G_cost : ByteArray := prog_1_method_16_code
def y_G_cost : MethodName := ⟨R_G, "cost", "()I"⟩
abbrev b_M_init : ByteArray := prog_5_method_1_code
def y_M_init : MethodName := ⟨R_M, "<init>", "()V"⟩
abbrev b_M_leaf : ByteArray := prog_5_method_5_code
def y_M_leaf : MethodName := ⟨R_M, "leaf", "(II)I"⟩
abbrev b_M_within : ByteArray := prog_5_method_2_code
def y_M_within : MethodName := ⟨R_M, "within", "(III)Z"⟩
abbrev b_M_make : ByteArray := prog_5_method_4_code
def y_M_make : MethodName := ⟨R_M, "make", "(IIIIII)I"⟩
abbrev b_M_unary : ByteArray := prog_5_method_6_code
def y_M_unary : MethodName := ⟨R_M, "unary", "(III)I"⟩
abbrev b_M_is : ByteArray := prog_5_method_3_code
def y_M_is : MethodName := ⟨R_M, "is", "(I)Z"⟩
abbrev b_M_binary : ByteArray := prog_5_method_7_code
def y_M_binary : MethodName := ⟨R_M, "binary", "(III)I"⟩
abbrev b_M_ternary : ByteArray := prog_5_method_8_code
def y_M_ternary : MethodName := ⟨R_M, "ternary", "(IIII)I"⟩
abbrev b_M_expressions : ByteArray := prog_5_method_9_code
def y_M_expressions : MethodName := ⟨R_M, "expressions", "()I"⟩
abbrev b_M_about : ByteArray := prog_5_method_10_code
def y_M_about : MethodName := ⟨R_M, "about", "(I)I"⟩
abbrev b_M_set : ByteArray := prog_5_method_11_code
def y_M_set : MethodName := ⟨R_M, "set", "(II)I"⟩
abbrev b_M_variable : ByteArray := prog_5_method_12_code
def y_M_variable : MethodName := ⟨R_M, "variable", "(I)I"⟩
abbrev b_M_begin : ByteArray := prog_5_method_13_code
def y_M_begin : MethodName := ⟨R_M, "begin", "(II)I"⟩
abbrev b_M_next : ByteArray := prog_5_method_27_code
def y_M_next : MethodName := ⟨R_M, "next", "()I"⟩
abbrev b_M_step : ByteArray := prog_5_method_18_code
def y_M_step : MethodName := ⟨R_M, "step", "(II)I"⟩
abbrev b_M_leafStep : ByteArray := prog_5_method_19_code
def y_M_leafStep : MethodName := ⟨R_M, "leafStep", "(I)I"⟩
abbrev b_M_paid : ByteArray := prog_5_method_15_code
def y_M_paid : MethodName := ⟨R_M, "paid", "(I)I"⟩
abbrev b_M_give : ByteArray := prog_5_method_14_code
def y_M_give : MethodName := ⟨R_M, "give", "(I)I"⟩
abbrev b_M_unaryStep : ByteArray := prog_5_method_20_code
def y_M_unaryStep : MethodName := ⟨R_M, "unaryStep", "(II)I"⟩
abbrev b_M_first : ByteArray := prog_5_method_17_code
def y_M_first : MethodName := ⟨R_M, "first", "(III)I"⟩
abbrev b_M_ask : ByteArray := prog_5_method_16_code
def y_M_ask : MethodName := ⟨R_M, "ask", "(III)I"⟩
abbrev b_M_pairStep : ByteArray := prog_5_method_21_code
def y_M_pairStep : MethodName := ⟨R_M, "pairStep", "(II)I"⟩
abbrev b_M_binaryStep : ByteArray := prog_5_method_22_code
def y_M_binaryStep : MethodName := ⟨R_M, "binaryStep", "(II)I"⟩
abbrev b_M_limit : ByteArray := prog_5_method_23_code
def y_M_limit : MethodName := ⟨R_M, "limit", "(II)I"⟩
abbrev b_M_toStep : ByteArray := prog_5_method_24_code
def y_M_toStep : MethodName := ⟨R_M, "toStep", "(II)I"⟩
abbrev b_M_onward : ByteArray := prog_5_method_25_code
def y_M_onward : MethodName := ⟨R_M, "onward", "(I)I"⟩
abbrev b_M_choose : ByteArray := prog_5_method_26_code
def y_M_choose : MethodName := ⟨R_M, "choose", "(II)I"⟩
abbrev b_M_skip : ByteArray := prog_5_method_28_code
def y_M_skip : MethodName := ⟨R_M, "skip", "(I)I"⟩
abbrev b_M_value : ByteArray := prog_5_method_29_code
def y_M_value : MethodName := ⟨R_M, "value", "()I"⟩
abbrev b_M_writes : ByteArray := prog_5_method_30_code
def y_M_writes : MethodName := ⟨R_M, "writes", "()I"⟩
abbrev b_M_written : ByteArray := prog_5_method_31_code
def y_M_written : MethodName := ⟨R_M, "written", "(I)J"⟩
abbrev b_M_cost : ByteArray := prog_5_method_32_code
def y_M_cost : MethodName := ⟨R_M, "cost", "()I"⟩
def lw_g : List Cond := lw_tbl.filter goodWord
theorem gk {w : Cond} (h : w ∈ lw_tbl) (hg : goodWord w = true) : w ∈ lw_g := List.mem_filter.mpr ⟨h, hg⟩
theorem k_0 : Cond.initialized R_L ∈ lw_g := gk (List.mem_append_right _ (List.mem_of_getElem? (i := 0) (by decide +kernel))) rfl
theorem k_1 : Cond.initialized R_G ∈ lw_g := gk (List.mem_append_right _ (List.mem_of_getElem? (i := 1) (by decide +kernel))) rfl
theorem k_2 : Cond.initialized R_S ∈ lw_g := gk (List.mem_append_right _ (List.mem_of_getElem? (i := 2) (by decide +kernel))) rfl
theorem k_3 : Cond.initialized R_F ∈ lw_g := gk (List.mem_append_right _ (List.mem_of_getElem? (i := 3) (by decide +kernel))) rfl
theorem k_4 : Cond.initialized R_M ∈ lw_g := gk (List.mem_append_right _ (List.mem_of_getElem? (i := 4) (by decide +kernel))) rfl
theorem k_5 : Cond.initialized "java/lang/Math" ∈ lw_g := gk (List.mem_append_right _ (List.mem_of_getElem? (i := 5) (by decide +kernel))) rfl
theorem k_6 : Cond.classLink R_L 7 R_G ∈ lw_g := gk (List.mem_append_right _ (List.mem_of_getElem? (i := 6) (by decide +kernel))) rfl
theorem k_7 : Cond.instantiable R_G 2 ∈ lw_g := gk (List.mem_append_right _ (List.mem_of_getElem? (i := 7) (by decide +kernel))) rfl
theorem k_8 : Cond.methodLink R_L 9 y_G_init ∈ lw_g := gk (List.mem_append_right _ (List.mem_of_getElem? (i := 8) (by decide +kernel))) rfl
theorem k_9 : Cond.instanceMethod y_G_init ∈ lw_g := gk (List.mem_append_right _ (List.mem_of_getElem? (i := 9) (by decide +kernel))) rfl
theorem k_10 : Cond.code y_G_init b_G_init 1 none ∈ lw_g := gk (List.mem_append_right _ (List.mem_of_getElem? (i := 10) (by decide +kernel))) rfl
theorem k_11 : Cond.methodLink R_G 1 objectInit ∈ lw_g := gk (List.mem_append_right _ (List.mem_of_getElem? (i := 11) (by decide +kernel))) rfl
theorem k_12 : Cond.instanceMethod objectInit ∈ lw_g := gk (List.mem_append_right _ (List.mem_of_getElem? (i := 12) (by decide +kernel))) rfl
theorem k_13 : Cond.code objectInit ⟨#[0xb1]⟩ 1 none ∈ lw_g := gk (List.mem_append_right _ (List.mem_of_getElem? (i := 13) (by decide +kernel))) rfl
theorem k_14 : Cond.classLink R_G 7 R_S ∈ lw_g := gk (List.mem_append_right _ (List.mem_of_getElem? (i := 14) (by decide +kernel))) rfl
theorem k_15 : Cond.instantiable R_S 12 ∈ lw_g := gk (List.mem_append_right _ (List.mem_of_getElem? (i := 15) (by decide +kernel))) rfl
theorem kn_16 : Cond.methodLinkNest R_G 9 y_S_init R_G ∈ lw_tbl := List.mem_append_right _ (List.mem_of_getElem? (i := 16) (by decide +kernel))
theorem k_17 : Cond.instanceMethod y_S_init ∈ lw_g := gk (List.mem_append_right _ (List.mem_of_getElem? (i := 17) (by decide +kernel))) rfl
theorem k_18 : Cond.code y_S_init b_S_init 1 none ∈ lw_g := gk (List.mem_append_right _ (List.mem_of_getElem? (i := 18) (by decide +kernel))) rfl
theorem k_19 : Cond.methodLink R_S 1 objectInit ∈ lw_g := gk (List.mem_append_right _ (List.mem_of_getElem? (i := 19) (by decide +kernel))) rfl
theorem k_20 : Cond.classLink R_S 7 R_F ∈ lw_g := gk (List.mem_append_right _ (List.mem_of_getElem? (i := 20) (by decide +kernel))) rfl
theorem k_21 : Cond.instantiable R_F 8 ∈ lw_g := gk (List.mem_append_right _ (List.mem_of_getElem? (i := 21) (by decide +kernel))) rfl
theorem kn_22 : Cond.methodLinkNest R_S 9 y_F_init R_G ∈ lw_tbl := List.mem_append_right _ (List.mem_of_getElem? (i := 22) (by decide +kernel))
theorem k_23 : Cond.instanceMethod y_F_init ∈ lw_g := gk (List.mem_append_right _ (List.mem_of_getElem? (i := 23) (by decide +kernel))) rfl
theorem k_24 : Cond.code y_F_init b_F_init 1 none ∈ lw_g := gk (List.mem_append_right _ (List.mem_of_getElem? (i := 24) (by decide +kernel))) rfl
theorem k_25 : Cond.methodLink R_F 1 objectInit ∈ lw_g := gk (List.mem_append_right _ (List.mem_of_getElem? (i := 25) (by decide +kernel))) rfl
theorem k_26 : Cond.fieldLink R_F 9 R_F "kind" "[I" ∈ lw_g := gk (List.mem_append_right _ (List.mem_of_getElem? (i := 26) (by decide +kernel))) rfl
theorem k_27 : Cond.fieldLink R_S 60 R_F "kind" "[I" ∈ lw_g := gk (List.mem_append_right _ (List.mem_of_getElem? (i := 27) (by decide +kernel))) rfl
theorem k_28 : Cond.fieldLink R_F 13 R_F "number" "[I" ∈ lw_g := gk (List.mem_append_right _ (List.mem_of_getElem? (i := 28) (by decide +kernel))) rfl
theorem k_29 : Cond.fieldLink R_S 63 R_F "number" "[I" ∈ lw_g := gk (List.mem_append_right _ (List.mem_of_getElem? (i := 29) (by decide +kernel))) rfl
theorem k_30 : Cond.fieldLink R_F 16 R_F "partX" "[I" ∈ lw_g := gk (List.mem_append_right _ (List.mem_of_getElem? (i := 30) (by decide +kernel))) rfl
theorem k_31 : Cond.fieldLink R_S 122 R_F "partX" "[I" ∈ lw_g := gk (List.mem_append_right _ (List.mem_of_getElem? (i := 31) (by decide +kernel))) rfl
theorem k_32 : Cond.fieldLink R_F 19 R_F "partY" "[I" ∈ lw_g := gk (List.mem_append_right _ (List.mem_of_getElem? (i := 32) (by decide +kernel))) rfl
theorem k_33 : Cond.fieldLink R_S 85 R_F "partY" "[I" ∈ lw_g := gk (List.mem_append_right _ (List.mem_of_getElem? (i := 33) (by decide +kernel))) rfl
theorem k_34 : Cond.fieldLink R_F 22 R_F "partZ" "[I" ∈ lw_g := gk (List.mem_append_right _ (List.mem_of_getElem? (i := 34) (by decide +kernel))) rfl
theorem k_35 : Cond.fieldLink R_S 146 R_F "partZ" "[I" ∈ lw_g := gk (List.mem_append_right _ (List.mem_of_getElem? (i := 35) (by decide +kernel))) rfl
theorem k_36 : Cond.fieldLink R_F 25 R_F "depth" "[I" ∈ lw_g := gk (List.mem_append_right _ (List.mem_of_getElem? (i := 36) (by decide +kernel))) rfl
theorem k_37 : Cond.fieldLink R_G 47 R_F "depth" "[I" ∈ lw_g := gk (List.mem_append_right _ (List.mem_of_getElem? (i := 37) (by decide +kernel))) rfl
theorem k_38 : Cond.fieldLink R_F 28 R_F "free" "[Z" ∈ lw_g := gk (List.mem_append_right _ (List.mem_of_getElem? (i := 38) (by decide +kernel))) rfl
theorem k_39 : Cond.fieldLink R_G 51 R_F "free" "[Z" ∈ lw_g := gk (List.mem_append_right _ (List.mem_of_getElem? (i := 39) (by decide +kernel))) rfl
theorem k_40 : Cond.fieldLink R_F 32 R_F "count" "I" ∈ lw_g := gk (List.mem_append_right _ (List.mem_of_getElem? (i := 40) (by decide +kernel))) rfl
theorem k_41 : Cond.fieldLink R_G 39 R_F "count" "I" ∈ lw_g := gk (List.mem_append_right _ (List.mem_of_getElem? (i := 41) (by decide +kernel))) rfl
theorem k_42 : Cond.laysFinal R_F R_F "kind" "[I" ∈ lw_g := gk (List.mem_append_right _ (List.mem_of_getElem? (i := 42) (by decide +kernel))) rfl
theorem k_44 : Cond.laysFinal R_F R_F "number" "[I" ∈ lw_g := gk (List.mem_append_right _ (List.mem_of_getElem? (i := 44) (by decide +kernel))) rfl
theorem k_46 : Cond.laysFinal R_F R_F "partX" "[I" ∈ lw_g := gk (List.mem_append_right _ (List.mem_of_getElem? (i := 46) (by decide +kernel))) rfl
theorem k_48 : Cond.laysFinal R_F R_F "partY" "[I" ∈ lw_g := gk (List.mem_append_right _ (List.mem_of_getElem? (i := 48) (by decide +kernel))) rfl
theorem k_50 : Cond.laysFinal R_F R_F "partZ" "[I" ∈ lw_g := gk (List.mem_append_right _ (List.mem_of_getElem? (i := 50) (by decide +kernel))) rfl
theorem k_52 : Cond.laysFinal R_F R_F "depth" "[I" ∈ lw_g := gk (List.mem_append_right _ (List.mem_of_getElem? (i := 52) (by decide +kernel))) rfl
theorem k_54 : Cond.laysFinal R_F R_F "free" "[Z" ∈ lw_g := gk (List.mem_append_right _ (List.mem_of_getElem? (i := 54) (by decide +kernel))) rfl
theorem k_56 : Cond.lays R_F R_F "count" "I" ∈ lw_g := gk (List.mem_append_right _ (List.mem_of_getElem? (i := 56) (by decide +kernel))) rfl
theorem k_59 : Cond.arrayClass .int ∈ lw_g := gk (List.mem_append_right _ (List.mem_of_getElem? (i := 59) (by decide +kernel))) rfl
theorem k_60 : Cond.arrayClass .boolean ∈ lw_g := gk (List.mem_append_right _ (List.mem_of_getElem? (i := 60) (by decide +kernel))) rfl
theorem k_61 : Cond.fieldLink R_S 10 R_S "forest" "LGoalSearch$Forest;" ∈ lw_g := gk (List.mem_append_right _ (List.mem_of_getElem? (i := 61) (by decide +kernel))) rfl
theorem k_62 : Cond.fieldLink R_G 16 R_S "forest" "LGoalSearch$Forest;" ∈ lw_g := gk (List.mem_append_right _ (List.mem_of_getElem? (i := 62) (by decide +kernel))) rfl
theorem k_63 : Cond.fieldLink R_S 16 R_S "stage" "[I" ∈ lw_g := gk (List.mem_append_right _ (List.mem_of_getElem? (i := 63) (by decide +kernel))) rfl
theorem k_64 : Cond.fieldLink R_S 20 R_S "result" "[I" ∈ lw_g := gk (List.mem_append_right _ (List.mem_of_getElem? (i := 64) (by decide +kernel))) rfl
theorem k_65 : Cond.fieldLink R_S 23 R_S "counter" "[J" ∈ lw_g := gk (List.mem_append_right _ (List.mem_of_getElem? (i := 65) (by decide +kernel))) rfl
theorem k_66 : Cond.fieldLink R_S 27 R_S "variables" "[I" ∈ lw_g := gk (List.mem_append_right _ (List.mem_of_getElem? (i := 66) (by decide +kernel))) rfl
theorem k_67 : Cond.fieldLink R_G 55 R_S "variables" "[I" ∈ lw_g := gk (List.mem_append_right _ (List.mem_of_getElem? (i := 67) (by decide +kernel))) rfl
theorem k_68 : Cond.fieldLink R_S 30 R_S "wrote" "[I" ∈ lw_g := gk (List.mem_append_right _ (List.mem_of_getElem? (i := 68) (by decide +kernel))) rfl
theorem k_69 : Cond.fieldLink R_G 72 R_S "wrote" "[I" ∈ lw_g := gk (List.mem_append_right _ (List.mem_of_getElem? (i := 69) (by decide +kernel))) rfl
theorem k_70 : Cond.fieldLink R_S 33 R_S "writeCount" "I" ∈ lw_g := gk (List.mem_append_right _ (List.mem_of_getElem? (i := 70) (by decide +kernel))) rfl
theorem k_71 : Cond.fieldLink R_G 69 R_S "writeCount" "I" ∈ lw_g := gk (List.mem_append_right _ (List.mem_of_getElem? (i := 71) (by decide +kernel))) rfl
theorem k_72 : Cond.fieldLink R_S 37 R_S "spent" "I" ∈ lw_g := gk (List.mem_append_right _ (List.mem_of_getElem? (i := 72) (by decide +kernel))) rfl
theorem k_73 : Cond.fieldLink R_G 77 R_S "spent" "I" ∈ lw_g := gk (List.mem_append_right _ (List.mem_of_getElem? (i := 73) (by decide +kernel))) rfl
theorem k_74 : Cond.fieldLink R_S 40 R_S "latest" "I" ∈ lw_g := gk (List.mem_append_right _ (List.mem_of_getElem? (i := 74) (by decide +kernel))) rfl
theorem k_75 : Cond.fieldLink R_G 66 R_S "latest" "I" ∈ lw_g := gk (List.mem_append_right _ (List.mem_of_getElem? (i := 75) (by decide +kernel))) rfl
theorem k_76 : Cond.fieldLink R_S 43 R_S "fuel" "I" ∈ lw_g := gk (List.mem_append_right _ (List.mem_of_getElem? (i := 76) (by decide +kernel))) rfl
theorem k_77 : Cond.fieldLink R_S 46 R_S "begun" "I" ∈ lw_g := gk (List.mem_append_right _ (List.mem_of_getElem? (i := 77) (by decide +kernel))) rfl
theorem k_78 : Cond.fieldLink R_S 49 R_S "lastAnswer" "I" ∈ lw_g := gk (List.mem_append_right _ (List.mem_of_getElem? (i := 78) (by decide +kernel))) rfl
theorem k_79 : Cond.laysFinal R_S R_S "forest" "LGoalSearch$Forest;" ∈ lw_g := gk (List.mem_append_right _ (List.mem_of_getElem? (i := 79) (by decide +kernel))) rfl
theorem k_81 : Cond.laysFinal R_S R_S "stage" "[I" ∈ lw_g := gk (List.mem_append_right _ (List.mem_of_getElem? (i := 81) (by decide +kernel))) rfl
theorem k_83 : Cond.laysFinal R_S R_S "result" "[I" ∈ lw_g := gk (List.mem_append_right _ (List.mem_of_getElem? (i := 83) (by decide +kernel))) rfl
theorem k_85 : Cond.laysFinal R_S R_S "counter" "[J" ∈ lw_g := gk (List.mem_append_right _ (List.mem_of_getElem? (i := 85) (by decide +kernel))) rfl
theorem k_87 : Cond.laysFinal R_S R_S "variables" "[I" ∈ lw_g := gk (List.mem_append_right _ (List.mem_of_getElem? (i := 87) (by decide +kernel))) rfl
theorem k_89 : Cond.laysFinal R_S R_S "wrote" "[I" ∈ lw_g := gk (List.mem_append_right _ (List.mem_of_getElem? (i := 89) (by decide +kernel))) rfl
theorem k_91 : Cond.lays R_S R_S "writeCount" "I" ∈ lw_g := gk (List.mem_append_right _ (List.mem_of_getElem? (i := 91) (by decide +kernel))) rfl
theorem k_93 : Cond.lays R_S R_S "spent" "I" ∈ lw_g := gk (List.mem_append_right _ (List.mem_of_getElem? (i := 93) (by decide +kernel))) rfl
theorem k_95 : Cond.lays R_S R_S "latest" "I" ∈ lw_g := gk (List.mem_append_right _ (List.mem_of_getElem? (i := 95) (by decide +kernel))) rfl
theorem k_97 : Cond.lays R_S R_S "fuel" "I" ∈ lw_g := gk (List.mem_append_right _ (List.mem_of_getElem? (i := 97) (by decide +kernel))) rfl
theorem k_99 : Cond.lays R_S R_S "begun" "I" ∈ lw_g := gk (List.mem_append_right _ (List.mem_of_getElem? (i := 99) (by decide +kernel))) rfl
theorem k_101 : Cond.lays R_S R_S "lastAnswer" "I" ∈ lw_g := gk (List.mem_append_right _ (List.mem_of_getElem? (i := 101) (by decide +kernel))) rfl
theorem k_104 : Cond.arrayClass .long ∈ lw_g := gk (List.mem_append_right _ (List.mem_of_getElem? (i := 104) (by decide +kernel))) rfl
theorem k_105 : Cond.fieldLink R_G 10 R_G "search" "LGoalSearch$Search;" ∈ lw_g := gk (List.mem_append_right _ (List.mem_of_getElem? (i := 105) (by decide +kernel))) rfl
theorem k_106 : Cond.fieldLink R_G 20 R_G "forest" "LGoalSearch$Forest;" ∈ lw_g := gk (List.mem_append_right _ (List.mem_of_getElem? (i := 106) (by decide +kernel))) rfl
theorem k_107 : Cond.laysFinal R_G R_G "search" "LGoalSearch$Search;" ∈ lw_g := gk (List.mem_append_right _ (List.mem_of_getElem? (i := 107) (by decide +kernel))) rfl
theorem k_109 : Cond.laysFinal R_G R_G "forest" "LGoalSearch$Forest;" ∈ lw_g := gk (List.mem_append_right _ (List.mem_of_getElem? (i := 109) (by decide +kernel))) rfl
theorem k_112 : Cond.methodLink R_L 13 y_G_leaf ∈ lw_g := gk (List.mem_append_right _ (List.mem_of_getElem? (i := 112) (by decide +kernel))) rfl
theorem k_113 : Cond.instanceMethod y_G_leaf ∈ lw_g := gk (List.mem_append_right _ (List.mem_of_getElem? (i := 113) (by decide +kernel))) rfl
theorem k_114 : Cond.selects R_G y_G_leaf y_G_leaf ∈ lw_g := gk (List.mem_append_right _ (List.mem_of_getElem? (i := 114) (by decide +kernel))) rfl
theorem k_115 : Cond.code y_G_leaf b_G_leaf 4 (some .int) ∈ lw_g := gk (List.mem_append_right _ (List.mem_of_getElem? (i := 115) (by decide +kernel))) rfl
theorem k_116 : Cond.methodLink R_G 21 y_G_isBelow ∈ lw_g := gk (List.mem_append_right _ (List.mem_of_getElem? (i := 116) (by decide +kernel))) rfl
theorem k_117 : Cond.static y_G_isBelow ∈ lw_g := gk (List.mem_append_right _ (List.mem_of_getElem? (i := 117) (by decide +kernel))) rfl
theorem k_118 : Cond.code y_G_isBelow b_G_isBelow 2 (some .boolean) ∈ lw_g := gk (List.mem_append_right _ (List.mem_of_getElem? (i := 118) (by decide +kernel))) rfl
theorem k_119 : Cond.methodLink R_G 27 y_F_isFull ∈ lw_g := gk (List.mem_append_right _ (List.mem_of_getElem? (i := 119) (by decide +kernel))) rfl
theorem k_120 : Cond.instanceMethod y_F_isFull ∈ lw_g := gk (List.mem_append_right _ (List.mem_of_getElem? (i := 120) (by decide +kernel))) rfl
theorem k_121 : Cond.selects R_F y_F_isFull y_F_isFull ∈ lw_g := gk (List.mem_append_right _ (List.mem_of_getElem? (i := 121) (by decide +kernel))) rfl
theorem k_122 : Cond.code y_F_isFull b_F_isFull 1 (some .boolean) ∈ lw_g := gk (List.mem_append_right _ (List.mem_of_getElem? (i := 122) (by decide +kernel))) rfl
theorem k_123 : Cond.methodLink R_G 31 y_F_addLeaf ∈ lw_g := gk (List.mem_append_right _ (List.mem_of_getElem? (i := 123) (by decide +kernel))) rfl
theorem k_124 : Cond.instanceMethod y_F_addLeaf ∈ lw_g := gk (List.mem_append_right _ (List.mem_of_getElem? (i := 124) (by decide +kernel))) rfl
theorem k_125 : Cond.selects R_F y_F_addLeaf y_F_addLeaf ∈ lw_g := gk (List.mem_append_right _ (List.mem_of_getElem? (i := 125) (by decide +kernel))) rfl
theorem k_126 : Cond.code y_F_addLeaf b_F_addLeaf 4 (some .int) ∈ lw_g := gk (List.mem_append_right _ (List.mem_of_getElem? (i := 126) (by decide +kernel))) rfl
theorem k_127 : Cond.methodLink R_L 18 y_G_unary ∈ lw_g := gk (List.mem_append_right _ (List.mem_of_getElem? (i := 127) (by decide +kernel))) rfl
theorem k_128 : Cond.instanceMethod y_G_unary ∈ lw_g := gk (List.mem_append_right _ (List.mem_of_getElem? (i := 128) (by decide +kernel))) rfl
theorem k_129 : Cond.selects R_G y_G_unary y_G_unary ∈ lw_g := gk (List.mem_append_right _ (List.mem_of_getElem? (i := 129) (by decide +kernel))) rfl
theorem k_130 : Cond.code y_G_unary b_G_unary 5 (some .int) ∈ lw_g := gk (List.mem_append_right _ (List.mem_of_getElem? (i := 130) (by decide +kernel))) rfl
theorem k_131 : Cond.methodLink R_G 35 y_G_join ∈ lw_g := gk (List.mem_append_right _ (List.mem_of_getElem? (i := 131) (by decide +kernel))) rfl
theorem k_133 : Cond.instanceMethod y_G_join ∈ lw_g := gk (List.mem_append_right _ (List.mem_of_getElem? (i := 133) (by decide +kernel))) rfl
theorem k_134 : Cond.code y_G_join b_G_join 7 (some .int) ∈ lw_g := gk (List.mem_append_right _ (List.mem_of_getElem? (i := 134) (by decide +kernel))) rfl
theorem k_135 : Cond.methodLink R_G 43 y_F_has ∈ lw_g := gk (List.mem_append_right _ (List.mem_of_getElem? (i := 135) (by decide +kernel))) rfl
theorem k_136 : Cond.instanceMethod y_F_has ∈ lw_g := gk (List.mem_append_right _ (List.mem_of_getElem? (i := 136) (by decide +kernel))) rfl
theorem k_137 : Cond.selects R_F y_F_has y_F_has ∈ lw_g := gk (List.mem_append_right _ (List.mem_of_getElem? (i := 137) (by decide +kernel))) rfl
theorem k_138 : Cond.code y_F_has b_F_has 2 (some .boolean) ∈ lw_g := gk (List.mem_append_right _ (List.mem_of_getElem? (i := 138) (by decide +kernel))) rfl
theorem kn_139 : Cond.methodLinkNest R_F 36 y_G_isBelow R_G ∈ lw_tbl := List.mem_append_right _ (List.mem_of_getElem? (i := 139) (by decide +kernel))
theorem k_140 : Cond.methodLink R_G 80 y_F_depthOver ∈ lw_g := gk (List.mem_append_right _ (List.mem_of_getElem? (i := 140) (by decide +kernel))) rfl
theorem k_141 : Cond.instanceMethod y_F_depthOver ∈ lw_g := gk (List.mem_append_right _ (List.mem_of_getElem? (i := 141) (by decide +kernel))) rfl
theorem k_142 : Cond.selects R_F y_F_depthOver y_F_depthOver ∈ lw_g := gk (List.mem_append_right _ (List.mem_of_getElem? (i := 142) (by decide +kernel))) rfl
theorem k_143 : Cond.code y_F_depthOver b_F_depthOver 4 (some .int) ∈ lw_g := gk (List.mem_append_right _ (List.mem_of_getElem? (i := 143) (by decide +kernel))) rfl
theorem k_144 : Cond.methodLink R_F 42 Lib.Math.max.name ∈ lw_g := gk (List.mem_append_right _ (List.mem_of_getElem? (i := 144) (by decide +kernel))) rfl
theorem k_145 : Cond.static Lib.Math.max.name ∈ lw_g := gk (List.mem_append_right _ (List.mem_of_getElem? (i := 145) (by decide +kernel))) rfl
theorem k_146 : Cond.code Lib.Math.max.name Lib.Math.max.code 2 (some .int) ∈ lw_g := gk (List.mem_append_right _ (List.mem_of_getElem? (i := 146) (by decide +kernel))) rfl
theorem k_147 : Cond.methodLink R_G 84 y_F_addOver ∈ lw_g := gk (List.mem_append_right _ (List.mem_of_getElem? (i := 147) (by decide +kernel))) rfl
theorem k_148 : Cond.instanceMethod y_F_addOver ∈ lw_g := gk (List.mem_append_right _ (List.mem_of_getElem? (i := 148) (by decide +kernel))) rfl
theorem k_149 : Cond.selects R_F y_F_addOver y_F_addOver ∈ lw_g := gk (List.mem_append_right _ (List.mem_of_getElem? (i := 149) (by decide +kernel))) rfl
theorem k_150 : Cond.code y_F_addOver b_F_addOver 7 (some .int) ∈ lw_g := gk (List.mem_append_right _ (List.mem_of_getElem? (i := 150) (by decide +kernel))) rfl
theorem k_151 : Cond.methodLink R_F 48 y_F_addLeaf ∈ lw_g := gk (List.mem_append_right _ (List.mem_of_getElem? (i := 151) (by decide +kernel))) rfl
theorem k_152 : Cond.methodLink R_F 51 y_F_depthOver ∈ lw_g := gk (List.mem_append_right _ (List.mem_of_getElem? (i := 152) (by decide +kernel))) rfl
theorem k_153 : Cond.methodLink R_L 23 y_G_binary ∈ lw_g := gk (List.mem_append_right _ (List.mem_of_getElem? (i := 153) (by decide +kernel))) rfl
theorem k_154 : Cond.instanceMethod y_G_binary ∈ lw_g := gk (List.mem_append_right _ (List.mem_of_getElem? (i := 154) (by decide +kernel))) rfl
theorem k_155 : Cond.selects R_G y_G_binary y_G_binary ∈ lw_g := gk (List.mem_append_right _ (List.mem_of_getElem? (i := 155) (by decide +kernel))) rfl
theorem k_156 : Cond.code y_G_binary b_G_binary 4 (some .int) ∈ lw_g := gk (List.mem_append_right _ (List.mem_of_getElem? (i := 156) (by decide +kernel))) rfl
theorem k_157 : Cond.methodLink R_L 27 y_G_ternary ∈ lw_g := gk (List.mem_append_right _ (List.mem_of_getElem? (i := 157) (by decide +kernel))) rfl
theorem k_158 : Cond.instanceMethod y_G_ternary ∈ lw_g := gk (List.mem_append_right _ (List.mem_of_getElem? (i := 158) (by decide +kernel))) rfl
theorem k_159 : Cond.selects R_G y_G_ternary y_G_ternary ∈ lw_g := gk (List.mem_append_right _ (List.mem_of_getElem? (i := 159) (by decide +kernel))) rfl
theorem k_160 : Cond.code y_G_ternary b_G_ternary 5 (some .int) ∈ lw_g := gk (List.mem_append_right _ (List.mem_of_getElem? (i := 160) (by decide +kernel))) rfl
theorem k_161 : Cond.methodLink R_L 32 y_G_expressions ∈ lw_g := gk (List.mem_append_right _ (List.mem_of_getElem? (i := 161) (by decide +kernel))) rfl
theorem k_162 : Cond.instanceMethod y_G_expressions ∈ lw_g := gk (List.mem_append_right _ (List.mem_of_getElem? (i := 162) (by decide +kernel))) rfl
theorem k_163 : Cond.selects R_G y_G_expressions y_G_expressions ∈ lw_g := gk (List.mem_append_right _ (List.mem_of_getElem? (i := 163) (by decide +kernel))) rfl
theorem k_164 : Cond.code y_G_expressions b_G_expressions 1 (some .int) ∈ lw_g := gk (List.mem_append_right _ (List.mem_of_getElem? (i := 164) (by decide +kernel))) rfl
theorem k_165 : Cond.methodLink R_L 37 y_G_about ∈ lw_g := gk (List.mem_append_right _ (List.mem_of_getElem? (i := 165) (by decide +kernel))) rfl
theorem k_166 : Cond.instanceMethod y_G_about ∈ lw_g := gk (List.mem_append_right _ (List.mem_of_getElem? (i := 166) (by decide +kernel))) rfl
theorem k_167 : Cond.selects R_G y_G_about y_G_about ∈ lw_g := gk (List.mem_append_right _ (List.mem_of_getElem? (i := 167) (by decide +kernel))) rfl
theorem k_168 : Cond.code y_G_about b_G_about 2 (some .int) ∈ lw_g := gk (List.mem_append_right _ (List.mem_of_getElem? (i := 168) (by decide +kernel))) rfl
theorem k_169 : Cond.methodLink R_L 42 y_G_set ∈ lw_g := gk (List.mem_append_right _ (List.mem_of_getElem? (i := 169) (by decide +kernel))) rfl
theorem k_170 : Cond.instanceMethod y_G_set ∈ lw_g := gk (List.mem_append_right _ (List.mem_of_getElem? (i := 170) (by decide +kernel))) rfl
theorem k_171 : Cond.selects R_G y_G_set y_G_set ∈ lw_g := gk (List.mem_append_right _ (List.mem_of_getElem? (i := 171) (by decide +kernel))) rfl
theorem k_172 : Cond.code y_G_set b_G_set 4 (some .int) ∈ lw_g := gk (List.mem_append_right _ (List.mem_of_getElem? (i := 172) (by decide +kernel))) rfl
theorem k_173 : Cond.methodLink R_L 46 y_G_variable ∈ lw_g := gk (List.mem_append_right _ (List.mem_of_getElem? (i := 173) (by decide +kernel))) rfl
theorem k_174 : Cond.instanceMethod y_G_variable ∈ lw_g := gk (List.mem_append_right _ (List.mem_of_getElem? (i := 174) (by decide +kernel))) rfl
theorem k_175 : Cond.selects R_G y_G_variable y_G_variable ∈ lw_g := gk (List.mem_append_right _ (List.mem_of_getElem? (i := 175) (by decide +kernel))) rfl
theorem k_176 : Cond.code y_G_variable b_G_variable 2 (some .int) ∈ lw_g := gk (List.mem_append_right _ (List.mem_of_getElem? (i := 176) (by decide +kernel))) rfl
theorem k_177 : Cond.methodLink R_L 50 y_G_begin ∈ lw_g := gk (List.mem_append_right _ (List.mem_of_getElem? (i := 177) (by decide +kernel))) rfl
theorem k_178 : Cond.instanceMethod y_G_begin ∈ lw_g := gk (List.mem_append_right _ (List.mem_of_getElem? (i := 178) (by decide +kernel))) rfl
theorem k_179 : Cond.selects R_G y_G_begin y_G_begin ∈ lw_g := gk (List.mem_append_right _ (List.mem_of_getElem? (i := 179) (by decide +kernel))) rfl
theorem k_180 : Cond.code y_G_begin b_G_begin 3 (some .int) ∈ lw_g := gk (List.mem_append_right _ (List.mem_of_getElem? (i := 180) (by decide +kernel))) rfl
theorem k_181 : Cond.methodLink R_G 58 y_S_open ∈ lw_g := gk (List.mem_append_right _ (List.mem_of_getElem? (i := 181) (by decide +kernel))) rfl
theorem k_182 : Cond.instanceMethod y_S_open ∈ lw_g := gk (List.mem_append_right _ (List.mem_of_getElem? (i := 182) (by decide +kernel))) rfl
theorem k_183 : Cond.selects R_S y_S_open y_S_open ∈ lw_g := gk (List.mem_append_right _ (List.mem_of_getElem? (i := 183) (by decide +kernel))) rfl
theorem k_184 : Cond.code y_S_open b_S_open 3 none ∈ lw_g := gk (List.mem_append_right _ (List.mem_of_getElem? (i := 184) (by decide +kernel))) rfl
theorem k_185 : Cond.methodLink R_S 52 y_S_start ∈ lw_g := gk (List.mem_append_right _ (List.mem_of_getElem? (i := 185) (by decide +kernel))) rfl
theorem k_187 : Cond.instanceMethod y_S_start ∈ lw_g := gk (List.mem_append_right _ (List.mem_of_getElem? (i := 187) (by decide +kernel))) rfl
theorem k_188 : Cond.code y_S_start b_S_start 2 none ∈ lw_g := gk (List.mem_append_right _ (List.mem_of_getElem? (i := 188) (by decide +kernel))) rfl
theorem k_189 : Cond.methodLink R_L 54 y_G_next ∈ lw_g := gk (List.mem_append_right _ (List.mem_of_getElem? (i := 189) (by decide +kernel))) rfl
theorem k_190 : Cond.instanceMethod y_G_next ∈ lw_g := gk (List.mem_append_right _ (List.mem_of_getElem? (i := 190) (by decide +kernel))) rfl
theorem k_191 : Cond.selects R_G y_G_next y_G_next ∈ lw_g := gk (List.mem_append_right _ (List.mem_of_getElem? (i := 191) (by decide +kernel))) rfl
theorem k_192 : Cond.code y_G_next b_G_next 1 (some .int) ∈ lw_g := gk (List.mem_append_right _ (List.mem_of_getElem? (i := 192) (by decide +kernel))) rfl
theorem k_193 : Cond.methodLink R_G 62 y_S_proceed ∈ lw_g := gk (List.mem_append_right _ (List.mem_of_getElem? (i := 193) (by decide +kernel))) rfl
theorem k_194 : Cond.instanceMethod y_S_proceed ∈ lw_g := gk (List.mem_append_right _ (List.mem_of_getElem? (i := 194) (by decide +kernel))) rfl
theorem k_195 : Cond.selects R_S y_S_proceed y_S_proceed ∈ lw_g := gk (List.mem_append_right _ (List.mem_of_getElem? (i := 195) (by decide +kernel))) rfl
theorem k_196 : Cond.code y_S_proceed b_S_proceed 1 (some .int) ∈ lw_g := gk (List.mem_append_right _ (List.mem_of_getElem? (i := 196) (by decide +kernel))) rfl
theorem k_197 : Cond.methodLink R_S 56 y_S_ask ∈ lw_g := gk (List.mem_append_right _ (List.mem_of_getElem? (i := 197) (by decide +kernel))) rfl
theorem k_199 : Cond.instanceMethod y_S_ask ∈ lw_g := gk (List.mem_append_right _ (List.mem_of_getElem? (i := 199) (by decide +kernel))) rfl
theorem k_200 : Cond.code y_S_ask b_S_ask 2 (some .int) ∈ lw_g := gk (List.mem_append_right _ (List.mem_of_getElem? (i := 200) (by decide +kernel))) rfl
theorem k_201 : Cond.methodLink R_S 66 y_S_askLeaf ∈ lw_g := gk (List.mem_append_right _ (List.mem_of_getElem? (i := 201) (by decide +kernel))) rfl
theorem k_203 : Cond.instanceMethod y_S_askLeaf ∈ lw_g := gk (List.mem_append_right _ (List.mem_of_getElem? (i := 203) (by decide +kernel))) rfl
theorem k_204 : Cond.code y_S_askLeaf b_S_askLeaf 3 (some .int) ∈ lw_g := gk (List.mem_append_right _ (List.mem_of_getElem? (i := 204) (by decide +kernel))) rfl
theorem k_205 : Cond.methodLink R_S 119 y_S_giveForFuel ∈ lw_g := gk (List.mem_append_right _ (List.mem_of_getElem? (i := 205) (by decide +kernel))) rfl
theorem k_207 : Cond.instanceMethod y_S_giveForFuel ∈ lw_g := gk (List.mem_append_right _ (List.mem_of_getElem? (i := 207) (by decide +kernel))) rfl
theorem k_208 : Cond.code y_S_giveForFuel b_S_giveForFuel 3 (some .int) ∈ lw_g := gk (List.mem_append_right _ (List.mem_of_getElem? (i := 208) (by decide +kernel))) rfl
theorem k_209 : Cond.methodLink R_S 116 y_S_give ∈ lw_g := gk (List.mem_append_right _ (List.mem_of_getElem? (i := 209) (by decide +kernel))) rfl
theorem k_211 : Cond.instanceMethod y_S_give ∈ lw_g := gk (List.mem_append_right _ (List.mem_of_getElem? (i := 211) (by decide +kernel))) rfl
theorem k_212 : Cond.code y_S_give b_S_give 3 (some .int) ∈ lw_g := gk (List.mem_append_right _ (List.mem_of_getElem? (i := 212) (by decide +kernel))) rfl
theorem k_213 : Cond.methodLink R_S 70 y_S_askAssign ∈ lw_g := gk (List.mem_append_right _ (List.mem_of_getElem? (i := 213) (by decide +kernel))) rfl
theorem k_215 : Cond.instanceMethod y_S_askAssign ∈ lw_g := gk (List.mem_append_right _ (List.mem_of_getElem? (i := 215) (by decide +kernel))) rfl
theorem k_216 : Cond.code y_S_askAssign b_S_askAssign 3 (some .int) ∈ lw_g := gk (List.mem_append_right _ (List.mem_of_getElem? (i := 216) (by decide +kernel))) rfl
theorem k_217 : Cond.methodLink R_S 125 y_S_askX ∈ lw_g := gk (List.mem_append_right _ (List.mem_of_getElem? (i := 217) (by decide +kernel))) rfl
theorem k_219 : Cond.instanceMethod y_S_askX ∈ lw_g := gk (List.mem_append_right _ (List.mem_of_getElem? (i := 219) (by decide +kernel))) rfl
theorem k_220 : Cond.code y_S_askX b_S_askX 2 (some .int) ∈ lw_g := gk (List.mem_append_right _ (List.mem_of_getElem? (i := 220) (by decide +kernel))) rfl
theorem k_221 : Cond.methodLink R_S 91 y_S_handUp ∈ lw_g := gk (List.mem_append_right _ (List.mem_of_getElem? (i := 221) (by decide +kernel))) rfl
theorem k_223 : Cond.instanceMethod y_S_handUp ∈ lw_g := gk (List.mem_append_right _ (List.mem_of_getElem? (i := 223) (by decide +kernel))) rfl
theorem k_224 : Cond.code y_S_handUp b_S_handUp 4 (some .int) ∈ lw_g := gk (List.mem_append_right _ (List.mem_of_getElem? (i := 224) (by decide +kernel))) rfl
theorem k_225 : Cond.methodLink R_S 73 y_S_askWrite ∈ lw_g := gk (List.mem_append_right _ (List.mem_of_getElem? (i := 225) (by decide +kernel))) rfl
theorem k_227 : Cond.instanceMethod y_S_askWrite ∈ lw_g := gk (List.mem_append_right _ (List.mem_of_getElem? (i := 227) (by decide +kernel))) rfl
theorem k_228 : Cond.code y_S_askWrite b_S_askWrite 3 (some .int) ∈ lw_g := gk (List.mem_append_right _ (List.mem_of_getElem? (i := 228) (by decide +kernel))) rfl
theorem k_229 : Cond.methodLink R_S 76 y_S_askNot ∈ lw_g := gk (List.mem_append_right _ (List.mem_of_getElem? (i := 229) (by decide +kernel))) rfl
theorem k_231 : Cond.instanceMethod y_S_askNot ∈ lw_g := gk (List.mem_append_right _ (List.mem_of_getElem? (i := 231) (by decide +kernel))) rfl
theorem k_232 : Cond.code y_S_askNot b_S_askNot 3 (some .int) ∈ lw_g := gk (List.mem_append_right _ (List.mem_of_getElem? (i := 232) (by decide +kernel))) rfl
theorem k_233 : Cond.methodLink R_S 128 y_S_tryOnce ∈ lw_g := gk (List.mem_append_right _ (List.mem_of_getElem? (i := 233) (by decide +kernel))) rfl
theorem k_235 : Cond.instanceMethod y_S_tryOnce ∈ lw_g := gk (List.mem_append_right _ (List.mem_of_getElem? (i := 235) (by decide +kernel))) rfl
theorem k_236 : Cond.code y_S_tryOnce b_S_tryOnce 2 (some .int) ∈ lw_g := gk (List.mem_append_right _ (List.mem_of_getElem? (i := 236) (by decide +kernel))) rfl
theorem k_237 : Cond.methodLink R_S 79 y_S_askAgain ∈ lw_g := gk (List.mem_append_right _ (List.mem_of_getElem? (i := 237) (by decide +kernel))) rfl
theorem k_239 : Cond.instanceMethod y_S_askAgain ∈ lw_g := gk (List.mem_append_right _ (List.mem_of_getElem? (i := 239) (by decide +kernel))) rfl
theorem k_240 : Cond.code y_S_askAgain b_S_askAgain 5 (some .int) ∈ lw_g := gk (List.mem_append_right _ (List.mem_of_getElem? (i := 240) (by decide +kernel))) rfl
theorem k_241 : Cond.methodLink R_S 82 y_S_askEither ∈ lw_g := gk (List.mem_append_right _ (List.mem_of_getElem? (i := 241) (by decide +kernel))) rfl
theorem k_243 : Cond.instanceMethod y_S_askEither ∈ lw_g := gk (List.mem_append_right _ (List.mem_of_getElem? (i := 243) (by decide +kernel))) rfl
theorem k_244 : Cond.code y_S_askEither b_S_askEither 4 (some .int) ∈ lw_g := gk (List.mem_append_right _ (List.mem_of_getElem? (i := 244) (by decide +kernel))) rfl
theorem k_245 : Cond.methodLink R_S 88 y_S_askPair ∈ lw_g := gk (List.mem_append_right _ (List.mem_of_getElem? (i := 245) (by decide +kernel))) rfl
theorem k_247 : Cond.instanceMethod y_S_askPair ∈ lw_g := gk (List.mem_append_right _ (List.mem_of_getElem? (i := 247) (by decide +kernel))) rfl
theorem k_248 : Cond.code y_S_askPair b_S_askPair 5 (some .int) ∈ lw_g := gk (List.mem_append_right _ (List.mem_of_getElem? (i := 248) (by decide +kernel))) rfl
theorem k_249 : Cond.constant R_S 131 1000000 ∈ lw_g := gk (List.mem_append_right _ (List.mem_of_getElem? (i := 249) (by decide +kernel))) rfl
theorem k_250 : Cond.methodLink R_S 95 y_S_askArithmetic ∈ lw_g := gk (List.mem_append_right _ (List.mem_of_getElem? (i := 250) (by decide +kernel))) rfl
theorem k_252 : Cond.instanceMethod y_S_askArithmetic ∈ lw_g := gk (List.mem_append_right _ (List.mem_of_getElem? (i := 252) (by decide +kernel))) rfl
theorem k_253 : Cond.code y_S_askArithmetic b_S_askArithmetic 5 (some .int) ∈ lw_g := gk (List.mem_append_right _ (List.mem_of_getElem? (i := 253) (by decide +kernel))) rfl
theorem k_254 : Cond.methodLink R_S 132 y_S_calculate ∈ lw_g := gk (List.mem_append_right _ (List.mem_of_getElem? (i := 254) (by decide +kernel))) rfl
theorem k_255 : Cond.static y_S_calculate ∈ lw_g := gk (List.mem_append_right _ (List.mem_of_getElem? (i := 255) (by decide +kernel))) rfl
theorem k_256 : Cond.code y_S_calculate b_S_calculate 5 (some .long) ∈ lw_g := gk (List.mem_append_right _ (List.mem_of_getElem? (i := 256) (by decide +kernel))) rfl
theorem k_257 : Cond.methodLink R_S 98 y_S_askComparison ∈ lw_g := gk (List.mem_append_right _ (List.mem_of_getElem? (i := 257) (by decide +kernel))) rfl
theorem k_259 : Cond.instanceMethod y_S_askComparison ∈ lw_g := gk (List.mem_append_right _ (List.mem_of_getElem? (i := 259) (by decide +kernel))) rfl
theorem k_260 : Cond.code y_S_askComparison b_S_askComparison 5 (some .int) ∈ lw_g := gk (List.mem_append_right _ (List.mem_of_getElem? (i := 260) (by decide +kernel))) rfl
theorem k_261 : Cond.methodLink R_S 136 y_S_holds ∈ lw_g := gk (List.mem_append_right _ (List.mem_of_getElem? (i := 261) (by decide +kernel))) rfl
theorem k_262 : Cond.static y_S_holds ∈ lw_g := gk (List.mem_append_right _ (List.mem_of_getElem? (i := 262) (by decide +kernel))) rfl
theorem k_263 : Cond.code y_S_holds b_S_holds 3 (some .boolean) ∈ lw_g := gk (List.mem_append_right _ (List.mem_of_getElem? (i := 263) (by decide +kernel))) rfl
theorem k_264 : Cond.methodLink R_S 101 y_S_askLimit ∈ lw_g := gk (List.mem_append_right _ (List.mem_of_getElem? (i := 264) (by decide +kernel))) rfl
theorem k_266 : Cond.instanceMethod y_S_askLimit ∈ lw_g := gk (List.mem_append_right _ (List.mem_of_getElem? (i := 266) (by decide +kernel))) rfl
theorem k_267 : Cond.code y_S_askLimit b_S_askLimit 5 (some .int) ∈ lw_g := gk (List.mem_append_right _ (List.mem_of_getElem? (i := 267) (by decide +kernel))) rfl
theorem k_268 : Cond.methodLink R_S 140 y_S_askBound ∈ lw_g := gk (List.mem_append_right _ (List.mem_of_getElem? (i := 268) (by decide +kernel))) rfl
theorem k_270 : Cond.instanceMethod y_S_askBound ∈ lw_g := gk (List.mem_append_right _ (List.mem_of_getElem? (i := 270) (by decide +kernel))) rfl
theorem k_271 : Cond.code y_S_askBound b_S_askBound 4 (some .int) ∈ lw_g := gk (List.mem_append_right _ (List.mem_of_getElem? (i := 271) (by decide +kernel))) rfl
theorem k_272 : Cond.methodLink R_S 104 y_S_askEveryOrWhile ∈ lw_g := gk (List.mem_append_right _ (List.mem_of_getElem? (i := 272) (by decide +kernel))) rfl
theorem k_274 : Cond.instanceMethod y_S_askEveryOrWhile ∈ lw_g := gk (List.mem_append_right _ (List.mem_of_getElem? (i := 274) (by decide +kernel))) rfl
theorem k_275 : Cond.code y_S_askEveryOrWhile b_S_askEveryOrWhile 5 (some .int) ∈ lw_g := gk (List.mem_append_right _ (List.mem_of_getElem? (i := 275) (by decide +kernel))) rfl
theorem k_276 : Cond.methodLink R_S 107 y_S_askThen ∈ lw_g := gk (List.mem_append_right _ (List.mem_of_getElem? (i := 276) (by decide +kernel))) rfl
theorem k_278 : Cond.instanceMethod y_S_askThen ∈ lw_g := gk (List.mem_append_right _ (List.mem_of_getElem? (i := 278) (by decide +kernel))) rfl
theorem k_279 : Cond.code y_S_askThen b_S_askThen 4 (some .int) ∈ lw_g := gk (List.mem_append_right _ (List.mem_of_getElem? (i := 279) (by decide +kernel))) rfl
theorem k_280 : Cond.methodLink R_S 110 y_S_askTo ∈ lw_g := gk (List.mem_append_right _ (List.mem_of_getElem? (i := 280) (by decide +kernel))) rfl
theorem k_282 : Cond.instanceMethod y_S_askTo ∈ lw_g := gk (List.mem_append_right _ (List.mem_of_getElem? (i := 282) (by decide +kernel))) rfl
theorem k_283 : Cond.code y_S_askTo b_S_askTo 4 (some .int) ∈ lw_g := gk (List.mem_append_right _ (List.mem_of_getElem? (i := 283) (by decide +kernel))) rfl
theorem k_284 : Cond.methodLink R_S 149 y_S_askTriple ∈ lw_g := gk (List.mem_append_right _ (List.mem_of_getElem? (i := 284) (by decide +kernel))) rfl
theorem k_286 : Cond.instanceMethod y_S_askTriple ∈ lw_g := gk (List.mem_append_right _ (List.mem_of_getElem? (i := 286) (by decide +kernel))) rfl
theorem k_287 : Cond.code y_S_askTriple b_S_askTriple 5 (some .int) ∈ lw_g := gk (List.mem_append_right _ (List.mem_of_getElem? (i := 287) (by decide +kernel))) rfl
theorem k_288 : Cond.methodLink R_S 152 y_S_isUpToEnd ∈ lw_g := gk (List.mem_append_right _ (List.mem_of_getElem? (i := 288) (by decide +kernel))) rfl
theorem k_290 : Cond.instanceMethod y_S_isUpToEnd ∈ lw_g := gk (List.mem_append_right _ (List.mem_of_getElem? (i := 290) (by decide +kernel))) rfl
theorem k_291 : Cond.code y_S_isUpToEnd b_S_isUpToEnd 3 (some .boolean) ∈ lw_g := gk (List.mem_append_right _ (List.mem_of_getElem? (i := 291) (by decide +kernel))) rfl
theorem k_292 : Cond.methodLink R_S 113 y_S_askIf ∈ lw_g := gk (List.mem_append_right _ (List.mem_of_getElem? (i := 292) (by decide +kernel))) rfl
theorem k_294 : Cond.instanceMethod y_S_askIf ∈ lw_g := gk (List.mem_append_right _ (List.mem_of_getElem? (i := 294) (by decide +kernel))) rfl
theorem k_295 : Cond.code y_S_askIf b_S_askIf 3 (some .int) ∈ lw_g := gk (List.mem_append_right _ (List.mem_of_getElem? (i := 295) (by decide +kernel))) rfl
theorem k_296 : Cond.methodLink R_S 143 y_S_branch ∈ lw_g := gk (List.mem_append_right _ (List.mem_of_getElem? (i := 296) (by decide +kernel))) rfl
theorem k_298 : Cond.instanceMethod y_S_branch ∈ lw_g := gk (List.mem_append_right _ (List.mem_of_getElem? (i := 298) (by decide +kernel))) rfl
theorem k_299 : Cond.code y_S_branch b_S_branch 2 (some .int) ∈ lw_g := gk (List.mem_append_right _ (List.mem_of_getElem? (i := 299) (by decide +kernel))) rfl
theorem k_300 : Cond.methodLink R_L 58 y_G_skip ∈ lw_g := gk (List.mem_append_right _ (List.mem_of_getElem? (i := 300) (by decide +kernel))) rfl
theorem k_301 : Cond.instanceMethod y_G_skip ∈ lw_g := gk (List.mem_append_right _ (List.mem_of_getElem? (i := 301) (by decide +kernel))) rfl
theorem k_302 : Cond.selects R_G y_G_skip y_G_skip ∈ lw_g := gk (List.mem_append_right _ (List.mem_of_getElem? (i := 302) (by decide +kernel))) rfl
theorem k_303 : Cond.code y_G_skip b_G_skip 3 (some .int) ∈ lw_g := gk (List.mem_append_right _ (List.mem_of_getElem? (i := 303) (by decide +kernel))) rfl
theorem k_304 : Cond.methodLink R_L 62 y_G_value ∈ lw_g := gk (List.mem_append_right _ (List.mem_of_getElem? (i := 304) (by decide +kernel))) rfl
theorem k_305 : Cond.instanceMethod y_G_value ∈ lw_g := gk (List.mem_append_right _ (List.mem_of_getElem? (i := 305) (by decide +kernel))) rfl
theorem k_306 : Cond.selects R_G y_G_value y_G_value ∈ lw_g := gk (List.mem_append_right _ (List.mem_of_getElem? (i := 306) (by decide +kernel))) rfl
theorem k_307 : Cond.code y_G_value b_G_value 1 (some .int) ∈ lw_g := gk (List.mem_append_right _ (List.mem_of_getElem? (i := 307) (by decide +kernel))) rfl
theorem k_308 : Cond.methodLink R_L 66 y_G_writes ∈ lw_g := gk (List.mem_append_right _ (List.mem_of_getElem? (i := 308) (by decide +kernel))) rfl
theorem k_309 : Cond.instanceMethod y_G_writes ∈ lw_g := gk (List.mem_append_right _ (List.mem_of_getElem? (i := 309) (by decide +kernel))) rfl
theorem k_310 : Cond.selects R_G y_G_writes y_G_writes ∈ lw_g := gk (List.mem_append_right _ (List.mem_of_getElem? (i := 310) (by decide +kernel))) rfl
theorem k_311 : Cond.code y_G_writes b_G_writes 1 (some .int) ∈ lw_g := gk (List.mem_append_right _ (List.mem_of_getElem? (i := 311) (by decide +kernel))) rfl
theorem k_312 : Cond.methodLink R_L 70 y_G_written ∈ lw_g := gk (List.mem_append_right _ (List.mem_of_getElem? (i := 312) (by decide +kernel))) rfl
theorem k_313 : Cond.instanceMethod y_G_written ∈ lw_g := gk (List.mem_append_right _ (List.mem_of_getElem? (i := 313) (by decide +kernel))) rfl
theorem k_314 : Cond.selects R_G y_G_written y_G_written ∈ lw_g := gk (List.mem_append_right _ (List.mem_of_getElem? (i := 314) (by decide +kernel))) rfl
theorem k_315 : Cond.code y_G_written b_G_written 2 (some .long) ∈ lw_g := gk (List.mem_append_right _ (List.mem_of_getElem? (i := 315) (by decide +kernel))) rfl
theorem k_316 : Cond.constantLong R_G 75 4294967296 ∈ lw_g := gk (List.mem_append_right _ (List.mem_of_getElem? (i := 316) (by decide +kernel))) rfl
theorem k_317 : Cond.methodLink R_L 75 y_G_cost ∈ lw_g := gk (List.mem_append_right _ (List.mem_of_getElem? (i := 317) (by decide +kernel))) rfl
theorem k_318 : Cond.instanceMethod y_G_cost ∈ lw_g := gk (List.mem_append_right _ (List.mem_of_getElem? (i := 318) (by decide +kernel))) rfl
theorem k_319 : Cond.selects R_G y_G_cost y_G_cost ∈ lw_g := gk (List.mem_append_right _ (List.mem_of_getElem? (i := 319) (by decide +kernel))) rfl
theorem k_320 : Cond.code y_G_cost b_G_cost 1 (some .int) ∈ lw_g := gk (List.mem_append_right _ (List.mem_of_getElem? (i := 320) (by decide +kernel))) rfl
theorem k_321 : Cond.classLink R_L 10 R_M ∈ lw_g := gk (List.mem_append_right _ (List.mem_of_getElem? (i := 321) (by decide +kernel))) rfl
theorem k_322 : Cond.instantiable R_M 20 ∈ lw_g := gk (List.mem_append_right _ (List.mem_of_getElem? (i := 322) (by decide +kernel))) rfl
theorem k_323 : Cond.methodLink R_L 12 y_M_init ∈ lw_g := gk (List.mem_append_right _ (List.mem_of_getElem? (i := 323) (by decide +kernel))) rfl
theorem k_324 : Cond.instanceMethod y_M_init ∈ lw_g := gk (List.mem_append_right _ (List.mem_of_getElem? (i := 324) (by decide +kernel))) rfl
theorem k_325 : Cond.code y_M_init b_M_init 1 none ∈ lw_g := gk (List.mem_append_right _ (List.mem_of_getElem? (i := 325) (by decide +kernel))) rfl
theorem k_326 : Cond.methodLink R_M 1 objectInit ∈ lw_g := gk (List.mem_append_right _ (List.mem_of_getElem? (i := 326) (by decide +kernel))) rfl
theorem k_327 : Cond.fieldLink R_M 46 R_M "count" "I" ∈ lw_g := gk (List.mem_append_right _ (List.mem_of_getElem? (i := 327) (by decide +kernel))) rfl
theorem k_328 : Cond.fieldLink R_M 7 R_M "kind" "[I" ∈ lw_g := gk (List.mem_append_right _ (List.mem_of_getElem? (i := 328) (by decide +kernel))) rfl
theorem k_329 : Cond.fieldLink R_M 13 R_M "number" "[I" ∈ lw_g := gk (List.mem_append_right _ (List.mem_of_getElem? (i := 329) (by decide +kernel))) rfl
theorem k_330 : Cond.fieldLink R_M 16 R_M "part" "[I" ∈ lw_g := gk (List.mem_append_right _ (List.mem_of_getElem? (i := 330) (by decide +kernel))) rfl
theorem k_331 : Cond.fieldLink R_M 19 R_M "depth" "[I" ∈ lw_g := gk (List.mem_append_right _ (List.mem_of_getElem? (i := 331) (by decide +kernel))) rfl
theorem k_332 : Cond.fieldLink R_M 22 R_M "used" "[Z" ∈ lw_g := gk (List.mem_append_right _ (List.mem_of_getElem? (i := 332) (by decide +kernel))) rfl
theorem k_333 : Cond.fieldLink R_M 26 R_M "phase" "[I" ∈ lw_g := gk (List.mem_append_right _ (List.mem_of_getElem? (i := 333) (by decide +kernel))) rfl
theorem k_334 : Cond.fieldLink R_M 29 R_M "kept" "[J" ∈ lw_g := gk (List.mem_append_right _ (List.mem_of_getElem? (i := 334) (by decide +kernel))) rfl
theorem k_335 : Cond.fieldLink R_M 33 R_M "variable" "[I" ∈ lw_g := gk (List.mem_append_right _ (List.mem_of_getElem? (i := 335) (by decide +kernel))) rfl
theorem k_336 : Cond.fieldLink R_M 36 R_M "texts" "[I" ∈ lw_g := gk (List.mem_append_right _ (List.mem_of_getElem? (i := 336) (by decide +kernel))) rfl
theorem k_337 : Cond.fieldLink R_M 73 R_M "textCount" "I" ∈ lw_g := gk (List.mem_append_right _ (List.mem_of_getElem? (i := 337) (by decide +kernel))) rfl
theorem k_338 : Cond.fieldLink R_M 39 R_M "begun" "I" ∈ lw_g := gk (List.mem_append_right _ (List.mem_of_getElem? (i := 338) (by decide +kernel))) rfl
theorem k_339 : Cond.fieldLink R_M 61 R_M "end" "I" ∈ lw_g := gk (List.mem_append_right _ (List.mem_of_getElem? (i := 339) (by decide +kernel))) rfl
theorem k_340 : Cond.fieldLink R_M 64 R_M "fuel" "I" ∈ lw_g := gk (List.mem_append_right _ (List.mem_of_getElem? (i := 340) (by decide +kernel))) rfl
theorem k_341 : Cond.fieldLink R_M 67 R_M "cost" "I" ∈ lw_g := gk (List.mem_append_right _ (List.mem_of_getElem? (i := 341) (by decide +kernel))) rfl
theorem k_342 : Cond.fieldLink R_M 70 R_M "latest" "I" ∈ lw_g := gk (List.mem_append_right _ (List.mem_of_getElem? (i := 342) (by decide +kernel))) rfl
theorem k_343 : Cond.fieldLink R_M 43 R_M "stack" "[I" ∈ lw_g := gk (List.mem_append_right _ (List.mem_of_getElem? (i := 343) (by decide +kernel))) rfl
theorem k_344 : Cond.fieldLink R_M 86 R_M "top" "I" ∈ lw_g := gk (List.mem_append_right _ (List.mem_of_getElem? (i := 344) (by decide +kernel))) rfl
theorem k_345 : Cond.fieldLink R_M 76 R_M "given" "I" ∈ lw_g := gk (List.mem_append_right _ (List.mem_of_getElem? (i := 345) (by decide +kernel))) rfl
theorem k_346 : Cond.fieldLink R_M 79 R_M "error" "I" ∈ lw_g := gk (List.mem_append_right _ (List.mem_of_getElem? (i := 346) (by decide +kernel))) rfl
theorem k_347 : Cond.lays R_M R_M "count" "I" ∈ lw_g := gk (List.mem_append_right _ (List.mem_of_getElem? (i := 347) (by decide +kernel))) rfl
theorem k_349 : Cond.laysFinal R_M R_M "kind" "[I" ∈ lw_g := gk (List.mem_append_right _ (List.mem_of_getElem? (i := 349) (by decide +kernel))) rfl
theorem k_351 : Cond.laysFinal R_M R_M "number" "[I" ∈ lw_g := gk (List.mem_append_right _ (List.mem_of_getElem? (i := 351) (by decide +kernel))) rfl
theorem k_353 : Cond.laysFinal R_M R_M "part" "[I" ∈ lw_g := gk (List.mem_append_right _ (List.mem_of_getElem? (i := 353) (by decide +kernel))) rfl
theorem k_355 : Cond.laysFinal R_M R_M "depth" "[I" ∈ lw_g := gk (List.mem_append_right _ (List.mem_of_getElem? (i := 355) (by decide +kernel))) rfl
theorem k_357 : Cond.laysFinal R_M R_M "used" "[Z" ∈ lw_g := gk (List.mem_append_right _ (List.mem_of_getElem? (i := 357) (by decide +kernel))) rfl
theorem k_359 : Cond.laysFinal R_M R_M "phase" "[I" ∈ lw_g := gk (List.mem_append_right _ (List.mem_of_getElem? (i := 359) (by decide +kernel))) rfl
theorem k_361 : Cond.laysFinal R_M R_M "kept" "[J" ∈ lw_g := gk (List.mem_append_right _ (List.mem_of_getElem? (i := 361) (by decide +kernel))) rfl
theorem k_363 : Cond.laysFinal R_M R_M "variable" "[I" ∈ lw_g := gk (List.mem_append_right _ (List.mem_of_getElem? (i := 363) (by decide +kernel))) rfl
theorem k_365 : Cond.laysFinal R_M R_M "texts" "[I" ∈ lw_g := gk (List.mem_append_right _ (List.mem_of_getElem? (i := 365) (by decide +kernel))) rfl
theorem k_367 : Cond.lays R_M R_M "textCount" "I" ∈ lw_g := gk (List.mem_append_right _ (List.mem_of_getElem? (i := 367) (by decide +kernel))) rfl
theorem k_369 : Cond.lays R_M R_M "begun" "I" ∈ lw_g := gk (List.mem_append_right _ (List.mem_of_getElem? (i := 369) (by decide +kernel))) rfl
theorem k_371 : Cond.lays R_M R_M "end" "I" ∈ lw_g := gk (List.mem_append_right _ (List.mem_of_getElem? (i := 371) (by decide +kernel))) rfl
theorem k_373 : Cond.lays R_M R_M "fuel" "I" ∈ lw_g := gk (List.mem_append_right _ (List.mem_of_getElem? (i := 373) (by decide +kernel))) rfl
theorem k_375 : Cond.lays R_M R_M "cost" "I" ∈ lw_g := gk (List.mem_append_right _ (List.mem_of_getElem? (i := 375) (by decide +kernel))) rfl
theorem k_377 : Cond.lays R_M R_M "latest" "I" ∈ lw_g := gk (List.mem_append_right _ (List.mem_of_getElem? (i := 377) (by decide +kernel))) rfl
theorem k_379 : Cond.laysFinal R_M R_M "stack" "[I" ∈ lw_g := gk (List.mem_append_right _ (List.mem_of_getElem? (i := 379) (by decide +kernel))) rfl
theorem k_381 : Cond.lays R_M R_M "top" "I" ∈ lw_g := gk (List.mem_append_right _ (List.mem_of_getElem? (i := 381) (by decide +kernel))) rfl
theorem k_383 : Cond.lays R_M R_M "given" "I" ∈ lw_g := gk (List.mem_append_right _ (List.mem_of_getElem? (i := 383) (by decide +kernel))) rfl
theorem k_385 : Cond.lays R_M R_M "error" "I" ∈ lw_g := gk (List.mem_append_right _ (List.mem_of_getElem? (i := 385) (by decide +kernel))) rfl
theorem k_388 : Cond.methodLink R_L 17 y_M_leaf ∈ lw_g := gk (List.mem_append_right _ (List.mem_of_getElem? (i := 388) (by decide +kernel))) rfl
theorem k_389 : Cond.instanceMethod y_M_leaf ∈ lw_g := gk (List.mem_append_right _ (List.mem_of_getElem? (i := 389) (by decide +kernel))) rfl
theorem k_390 : Cond.selects R_M y_M_leaf y_M_leaf ∈ lw_g := gk (List.mem_append_right _ (List.mem_of_getElem? (i := 390) (by decide +kernel))) rfl
theorem k_391 : Cond.code y_M_leaf b_M_leaf 3 (some .int) ∈ lw_g := gk (List.mem_append_right _ (List.mem_of_getElem? (i := 391) (by decide +kernel))) rfl
theorem k_392 : Cond.methodLink R_M 49 y_M_within ∈ lw_g := gk (List.mem_append_right _ (List.mem_of_getElem? (i := 392) (by decide +kernel))) rfl
theorem k_393 : Cond.static y_M_within ∈ lw_g := gk (List.mem_append_right _ (List.mem_of_getElem? (i := 393) (by decide +kernel))) rfl
theorem k_394 : Cond.code y_M_within b_M_within 3 (some .boolean) ∈ lw_g := gk (List.mem_append_right _ (List.mem_of_getElem? (i := 394) (by decide +kernel))) rfl
theorem k_395 : Cond.methodLink R_M 53 y_M_make ∈ lw_g := gk (List.mem_append_right _ (List.mem_of_getElem? (i := 395) (by decide +kernel))) rfl
theorem k_397 : Cond.instanceMethod y_M_make ∈ lw_g := gk (List.mem_append_right _ (List.mem_of_getElem? (i := 397) (by decide +kernel))) rfl
theorem k_398 : Cond.code y_M_make b_M_make 8 (some .int) ∈ lw_g := gk (List.mem_append_right _ (List.mem_of_getElem? (i := 398) (by decide +kernel))) rfl
theorem k_399 : Cond.methodLink R_L 22 y_M_unary ∈ lw_g := gk (List.mem_append_right _ (List.mem_of_getElem? (i := 399) (by decide +kernel))) rfl
theorem k_400 : Cond.instanceMethod y_M_unary ∈ lw_g := gk (List.mem_append_right _ (List.mem_of_getElem? (i := 400) (by decide +kernel))) rfl
theorem k_401 : Cond.selects R_M y_M_unary y_M_unary ∈ lw_g := gk (List.mem_append_right _ (List.mem_of_getElem? (i := 401) (by decide +kernel))) rfl
theorem k_402 : Cond.code y_M_unary b_M_unary 4 (some .int) ∈ lw_g := gk (List.mem_append_right _ (List.mem_of_getElem? (i := 402) (by decide +kernel))) rfl
theorem k_403 : Cond.methodLink R_M 57 y_M_is ∈ lw_g := gk (List.mem_append_right _ (List.mem_of_getElem? (i := 403) (by decide +kernel))) rfl
theorem k_405 : Cond.instanceMethod y_M_is ∈ lw_g := gk (List.mem_append_right _ (List.mem_of_getElem? (i := 405) (by decide +kernel))) rfl
theorem k_406 : Cond.code y_M_is b_M_is 2 (some .boolean) ∈ lw_g := gk (List.mem_append_right _ (List.mem_of_getElem? (i := 406) (by decide +kernel))) rfl
theorem k_407 : Cond.methodLink R_L 26 y_M_binary ∈ lw_g := gk (List.mem_append_right _ (List.mem_of_getElem? (i := 407) (by decide +kernel))) rfl
theorem k_408 : Cond.instanceMethod y_M_binary ∈ lw_g := gk (List.mem_append_right _ (List.mem_of_getElem? (i := 408) (by decide +kernel))) rfl
theorem k_409 : Cond.selects R_M y_M_binary y_M_binary ∈ lw_g := gk (List.mem_append_right _ (List.mem_of_getElem? (i := 409) (by decide +kernel))) rfl
theorem k_410 : Cond.code y_M_binary b_M_binary 5 (some .int) ∈ lw_g := gk (List.mem_append_right _ (List.mem_of_getElem? (i := 410) (by decide +kernel))) rfl
theorem k_411 : Cond.methodLink R_L 31 y_M_ternary ∈ lw_g := gk (List.mem_append_right _ (List.mem_of_getElem? (i := 411) (by decide +kernel))) rfl
theorem k_412 : Cond.instanceMethod y_M_ternary ∈ lw_g := gk (List.mem_append_right _ (List.mem_of_getElem? (i := 412) (by decide +kernel))) rfl
theorem k_413 : Cond.selects R_M y_M_ternary y_M_ternary ∈ lw_g := gk (List.mem_append_right _ (List.mem_of_getElem? (i := 413) (by decide +kernel))) rfl
theorem k_414 : Cond.code y_M_ternary b_M_ternary 6 (some .int) ∈ lw_g := gk (List.mem_append_right _ (List.mem_of_getElem? (i := 414) (by decide +kernel))) rfl
theorem k_415 : Cond.methodLink R_L 36 y_M_expressions ∈ lw_g := gk (List.mem_append_right _ (List.mem_of_getElem? (i := 415) (by decide +kernel))) rfl
theorem k_416 : Cond.instanceMethod y_M_expressions ∈ lw_g := gk (List.mem_append_right _ (List.mem_of_getElem? (i := 416) (by decide +kernel))) rfl
theorem k_417 : Cond.selects R_M y_M_expressions y_M_expressions ∈ lw_g := gk (List.mem_append_right _ (List.mem_of_getElem? (i := 417) (by decide +kernel))) rfl
theorem k_418 : Cond.code y_M_expressions b_M_expressions 1 (some .int) ∈ lw_g := gk (List.mem_append_right _ (List.mem_of_getElem? (i := 418) (by decide +kernel))) rfl
theorem k_419 : Cond.methodLink R_L 41 y_M_about ∈ lw_g := gk (List.mem_append_right _ (List.mem_of_getElem? (i := 419) (by decide +kernel))) rfl
theorem k_420 : Cond.instanceMethod y_M_about ∈ lw_g := gk (List.mem_append_right _ (List.mem_of_getElem? (i := 420) (by decide +kernel))) rfl
theorem k_421 : Cond.selects R_M y_M_about y_M_about ∈ lw_g := gk (List.mem_append_right _ (List.mem_of_getElem? (i := 421) (by decide +kernel))) rfl
theorem k_422 : Cond.code y_M_about b_M_about 2 (some .int) ∈ lw_g := gk (List.mem_append_right _ (List.mem_of_getElem? (i := 422) (by decide +kernel))) rfl
theorem k_423 : Cond.methodLink R_L 45 y_M_set ∈ lw_g := gk (List.mem_append_right _ (List.mem_of_getElem? (i := 423) (by decide +kernel))) rfl
theorem k_424 : Cond.instanceMethod y_M_set ∈ lw_g := gk (List.mem_append_right _ (List.mem_of_getElem? (i := 424) (by decide +kernel))) rfl
theorem k_425 : Cond.selects R_M y_M_set y_M_set ∈ lw_g := gk (List.mem_append_right _ (List.mem_of_getElem? (i := 425) (by decide +kernel))) rfl
theorem k_426 : Cond.code y_M_set b_M_set 4 (some .int) ∈ lw_g := gk (List.mem_append_right _ (List.mem_of_getElem? (i := 426) (by decide +kernel))) rfl
theorem k_427 : Cond.methodLink R_L 49 y_M_variable ∈ lw_g := gk (List.mem_append_right _ (List.mem_of_getElem? (i := 427) (by decide +kernel))) rfl
theorem k_428 : Cond.instanceMethod y_M_variable ∈ lw_g := gk (List.mem_append_right _ (List.mem_of_getElem? (i := 428) (by decide +kernel))) rfl
theorem k_429 : Cond.selects R_M y_M_variable y_M_variable ∈ lw_g := gk (List.mem_append_right _ (List.mem_of_getElem? (i := 429) (by decide +kernel))) rfl
theorem k_430 : Cond.code y_M_variable b_M_variable 2 (some .int) ∈ lw_g := gk (List.mem_append_right _ (List.mem_of_getElem? (i := 430) (by decide +kernel))) rfl
theorem k_431 : Cond.methodLink R_L 53 y_M_begin ∈ lw_g := gk (List.mem_append_right _ (List.mem_of_getElem? (i := 431) (by decide +kernel))) rfl
theorem k_432 : Cond.instanceMethod y_M_begin ∈ lw_g := gk (List.mem_append_right _ (List.mem_of_getElem? (i := 432) (by decide +kernel))) rfl
theorem k_433 : Cond.selects R_M y_M_begin y_M_begin ∈ lw_g := gk (List.mem_append_right _ (List.mem_of_getElem? (i := 433) (by decide +kernel))) rfl
theorem k_434 : Cond.code y_M_begin b_M_begin 3 (some .int) ∈ lw_g := gk (List.mem_append_right _ (List.mem_of_getElem? (i := 434) (by decide +kernel))) rfl
theorem k_435 : Cond.methodLink R_L 57 y_M_next ∈ lw_g := gk (List.mem_append_right _ (List.mem_of_getElem? (i := 435) (by decide +kernel))) rfl
theorem k_436 : Cond.instanceMethod y_M_next ∈ lw_g := gk (List.mem_append_right _ (List.mem_of_getElem? (i := 436) (by decide +kernel))) rfl
theorem k_437 : Cond.selects R_M y_M_next y_M_next ∈ lw_g := gk (List.mem_append_right _ (List.mem_of_getElem? (i := 437) (by decide +kernel))) rfl
theorem k_438 : Cond.code y_M_next b_M_next 5 (some .int) ∈ lw_g := gk (List.mem_append_right _ (List.mem_of_getElem? (i := 438) (by decide +kernel))) rfl
theorem k_439 : Cond.constant R_M 124 10000000 ∈ lw_g := gk (List.mem_append_right _ (List.mem_of_getElem? (i := 439) (by decide +kernel))) rfl
theorem k_440 : Cond.methodLink R_M 125 y_M_step ∈ lw_g := gk (List.mem_append_right _ (List.mem_of_getElem? (i := 440) (by decide +kernel))) rfl
theorem k_442 : Cond.instanceMethod y_M_step ∈ lw_g := gk (List.mem_append_right _ (List.mem_of_getElem? (i := 442) (by decide +kernel))) rfl
theorem k_443 : Cond.code y_M_step b_M_step 4 (some .int) ∈ lw_g := gk (List.mem_append_right _ (List.mem_of_getElem? (i := 443) (by decide +kernel))) rfl
theorem k_444 : Cond.methodLink R_M 93 y_M_leafStep ∈ lw_g := gk (List.mem_append_right _ (List.mem_of_getElem? (i := 444) (by decide +kernel))) rfl
theorem k_446 : Cond.instanceMethod y_M_leafStep ∈ lw_g := gk (List.mem_append_right _ (List.mem_of_getElem? (i := 446) (by decide +kernel))) rfl
theorem k_447 : Cond.code y_M_leafStep b_M_leafStep 2 (some .int) ∈ lw_g := gk (List.mem_append_right _ (List.mem_of_getElem? (i := 447) (by decide +kernel))) rfl
theorem k_448 : Cond.methodLink R_M 112 y_M_paid ∈ lw_g := gk (List.mem_append_right _ (List.mem_of_getElem? (i := 448) (by decide +kernel))) rfl
theorem k_450 : Cond.instanceMethod y_M_paid ∈ lw_g := gk (List.mem_append_right _ (List.mem_of_getElem? (i := 450) (by decide +kernel))) rfl
theorem k_451 : Cond.code y_M_paid b_M_paid 2 (some .int) ∈ lw_g := gk (List.mem_append_right _ (List.mem_of_getElem? (i := 451) (by decide +kernel))) rfl
theorem k_452 : Cond.methodLink R_M 82 y_M_give ∈ lw_g := gk (List.mem_append_right _ (List.mem_of_getElem? (i := 452) (by decide +kernel))) rfl
theorem k_454 : Cond.instanceMethod y_M_give ∈ lw_g := gk (List.mem_append_right _ (List.mem_of_getElem? (i := 454) (by decide +kernel))) rfl
theorem k_455 : Cond.code y_M_give b_M_give 2 (some .int) ∈ lw_g := gk (List.mem_append_right _ (List.mem_of_getElem? (i := 455) (by decide +kernel))) rfl
theorem k_456 : Cond.methodLink R_M 96 y_M_unaryStep ∈ lw_g := gk (List.mem_append_right _ (List.mem_of_getElem? (i := 456) (by decide +kernel))) rfl
theorem k_458 : Cond.instanceMethod y_M_unaryStep ∈ lw_g := gk (List.mem_append_right _ (List.mem_of_getElem? (i := 458) (by decide +kernel))) rfl
theorem k_459 : Cond.code y_M_unaryStep b_M_unaryStep 4 (some .int) ∈ lw_g := gk (List.mem_append_right _ (List.mem_of_getElem? (i := 459) (by decide +kernel))) rfl
theorem k_460 : Cond.methodLink R_M 115 y_M_first ∈ lw_g := gk (List.mem_append_right _ (List.mem_of_getElem? (i := 460) (by decide +kernel))) rfl
theorem k_462 : Cond.instanceMethod y_M_first ∈ lw_g := gk (List.mem_append_right _ (List.mem_of_getElem? (i := 462) (by decide +kernel))) rfl
theorem k_463 : Cond.code y_M_first b_M_first 4 (some .int) ∈ lw_g := gk (List.mem_append_right _ (List.mem_of_getElem? (i := 463) (by decide +kernel))) rfl
theorem k_464 : Cond.methodLink R_M 89 y_M_ask ∈ lw_g := gk (List.mem_append_right _ (List.mem_of_getElem? (i := 464) (by decide +kernel))) rfl
theorem k_466 : Cond.instanceMethod y_M_ask ∈ lw_g := gk (List.mem_append_right _ (List.mem_of_getElem? (i := 466) (by decide +kernel))) rfl
theorem k_467 : Cond.code y_M_ask b_M_ask 4 (some .int) ∈ lw_g := gk (List.mem_append_right _ (List.mem_of_getElem? (i := 467) (by decide +kernel))) rfl
theorem k_468 : Cond.methodLink R_M 100 y_M_pairStep ∈ lw_g := gk (List.mem_append_right _ (List.mem_of_getElem? (i := 468) (by decide +kernel))) rfl
theorem k_470 : Cond.instanceMethod y_M_pairStep ∈ lw_g := gk (List.mem_append_right _ (List.mem_of_getElem? (i := 470) (by decide +kernel))) rfl
theorem k_471 : Cond.code y_M_pairStep b_M_pairStep 8 (some .int) ∈ lw_g := gk (List.mem_append_right _ (List.mem_of_getElem? (i := 471) (by decide +kernel))) rfl
theorem k_472 : Cond.methodLink R_M 103 y_M_binaryStep ∈ lw_g := gk (List.mem_append_right _ (List.mem_of_getElem? (i := 472) (by decide +kernel))) rfl
theorem k_474 : Cond.instanceMethod y_M_binaryStep ∈ lw_g := gk (List.mem_append_right _ (List.mem_of_getElem? (i := 474) (by decide +kernel))) rfl
theorem k_475 : Cond.code y_M_binaryStep b_M_binaryStep 5 (some .int) ∈ lw_g := gk (List.mem_append_right _ (List.mem_of_getElem? (i := 475) (by decide +kernel))) rfl
theorem k_476 : Cond.methodLink R_M 118 y_M_limit ∈ lw_g := gk (List.mem_append_right _ (List.mem_of_getElem? (i := 476) (by decide +kernel))) rfl
theorem k_478 : Cond.instanceMethod y_M_limit ∈ lw_g := gk (List.mem_append_right _ (List.mem_of_getElem? (i := 478) (by decide +kernel))) rfl
theorem k_479 : Cond.code y_M_limit b_M_limit 3 (some .int) ∈ lw_g := gk (List.mem_append_right _ (List.mem_of_getElem? (i := 479) (by decide +kernel))) rfl
theorem k_480 : Cond.methodLink R_M 106 y_M_toStep ∈ lw_g := gk (List.mem_append_right _ (List.mem_of_getElem? (i := 480) (by decide +kernel))) rfl
theorem k_482 : Cond.instanceMethod y_M_toStep ∈ lw_g := gk (List.mem_append_right _ (List.mem_of_getElem? (i := 482) (by decide +kernel))) rfl
theorem k_483 : Cond.code y_M_toStep b_M_toStep 4 (some .int) ∈ lw_g := gk (List.mem_append_right _ (List.mem_of_getElem? (i := 483) (by decide +kernel))) rfl
theorem k_484 : Cond.methodLink R_M 121 y_M_onward ∈ lw_g := gk (List.mem_append_right _ (List.mem_of_getElem? (i := 484) (by decide +kernel))) rfl
theorem k_486 : Cond.instanceMethod y_M_onward ∈ lw_g := gk (List.mem_append_right _ (List.mem_of_getElem? (i := 486) (by decide +kernel))) rfl
theorem k_487 : Cond.code y_M_onward b_M_onward 6 (some .int) ∈ lw_g := gk (List.mem_append_right _ (List.mem_of_getElem? (i := 487) (by decide +kernel))) rfl
theorem k_488 : Cond.methodLink R_M 109 y_M_choose ∈ lw_g := gk (List.mem_append_right _ (List.mem_of_getElem? (i := 488) (by decide +kernel))) rfl
theorem k_490 : Cond.instanceMethod y_M_choose ∈ lw_g := gk (List.mem_append_right _ (List.mem_of_getElem? (i := 490) (by decide +kernel))) rfl
theorem k_491 : Cond.code y_M_choose b_M_choose 4 (some .int) ∈ lw_g := gk (List.mem_append_right _ (List.mem_of_getElem? (i := 491) (by decide +kernel))) rfl
theorem k_492 : Cond.methodLink R_L 61 y_M_skip ∈ lw_g := gk (List.mem_append_right _ (List.mem_of_getElem? (i := 492) (by decide +kernel))) rfl
theorem k_493 : Cond.instanceMethod y_M_skip ∈ lw_g := gk (List.mem_append_right _ (List.mem_of_getElem? (i := 493) (by decide +kernel))) rfl
theorem k_494 : Cond.selects R_M y_M_skip y_M_skip ∈ lw_g := gk (List.mem_append_right _ (List.mem_of_getElem? (i := 494) (by decide +kernel))) rfl
theorem k_495 : Cond.code y_M_skip b_M_skip 5 (some .int) ∈ lw_g := gk (List.mem_append_right _ (List.mem_of_getElem? (i := 495) (by decide +kernel))) rfl
theorem k_496 : Cond.methodLink R_M 128 y_M_next ∈ lw_g := gk (List.mem_append_right _ (List.mem_of_getElem? (i := 496) (by decide +kernel))) rfl
theorem k_497 : Cond.methodLink R_L 65 y_M_value ∈ lw_g := gk (List.mem_append_right _ (List.mem_of_getElem? (i := 497) (by decide +kernel))) rfl
theorem k_498 : Cond.instanceMethod y_M_value ∈ lw_g := gk (List.mem_append_right _ (List.mem_of_getElem? (i := 498) (by decide +kernel))) rfl
theorem k_499 : Cond.selects R_M y_M_value y_M_value ∈ lw_g := gk (List.mem_append_right _ (List.mem_of_getElem? (i := 499) (by decide +kernel))) rfl
theorem k_500 : Cond.code y_M_value b_M_value 1 (some .int) ∈ lw_g := gk (List.mem_append_right _ (List.mem_of_getElem? (i := 500) (by decide +kernel))) rfl
theorem k_501 : Cond.methodLink R_L 69 y_M_writes ∈ lw_g := gk (List.mem_append_right _ (List.mem_of_getElem? (i := 501) (by decide +kernel))) rfl
theorem k_502 : Cond.instanceMethod y_M_writes ∈ lw_g := gk (List.mem_append_right _ (List.mem_of_getElem? (i := 502) (by decide +kernel))) rfl
theorem k_503 : Cond.selects R_M y_M_writes y_M_writes ∈ lw_g := gk (List.mem_append_right _ (List.mem_of_getElem? (i := 503) (by decide +kernel))) rfl
theorem k_504 : Cond.code y_M_writes b_M_writes 1 (some .int) ∈ lw_g := gk (List.mem_append_right _ (List.mem_of_getElem? (i := 504) (by decide +kernel))) rfl
theorem k_505 : Cond.methodLink R_L 74 y_M_written ∈ lw_g := gk (List.mem_append_right _ (List.mem_of_getElem? (i := 505) (by decide +kernel))) rfl
theorem k_506 : Cond.instanceMethod y_M_written ∈ lw_g := gk (List.mem_append_right _ (List.mem_of_getElem? (i := 506) (by decide +kernel))) rfl
theorem k_507 : Cond.selects R_M y_M_written y_M_written ∈ lw_g := gk (List.mem_append_right _ (List.mem_of_getElem? (i := 507) (by decide +kernel))) rfl
theorem k_508 : Cond.code y_M_written b_M_written 2 (some .long) ∈ lw_g := gk (List.mem_append_right _ (List.mem_of_getElem? (i := 508) (by decide +kernel))) rfl
theorem k_509 : Cond.constantLong R_M 132 4294967296 ∈ lw_g := gk (List.mem_append_right _ (List.mem_of_getElem? (i := 509) (by decide +kernel))) rfl
theorem k_510 : Cond.methodLink R_L 78 y_M_cost ∈ lw_g := gk (List.mem_append_right _ (List.mem_of_getElem? (i := 510) (by decide +kernel))) rfl
theorem k_511 : Cond.instanceMethod y_M_cost ∈ lw_g := gk (List.mem_append_right _ (List.mem_of_getElem? (i := 511) (by decide +kernel))) rfl
theorem k_512 : Cond.selects R_M y_M_cost y_M_cost ∈ lw_g := gk (List.mem_append_right _ (List.mem_of_getElem? (i := 512) (by decide +kernel))) rfl
theorem k_513 : Cond.code y_M_cost b_M_cost 1 (some .int) ∈ lw_g := gk (List.mem_append_right _ (List.mem_of_getElem? (i := 513) (by decide +kernel))) rfl
/-- the links between nest mates: they are no words of a contract -/
def zN (U : State) : Prop := va_Nw (Cond.methodLinkNest R_G 9 y_S_init R_G) U ∧ va_Nw (Cond.methodLinkNest R_S 9 y_F_init R_G) U ∧ va_Nw (Cond.methodLinkNest R_F 36 y_G_isBelow R_G) U
theorem zN_of {args : Array Value} {s : State} (h : ∀ w ∈ lw_tbl, w.before args s = true) : zN s := ⟨va_tabs rfl rfl (h _ kn_16), va_tabs rfl rfl (h _ kn_22), va_tabs rfl rfl (h _ kn_139)⟩
theorem zN_warm {s U : State} (hW : s.WarmedH U.vm) (h : zN s) : zN U := ⟨va_Nw.warmM hW h.1, va_Nw.warmM hW h.2.1, va_Nw.warmM hW h.2.2⟩
theorem zN_vm {U U' : State} (h : U.vm = U'.vm) (hn : zN U) : zN U' := ⟨va_tabs rfl h hn.1, va_tabs rfl h hn.2.1, va_tabs rfl h hn.2.2⟩
theorem in_F : ∀ w ∈ u_ws R_F T_F 8, w ∈ lw_g := fun w h => gk ((by decide +kernel : ∀ w ∈ u_ws R_F T_F 8, w ∈ lw_tbl) w h) ((by decide +kernel : ∀ w ∈ u_ws R_F T_F 8, goodWord w = true) w h)
theorem in_S : ∀ w ∈ u_ws R_S T_S 12, w ∈ lw_g := fun w h => gk ((by decide +kernel : ∀ w ∈ u_ws R_S T_S 12, w ∈ lw_tbl) w h) ((by decide +kernel : ∀ w ∈ u_ws R_S T_S 12, goodWord w = true) w h)
theorem in_G : ∀ w ∈ u_ws R_G T_G 2, w ∈ lw_g := fun w h => gk ((by decide +kernel : ∀ w ∈ u_ws R_G T_G 2, w ∈ lw_tbl) w h) ((by decide +kernel : ∀ w ∈ u_ws R_G T_G 2, goodWord w = true) w h)
theorem in_M : ∀ w ∈ u_ws R_M T_M 20, w ∈ lw_g := fun w h => gk ((by decide +kernel : ∀ w ∈ u_ws R_M T_M 20, w ∈ lw_tbl) w h) ((by decide +kernel : ∀ w ∈ u_ws R_M T_M 20, goodWord w = true) w h)
theorem s_G_join : Cond.selects R_G y_G_join y_G_join ∈ lw_g := gk (List.mem_append_left _ (List.mem_of_getElem? (i := 0) (by decide +kernel))) rfl
theorem s_S_start : Cond.selects R_S y_S_start y_S_start ∈ lw_g := gk (List.mem_append_left _ (List.mem_of_getElem? (i := 1) (by decide +kernel))) rfl
theorem s_S_ask : Cond.selects R_S y_S_ask y_S_ask ∈ lw_g := gk (List.mem_append_left _ (List.mem_of_getElem? (i := 2) (by decide +kernel))) rfl
theorem s_S_askLeaf : Cond.selects R_S y_S_askLeaf y_S_askLeaf ∈ lw_g := gk (List.mem_append_left _ (List.mem_of_getElem? (i := 3) (by decide +kernel))) rfl
theorem s_S_giveForFuel : Cond.selects R_S y_S_giveForFuel y_S_giveForFuel ∈ lw_g := gk (List.mem_append_left _ (List.mem_of_getElem? (i := 4) (by decide +kernel))) rfl
theorem s_S_give : Cond.selects R_S y_S_give y_S_give ∈ lw_g := gk (List.mem_append_left _ (List.mem_of_getElem? (i := 5) (by decide +kernel))) rfl
theorem s_S_askAssign : Cond.selects R_S y_S_askAssign y_S_askAssign ∈ lw_g := gk (List.mem_append_left _ (List.mem_of_getElem? (i := 6) (by decide +kernel))) rfl
theorem s_S_askX : Cond.selects R_S y_S_askX y_S_askX ∈ lw_g := gk (List.mem_append_left _ (List.mem_of_getElem? (i := 7) (by decide +kernel))) rfl
theorem s_S_handUp : Cond.selects R_S y_S_handUp y_S_handUp ∈ lw_g := gk (List.mem_append_left _ (List.mem_of_getElem? (i := 8) (by decide +kernel))) rfl
theorem s_S_askWrite : Cond.selects R_S y_S_askWrite y_S_askWrite ∈ lw_g := gk (List.mem_append_left _ (List.mem_of_getElem? (i := 9) (by decide +kernel))) rfl
theorem s_S_askNot : Cond.selects R_S y_S_askNot y_S_askNot ∈ lw_g := gk (List.mem_append_left _ (List.mem_of_getElem? (i := 10) (by decide +kernel))) rfl
theorem s_S_tryOnce : Cond.selects R_S y_S_tryOnce y_S_tryOnce ∈ lw_g := gk (List.mem_append_left _ (List.mem_of_getElem? (i := 11) (by decide +kernel))) rfl
theorem s_S_askAgain : Cond.selects R_S y_S_askAgain y_S_askAgain ∈ lw_g := gk (List.mem_append_left _ (List.mem_of_getElem? (i := 12) (by decide +kernel))) rfl
theorem s_S_askEither : Cond.selects R_S y_S_askEither y_S_askEither ∈ lw_g := gk (List.mem_append_left _ (List.mem_of_getElem? (i := 13) (by decide +kernel))) rfl
theorem s_S_askPair : Cond.selects R_S y_S_askPair y_S_askPair ∈ lw_g := gk (List.mem_append_left _ (List.mem_of_getElem? (i := 14) (by decide +kernel))) rfl
theorem s_S_askArithmetic : Cond.selects R_S y_S_askArithmetic y_S_askArithmetic ∈ lw_g := gk (List.mem_append_left _ (List.mem_of_getElem? (i := 15) (by decide +kernel))) rfl
theorem s_S_askComparison : Cond.selects R_S y_S_askComparison y_S_askComparison ∈ lw_g := gk (List.mem_append_left _ (List.mem_of_getElem? (i := 16) (by decide +kernel))) rfl
theorem s_S_askLimit : Cond.selects R_S y_S_askLimit y_S_askLimit ∈ lw_g := gk (List.mem_append_left _ (List.mem_of_getElem? (i := 17) (by decide +kernel))) rfl
theorem s_S_askBound : Cond.selects R_S y_S_askBound y_S_askBound ∈ lw_g := gk (List.mem_append_left _ (List.mem_of_getElem? (i := 18) (by decide +kernel))) rfl
theorem s_S_askEveryOrWhile : Cond.selects R_S y_S_askEveryOrWhile y_S_askEveryOrWhile ∈ lw_g := gk (List.mem_append_left _ (List.mem_of_getElem? (i := 19) (by decide +kernel))) rfl
theorem s_S_askThen : Cond.selects R_S y_S_askThen y_S_askThen ∈ lw_g := gk (List.mem_append_left _ (List.mem_of_getElem? (i := 20) (by decide +kernel))) rfl
theorem s_S_askTo : Cond.selects R_S y_S_askTo y_S_askTo ∈ lw_g := gk (List.mem_append_left _ (List.mem_of_getElem? (i := 21) (by decide +kernel))) rfl
theorem s_S_askTriple : Cond.selects R_S y_S_askTriple y_S_askTriple ∈ lw_g := gk (List.mem_append_left _ (List.mem_of_getElem? (i := 22) (by decide +kernel))) rfl
theorem s_S_isUpToEnd : Cond.selects R_S y_S_isUpToEnd y_S_isUpToEnd ∈ lw_g := gk (List.mem_append_left _ (List.mem_of_getElem? (i := 23) (by decide +kernel))) rfl
theorem s_S_askIf : Cond.selects R_S y_S_askIf y_S_askIf ∈ lw_g := gk (List.mem_append_left _ (List.mem_of_getElem? (i := 24) (by decide +kernel))) rfl
theorem s_S_branch : Cond.selects R_S y_S_branch y_S_branch ∈ lw_g := gk (List.mem_append_left _ (List.mem_of_getElem? (i := 25) (by decide +kernel))) rfl
theorem s_M_make : Cond.selects R_M y_M_make y_M_make ∈ lw_g := gk (List.mem_append_left _ (List.mem_of_getElem? (i := 26) (by decide +kernel))) rfl
theorem s_M_is : Cond.selects R_M y_M_is y_M_is ∈ lw_g := gk (List.mem_append_left _ (List.mem_of_getElem? (i := 27) (by decide +kernel))) rfl
theorem s_M_step : Cond.selects R_M y_M_step y_M_step ∈ lw_g := gk (List.mem_append_left _ (List.mem_of_getElem? (i := 28) (by decide +kernel))) rfl
theorem s_M_leafStep : Cond.selects R_M y_M_leafStep y_M_leafStep ∈ lw_g := gk (List.mem_append_left _ (List.mem_of_getElem? (i := 29) (by decide +kernel))) rfl
theorem s_M_paid : Cond.selects R_M y_M_paid y_M_paid ∈ lw_g := gk (List.mem_append_left _ (List.mem_of_getElem? (i := 30) (by decide +kernel))) rfl
theorem s_M_give : Cond.selects R_M y_M_give y_M_give ∈ lw_g := gk (List.mem_append_left _ (List.mem_of_getElem? (i := 31) (by decide +kernel))) rfl
theorem s_M_unaryStep : Cond.selects R_M y_M_unaryStep y_M_unaryStep ∈ lw_g := gk (List.mem_append_left _ (List.mem_of_getElem? (i := 32) (by decide +kernel))) rfl
theorem s_M_first : Cond.selects R_M y_M_first y_M_first ∈ lw_g := gk (List.mem_append_left _ (List.mem_of_getElem? (i := 33) (by decide +kernel))) rfl
theorem s_M_ask : Cond.selects R_M y_M_ask y_M_ask ∈ lw_g := gk (List.mem_append_left _ (List.mem_of_getElem? (i := 34) (by decide +kernel))) rfl
theorem s_M_pairStep : Cond.selects R_M y_M_pairStep y_M_pairStep ∈ lw_g := gk (List.mem_append_left _ (List.mem_of_getElem? (i := 35) (by decide +kernel))) rfl
theorem s_M_binaryStep : Cond.selects R_M y_M_binaryStep y_M_binaryStep ∈ lw_g := gk (List.mem_append_left _ (List.mem_of_getElem? (i := 36) (by decide +kernel))) rfl
theorem s_M_limit : Cond.selects R_M y_M_limit y_M_limit ∈ lw_g := gk (List.mem_append_left _ (List.mem_of_getElem? (i := 37) (by decide +kernel))) rfl
theorem s_M_toStep : Cond.selects R_M y_M_toStep y_M_toStep ∈ lw_g := gk (List.mem_append_left _ (List.mem_of_getElem? (i := 38) (by decide +kernel))) rfl
theorem s_M_onward : Cond.selects R_M y_M_onward y_M_onward ∈ lw_g := gk (List.mem_append_left _ (List.mem_of_getElem? (i := 39) (by decide +kernel))) rfl
theorem s_M_choose : Cond.selects R_M y_M_choose y_M_choose ∈ lw_g := gk (List.mem_append_left _ (List.mem_of_getElem? (i := 40) (by decide +kernel))) rfl
def w_G_init : List Cond := Cond.code y_G_init b_G_init 1 none :: lw_g
def w_S_init : List Cond := Cond.code y_S_init b_S_init 1 none :: lw_g
def w_F_init : List Cond := Cond.code y_F_init b_F_init 1 none :: lw_g
def w_G_leaf : List Cond := Cond.code y_G_leaf b_G_leaf 4 (some .int) :: lw_g
def w_G_isBelow : List Cond := Cond.code y_G_isBelow b_G_isBelow 2 (some .boolean) :: lw_g
def w_F_isFull : List Cond := Cond.code y_F_isFull b_F_isFull 1 (some .boolean) :: lw_g
def w_F_addLeaf : List Cond := Cond.code y_F_addLeaf b_F_addLeaf 4 (some .int) :: lw_g
def w_G_unary : List Cond := Cond.code y_G_unary b_G_unary 5 (some .int) :: lw_g
def w_G_join : List Cond := Cond.code y_G_join b_G_join 7 (some .int) :: lw_g
def w_F_has : List Cond := Cond.code y_F_has b_F_has 2 (some .boolean) :: lw_g
def w_F_depthOver : List Cond := Cond.code y_F_depthOver b_F_depthOver 4 (some .int) :: lw_g
def w_F_addOver : List Cond := Cond.code y_F_addOver b_F_addOver 7 (some .int) :: lw_g
def w_G_binary : List Cond := Cond.code y_G_binary b_G_binary 4 (some .int) :: lw_g
def w_G_ternary : List Cond := Cond.code y_G_ternary b_G_ternary 5 (some .int) :: lw_g
def w_G_expressions : List Cond := Cond.code y_G_expressions b_G_expressions 1 (some .int) :: lw_g
def w_G_about : List Cond := Cond.code y_G_about b_G_about 2 (some .int) :: lw_g
def w_G_set : List Cond := Cond.code y_G_set b_G_set 4 (some .int) :: lw_g
def w_G_variable : List Cond := Cond.code y_G_variable b_G_variable 2 (some .int) :: lw_g
def w_G_begin : List Cond := Cond.code y_G_begin b_G_begin 3 (some .int) :: lw_g
def w_S_open : List Cond := Cond.code y_S_open b_S_open 3 none :: lw_g
def w_S_start : List Cond := Cond.code y_S_start b_S_start 2 none :: lw_g
def w_G_next : List Cond := Cond.code y_G_next b_G_next 1 (some .int) :: lw_g
def w_S_proceed : List Cond := Cond.code y_S_proceed b_S_proceed 1 (some .int) :: lw_g
def w_S_ask : List Cond := Cond.code y_S_ask b_S_ask 2 (some .int) :: lw_g
def w_S_askLeaf : List Cond := Cond.code y_S_askLeaf b_S_askLeaf 3 (some .int) :: lw_g
def w_S_giveForFuel : List Cond := Cond.code y_S_giveForFuel b_S_giveForFuel 3 (some .int) :: lw_g
def w_S_give : List Cond := Cond.code y_S_give b_S_give 3 (some .int) :: lw_g
def w_S_askAssign : List Cond := Cond.code y_S_askAssign b_S_askAssign 3 (some .int) :: lw_g
def w_S_askX : List Cond := Cond.code y_S_askX b_S_askX 2 (some .int) :: lw_g
def w_S_handUp : List Cond := Cond.code y_S_handUp b_S_handUp 4 (some .int) :: lw_g
def w_S_askWrite : List Cond := Cond.code y_S_askWrite b_S_askWrite 3 (some .int) :: lw_g
def w_S_askNot : List Cond := Cond.code y_S_askNot b_S_askNot 3 (some .int) :: lw_g
def w_S_tryOnce : List Cond := Cond.code y_S_tryOnce b_S_tryOnce 2 (some .int) :: lw_g
def w_S_askAgain : List Cond := Cond.code y_S_askAgain b_S_askAgain 5 (some .int) :: lw_g
def w_S_askEither : List Cond := Cond.code y_S_askEither b_S_askEither 4 (some .int) :: lw_g
def w_S_askPair : List Cond := Cond.code y_S_askPair b_S_askPair 5 (some .int) :: lw_g
def w_S_askArithmetic : List Cond := Cond.code y_S_askArithmetic b_S_askArithmetic 5 (some .int) :: lw_g
def w_S_calculate : List Cond := Cond.code y_S_calculate b_S_calculate 5 (some .long) :: lw_g
def w_S_askComparison : List Cond := Cond.code y_S_askComparison b_S_askComparison 5 (some .int) :: lw_g
def w_S_holds : List Cond := Cond.code y_S_holds b_S_holds 3 (some .boolean) :: lw_g
def w_S_askLimit : List Cond := Cond.code y_S_askLimit b_S_askLimit 5 (some .int) :: lw_g
def w_S_askBound : List Cond := Cond.code y_S_askBound b_S_askBound 4 (some .int) :: lw_g
def w_S_askEveryOrWhile : List Cond := Cond.code y_S_askEveryOrWhile b_S_askEveryOrWhile 5 (some .int) :: lw_g
def w_S_askThen : List Cond := Cond.code y_S_askThen b_S_askThen 4 (some .int) :: lw_g
def w_S_askTo : List Cond := Cond.code y_S_askTo b_S_askTo 4 (some .int) :: lw_g
def w_S_askTriple : List Cond := Cond.code y_S_askTriple b_S_askTriple 5 (some .int) :: lw_g
def w_S_isUpToEnd : List Cond := Cond.code y_S_isUpToEnd b_S_isUpToEnd 3 (some .boolean) :: lw_g
def w_S_askIf : List Cond := Cond.code y_S_askIf b_S_askIf 3 (some .int) :: lw_g
def w_S_branch : List Cond := Cond.code y_S_branch b_S_branch 2 (some .int) :: lw_g
def w_G_skip : List Cond := Cond.code y_G_skip b_G_skip 3 (some .int) :: lw_g
def w_G_value : List Cond := Cond.code y_G_value b_G_value 1 (some .int) :: lw_g
def w_G_writes : List Cond := Cond.code y_G_writes b_G_writes 1 (some .int) :: lw_g
def w_G_written : List Cond := Cond.code y_G_written b_G_written 2 (some .long) :: lw_g
def w_G_cost : List Cond := Cond.code y_G_cost b_G_cost 1 (some .int) :: lw_g
def w_M_init : List Cond := Cond.code y_M_init b_M_init 1 none :: lw_g
def w_M_leaf : List Cond := Cond.code y_M_leaf b_M_leaf 3 (some .int) :: lw_g
def w_M_within : List Cond := Cond.code y_M_within b_M_within 3 (some .boolean) :: lw_g
def w_M_make : List Cond := Cond.code y_M_make b_M_make 8 (some .int) :: lw_g
def w_M_unary : List Cond := Cond.code y_M_unary b_M_unary 4 (some .int) :: lw_g
def w_M_is : List Cond := Cond.code y_M_is b_M_is 2 (some .boolean) :: lw_g
def w_M_binary : List Cond := Cond.code y_M_binary b_M_binary 5 (some .int) :: lw_g
def w_M_ternary : List Cond := Cond.code y_M_ternary b_M_ternary 6 (some .int) :: lw_g
def w_M_expressions : List Cond := Cond.code y_M_expressions b_M_expressions 1 (some .int) :: lw_g
def w_M_about : List Cond := Cond.code y_M_about b_M_about 2 (some .int) :: lw_g
def w_M_set : List Cond := Cond.code y_M_set b_M_set 4 (some .int) :: lw_g
def w_M_variable : List Cond := Cond.code y_M_variable b_M_variable 2 (some .int) :: lw_g
def w_M_begin : List Cond := Cond.code y_M_begin b_M_begin 3 (some .int) :: lw_g
def w_M_next : List Cond := Cond.code y_M_next b_M_next 5 (some .int) :: lw_g
def w_M_step : List Cond := Cond.code y_M_step b_M_step 4 (some .int) :: lw_g
def w_M_leafStep : List Cond := Cond.code y_M_leafStep b_M_leafStep 2 (some .int) :: lw_g
def w_M_paid : List Cond := Cond.code y_M_paid b_M_paid 2 (some .int) :: lw_g
def w_M_give : List Cond := Cond.code y_M_give b_M_give 2 (some .int) :: lw_g
def w_M_unaryStep : List Cond := Cond.code y_M_unaryStep b_M_unaryStep 4 (some .int) :: lw_g
def w_M_first : List Cond := Cond.code y_M_first b_M_first 4 (some .int) :: lw_g
def w_M_ask : List Cond := Cond.code y_M_ask b_M_ask 4 (some .int) :: lw_g
def w_M_pairStep : List Cond := Cond.code y_M_pairStep b_M_pairStep 8 (some .int) :: lw_g
def w_M_binaryStep : List Cond := Cond.code y_M_binaryStep b_M_binaryStep 5 (some .int) :: lw_g
def w_M_limit : List Cond := Cond.code y_M_limit b_M_limit 3 (some .int) :: lw_g
def w_M_toStep : List Cond := Cond.code y_M_toStep b_M_toStep 4 (some .int) :: lw_g
def w_M_onward : List Cond := Cond.code y_M_onward b_M_onward 6 (some .int) :: lw_g
def w_M_choose : List Cond := Cond.code y_M_choose b_M_choose 4 (some .int) :: lw_g
def w_M_skip : List Cond := Cond.code y_M_skip b_M_skip 5 (some .int) :: lw_g
def w_M_value : List Cond := Cond.code y_M_value b_M_value 1 (some .int) :: lw_g
def w_M_writes : List Cond := Cond.code y_M_writes b_M_writes 1 (some .int) :: lw_g
def w_M_written : List Cond := Cond.code y_M_written b_M_written 2 (some .long) :: lw_g
def w_M_cost : List Cond := Cond.code y_M_cost b_M_cost 1 (some .int) :: lw_g
end
section
/-! decoded rows -/
theorem d_S_init_0 : decode b_S_init 0 = .ok (.aload_n 0, 1) := by decide +kernel
theorem d_S_init_1 : decode b_S_init 1 = .ok (.invokespecial 1, 3) := by decide +kernel
theorem d_S_init_4 : decode b_S_init 4 = .ok (.aload_n 0, 1) := by decide +kernel
theorem d_S_init_5 : decode b_S_init 5 = .ok (.new 7, 3) := by decide +kernel
theorem d_S_init_8 : decode b_S_init 8 = .ok (.dup, 1) := by decide +kernel
theorem d_S_init_9 : decode b_S_init 9 = .ok (.invokespecial 9, 3) := by decide +kernel
theorem d_S_init_12 : decode b_S_init 12 = .ok (.putfield 10, 3) := by decide +kernel
theorem d_S_init_15 : decode b_S_init 15 = .ok (.aload_n 0, 1) := by decide +kernel
theorem d_S_init_16 : decode b_S_init 16 = .ok (.bipush 60, 2) := by decide +kernel
theorem d_S_init_18 : decode b_S_init 18 = .ok (.newarray .int, 2) := by decide +kernel
theorem d_S_init_20 : decode b_S_init 20 = .ok (.putfield 16, 3) := by decide +kernel
theorem d_S_init_23 : decode b_S_init 23 = .ok (.aload_n 0, 1) := by decide +kernel
theorem d_S_init_24 : decode b_S_init 24 = .ok (.bipush 60, 2) := by decide +kernel
theorem d_S_init_26 : decode b_S_init 26 = .ok (.newarray .int, 2) := by decide +kernel
theorem d_S_init_28 : decode b_S_init 28 = .ok (.putfield 20, 3) := by decide +kernel
theorem d_S_init_31 : decode b_S_init 31 = .ok (.aload_n 0, 1) := by decide +kernel
theorem d_S_init_32 : decode b_S_init 32 = .ok (.bipush 60, 2) := by decide +kernel
theorem d_S_init_34 : decode b_S_init 34 = .ok (.newarray .long, 2) := by decide +kernel
theorem d_S_init_36 : decode b_S_init 36 = .ok (.putfield 23, 3) := by decide +kernel
theorem d_S_init_39 : decode b_S_init 39 = .ok (.aload_n 0, 1) := by decide +kernel
theorem d_S_init_40 : decode b_S_init 40 = .ok (.bipush 8, 2) := by decide +kernel
theorem d_S_init_42 : decode b_S_init 42 = .ok (.newarray .int, 2) := by decide +kernel
theorem d_S_init_44 : decode b_S_init 44 = .ok (.putfield 27, 3) := by decide +kernel
theorem d_S_init_47 : decode b_S_init 47 = .ok (.aload_n 0, 1) := by decide +kernel
theorem d_S_init_48 : decode b_S_init 48 = .ok (.bipush 32, 2) := by decide +kernel
theorem d_S_init_50 : decode b_S_init 50 = .ok (.newarray .int, 2) := by decide +kernel
theorem d_S_init_52 : decode b_S_init 52 = .ok (.putfield 30, 3) := by decide +kernel
theorem d_S_init_55 : decode b_S_init 55 = .ok (.aload_n 0, 1) := by decide +kernel
theorem d_S_init_56 : decode b_S_init 56 = .ok (.iconst 0, 1) := by decide +kernel
theorem d_S_init_57 : decode b_S_init 57 = .ok (.putfield 33, 3) := by decide +kernel
theorem d_S_init_60 : decode b_S_init 60 = .ok (.aload_n 0, 1) := by decide +kernel
theorem d_S_init_61 : decode b_S_init 61 = .ok (.iconst 0, 1) := by decide +kernel
theorem d_S_init_62 : decode b_S_init 62 = .ok (.putfield 37, 3) := by decide +kernel
theorem d_S_init_65 : decode b_S_init 65 = .ok (.aload_n 0, 1) := by decide +kernel
theorem d_S_init_66 : decode b_S_init 66 = .ok (.iconst 0, 1) := by decide +kernel
theorem d_S_init_67 : decode b_S_init 67 = .ok (.putfield 40, 3) := by decide +kernel
theorem d_S_init_70 : decode b_S_init 70 = .ok (.aload_n 0, 1) := by decide +kernel
theorem d_S_init_71 : decode b_S_init 71 = .ok (.iconst 0, 1) := by decide +kernel
theorem d_S_init_72 : decode b_S_init 72 = .ok (.putfield 43, 3) := by decide +kernel
theorem d_S_init_75 : decode b_S_init 75 = .ok (.aload_n 0, 1) := by decide +kernel
theorem d_S_init_76 : decode b_S_init 76 = .ok (.iconst 0, 1) := by decide +kernel
theorem d_S_init_77 : decode b_S_init 77 = .ok (.putfield 46, 3) := by decide +kernel
theorem d_S_init_80 : decode b_S_init 80 = .ok (.aload_n 0, 1) := by decide +kernel
theorem d_S_init_81 : decode b_S_init 81 = .ok (.iconst (-1), 1) := by decide +kernel
theorem d_S_init_82 : decode b_S_init 82 = .ok (.putfield 49, 3) := by decide +kernel
theorem d_S_init_85 : decode b_S_init 85 = .ok (.return_, 1) := by decide +kernel
theorem d_S_open_0 : decode b_S_open 0 = .ok (.aload_n 0, 1) := by decide +kernel
theorem d_S_open_1 : decode b_S_open 1 = .ok (.iload_n 1, 1) := by decide +kernel
theorem d_S_open_2 : decode b_S_open 2 = .ok (.invokevirtual 52, 3) := by decide +kernel
theorem d_S_open_5 : decode b_S_open 5 = .ok (.aload_n 0, 1) := by decide +kernel
theorem d_S_open_6 : decode b_S_open 6 = .ok (.iload_n 1, 1) := by decide +kernel
theorem d_S_open_7 : decode b_S_open 7 = .ok (.putfield 46, 3) := by decide +kernel
theorem d_S_open_10 : decode b_S_open 10 = .ok (.aload_n 0, 1) := by decide +kernel
theorem d_S_open_11 : decode b_S_open 11 = .ok (.iload_n 2, 1) := by decide +kernel
theorem d_S_open_12 : decode b_S_open 12 = .ok (.putfield 43, 3) := by decide +kernel
theorem d_S_open_15 : decode b_S_open 15 = .ok (.aload_n 0, 1) := by decide +kernel
theorem d_S_open_16 : decode b_S_open 16 = .ok (.iconst 0, 1) := by decide +kernel
theorem d_S_open_17 : decode b_S_open 17 = .ok (.putfield 37, 3) := by decide +kernel
theorem d_S_open_20 : decode b_S_open 20 = .ok (.aload_n 0, 1) := by decide +kernel
theorem d_S_open_21 : decode b_S_open 21 = .ok (.iconst 0, 1) := by decide +kernel
theorem d_S_open_22 : decode b_S_open 22 = .ok (.putfield 33, 3) := by decide +kernel
theorem d_S_open_25 : decode b_S_open 25 = .ok (.aload_n 0, 1) := by decide +kernel
theorem d_S_open_26 : decode b_S_open 26 = .ok (.iconst 0, 1) := by decide +kernel
theorem d_S_open_27 : decode b_S_open 27 = .ok (.putfield 40, 3) := by decide +kernel
theorem d_S_open_30 : decode b_S_open 30 = .ok (.aload_n 0, 1) := by decide +kernel
theorem d_S_open_31 : decode b_S_open 31 = .ok (.iconst 1, 1) := by decide +kernel
theorem d_S_open_32 : decode b_S_open 32 = .ok (.putfield 49, 3) := by decide +kernel
theorem d_S_open_35 : decode b_S_open 35 = .ok (.return_, 1) := by decide +kernel
theorem d_S_proceed_0 : decode b_S_proceed 0 = .ok (.aload_n 0, 1) := by decide +kernel
theorem d_S_proceed_1 : decode b_S_proceed 1 = .ok (.getfield 49, 3) := by decide +kernel
theorem d_S_proceed_4 : decode b_S_proceed 4 = .ok (.iconst 1, 1) := by decide +kernel
theorem d_S_proceed_5 : decode b_S_proceed 5 = .ok (.if_icmp .eq 8, 3) := by decide +kernel
theorem d_S_proceed_8 : decode b_S_proceed 8 = .ok (.aload_n 0, 1) := by decide +kernel
theorem d_S_proceed_9 : decode b_S_proceed 9 = .ok (.getfield 49, 3) := by decide +kernel
theorem d_S_proceed_12 : decode b_S_proceed 12 = .ok (.ireturn, 1) := by decide +kernel
theorem d_S_proceed_13 : decode b_S_proceed 13 = .ok (.aload_n 0, 1) := by decide +kernel
theorem d_S_proceed_14 : decode b_S_proceed 14 = .ok (.aload_n 0, 1) := by decide +kernel
theorem d_S_proceed_15 : decode b_S_proceed 15 = .ok (.aload_n 0, 1) := by decide +kernel
theorem d_S_proceed_16 : decode b_S_proceed 16 = .ok (.getfield 46, 3) := by decide +kernel
theorem d_S_proceed_19 : decode b_S_proceed 19 = .ok (.invokevirtual 56, 3) := by decide +kernel
theorem d_S_proceed_22 : decode b_S_proceed 22 = .ok (.putfield 49, 3) := by decide +kernel
theorem d_S_proceed_25 : decode b_S_proceed 25 = .ok (.aload_n 0, 1) := by decide +kernel
theorem d_S_proceed_26 : decode b_S_proceed 26 = .ok (.getfield 49, 3) := by decide +kernel
theorem d_S_proceed_29 : decode b_S_proceed 29 = .ok (.iconst 1, 1) := by decide +kernel
theorem d_S_proceed_30 : decode b_S_proceed 30 = .ok (.if_icmp .ne 16, 3) := by decide +kernel
theorem d_S_proceed_33 : decode b_S_proceed 33 = .ok (.aload_n 0, 1) := by decide +kernel
theorem d_S_proceed_34 : decode b_S_proceed 34 = .ok (.aload_n 0, 1) := by decide +kernel
theorem d_S_proceed_35 : decode b_S_proceed 35 = .ok (.getfield 20, 3) := by decide +kernel
theorem d_S_proceed_38 : decode b_S_proceed 38 = .ok (.aload_n 0, 1) := by decide +kernel
theorem d_S_proceed_39 : decode b_S_proceed 39 = .ok (.getfield 46, 3) := by decide +kernel
theorem d_S_proceed_42 : decode b_S_proceed 42 = .ok (.iaload, 1) := by decide +kernel
theorem d_S_proceed_43 : decode b_S_proceed 43 = .ok (.putfield 40, 3) := by decide +kernel
theorem d_S_proceed_46 : decode b_S_proceed 46 = .ok (.aload_n 0, 1) := by decide +kernel
theorem d_S_proceed_47 : decode b_S_proceed 47 = .ok (.getfield 49, 3) := by decide +kernel
theorem d_S_proceed_50 : decode b_S_proceed 50 = .ok (.ireturn, 1) := by decide +kernel
theorem d_S_start_0 : decode b_S_start 0 = .ok (.aload_n 0, 1) := by decide +kernel
theorem d_S_start_1 : decode b_S_start 1 = .ok (.getfield 16, 3) := by decide +kernel
theorem d_S_start_4 : decode b_S_start 4 = .ok (.iload_n 1, 1) := by decide +kernel
theorem d_S_start_5 : decode b_S_start 5 = .ok (.iconst 0, 1) := by decide +kernel
theorem d_S_start_6 : decode b_S_start 6 = .ok (.iastore, 1) := by decide +kernel
theorem d_S_start_7 : decode b_S_start 7 = .ok (.return_, 1) := by decide +kernel
theorem d_S_tryOnce_0 : decode b_S_tryOnce 0 = .ok (.aload_n 0, 1) := by decide +kernel
theorem d_S_tryOnce_1 : decode b_S_tryOnce 1 = .ok (.iload_n 1, 1) := by decide +kernel
theorem d_S_tryOnce_2 : decode b_S_tryOnce 2 = .ok (.invokevirtual 52, 3) := by decide +kernel
theorem d_S_tryOnce_5 : decode b_S_tryOnce 5 = .ok (.aload_n 0, 1) := by decide +kernel
theorem d_S_tryOnce_6 : decode b_S_tryOnce 6 = .ok (.iload_n 1, 1) := by decide +kernel
theorem d_S_tryOnce_7 : decode b_S_tryOnce 7 = .ok (.invokevirtual 56, 3) := by decide +kernel
theorem d_S_tryOnce_10 : decode b_S_tryOnce 10 = .ok (.ireturn, 1) := by decide +kernel
theorem d_S_ask_0 : decode b_S_ask 0 = .ok (.aload_n 0, 1) := by decide +kernel
theorem d_S_ask_1 : decode b_S_ask 1 = .ok (.getfield 10, 3) := by decide +kernel
theorem d_S_ask_4 : decode b_S_ask 4 = .ok (.getfield 60, 3) := by decide +kernel
theorem d_S_ask_7 : decode b_S_ask 7 = .ok (.iload_n 1, 1) := by decide +kernel
theorem d_S_ask_8 : decode b_S_ask 8 = .ok (.iaload, 1) := by decide +kernel
theorem d_S_ask_9 : decode b_S_ask 9 = .ok (.tableswitch 222 0 19 #[95, 110, 130, 136, 142, 148, 154, 160, 180, 180, 180, 186, 186, 186, 192, 198, 198, 204, 210, 216], 95) := by decide +kernel
theorem d_S_ask_104 : decode b_S_ask 104 = .ok (.aload_n 0, 1) := by decide +kernel
theorem d_S_ask_105 : decode b_S_ask 105 = .ok (.iload_n 1, 1) := by decide +kernel
theorem d_S_ask_106 : decode b_S_ask 106 = .ok (.aload_n 0, 1) := by decide +kernel
theorem d_S_ask_107 : decode b_S_ask 107 = .ok (.getfield 10, 3) := by decide +kernel
theorem d_S_ask_110 : decode b_S_ask 110 = .ok (.getfield 63, 3) := by decide +kernel
theorem d_S_ask_113 : decode b_S_ask 113 = .ok (.iload_n 1, 1) := by decide +kernel
theorem d_S_ask_114 : decode b_S_ask 114 = .ok (.iaload, 1) := by decide +kernel
theorem d_S_ask_115 : decode b_S_ask 115 = .ok (.invokevirtual 66, 3) := by decide +kernel
theorem d_S_ask_118 : decode b_S_ask 118 = .ok (.ireturn, 1) := by decide +kernel
theorem d_S_ask_119 : decode b_S_ask 119 = .ok (.aload_n 0, 1) := by decide +kernel
theorem d_S_ask_120 : decode b_S_ask 120 = .ok (.iload_n 1, 1) := by decide +kernel
theorem d_S_ask_121 : decode b_S_ask 121 = .ok (.aload_n 0, 1) := by decide +kernel
theorem d_S_ask_122 : decode b_S_ask 122 = .ok (.getfield 27, 3) := by decide +kernel
theorem d_S_ask_125 : decode b_S_ask 125 = .ok (.aload_n 0, 1) := by decide +kernel
theorem d_S_ask_126 : decode b_S_ask 126 = .ok (.getfield 10, 3) := by decide +kernel
theorem d_S_ask_129 : decode b_S_ask 129 = .ok (.getfield 63, 3) := by decide +kernel
theorem d_S_ask_132 : decode b_S_ask 132 = .ok (.iload_n 1, 1) := by decide +kernel
theorem d_S_ask_133 : decode b_S_ask 133 = .ok (.iaload, 1) := by decide +kernel
theorem d_S_ask_134 : decode b_S_ask 134 = .ok (.iaload, 1) := by decide +kernel
theorem d_S_ask_135 : decode b_S_ask 135 = .ok (.invokevirtual 66, 3) := by decide +kernel
theorem d_S_ask_138 : decode b_S_ask 138 = .ok (.ireturn, 1) := by decide +kernel
theorem d_S_ask_139 : decode b_S_ask 139 = .ok (.aload_n 0, 1) := by decide +kernel
theorem d_S_ask_140 : decode b_S_ask 140 = .ok (.iload_n 1, 1) := by decide +kernel
theorem d_S_ask_141 : decode b_S_ask 141 = .ok (.invokevirtual 70, 3) := by decide +kernel
theorem d_S_ask_144 : decode b_S_ask 144 = .ok (.ireturn, 1) := by decide +kernel
theorem d_S_ask_145 : decode b_S_ask 145 = .ok (.aload_n 0, 1) := by decide +kernel
theorem d_S_ask_146 : decode b_S_ask 146 = .ok (.iload_n 1, 1) := by decide +kernel
theorem d_S_ask_147 : decode b_S_ask 147 = .ok (.invokevirtual 73, 3) := by decide +kernel
theorem d_S_ask_150 : decode b_S_ask 150 = .ok (.ireturn, 1) := by decide +kernel
theorem d_S_ask_151 : decode b_S_ask 151 = .ok (.aload_n 0, 1) := by decide +kernel
theorem d_S_ask_152 : decode b_S_ask 152 = .ok (.iload_n 1, 1) := by decide +kernel
theorem d_S_ask_153 : decode b_S_ask 153 = .ok (.invokevirtual 76, 3) := by decide +kernel
theorem d_S_ask_156 : decode b_S_ask 156 = .ok (.ireturn, 1) := by decide +kernel
theorem d_S_ask_157 : decode b_S_ask 157 = .ok (.aload_n 0, 1) := by decide +kernel
theorem d_S_ask_158 : decode b_S_ask 158 = .ok (.iload_n 1, 1) := by decide +kernel
theorem d_S_ask_159 : decode b_S_ask 159 = .ok (.invokevirtual 79, 3) := by decide +kernel
theorem d_S_ask_162 : decode b_S_ask 162 = .ok (.ireturn, 1) := by decide +kernel
theorem d_S_ask_163 : decode b_S_ask 163 = .ok (.aload_n 0, 1) := by decide +kernel
theorem d_S_ask_164 : decode b_S_ask 164 = .ok (.iload_n 1, 1) := by decide +kernel
theorem d_S_ask_165 : decode b_S_ask 165 = .ok (.invokevirtual 82, 3) := by decide +kernel
theorem d_S_ask_168 : decode b_S_ask 168 = .ok (.ireturn, 1) := by decide +kernel
theorem d_S_ask_169 : decode b_S_ask 169 = .ok (.aload_n 0, 1) := by decide +kernel
theorem d_S_ask_170 : decode b_S_ask 170 = .ok (.iload_n 1, 1) := by decide +kernel
theorem d_S_ask_171 : decode b_S_ask 171 = .ok (.aload_n 0, 1) := by decide +kernel
theorem d_S_ask_172 : decode b_S_ask 172 = .ok (.getfield 10, 3) := by decide +kernel
theorem d_S_ask_175 : decode b_S_ask 175 = .ok (.getfield 85, 3) := by decide +kernel
theorem d_S_ask_178 : decode b_S_ask 178 = .ok (.iload_n 1, 1) := by decide +kernel
theorem d_S_ask_179 : decode b_S_ask 179 = .ok (.iaload, 1) := by decide +kernel
theorem d_S_ask_180 : decode b_S_ask 180 = .ok (.aload_n 0, 1) := by decide +kernel
theorem d_S_ask_181 : decode b_S_ask 181 = .ok (.iload_n 1, 1) := by decide +kernel
theorem d_S_ask_182 : decode b_S_ask 182 = .ok (.invokevirtual 88, 3) := by decide +kernel
theorem d_S_ask_185 : decode b_S_ask 185 = .ok (.invokevirtual 91, 3) := by decide +kernel
theorem d_S_ask_188 : decode b_S_ask 188 = .ok (.ireturn, 1) := by decide +kernel
theorem d_S_ask_189 : decode b_S_ask 189 = .ok (.aload_n 0, 1) := by decide +kernel
theorem d_S_ask_190 : decode b_S_ask 190 = .ok (.iload_n 1, 1) := by decide +kernel
theorem d_S_ask_191 : decode b_S_ask 191 = .ok (.invokevirtual 95, 3) := by decide +kernel
theorem d_S_ask_194 : decode b_S_ask 194 = .ok (.ireturn, 1) := by decide +kernel
theorem d_S_ask_195 : decode b_S_ask 195 = .ok (.aload_n 0, 1) := by decide +kernel
theorem d_S_ask_196 : decode b_S_ask 196 = .ok (.iload_n 1, 1) := by decide +kernel
theorem d_S_ask_197 : decode b_S_ask 197 = .ok (.invokevirtual 98, 3) := by decide +kernel
theorem d_S_ask_200 : decode b_S_ask 200 = .ok (.ireturn, 1) := by decide +kernel
theorem d_S_ask_201 : decode b_S_ask 201 = .ok (.aload_n 0, 1) := by decide +kernel
theorem d_S_ask_202 : decode b_S_ask 202 = .ok (.iload_n 1, 1) := by decide +kernel
theorem d_S_ask_203 : decode b_S_ask 203 = .ok (.invokevirtual 101, 3) := by decide +kernel
theorem d_S_ask_206 : decode b_S_ask 206 = .ok (.ireturn, 1) := by decide +kernel
theorem d_S_ask_207 : decode b_S_ask 207 = .ok (.aload_n 0, 1) := by decide +kernel
theorem d_S_ask_208 : decode b_S_ask 208 = .ok (.iload_n 1, 1) := by decide +kernel
theorem d_S_ask_209 : decode b_S_ask 209 = .ok (.invokevirtual 104, 3) := by decide +kernel
theorem d_S_ask_212 : decode b_S_ask 212 = .ok (.ireturn, 1) := by decide +kernel
theorem d_S_ask_213 : decode b_S_ask 213 = .ok (.aload_n 0, 1) := by decide +kernel
theorem d_S_ask_214 : decode b_S_ask 214 = .ok (.iload_n 1, 1) := by decide +kernel
theorem d_S_ask_215 : decode b_S_ask 215 = .ok (.invokevirtual 107, 3) := by decide +kernel
theorem d_S_ask_218 : decode b_S_ask 218 = .ok (.ireturn, 1) := by decide +kernel
theorem d_S_ask_219 : decode b_S_ask 219 = .ok (.aload_n 0, 1) := by decide +kernel
theorem d_S_ask_220 : decode b_S_ask 220 = .ok (.iload_n 1, 1) := by decide +kernel
theorem d_S_ask_221 : decode b_S_ask 221 = .ok (.invokevirtual 110, 3) := by decide +kernel
theorem d_S_ask_224 : decode b_S_ask 224 = .ok (.ireturn, 1) := by decide +kernel
theorem d_S_ask_225 : decode b_S_ask 225 = .ok (.aload_n 0, 1) := by decide +kernel
theorem d_S_ask_226 : decode b_S_ask 226 = .ok (.iload_n 1, 1) := by decide +kernel
theorem d_S_ask_227 : decode b_S_ask 227 = .ok (.invokevirtual 113, 3) := by decide +kernel
theorem d_S_ask_230 : decode b_S_ask 230 = .ok (.ireturn, 1) := by decide +kernel
theorem d_S_ask_231 : decode b_S_ask 231 = .ok (.iconst 0, 1) := by decide +kernel
theorem d_S_ask_232 : decode b_S_ask 232 = .ok (.ireturn, 1) := by decide +kernel
theorem d_S_give_0 : decode b_S_give 0 = .ok (.aload_n 0, 1) := by decide +kernel
theorem d_S_give_1 : decode b_S_give 1 = .ok (.getfield 20, 3) := by decide +kernel
theorem d_S_give_4 : decode b_S_give 4 = .ok (.iload_n 1, 1) := by decide +kernel
theorem d_S_give_5 : decode b_S_give 5 = .ok (.iload_n 2, 1) := by decide +kernel
theorem d_S_give_6 : decode b_S_give 6 = .ok (.iastore, 1) := by decide +kernel
theorem d_S_give_7 : decode b_S_give 7 = .ok (.iconst 1, 1) := by decide +kernel
theorem d_S_give_8 : decode b_S_give 8 = .ok (.ireturn, 1) := by decide +kernel
theorem d_S_giveForFuel_0 : decode b_S_giveForFuel 0 = .ok (.aload_n 0, 1) := by decide +kernel
theorem d_S_giveForFuel_1 : decode b_S_giveForFuel 1 = .ok (.getfield 37, 3) := by decide +kernel
theorem d_S_giveForFuel_4 : decode b_S_giveForFuel 4 = .ok (.aload_n 0, 1) := by decide +kernel
theorem d_S_giveForFuel_5 : decode b_S_giveForFuel 5 = .ok (.getfield 43, 3) := by decide +kernel
theorem d_S_giveForFuel_8 : decode b_S_giveForFuel 8 = .ok (.if_icmp .lt 6, 3) := by decide +kernel
theorem d_S_giveForFuel_11 : decode b_S_giveForFuel 11 = .ok (.bipush (-5), 2) := by decide +kernel
theorem d_S_giveForFuel_13 : decode b_S_giveForFuel 13 = .ok (.ireturn, 1) := by decide +kernel
theorem d_S_giveForFuel_14 : decode b_S_giveForFuel 14 = .ok (.aload_n 0, 1) := by decide +kernel
theorem d_S_giveForFuel_15 : decode b_S_giveForFuel 15 = .ok (.dup, 1) := by decide +kernel
theorem d_S_giveForFuel_16 : decode b_S_giveForFuel 16 = .ok (.getfield 37, 3) := by decide +kernel
theorem d_S_giveForFuel_19 : decode b_S_giveForFuel 19 = .ok (.iconst 1, 1) := by decide +kernel
theorem d_S_giveForFuel_20 : decode b_S_giveForFuel 20 = .ok (.iadd, 1) := by decide +kernel
theorem d_S_giveForFuel_21 : decode b_S_giveForFuel 21 = .ok (.putfield 37, 3) := by decide +kernel
theorem d_S_giveForFuel_24 : decode b_S_giveForFuel 24 = .ok (.aload_n 0, 1) := by decide +kernel
theorem d_S_giveForFuel_25 : decode b_S_giveForFuel 25 = .ok (.iload_n 1, 1) := by decide +kernel
theorem d_S_giveForFuel_26 : decode b_S_giveForFuel 26 = .ok (.iload_n 2, 1) := by decide +kernel
theorem d_S_giveForFuel_27 : decode b_S_giveForFuel 27 = .ok (.invokevirtual 116, 3) := by decide +kernel
theorem d_S_giveForFuel_30 : decode b_S_giveForFuel 30 = .ok (.ireturn, 1) := by decide +kernel
theorem d_S_handUp_0 : decode b_S_handUp 0 = .ok (.iload_n 3, 1) := by decide +kernel
theorem d_S_handUp_1 : decode b_S_handUp 1 = .ok (.iconst 1, 1) := by decide +kernel
theorem d_S_handUp_2 : decode b_S_handUp 2 = .ok (.if_icmp .ne 17, 3) := by decide +kernel
theorem d_S_handUp_5 : decode b_S_handUp 5 = .ok (.aload_n 0, 1) := by decide +kernel
theorem d_S_handUp_6 : decode b_S_handUp 6 = .ok (.iload_n 1, 1) := by decide +kernel
theorem d_S_handUp_7 : decode b_S_handUp 7 = .ok (.aload_n 0, 1) := by decide +kernel
theorem d_S_handUp_8 : decode b_S_handUp 8 = .ok (.getfield 20, 3) := by decide +kernel
theorem d_S_handUp_11 : decode b_S_handUp 11 = .ok (.iload_n 2, 1) := by decide +kernel
theorem d_S_handUp_12 : decode b_S_handUp 12 = .ok (.iaload, 1) := by decide +kernel
theorem d_S_handUp_13 : decode b_S_handUp 13 = .ok (.invokevirtual 116, 3) := by decide +kernel
theorem d_S_handUp_16 : decode b_S_handUp 16 = .ok (.goto 4, 3) := by decide +kernel
theorem d_S_handUp_19 : decode b_S_handUp 19 = .ok (.iload_n 3, 1) := by decide +kernel
theorem d_S_handUp_20 : decode b_S_handUp 20 = .ok (.ireturn, 1) := by decide +kernel
theorem d_S_askLeaf_0 : decode b_S_askLeaf 0 = .ok (.aload_n 0, 1) := by decide +kernel
theorem d_S_askLeaf_1 : decode b_S_askLeaf 1 = .ok (.getfield 16, 3) := by decide +kernel
theorem d_S_askLeaf_4 : decode b_S_askLeaf 4 = .ok (.iload_n 1, 1) := by decide +kernel
theorem d_S_askLeaf_5 : decode b_S_askLeaf 5 = .ok (.iaload, 1) := by decide +kernel
theorem d_S_askLeaf_6 : decode b_S_askLeaf 6 = .ok (.ifCond .eq 5, 3) := by decide +kernel
theorem d_S_askLeaf_9 : decode b_S_askLeaf 9 = .ok (.iconst 0, 1) := by decide +kernel
theorem d_S_askLeaf_10 : decode b_S_askLeaf 10 = .ok (.ireturn, 1) := by decide +kernel
theorem d_S_askLeaf_11 : decode b_S_askLeaf 11 = .ok (.aload_n 0, 1) := by decide +kernel
theorem d_S_askLeaf_12 : decode b_S_askLeaf 12 = .ok (.getfield 16, 3) := by decide +kernel
theorem d_S_askLeaf_15 : decode b_S_askLeaf 15 = .ok (.iload_n 1, 1) := by decide +kernel
theorem d_S_askLeaf_16 : decode b_S_askLeaf 16 = .ok (.iconst 5, 1) := by decide +kernel
theorem d_S_askLeaf_17 : decode b_S_askLeaf 17 = .ok (.iastore, 1) := by decide +kernel
theorem d_S_askLeaf_18 : decode b_S_askLeaf 18 = .ok (.aload_n 0, 1) := by decide +kernel
theorem d_S_askLeaf_19 : decode b_S_askLeaf 19 = .ok (.iload_n 1, 1) := by decide +kernel
theorem d_S_askLeaf_20 : decode b_S_askLeaf 20 = .ok (.iload_n 2, 1) := by decide +kernel
theorem d_S_askLeaf_21 : decode b_S_askLeaf 21 = .ok (.invokevirtual 119, 3) := by decide +kernel
theorem d_S_askLeaf_24 : decode b_S_askLeaf 24 = .ok (.ireturn, 1) := by decide +kernel
theorem d_S_askX_0 : decode b_S_askX 0 = .ok (.aload_n 0, 1) := by decide +kernel
theorem d_S_askX_1 : decode b_S_askX 1 = .ok (.getfield 16, 3) := by decide +kernel
theorem d_S_askX_4 : decode b_S_askX 4 = .ok (.iload_n 1, 1) := by decide +kernel
theorem d_S_askX_5 : decode b_S_askX 5 = .ok (.iaload, 1) := by decide +kernel
theorem d_S_askX_6 : decode b_S_askX 6 = .ok (.ifCond .ne 16, 3) := by decide +kernel
theorem d_S_askX_9 : decode b_S_askX 9 = .ok (.aload_n 0, 1) := by decide +kernel
theorem d_S_askX_10 : decode b_S_askX 10 = .ok (.aload_n 0, 1) := by decide +kernel
theorem d_S_askX_11 : decode b_S_askX 11 = .ok (.getfield 10, 3) := by decide +kernel
theorem d_S_askX_14 : decode b_S_askX 14 = .ok (.getfield 122, 3) := by decide +kernel
theorem d_S_askX_17 : decode b_S_askX 17 = .ok (.iload_n 1, 1) := by decide +kernel
theorem d_S_askX_18 : decode b_S_askX 18 = .ok (.iaload, 1) := by decide +kernel
theorem d_S_askX_19 : decode b_S_askX 19 = .ok (.invokevirtual 52, 3) := by decide +kernel
theorem d_S_askX_22 : decode b_S_askX 22 = .ok (.aload_n 0, 1) := by decide +kernel
theorem d_S_askX_23 : decode b_S_askX 23 = .ok (.getfield 16, 3) := by decide +kernel
theorem d_S_askX_26 : decode b_S_askX 26 = .ok (.iload_n 1, 1) := by decide +kernel
theorem d_S_askX_27 : decode b_S_askX 27 = .ok (.iconst 1, 1) := by decide +kernel
theorem d_S_askX_28 : decode b_S_askX 28 = .ok (.iastore, 1) := by decide +kernel
theorem d_S_askX_29 : decode b_S_askX 29 = .ok (.aload_n 0, 1) := by decide +kernel
theorem d_S_askX_30 : decode b_S_askX 30 = .ok (.aload_n 0, 1) := by decide +kernel
theorem d_S_askX_31 : decode b_S_askX 31 = .ok (.getfield 10, 3) := by decide +kernel
theorem d_S_askX_34 : decode b_S_askX 34 = .ok (.getfield 122, 3) := by decide +kernel
theorem d_S_askX_37 : decode b_S_askX 37 = .ok (.iload_n 1, 1) := by decide +kernel
theorem d_S_askX_38 : decode b_S_askX 38 = .ok (.iaload, 1) := by decide +kernel
theorem d_S_askX_39 : decode b_S_askX 39 = .ok (.invokevirtual 56, 3) := by decide +kernel
theorem d_S_askX_42 : decode b_S_askX 42 = .ok (.ireturn, 1) := by decide +kernel
theorem d_S_askAssign_0 : decode b_S_askAssign 0 = .ok (.aload_n 0, 1) := by decide +kernel
theorem d_S_askAssign_1 : decode b_S_askAssign 1 = .ok (.iload_n 1, 1) := by decide +kernel
theorem d_S_askAssign_2 : decode b_S_askAssign 2 = .ok (.aload_n 0, 1) := by decide +kernel
theorem d_S_askAssign_3 : decode b_S_askAssign 3 = .ok (.getfield 10, 3) := by decide +kernel
theorem d_S_askAssign_6 : decode b_S_askAssign 6 = .ok (.getfield 122, 3) := by decide +kernel
theorem d_S_askAssign_9 : decode b_S_askAssign 9 = .ok (.iload_n 1, 1) := by decide +kernel
theorem d_S_askAssign_10 : decode b_S_askAssign 10 = .ok (.iaload, 1) := by decide +kernel
theorem d_S_askAssign_11 : decode b_S_askAssign 11 = .ok (.aload_n 0, 1) := by decide +kernel
theorem d_S_askAssign_12 : decode b_S_askAssign 12 = .ok (.iload_n 1, 1) := by decide +kernel
theorem d_S_askAssign_13 : decode b_S_askAssign 13 = .ok (.invokevirtual 125, 3) := by decide +kernel
theorem d_S_askAssign_16 : decode b_S_askAssign 16 = .ok (.invokevirtual 91, 3) := by decide +kernel
theorem d_S_askAssign_19 : decode b_S_askAssign 19 = .ok (.istore_n 2, 1) := by decide +kernel
theorem d_S_askAssign_20 : decode b_S_askAssign 20 = .ok (.iload_n 2, 1) := by decide +kernel
theorem d_S_askAssign_21 : decode b_S_askAssign 21 = .ok (.iconst 1, 1) := by decide +kernel
theorem d_S_askAssign_22 : decode b_S_askAssign 22 = .ok (.if_icmp .ne 23, 3) := by decide +kernel
theorem d_S_askAssign_25 : decode b_S_askAssign 25 = .ok (.aload_n 0, 1) := by decide +kernel
theorem d_S_askAssign_26 : decode b_S_askAssign 26 = .ok (.getfield 27, 3) := by decide +kernel
theorem d_S_askAssign_29 : decode b_S_askAssign 29 = .ok (.aload_n 0, 1) := by decide +kernel
theorem d_S_askAssign_30 : decode b_S_askAssign 30 = .ok (.getfield 10, 3) := by decide +kernel
theorem d_S_askAssign_33 : decode b_S_askAssign 33 = .ok (.getfield 63, 3) := by decide +kernel
theorem d_S_askAssign_36 : decode b_S_askAssign 36 = .ok (.iload_n 1, 1) := by decide +kernel
theorem d_S_askAssign_37 : decode b_S_askAssign 37 = .ok (.iaload, 1) := by decide +kernel
theorem d_S_askAssign_38 : decode b_S_askAssign 38 = .ok (.aload_n 0, 1) := by decide +kernel
theorem d_S_askAssign_39 : decode b_S_askAssign 39 = .ok (.getfield 20, 3) := by decide +kernel
theorem d_S_askAssign_42 : decode b_S_askAssign 42 = .ok (.iload_n 1, 1) := by decide +kernel
theorem d_S_askAssign_43 : decode b_S_askAssign 43 = .ok (.iaload, 1) := by decide +kernel
theorem d_S_askAssign_44 : decode b_S_askAssign 44 = .ok (.iastore, 1) := by decide +kernel
theorem d_S_askAssign_45 : decode b_S_askAssign 45 = .ok (.iload_n 2, 1) := by decide +kernel
theorem d_S_askAssign_46 : decode b_S_askAssign 46 = .ok (.ireturn, 1) := by decide +kernel
theorem d_S_askWrite_0 : decode b_S_askWrite 0 = .ok (.aload_n 0, 1) := by decide +kernel
theorem d_S_askWrite_1 : decode b_S_askWrite 1 = .ok (.iload_n 1, 1) := by decide +kernel
theorem d_S_askWrite_2 : decode b_S_askWrite 2 = .ok (.aload_n 0, 1) := by decide +kernel
theorem d_S_askWrite_3 : decode b_S_askWrite 3 = .ok (.getfield 10, 3) := by decide +kernel
theorem d_S_askWrite_6 : decode b_S_askWrite 6 = .ok (.getfield 122, 3) := by decide +kernel
theorem d_S_askWrite_9 : decode b_S_askWrite 9 = .ok (.iload_n 1, 1) := by decide +kernel
theorem d_S_askWrite_10 : decode b_S_askWrite 10 = .ok (.iaload, 1) := by decide +kernel
theorem d_S_askWrite_11 : decode b_S_askWrite 11 = .ok (.aload_n 0, 1) := by decide +kernel
theorem d_S_askWrite_12 : decode b_S_askWrite 12 = .ok (.iload_n 1, 1) := by decide +kernel
theorem d_S_askWrite_13 : decode b_S_askWrite 13 = .ok (.invokevirtual 125, 3) := by decide +kernel
theorem d_S_askWrite_16 : decode b_S_askWrite 16 = .ok (.invokevirtual 91, 3) := by decide +kernel
theorem d_S_askWrite_19 : decode b_S_askWrite 19 = .ok (.istore_n 2, 1) := by decide +kernel
theorem d_S_askWrite_20 : decode b_S_askWrite 20 = .ok (.iload_n 2, 1) := by decide +kernel
theorem d_S_askWrite_21 : decode b_S_askWrite 21 = .ok (.iconst 1, 1) := by decide +kernel
theorem d_S_askWrite_22 : decode b_S_askWrite 22 = .ok (.if_icmp .eq 5, 3) := by decide +kernel
theorem d_S_askWrite_25 : decode b_S_askWrite 25 = .ok (.iload_n 2, 1) := by decide +kernel
theorem d_S_askWrite_26 : decode b_S_askWrite 26 = .ok (.ireturn, 1) := by decide +kernel
theorem d_S_askWrite_27 : decode b_S_askWrite 27 = .ok (.aload_n 0, 1) := by decide +kernel
theorem d_S_askWrite_28 : decode b_S_askWrite 28 = .ok (.getfield 33, 3) := by decide +kernel
theorem d_S_askWrite_31 : decode b_S_askWrite 31 = .ok (.bipush 32, 2) := by decide +kernel
theorem d_S_askWrite_33 : decode b_S_askWrite 33 = .ok (.if_icmp .lt 6, 3) := by decide +kernel
theorem d_S_askWrite_36 : decode b_S_askWrite 36 = .ok (.bipush (-6), 2) := by decide +kernel
theorem d_S_askWrite_38 : decode b_S_askWrite 38 = .ok (.ireturn, 1) := by decide +kernel
theorem d_S_askWrite_39 : decode b_S_askWrite 39 = .ok (.aload_n 0, 1) := by decide +kernel
theorem d_S_askWrite_40 : decode b_S_askWrite 40 = .ok (.getfield 30, 3) := by decide +kernel
theorem d_S_askWrite_43 : decode b_S_askWrite 43 = .ok (.aload_n 0, 1) := by decide +kernel
theorem d_S_askWrite_44 : decode b_S_askWrite 44 = .ok (.getfield 33, 3) := by decide +kernel
theorem d_S_askWrite_47 : decode b_S_askWrite 47 = .ok (.aload_n 0, 1) := by decide +kernel
theorem d_S_askWrite_48 : decode b_S_askWrite 48 = .ok (.getfield 20, 3) := by decide +kernel
theorem d_S_askWrite_51 : decode b_S_askWrite 51 = .ok (.iload_n 1, 1) := by decide +kernel
theorem d_S_askWrite_52 : decode b_S_askWrite 52 = .ok (.iaload, 1) := by decide +kernel
theorem d_S_askWrite_53 : decode b_S_askWrite 53 = .ok (.iastore, 1) := by decide +kernel
theorem d_S_askWrite_54 : decode b_S_askWrite 54 = .ok (.aload_n 0, 1) := by decide +kernel
theorem d_S_askWrite_55 : decode b_S_askWrite 55 = .ok (.dup, 1) := by decide +kernel
theorem d_S_askWrite_56 : decode b_S_askWrite 56 = .ok (.getfield 33, 3) := by decide +kernel
theorem d_S_askWrite_59 : decode b_S_askWrite 59 = .ok (.iconst 1, 1) := by decide +kernel
theorem d_S_askWrite_60 : decode b_S_askWrite 60 = .ok (.iadd, 1) := by decide +kernel
theorem d_S_askWrite_61 : decode b_S_askWrite 61 = .ok (.putfield 33, 3) := by decide +kernel
theorem d_S_askWrite_64 : decode b_S_askWrite 64 = .ok (.iconst 1, 1) := by decide +kernel
theorem d_S_askWrite_65 : decode b_S_askWrite 65 = .ok (.ireturn, 1) := by decide +kernel
theorem d_S_askNot_0 : decode b_S_askNot 0 = .ok (.aload_n 0, 1) := by decide +kernel
theorem d_S_askNot_1 : decode b_S_askNot 1 = .ok (.getfield 16, 3) := by decide +kernel
theorem d_S_askNot_4 : decode b_S_askNot 4 = .ok (.iload_n 1, 1) := by decide +kernel
theorem d_S_askNot_5 : decode b_S_askNot 5 = .ok (.iaload, 1) := by decide +kernel
theorem d_S_askNot_6 : decode b_S_askNot 6 = .ok (.ifCond .eq 5, 3) := by decide +kernel
theorem d_S_askNot_9 : decode b_S_askNot 9 = .ok (.iconst 0, 1) := by decide +kernel
theorem d_S_askNot_10 : decode b_S_askNot 10 = .ok (.ireturn, 1) := by decide +kernel
theorem d_S_askNot_11 : decode b_S_askNot 11 = .ok (.aload_n 0, 1) := by decide +kernel
theorem d_S_askNot_12 : decode b_S_askNot 12 = .ok (.getfield 16, 3) := by decide +kernel
theorem d_S_askNot_15 : decode b_S_askNot 15 = .ok (.iload_n 1, 1) := by decide +kernel
theorem d_S_askNot_16 : decode b_S_askNot 16 = .ok (.iconst 5, 1) := by decide +kernel
theorem d_S_askNot_17 : decode b_S_askNot 17 = .ok (.iastore, 1) := by decide +kernel
theorem d_S_askNot_18 : decode b_S_askNot 18 = .ok (.aload_n 0, 1) := by decide +kernel
theorem d_S_askNot_19 : decode b_S_askNot 19 = .ok (.aload_n 0, 1) := by decide +kernel
theorem d_S_askNot_20 : decode b_S_askNot 20 = .ok (.getfield 10, 3) := by decide +kernel
theorem d_S_askNot_23 : decode b_S_askNot 23 = .ok (.getfield 122, 3) := by decide +kernel
theorem d_S_askNot_26 : decode b_S_askNot 26 = .ok (.iload_n 1, 1) := by decide +kernel
theorem d_S_askNot_27 : decode b_S_askNot 27 = .ok (.iaload, 1) := by decide +kernel
theorem d_S_askNot_28 : decode b_S_askNot 28 = .ok (.invokevirtual 128, 3) := by decide +kernel
theorem d_S_askNot_31 : decode b_S_askNot 31 = .ok (.istore_n 2, 1) := by decide +kernel
theorem d_S_askNot_32 : decode b_S_askNot 32 = .ok (.iload_n 2, 1) := by decide +kernel
theorem d_S_askNot_33 : decode b_S_askNot 33 = .ok (.iconst 1, 1) := by decide +kernel
theorem d_S_askNot_34 : decode b_S_askNot 34 = .ok (.if_icmp .ne 5, 3) := by decide +kernel
theorem d_S_askNot_37 : decode b_S_askNot 37 = .ok (.iconst 0, 1) := by decide +kernel
theorem d_S_askNot_38 : decode b_S_askNot 38 = .ok (.ireturn, 1) := by decide +kernel
theorem d_S_askNot_39 : decode b_S_askNot 39 = .ok (.iload_n 2, 1) := by decide +kernel
theorem d_S_askNot_40 : decode b_S_askNot 40 = .ok (.ifCond .ne 12, 3) := by decide +kernel
theorem d_S_askNot_43 : decode b_S_askNot 43 = .ok (.aload_n 0, 1) := by decide +kernel
theorem d_S_askNot_44 : decode b_S_askNot 44 = .ok (.iload_n 1, 1) := by decide +kernel
theorem d_S_askNot_45 : decode b_S_askNot 45 = .ok (.iconst 0, 1) := by decide +kernel
theorem d_S_askNot_46 : decode b_S_askNot 46 = .ok (.invokevirtual 116, 3) := by decide +kernel
theorem d_S_askNot_49 : decode b_S_askNot 49 = .ok (.goto 4, 3) := by decide +kernel
theorem d_S_askNot_52 : decode b_S_askNot 52 = .ok (.iload_n 2, 1) := by decide +kernel
theorem d_S_askNot_53 : decode b_S_askNot 53 = .ok (.ireturn, 1) := by decide +kernel
theorem d_S_askAgain_0 : decode b_S_askAgain 0 = .ok (.aload_n 0, 1) := by decide +kernel
theorem d_S_askAgain_1 : decode b_S_askAgain 1 = .ok (.getfield 10, 3) := by decide +kernel
theorem d_S_askAgain_4 : decode b_S_askAgain 4 = .ok (.getfield 122, 3) := by decide +kernel
theorem d_S_askAgain_7 : decode b_S_askAgain 7 = .ok (.iload_n 1, 1) := by decide +kernel
theorem d_S_askAgain_8 : decode b_S_askAgain 8 = .ok (.iaload, 1) := by decide +kernel
theorem d_S_askAgain_9 : decode b_S_askAgain 9 = .ok (.istore_n 2, 1) := by decide +kernel
theorem d_S_askAgain_10 : decode b_S_askAgain 10 = .ok (.aload_n 0, 1) := by decide +kernel
theorem d_S_askAgain_11 : decode b_S_askAgain 11 = .ok (.getfield 16, 3) := by decide +kernel
theorem d_S_askAgain_14 : decode b_S_askAgain 14 = .ok (.iload_n 1, 1) := by decide +kernel
theorem d_S_askAgain_15 : decode b_S_askAgain 15 = .ok (.iaload, 1) := by decide +kernel
theorem d_S_askAgain_16 : decode b_S_askAgain 16 = .ok (.ifCond .eq 7, 3) := by decide +kernel
theorem d_S_askAgain_19 : decode b_S_askAgain 19 = .ok (.iconst 1, 1) := by decide +kernel
theorem d_S_askAgain_20 : decode b_S_askAgain 20 = .ok (.goto 4, 3) := by decide +kernel
theorem d_S_askAgain_23 : decode b_S_askAgain 23 = .ok (.iconst 0, 1) := by decide +kernel
theorem d_S_askAgain_24 : decode b_S_askAgain 24 = .ok (.istore_n 3, 1) := by decide +kernel
theorem d_S_askAgain_25 : decode b_S_askAgain 25 = .ok (.aload_n 0, 1) := by decide +kernel
theorem d_S_askAgain_26 : decode b_S_askAgain 26 = .ok (.iload_n 1, 1) := by decide +kernel
theorem d_S_askAgain_27 : decode b_S_askAgain 27 = .ok (.invokevirtual 125, 3) := by decide +kernel
theorem d_S_askAgain_30 : decode b_S_askAgain 30 = .ok (.istore 4, 2) := by decide +kernel
theorem d_S_askAgain_32 : decode b_S_askAgain 32 = .ok (.iload 4, 2) := by decide +kernel
theorem d_S_askAgain_34 : decode b_S_askAgain 34 = .ok (.ifCond .ne 14, 3) := by decide +kernel
theorem d_S_askAgain_37 : decode b_S_askAgain 37 = .ok (.iload_n 3, 1) := by decide +kernel
theorem d_S_askAgain_38 : decode b_S_askAgain 38 = .ok (.ifCond .eq 10, 3) := by decide +kernel
theorem d_S_askAgain_41 : decode b_S_askAgain 41 = .ok (.aload_n 0, 1) := by decide +kernel
theorem d_S_askAgain_42 : decode b_S_askAgain 42 = .ok (.iload_n 2, 1) := by decide +kernel
theorem d_S_askAgain_43 : decode b_S_askAgain 43 = .ok (.invokevirtual 128, 3) := by decide +kernel
theorem d_S_askAgain_46 : decode b_S_askAgain 46 = .ok (.istore 4, 2) := by decide +kernel
theorem d_S_askAgain_48 : decode b_S_askAgain 48 = .ok (.aload_n 0, 1) := by decide +kernel
theorem d_S_askAgain_49 : decode b_S_askAgain 49 = .ok (.iload_n 1, 1) := by decide +kernel
theorem d_S_askAgain_50 : decode b_S_askAgain 50 = .ok (.iload_n 2, 1) := by decide +kernel
theorem d_S_askAgain_51 : decode b_S_askAgain 51 = .ok (.iload 4, 2) := by decide +kernel
theorem d_S_askAgain_53 : decode b_S_askAgain 53 = .ok (.invokevirtual 91, 3) := by decide +kernel
theorem d_S_askAgain_56 : decode b_S_askAgain 56 = .ok (.ireturn, 1) := by decide +kernel
theorem d_S_askEither_0 : decode b_S_askEither 0 = .ok (.aload_n 0, 1) := by decide +kernel
theorem d_S_askEither_1 : decode b_S_askEither 1 = .ok (.getfield 10, 3) := by decide +kernel
theorem d_S_askEither_4 : decode b_S_askEither 4 = .ok (.getfield 85, 3) := by decide +kernel
theorem d_S_askEither_7 : decode b_S_askEither 7 = .ok (.iload_n 1, 1) := by decide +kernel
theorem d_S_askEither_8 : decode b_S_askEither 8 = .ok (.iaload, 1) := by decide +kernel
theorem d_S_askEither_9 : decode b_S_askEither 9 = .ok (.istore_n 2, 1) := by decide +kernel
theorem d_S_askEither_10 : decode b_S_askEither 10 = .ok (.aload_n 0, 1) := by decide +kernel
theorem d_S_askEither_11 : decode b_S_askEither 11 = .ok (.getfield 16, 3) := by decide +kernel
theorem d_S_askEither_14 : decode b_S_askEither 14 = .ok (.iload_n 1, 1) := by decide +kernel
theorem d_S_askEither_15 : decode b_S_askEither 15 = .ok (.iaload, 1) := by decide +kernel
theorem d_S_askEither_16 : decode b_S_askEither 16 = .ok (.iconst 2, 1) := by decide +kernel
theorem d_S_askEither_17 : decode b_S_askEither 17 = .ok (.if_icmp .eq 41, 3) := by decide +kernel
theorem d_S_askEither_20 : decode b_S_askEither 20 = .ok (.aload_n 0, 1) := by decide +kernel
theorem d_S_askEither_21 : decode b_S_askEither 21 = .ok (.iload_n 1, 1) := by decide +kernel
theorem d_S_askEither_22 : decode b_S_askEither 22 = .ok (.invokevirtual 125, 3) := by decide +kernel
theorem d_S_askEither_25 : decode b_S_askEither 25 = .ok (.istore_n 3, 1) := by decide +kernel
theorem d_S_askEither_26 : decode b_S_askEither 26 = .ok (.iload_n 3, 1) := by decide +kernel
theorem d_S_askEither_27 : decode b_S_askEither 27 = .ok (.ifCond .eq 19, 3) := by decide +kernel
theorem d_S_askEither_30 : decode b_S_askEither 30 = .ok (.aload_n 0, 1) := by decide +kernel
theorem d_S_askEither_31 : decode b_S_askEither 31 = .ok (.iload_n 1, 1) := by decide +kernel
theorem d_S_askEither_32 : decode b_S_askEither 32 = .ok (.aload_n 0, 1) := by decide +kernel
theorem d_S_askEither_33 : decode b_S_askEither 33 = .ok (.getfield 10, 3) := by decide +kernel
theorem d_S_askEither_36 : decode b_S_askEither 36 = .ok (.getfield 122, 3) := by decide +kernel
theorem d_S_askEither_39 : decode b_S_askEither 39 = .ok (.iload_n 1, 1) := by decide +kernel
theorem d_S_askEither_40 : decode b_S_askEither 40 = .ok (.iaload, 1) := by decide +kernel
theorem d_S_askEither_41 : decode b_S_askEither 41 = .ok (.iload_n 3, 1) := by decide +kernel
theorem d_S_askEither_42 : decode b_S_askEither 42 = .ok (.invokevirtual 91, 3) := by decide +kernel
theorem d_S_askEither_45 : decode b_S_askEither 45 = .ok (.ireturn, 1) := by decide +kernel
theorem d_S_askEither_46 : decode b_S_askEither 46 = .ok (.aload_n 0, 1) := by decide +kernel
theorem d_S_askEither_47 : decode b_S_askEither 47 = .ok (.getfield 16, 3) := by decide +kernel
theorem d_S_askEither_50 : decode b_S_askEither 50 = .ok (.iload_n 1, 1) := by decide +kernel
theorem d_S_askEither_51 : decode b_S_askEither 51 = .ok (.iconst 2, 1) := by decide +kernel
theorem d_S_askEither_52 : decode b_S_askEither 52 = .ok (.iastore, 1) := by decide +kernel
theorem d_S_askEither_53 : decode b_S_askEither 53 = .ok (.aload_n 0, 1) := by decide +kernel
theorem d_S_askEither_54 : decode b_S_askEither 54 = .ok (.iload_n 2, 1) := by decide +kernel
theorem d_S_askEither_55 : decode b_S_askEither 55 = .ok (.invokevirtual 52, 3) := by decide +kernel
theorem d_S_askEither_58 : decode b_S_askEither 58 = .ok (.aload_n 0, 1) := by decide +kernel
theorem d_S_askEither_59 : decode b_S_askEither 59 = .ok (.iload_n 1, 1) := by decide +kernel
theorem d_S_askEither_60 : decode b_S_askEither 60 = .ok (.iload_n 2, 1) := by decide +kernel
theorem d_S_askEither_61 : decode b_S_askEither 61 = .ok (.aload_n 0, 1) := by decide +kernel
theorem d_S_askEither_62 : decode b_S_askEither 62 = .ok (.iload_n 2, 1) := by decide +kernel
theorem d_S_askEither_63 : decode b_S_askEither 63 = .ok (.invokevirtual 56, 3) := by decide +kernel
theorem d_S_askEither_66 : decode b_S_askEither 66 = .ok (.invokevirtual 91, 3) := by decide +kernel
theorem d_S_askEither_69 : decode b_S_askEither 69 = .ok (.ireturn, 1) := by decide +kernel
theorem d_S_askPair_0 : decode b_S_askPair 0 = .ok (.aload_n 0, 1) := by decide +kernel
theorem d_S_askPair_1 : decode b_S_askPair 1 = .ok (.getfield 10, 3) := by decide +kernel
theorem d_S_askPair_4 : decode b_S_askPair 4 = .ok (.getfield 85, 3) := by decide +kernel
theorem d_S_askPair_7 : decode b_S_askPair 7 = .ok (.iload_n 1, 1) := by decide +kernel
theorem d_S_askPair_8 : decode b_S_askPair 8 = .ok (.iaload, 1) := by decide +kernel
theorem d_S_askPair_9 : decode b_S_askPair 9 = .ok (.istore_n 2, 1) := by decide +kernel
theorem d_S_askPair_10 : decode b_S_askPair 10 = .ok (.iconst 0, 1) := by decide +kernel
theorem d_S_askPair_11 : decode b_S_askPair 11 = .ok (.istore_n 3, 1) := by decide +kernel
theorem d_S_askPair_12 : decode b_S_askPair 12 = .ok (.iload_n 3, 1) := by decide +kernel
theorem d_S_askPair_13 : decode b_S_askPair 13 = .ok (.ldc 131, 2) := by decide +kernel
theorem d_S_askPair_15 : decode b_S_askPair 15 = .ok (.if_icmp .ge 69, 3) := by decide +kernel
theorem d_S_askPair_18 : decode b_S_askPair 18 = .ok (.aload_n 0, 1) := by decide +kernel
theorem d_S_askPair_19 : decode b_S_askPair 19 = .ok (.getfield 16, 3) := by decide +kernel
theorem d_S_askPair_22 : decode b_S_askPair 22 = .ok (.iload_n 1, 1) := by decide +kernel
theorem d_S_askPair_23 : decode b_S_askPair 23 = .ok (.iaload, 1) := by decide +kernel
theorem d_S_askPair_24 : decode b_S_askPair 24 = .ok (.iconst 2, 1) := by decide +kernel
theorem d_S_askPair_25 : decode b_S_askPair 25 = .ok (.if_icmp .eq 31, 3) := by decide +kernel
theorem d_S_askPair_28 : decode b_S_askPair 28 = .ok (.aload_n 0, 1) := by decide +kernel
theorem d_S_askPair_29 : decode b_S_askPair 29 = .ok (.iload_n 1, 1) := by decide +kernel
theorem d_S_askPair_30 : decode b_S_askPair 30 = .ok (.invokevirtual 125, 3) := by decide +kernel
theorem d_S_askPair_33 : decode b_S_askPair 33 = .ok (.istore 4, 2) := by decide +kernel
theorem d_S_askPair_35 : decode b_S_askPair 35 = .ok (.iload 4, 2) := by decide +kernel
theorem d_S_askPair_37 : decode b_S_askPair 37 = .ok (.iconst 1, 1) := by decide +kernel
theorem d_S_askPair_38 : decode b_S_askPair 38 = .ok (.if_icmp .eq 6, 3) := by decide +kernel
theorem d_S_askPair_41 : decode b_S_askPair 41 = .ok (.iload 4, 2) := by decide +kernel
theorem d_S_askPair_43 : decode b_S_askPair 43 = .ok (.ireturn, 1) := by decide +kernel
theorem d_S_askPair_44 : decode b_S_askPair 44 = .ok (.aload_n 0, 1) := by decide +kernel
theorem d_S_askPair_45 : decode b_S_askPair 45 = .ok (.getfield 16, 3) := by decide +kernel
theorem d_S_askPair_48 : decode b_S_askPair 48 = .ok (.iload_n 1, 1) := by decide +kernel
theorem d_S_askPair_49 : decode b_S_askPair 49 = .ok (.iconst 2, 1) := by decide +kernel
theorem d_S_askPair_50 : decode b_S_askPair 50 = .ok (.iastore, 1) := by decide +kernel
theorem d_S_askPair_51 : decode b_S_askPair 51 = .ok (.aload_n 0, 1) := by decide +kernel
theorem d_S_askPair_52 : decode b_S_askPair 52 = .ok (.iload_n 2, 1) := by decide +kernel
theorem d_S_askPair_53 : decode b_S_askPair 53 = .ok (.invokevirtual 52, 3) := by decide +kernel
theorem d_S_askPair_56 : decode b_S_askPair 56 = .ok (.aload_n 0, 1) := by decide +kernel
theorem d_S_askPair_57 : decode b_S_askPair 57 = .ok (.iload_n 2, 1) := by decide +kernel
theorem d_S_askPair_58 : decode b_S_askPair 58 = .ok (.invokevirtual 56, 3) := by decide +kernel
theorem d_S_askPair_61 : decode b_S_askPair 61 = .ok (.istore 4, 2) := by decide +kernel
theorem d_S_askPair_63 : decode b_S_askPair 63 = .ok (.iload 4, 2) := by decide +kernel
theorem d_S_askPair_65 : decode b_S_askPair 65 = .ok (.ifCond .eq 6, 3) := by decide +kernel
theorem d_S_askPair_68 : decode b_S_askPair 68 = .ok (.iload 4, 2) := by decide +kernel
theorem d_S_askPair_70 : decode b_S_askPair 70 = .ok (.ireturn, 1) := by decide +kernel
theorem d_S_askPair_71 : decode b_S_askPair 71 = .ok (.aload_n 0, 1) := by decide +kernel
theorem d_S_askPair_72 : decode b_S_askPair 72 = .ok (.getfield 16, 3) := by decide +kernel
theorem d_S_askPair_75 : decode b_S_askPair 75 = .ok (.iload_n 1, 1) := by decide +kernel
theorem d_S_askPair_76 : decode b_S_askPair 76 = .ok (.iconst 1, 1) := by decide +kernel
theorem d_S_askPair_77 : decode b_S_askPair 77 = .ok (.iastore, 1) := by decide +kernel
theorem d_S_askPair_78 : decode b_S_askPair 78 = .ok (.iinc 3 1, 3) := by decide +kernel
theorem d_S_askPair_81 : decode b_S_askPair 81 = .ok (.goto (-69), 3) := by decide +kernel
theorem d_S_askPair_84 : decode b_S_askPair 84 = .ok (.iconst 0, 1) := by decide +kernel
theorem d_S_askPair_85 : decode b_S_askPair 85 = .ok (.ireturn, 1) := by decide +kernel
theorem d_S_askArithmetic_0 : decode b_S_askArithmetic 0 = .ok (.aload_n 0, 1) := by decide +kernel
theorem d_S_askArithmetic_1 : decode b_S_askArithmetic 1 = .ok (.iload_n 1, 1) := by decide +kernel
theorem d_S_askArithmetic_2 : decode b_S_askArithmetic 2 = .ok (.invokevirtual 88, 3) := by decide +kernel
theorem d_S_askArithmetic_5 : decode b_S_askArithmetic 5 = .ok (.istore_n 2, 1) := by decide +kernel
theorem d_S_askArithmetic_6 : decode b_S_askArithmetic 6 = .ok (.iload_n 2, 1) := by decide +kernel
theorem d_S_askArithmetic_7 : decode b_S_askArithmetic 7 = .ok (.iconst 1, 1) := by decide +kernel
theorem d_S_askArithmetic_8 : decode b_S_askArithmetic 8 = .ok (.if_icmp .eq 5, 3) := by decide +kernel
theorem d_S_askArithmetic_11 : decode b_S_askArithmetic 11 = .ok (.iload_n 2, 1) := by decide +kernel
theorem d_S_askArithmetic_12 : decode b_S_askArithmetic 12 = .ok (.ireturn, 1) := by decide +kernel
theorem d_S_askArithmetic_13 : decode b_S_askArithmetic 13 = .ok (.aload_n 0, 1) := by decide +kernel
theorem d_S_askArithmetic_14 : decode b_S_askArithmetic 14 = .ok (.getfield 10, 3) := by decide +kernel
theorem d_S_askArithmetic_17 : decode b_S_askArithmetic 17 = .ok (.getfield 60, 3) := by decide +kernel
theorem d_S_askArithmetic_20 : decode b_S_askArithmetic 20 = .ok (.iload_n 1, 1) := by decide +kernel
theorem d_S_askArithmetic_21 : decode b_S_askArithmetic 21 = .ok (.iaload, 1) := by decide +kernel
theorem d_S_askArithmetic_22 : decode b_S_askArithmetic 22 = .ok (.aload_n 0, 1) := by decide +kernel
theorem d_S_askArithmetic_23 : decode b_S_askArithmetic 23 = .ok (.getfield 20, 3) := by decide +kernel
theorem d_S_askArithmetic_26 : decode b_S_askArithmetic 26 = .ok (.aload_n 0, 1) := by decide +kernel
theorem d_S_askArithmetic_27 : decode b_S_askArithmetic 27 = .ok (.getfield 10, 3) := by decide +kernel
theorem d_S_askArithmetic_30 : decode b_S_askArithmetic 30 = .ok (.getfield 122, 3) := by decide +kernel
theorem d_S_askArithmetic_33 : decode b_S_askArithmetic 33 = .ok (.iload_n 1, 1) := by decide +kernel
theorem d_S_askArithmetic_34 : decode b_S_askArithmetic 34 = .ok (.iaload, 1) := by decide +kernel
theorem d_S_askArithmetic_35 : decode b_S_askArithmetic 35 = .ok (.iaload, 1) := by decide +kernel
theorem d_S_askArithmetic_36 : decode b_S_askArithmetic 36 = .ok (.i2l, 1) := by decide +kernel
theorem d_S_askArithmetic_37 : decode b_S_askArithmetic 37 = .ok (.aload_n 0, 1) := by decide +kernel
theorem d_S_askArithmetic_38 : decode b_S_askArithmetic 38 = .ok (.getfield 20, 3) := by decide +kernel
theorem d_S_askArithmetic_41 : decode b_S_askArithmetic 41 = .ok (.aload_n 0, 1) := by decide +kernel
theorem d_S_askArithmetic_42 : decode b_S_askArithmetic 42 = .ok (.getfield 10, 3) := by decide +kernel
theorem d_S_askArithmetic_45 : decode b_S_askArithmetic 45 = .ok (.getfield 85, 3) := by decide +kernel
theorem d_S_askArithmetic_48 : decode b_S_askArithmetic 48 = .ok (.iload_n 1, 1) := by decide +kernel
theorem d_S_askArithmetic_49 : decode b_S_askArithmetic 49 = .ok (.iaload, 1) := by decide +kernel
theorem d_S_askArithmetic_50 : decode b_S_askArithmetic 50 = .ok (.iaload, 1) := by decide +kernel
theorem d_S_askArithmetic_51 : decode b_S_askArithmetic 51 = .ok (.i2l, 1) := by decide +kernel
theorem d_S_askArithmetic_52 : decode b_S_askArithmetic 52 = .ok (.invokestatic 132, 3) := by decide +kernel
theorem d_S_askArithmetic_55 : decode b_S_askArithmetic 55 = .ok (.lstore_n 3, 1) := by decide +kernel
theorem d_S_askArithmetic_56 : decode b_S_askArithmetic 56 = .ok (.lload_n 3, 1) := by decide +kernel
theorem d_S_askArithmetic_57 : decode b_S_askArithmetic 57 = .ok (.lload_n 3, 1) := by decide +kernel
theorem d_S_askArithmetic_58 : decode b_S_askArithmetic 58 = .ok (.l2i, 1) := by decide +kernel
theorem d_S_askArithmetic_59 : decode b_S_askArithmetic 59 = .ok (.i2l, 1) := by decide +kernel
theorem d_S_askArithmetic_60 : decode b_S_askArithmetic 60 = .ok (.lcmp, 1) := by decide +kernel
theorem d_S_askArithmetic_61 : decode b_S_askArithmetic 61 = .ok (.ifCond .ne 13, 3) := by decide +kernel
theorem d_S_askArithmetic_64 : decode b_S_askArithmetic 64 = .ok (.aload_n 0, 1) := by decide +kernel
theorem d_S_askArithmetic_65 : decode b_S_askArithmetic 65 = .ok (.iload_n 1, 1) := by decide +kernel
theorem d_S_askArithmetic_66 : decode b_S_askArithmetic 66 = .ok (.lload_n 3, 1) := by decide +kernel
theorem d_S_askArithmetic_67 : decode b_S_askArithmetic 67 = .ok (.l2i, 1) := by decide +kernel
theorem d_S_askArithmetic_68 : decode b_S_askArithmetic 68 = .ok (.invokevirtual 116, 3) := by decide +kernel
theorem d_S_askArithmetic_71 : decode b_S_askArithmetic 71 = .ok (.goto 5, 3) := by decide +kernel
theorem d_S_askArithmetic_74 : decode b_S_askArithmetic 74 = .ok (.bipush (-4), 2) := by decide +kernel
theorem d_S_askArithmetic_76 : decode b_S_askArithmetic 76 = .ok (.ireturn, 1) := by decide +kernel
theorem d_S_calculate_0 : decode b_S_calculate 0 = .ok (.iload_n 0, 1) := by decide +kernel
theorem d_S_calculate_1 : decode b_S_calculate 1 = .ok (.bipush 8, 2) := by decide +kernel
theorem d_S_calculate_3 : decode b_S_calculate 3 = .ok (.if_icmp .ne 7, 3) := by decide +kernel
theorem d_S_calculate_6 : decode b_S_calculate 6 = .ok (.lload_n 1, 1) := by decide +kernel
end
section
/-! decoded rows -/
theorem d_S_calculate_7 : decode b_S_calculate 7 = .ok (.lload_n 3, 1) := by decide +kernel
theorem d_S_calculate_8 : decode b_S_calculate 8 = .ok (.ladd, 1) := by decide +kernel
theorem d_S_calculate_9 : decode b_S_calculate 9 = .ok (.lreturn, 1) := by decide +kernel
theorem d_S_calculate_10 : decode b_S_calculate 10 = .ok (.iload_n 0, 1) := by decide +kernel
theorem d_S_calculate_11 : decode b_S_calculate 11 = .ok (.bipush 9, 2) := by decide +kernel
theorem d_S_calculate_13 : decode b_S_calculate 13 = .ok (.if_icmp .ne 9, 3) := by decide +kernel
theorem d_S_calculate_16 : decode b_S_calculate 16 = .ok (.lload_n 1, 1) := by decide +kernel
theorem d_S_calculate_17 : decode b_S_calculate 17 = .ok (.lload_n 3, 1) := by decide +kernel
theorem d_S_calculate_18 : decode b_S_calculate 18 = .ok (.lsub, 1) := by decide +kernel
theorem d_S_calculate_19 : decode b_S_calculate 19 = .ok (.goto 6, 3) := by decide +kernel
theorem d_S_calculate_22 : decode b_S_calculate 22 = .ok (.lload_n 1, 1) := by decide +kernel
theorem d_S_calculate_23 : decode b_S_calculate 23 = .ok (.lload_n 3, 1) := by decide +kernel
theorem d_S_calculate_24 : decode b_S_calculate 24 = .ok (.lmul, 1) := by decide +kernel
theorem d_S_calculate_25 : decode b_S_calculate 25 = .ok (.lreturn, 1) := by decide +kernel
theorem d_S_askComparison_0 : decode b_S_askComparison 0 = .ok (.aload_n 0, 1) := by decide +kernel
theorem d_S_askComparison_1 : decode b_S_askComparison 1 = .ok (.getfield 10, 3) := by decide +kernel
theorem d_S_askComparison_4 : decode b_S_askComparison 4 = .ok (.getfield 85, 3) := by decide +kernel
theorem d_S_askComparison_7 : decode b_S_askComparison 7 = .ok (.iload_n 1, 1) := by decide +kernel
theorem d_S_askComparison_8 : decode b_S_askComparison 8 = .ok (.iaload, 1) := by decide +kernel
theorem d_S_askComparison_9 : decode b_S_askComparison 9 = .ok (.istore_n 2, 1) := by decide +kernel
theorem d_S_askComparison_10 : decode b_S_askComparison 10 = .ok (.iconst 0, 1) := by decide +kernel
theorem d_S_askComparison_11 : decode b_S_askComparison 11 = .ok (.istore_n 3, 1) := by decide +kernel
theorem d_S_askComparison_12 : decode b_S_askComparison 12 = .ok (.iload_n 3, 1) := by decide +kernel
theorem d_S_askComparison_13 : decode b_S_askComparison 13 = .ok (.ldc 131, 2) := by decide +kernel
theorem d_S_askComparison_15 : decode b_S_askComparison 15 = .ok (.if_icmp .ge 72, 3) := by decide +kernel
theorem d_S_askComparison_18 : decode b_S_askComparison 18 = .ok (.aload_n 0, 1) := by decide +kernel
theorem d_S_askComparison_19 : decode b_S_askComparison 19 = .ok (.iload_n 1, 1) := by decide +kernel
theorem d_S_askComparison_20 : decode b_S_askComparison 20 = .ok (.invokevirtual 88, 3) := by decide +kernel
theorem d_S_askComparison_23 : decode b_S_askComparison 23 = .ok (.istore 4, 2) := by decide +kernel
theorem d_S_askComparison_25 : decode b_S_askComparison 25 = .ok (.iload 4, 2) := by decide +kernel
theorem d_S_askComparison_27 : decode b_S_askComparison 27 = .ok (.iconst 1, 1) := by decide +kernel
theorem d_S_askComparison_28 : decode b_S_askComparison 28 = .ok (.if_icmp .eq 6, 3) := by decide +kernel
theorem d_S_askComparison_31 : decode b_S_askComparison 31 = .ok (.iload 4, 2) := by decide +kernel
theorem d_S_askComparison_33 : decode b_S_askComparison 33 = .ok (.ireturn, 1) := by decide +kernel
theorem d_S_askComparison_34 : decode b_S_askComparison 34 = .ok (.aload_n 0, 1) := by decide +kernel
theorem d_S_askComparison_35 : decode b_S_askComparison 35 = .ok (.getfield 10, 3) := by decide +kernel
theorem d_S_askComparison_38 : decode b_S_askComparison 38 = .ok (.getfield 60, 3) := by decide +kernel
theorem d_S_askComparison_41 : decode b_S_askComparison 41 = .ok (.iload_n 1, 1) := by decide +kernel
theorem d_S_askComparison_42 : decode b_S_askComparison 42 = .ok (.iaload, 1) := by decide +kernel
theorem d_S_askComparison_43 : decode b_S_askComparison 43 = .ok (.aload_n 0, 1) := by decide +kernel
theorem d_S_askComparison_44 : decode b_S_askComparison 44 = .ok (.getfield 20, 3) := by decide +kernel
theorem d_S_askComparison_47 : decode b_S_askComparison 47 = .ok (.aload_n 0, 1) := by decide +kernel
theorem d_S_askComparison_48 : decode b_S_askComparison 48 = .ok (.getfield 10, 3) := by decide +kernel
theorem d_S_askComparison_51 : decode b_S_askComparison 51 = .ok (.getfield 122, 3) := by decide +kernel
theorem d_S_askComparison_54 : decode b_S_askComparison 54 = .ok (.iload_n 1, 1) := by decide +kernel
theorem d_S_askComparison_55 : decode b_S_askComparison 55 = .ok (.iaload, 1) := by decide +kernel
theorem d_S_askComparison_56 : decode b_S_askComparison 56 = .ok (.iaload, 1) := by decide +kernel
theorem d_S_askComparison_57 : decode b_S_askComparison 57 = .ok (.aload_n 0, 1) := by decide +kernel
theorem d_S_askComparison_58 : decode b_S_askComparison 58 = .ok (.getfield 20, 3) := by decide +kernel
theorem d_S_askComparison_61 : decode b_S_askComparison 61 = .ok (.iload_n 2, 1) := by decide +kernel
theorem d_S_askComparison_62 : decode b_S_askComparison 62 = .ok (.iaload, 1) := by decide +kernel
theorem d_S_askComparison_63 : decode b_S_askComparison 63 = .ok (.invokestatic 136, 3) := by decide +kernel
theorem d_S_askComparison_66 : decode b_S_askComparison 66 = .ok (.ifCond .eq 15, 3) := by decide +kernel
theorem d_S_askComparison_69 : decode b_S_askComparison 69 = .ok (.aload_n 0, 1) := by decide +kernel
theorem d_S_askComparison_70 : decode b_S_askComparison 70 = .ok (.iload_n 1, 1) := by decide +kernel
theorem d_S_askComparison_71 : decode b_S_askComparison 71 = .ok (.aload_n 0, 1) := by decide +kernel
theorem d_S_askComparison_72 : decode b_S_askComparison 72 = .ok (.getfield 20, 3) := by decide +kernel
theorem d_S_askComparison_75 : decode b_S_askComparison 75 = .ok (.iload_n 2, 1) := by decide +kernel
theorem d_S_askComparison_76 : decode b_S_askComparison 76 = .ok (.iaload, 1) := by decide +kernel
theorem d_S_askComparison_77 : decode b_S_askComparison 77 = .ok (.invokevirtual 116, 3) := by decide +kernel
theorem d_S_askComparison_80 : decode b_S_askComparison 80 = .ok (.ireturn, 1) := by decide +kernel
theorem d_S_askComparison_81 : decode b_S_askComparison 81 = .ok (.iinc 3 1, 3) := by decide +kernel
theorem d_S_askComparison_84 : decode b_S_askComparison 84 = .ok (.goto (-72), 3) := by decide +kernel
theorem d_S_askComparison_87 : decode b_S_askComparison 87 = .ok (.iconst 0, 1) := by decide +kernel
theorem d_S_askComparison_88 : decode b_S_askComparison 88 = .ok (.ireturn, 1) := by decide +kernel
theorem d_S_holds_0 : decode b_S_holds 0 = .ok (.iload_n 0, 1) := by decide +kernel
theorem d_S_holds_1 : decode b_S_holds 1 = .ok (.bipush 11, 2) := by decide +kernel
theorem d_S_holds_3 : decode b_S_holds 3 = .ok (.if_icmp .ne 14, 3) := by decide +kernel
theorem d_S_holds_6 : decode b_S_holds 6 = .ok (.iload_n 1, 1) := by decide +kernel
theorem d_S_holds_7 : decode b_S_holds 7 = .ok (.iload_n 2, 1) := by decide +kernel
theorem d_S_holds_8 : decode b_S_holds 8 = .ok (.if_icmp .ge 7, 3) := by decide +kernel
theorem d_S_holds_11 : decode b_S_holds 11 = .ok (.iconst 1, 1) := by decide +kernel
theorem d_S_holds_12 : decode b_S_holds 12 = .ok (.goto 4, 3) := by decide +kernel
theorem d_S_holds_15 : decode b_S_holds 15 = .ok (.iconst 0, 1) := by decide +kernel
theorem d_S_holds_16 : decode b_S_holds 16 = .ok (.ireturn, 1) := by decide +kernel
theorem d_S_holds_17 : decode b_S_holds 17 = .ok (.iload_n 0, 1) := by decide +kernel
theorem d_S_holds_18 : decode b_S_holds 18 = .ok (.bipush 12, 2) := by decide +kernel
theorem d_S_holds_20 : decode b_S_holds 20 = .ok (.if_icmp .ne 7, 3) := by decide +kernel
theorem d_S_holds_23 : decode b_S_holds 23 = .ok (.iconst 1, 1) := by decide +kernel
theorem d_S_holds_24 : decode b_S_holds 24 = .ok (.goto 4, 3) := by decide +kernel
theorem d_S_holds_27 : decode b_S_holds 27 = .ok (.iconst 0, 1) := by decide +kernel
theorem d_S_holds_28 : decode b_S_holds 28 = .ok (.iload_n 1, 1) := by decide +kernel
theorem d_S_holds_29 : decode b_S_holds 29 = .ok (.iload_n 2, 1) := by decide +kernel
theorem d_S_holds_30 : decode b_S_holds 30 = .ok (.if_icmp .ne 7, 3) := by decide +kernel
theorem d_S_holds_33 : decode b_S_holds 33 = .ok (.iconst 1, 1) := by decide +kernel
theorem d_S_holds_34 : decode b_S_holds 34 = .ok (.goto 4, 3) := by decide +kernel
theorem d_S_holds_37 : decode b_S_holds 37 = .ok (.iconst 0, 1) := by decide +kernel
theorem d_S_holds_38 : decode b_S_holds 38 = .ok (.if_icmp .ne 7, 3) := by decide +kernel
theorem d_S_holds_41 : decode b_S_holds 41 = .ok (.iconst 1, 1) := by decide +kernel
theorem d_S_holds_42 : decode b_S_holds 42 = .ok (.goto 4, 3) := by decide +kernel
theorem d_S_holds_45 : decode b_S_holds 45 = .ok (.iconst 0, 1) := by decide +kernel
theorem d_S_holds_46 : decode b_S_holds 46 = .ok (.ireturn, 1) := by decide +kernel
theorem d_S_askLimit_0 : decode b_S_askLimit 0 = .ok (.aload_n 0, 1) := by decide +kernel
theorem d_S_askLimit_1 : decode b_S_askLimit 1 = .ok (.getfield 10, 3) := by decide +kernel
theorem d_S_askLimit_4 : decode b_S_askLimit 4 = .ok (.getfield 122, 3) := by decide +kernel
theorem d_S_askLimit_7 : decode b_S_askLimit 7 = .ok (.iload_n 1, 1) := by decide +kernel
theorem d_S_askLimit_8 : decode b_S_askLimit 8 = .ok (.iaload, 1) := by decide +kernel
theorem d_S_askLimit_9 : decode b_S_askLimit 9 = .ok (.istore_n 2, 1) := by decide +kernel
theorem d_S_askLimit_10 : decode b_S_askLimit 10 = .ok (.iconst 0, 1) := by decide +kernel
theorem d_S_askLimit_11 : decode b_S_askLimit 11 = .ok (.istore_n 3, 1) := by decide +kernel
theorem d_S_askLimit_12 : decode b_S_askLimit 12 = .ok (.iload_n 3, 1) := by decide +kernel
theorem d_S_askLimit_13 : decode b_S_askLimit 13 = .ok (.ldc 131, 2) := by decide +kernel
theorem d_S_askLimit_15 : decode b_S_askLimit 15 = .ok (.if_icmp .ge 96, 3) := by decide +kernel
theorem d_S_askLimit_18 : decode b_S_askLimit 18 = .ok (.aload_n 0, 1) := by decide +kernel
theorem d_S_askLimit_19 : decode b_S_askLimit 19 = .ok (.getfield 16, 3) := by decide +kernel
theorem d_S_askLimit_22 : decode b_S_askLimit 22 = .ok (.iload_n 1, 1) := by decide +kernel
theorem d_S_askLimit_23 : decode b_S_askLimit 23 = .ok (.iaload, 1) := by decide +kernel
theorem d_S_askLimit_24 : decode b_S_askLimit 24 = .ok (.iconst 1, 1) := by decide +kernel
theorem d_S_askLimit_25 : decode b_S_askLimit 25 = .ok (.if_icmp .eq 31, 3) := by decide +kernel
theorem d_S_askLimit_28 : decode b_S_askLimit 28 = .ok (.aload_n 0, 1) := by decide +kernel
theorem d_S_askLimit_29 : decode b_S_askLimit 29 = .ok (.iload_n 1, 1) := by decide +kernel
theorem d_S_askLimit_30 : decode b_S_askLimit 30 = .ok (.invokevirtual 140, 3) := by decide +kernel
theorem d_S_askLimit_33 : decode b_S_askLimit 33 = .ok (.istore 4, 2) := by decide +kernel
theorem d_S_askLimit_35 : decode b_S_askLimit 35 = .ok (.iload 4, 2) := by decide +kernel
theorem d_S_askLimit_37 : decode b_S_askLimit 37 = .ok (.iconst 1, 1) := by decide +kernel
theorem d_S_askLimit_38 : decode b_S_askLimit 38 = .ok (.if_icmp .eq 6, 3) := by decide +kernel
theorem d_S_askLimit_41 : decode b_S_askLimit 41 = .ok (.iload 4, 2) := by decide +kernel
theorem d_S_askLimit_43 : decode b_S_askLimit 43 = .ok (.ireturn, 1) := by decide +kernel
theorem d_S_askLimit_44 : decode b_S_askLimit 44 = .ok (.aload_n 0, 1) := by decide +kernel
theorem d_S_askLimit_45 : decode b_S_askLimit 45 = .ok (.getfield 16, 3) := by decide +kernel
theorem d_S_askLimit_48 : decode b_S_askLimit 48 = .ok (.iload_n 1, 1) := by decide +kernel
theorem d_S_askLimit_49 : decode b_S_askLimit 49 = .ok (.iconst 1, 1) := by decide +kernel
theorem d_S_askLimit_50 : decode b_S_askLimit 50 = .ok (.iastore, 1) := by decide +kernel
theorem d_S_askLimit_51 : decode b_S_askLimit 51 = .ok (.aload_n 0, 1) := by decide +kernel
theorem d_S_askLimit_52 : decode b_S_askLimit 52 = .ok (.iload_n 2, 1) := by decide +kernel
theorem d_S_askLimit_53 : decode b_S_askLimit 53 = .ok (.invokevirtual 52, 3) := by decide +kernel
theorem d_S_askLimit_56 : decode b_S_askLimit 56 = .ok (.aload_n 0, 1) := by decide +kernel
theorem d_S_askLimit_57 : decode b_S_askLimit 57 = .ok (.getfield 23, 3) := by decide +kernel
theorem d_S_askLimit_60 : decode b_S_askLimit 60 = .ok (.iload_n 1, 1) := by decide +kernel
theorem d_S_askLimit_61 : decode b_S_askLimit 61 = .ok (.laload, 1) := by decide +kernel
theorem d_S_askLimit_62 : decode b_S_askLimit 62 = .ok (.lconst 0, 1) := by decide +kernel
theorem d_S_askLimit_63 : decode b_S_askLimit 63 = .ok (.lcmp, 1) := by decide +kernel
theorem d_S_askLimit_64 : decode b_S_askLimit 64 = .ok (.ifCond .le 34, 3) := by decide +kernel
theorem d_S_askLimit_67 : decode b_S_askLimit 67 = .ok (.aload_n 0, 1) := by decide +kernel
theorem d_S_askLimit_68 : decode b_S_askLimit 68 = .ok (.getfield 23, 3) := by decide +kernel
theorem d_S_askLimit_71 : decode b_S_askLimit 71 = .ok (.iload_n 1, 1) := by decide +kernel
theorem d_S_askLimit_72 : decode b_S_askLimit 72 = .ok (.dup2, 1) := by decide +kernel
theorem d_S_askLimit_73 : decode b_S_askLimit 73 = .ok (.laload, 1) := by decide +kernel
theorem d_S_askLimit_74 : decode b_S_askLimit 74 = .ok (.lconst 1, 1) := by decide +kernel
theorem d_S_askLimit_75 : decode b_S_askLimit 75 = .ok (.lsub, 1) := by decide +kernel
theorem d_S_askLimit_76 : decode b_S_askLimit 76 = .ok (.lastore, 1) := by decide +kernel
theorem d_S_askLimit_77 : decode b_S_askLimit 77 = .ok (.aload_n 0, 1) := by decide +kernel
theorem d_S_askLimit_78 : decode b_S_askLimit 78 = .ok (.iload_n 2, 1) := by decide +kernel
theorem d_S_askLimit_79 : decode b_S_askLimit 79 = .ok (.invokevirtual 56, 3) := by decide +kernel
theorem d_S_askLimit_82 : decode b_S_askLimit 82 = .ok (.istore 4, 2) := by decide +kernel
theorem d_S_askLimit_84 : decode b_S_askLimit 84 = .ok (.iload 4, 2) := by decide +kernel
theorem d_S_askLimit_86 : decode b_S_askLimit 86 = .ok (.ifCond .eq 12, 3) := by decide +kernel
theorem d_S_askLimit_89 : decode b_S_askLimit 89 = .ok (.aload_n 0, 1) := by decide +kernel
theorem d_S_askLimit_90 : decode b_S_askLimit 90 = .ok (.iload_n 1, 1) := by decide +kernel
theorem d_S_askLimit_91 : decode b_S_askLimit 91 = .ok (.iload_n 2, 1) := by decide +kernel
theorem d_S_askLimit_92 : decode b_S_askLimit 92 = .ok (.iload 4, 2) := by decide +kernel
theorem d_S_askLimit_94 : decode b_S_askLimit 94 = .ok (.invokevirtual 91, 3) := by decide +kernel
theorem d_S_askLimit_97 : decode b_S_askLimit 97 = .ok (.ireturn, 1) := by decide +kernel
theorem d_S_askLimit_98 : decode b_S_askLimit 98 = .ok (.aload_n 0, 1) := by decide +kernel
theorem d_S_askLimit_99 : decode b_S_askLimit 99 = .ok (.getfield 16, 3) := by decide +kernel
theorem d_S_askLimit_102 : decode b_S_askLimit 102 = .ok (.iload_n 1, 1) := by decide +kernel
theorem d_S_askLimit_103 : decode b_S_askLimit 103 = .ok (.iconst 2, 1) := by decide +kernel
theorem d_S_askLimit_104 : decode b_S_askLimit 104 = .ok (.iastore, 1) := by decide +kernel
theorem d_S_askLimit_105 : decode b_S_askLimit 105 = .ok (.iinc 3 1, 3) := by decide +kernel
theorem d_S_askLimit_108 : decode b_S_askLimit 108 = .ok (.goto (-96), 3) := by decide +kernel
theorem d_S_askLimit_111 : decode b_S_askLimit 111 = .ok (.iconst 0, 1) := by decide +kernel
theorem d_S_askLimit_112 : decode b_S_askLimit 112 = .ok (.ireturn, 1) := by decide +kernel
theorem d_S_askBound_0 : decode b_S_askBound 0 = .ok (.aload_n 0, 1) := by decide +kernel
theorem d_S_askBound_1 : decode b_S_askBound 1 = .ok (.getfield 10, 3) := by decide +kernel
theorem d_S_askBound_4 : decode b_S_askBound 4 = .ok (.getfield 85, 3) := by decide +kernel
theorem d_S_askBound_7 : decode b_S_askBound 7 = .ok (.iload_n 1, 1) := by decide +kernel
theorem d_S_askBound_8 : decode b_S_askBound 8 = .ok (.iaload, 1) := by decide +kernel
theorem d_S_askBound_9 : decode b_S_askBound 9 = .ok (.istore_n 2, 1) := by decide +kernel
theorem d_S_askBound_10 : decode b_S_askBound 10 = .ok (.aload_n 0, 1) := by decide +kernel
theorem d_S_askBound_11 : decode b_S_askBound 11 = .ok (.getfield 16, 3) := by decide +kernel
theorem d_S_askBound_14 : decode b_S_askBound 14 = .ok (.iload_n 1, 1) := by decide +kernel
theorem d_S_askBound_15 : decode b_S_askBound 15 = .ok (.iaload, 1) := by decide +kernel
theorem d_S_askBound_16 : decode b_S_askBound 16 = .ok (.ifCond .ne 8, 3) := by decide +kernel
theorem d_S_askBound_19 : decode b_S_askBound 19 = .ok (.aload_n 0, 1) := by decide +kernel
theorem d_S_askBound_20 : decode b_S_askBound 20 = .ok (.iload_n 2, 1) := by decide +kernel
theorem d_S_askBound_21 : decode b_S_askBound 21 = .ok (.invokevirtual 52, 3) := by decide +kernel
theorem d_S_askBound_24 : decode b_S_askBound 24 = .ok (.aload_n 0, 1) := by decide +kernel
theorem d_S_askBound_25 : decode b_S_askBound 25 = .ok (.iload_n 2, 1) := by decide +kernel
theorem d_S_askBound_26 : decode b_S_askBound 26 = .ok (.invokevirtual 56, 3) := by decide +kernel
theorem d_S_askBound_29 : decode b_S_askBound 29 = .ok (.istore_n 3, 1) := by decide +kernel
theorem d_S_askBound_30 : decode b_S_askBound 30 = .ok (.aload_n 0, 1) := by decide +kernel
theorem d_S_askBound_31 : decode b_S_askBound 31 = .ok (.getfield 23, 3) := by decide +kernel
theorem d_S_askBound_34 : decode b_S_askBound 34 = .ok (.iload_n 1, 1) := by decide +kernel
theorem d_S_askBound_35 : decode b_S_askBound 35 = .ok (.aload_n 0, 1) := by decide +kernel
theorem d_S_askBound_36 : decode b_S_askBound 36 = .ok (.getfield 20, 3) := by decide +kernel
theorem d_S_askBound_39 : decode b_S_askBound 39 = .ok (.iload_n 2, 1) := by decide +kernel
theorem d_S_askBound_40 : decode b_S_askBound 40 = .ok (.iaload, 1) := by decide +kernel
theorem d_S_askBound_41 : decode b_S_askBound 41 = .ok (.i2l, 1) := by decide +kernel
theorem d_S_askBound_42 : decode b_S_askBound 42 = .ok (.lastore, 1) := by decide +kernel
theorem d_S_askBound_43 : decode b_S_askBound 43 = .ok (.iload_n 3, 1) := by decide +kernel
theorem d_S_askBound_44 : decode b_S_askBound 44 = .ok (.ireturn, 1) := by decide +kernel
theorem d_S_askEveryOrWhile_0 : decode b_S_askEveryOrWhile 0 = .ok (.aload_n 0, 1) := by decide +kernel
theorem d_S_askEveryOrWhile_1 : decode b_S_askEveryOrWhile 1 = .ok (.getfield 10, 3) := by decide +kernel
theorem d_S_askEveryOrWhile_4 : decode b_S_askEveryOrWhile 4 = .ok (.getfield 60, 3) := by decide +kernel
theorem d_S_askEveryOrWhile_7 : decode b_S_askEveryOrWhile 7 = .ok (.iload_n 1, 1) := by decide +kernel
theorem d_S_askEveryOrWhile_8 : decode b_S_askEveryOrWhile 8 = .ok (.iaload, 1) := by decide +kernel
theorem d_S_askEveryOrWhile_9 : decode b_S_askEveryOrWhile 9 = .ok (.bipush 16, 2) := by decide +kernel
theorem d_S_askEveryOrWhile_11 : decode b_S_askEveryOrWhile 11 = .ok (.if_icmp .ne 7, 3) := by decide +kernel
theorem d_S_askEveryOrWhile_14 : decode b_S_askEveryOrWhile 14 = .ok (.iconst 1, 1) := by decide +kernel
theorem d_S_askEveryOrWhile_15 : decode b_S_askEveryOrWhile 15 = .ok (.goto 4, 3) := by decide +kernel
theorem d_S_askEveryOrWhile_18 : decode b_S_askEveryOrWhile 18 = .ok (.iconst 0, 1) := by decide +kernel
theorem d_S_askEveryOrWhile_19 : decode b_S_askEveryOrWhile 19 = .ok (.istore_n 2, 1) := by decide +kernel
theorem d_S_askEveryOrWhile_20 : decode b_S_askEveryOrWhile 20 = .ok (.iconst 0, 1) := by decide +kernel
theorem d_S_askEveryOrWhile_21 : decode b_S_askEveryOrWhile 21 = .ok (.istore_n 3, 1) := by decide +kernel
theorem d_S_askEveryOrWhile_22 : decode b_S_askEveryOrWhile 22 = .ok (.iload_n 3, 1) := by decide +kernel
theorem d_S_askEveryOrWhile_23 : decode b_S_askEveryOrWhile 23 = .ok (.ldc 131, 2) := by decide +kernel
theorem d_S_askEveryOrWhile_25 : decode b_S_askEveryOrWhile 25 = .ok (.if_icmp .ge 68, 3) := by decide +kernel
theorem d_S_askEveryOrWhile_28 : decode b_S_askEveryOrWhile 28 = .ok (.iload_n 2, 1) := by decide +kernel
theorem d_S_askEveryOrWhile_29 : decode b_S_askEveryOrWhile 29 = .ok (.ifCond .eq 19, 3) := by decide +kernel
theorem d_S_askEveryOrWhile_32 : decode b_S_askEveryOrWhile 32 = .ok (.aload_n 0, 1) := by decide +kernel
theorem d_S_askEveryOrWhile_33 : decode b_S_askEveryOrWhile 33 = .ok (.aload_n 0, 1) := by decide +kernel
theorem d_S_askEveryOrWhile_34 : decode b_S_askEveryOrWhile 34 = .ok (.getfield 10, 3) := by decide +kernel
theorem d_S_askEveryOrWhile_37 : decode b_S_askEveryOrWhile 37 = .ok (.getfield 122, 3) := by decide +kernel
theorem d_S_askEveryOrWhile_40 : decode b_S_askEveryOrWhile 40 = .ok (.iload_n 1, 1) := by decide +kernel
theorem d_S_askEveryOrWhile_41 : decode b_S_askEveryOrWhile 41 = .ok (.iaload, 1) := by decide +kernel
theorem d_S_askEveryOrWhile_42 : decode b_S_askEveryOrWhile 42 = .ok (.invokevirtual 128, 3) := by decide +kernel
theorem d_S_askEveryOrWhile_45 : decode b_S_askEveryOrWhile 45 = .ok (.goto 8, 3) := by decide +kernel
theorem d_S_askEveryOrWhile_48 : decode b_S_askEveryOrWhile 48 = .ok (.aload_n 0, 1) := by decide +kernel
theorem d_S_askEveryOrWhile_49 : decode b_S_askEveryOrWhile 49 = .ok (.iload_n 1, 1) := by decide +kernel
theorem d_S_askEveryOrWhile_50 : decode b_S_askEveryOrWhile 50 = .ok (.invokevirtual 125, 3) := by decide +kernel
theorem d_S_askEveryOrWhile_53 : decode b_S_askEveryOrWhile 53 = .ok (.istore 4, 2) := by decide +kernel
theorem d_S_askEveryOrWhile_55 : decode b_S_askEveryOrWhile 55 = .ok (.iload 4, 2) := by decide +kernel
theorem d_S_askEveryOrWhile_57 : decode b_S_askEveryOrWhile 57 = .ok (.iconst 1, 1) := by decide +kernel
theorem d_S_askEveryOrWhile_58 : decode b_S_askEveryOrWhile 58 = .ok (.if_icmp .eq 6, 3) := by decide +kernel
theorem d_S_askEveryOrWhile_61 : decode b_S_askEveryOrWhile 61 = .ok (.iload 4, 2) := by decide +kernel
theorem d_S_askEveryOrWhile_63 : decode b_S_askEveryOrWhile 63 = .ok (.ireturn, 1) := by decide +kernel
theorem d_S_askEveryOrWhile_64 : decode b_S_askEveryOrWhile 64 = .ok (.aload_n 0, 1) := by decide +kernel
theorem d_S_askEveryOrWhile_65 : decode b_S_askEveryOrWhile 65 = .ok (.aload_n 0, 1) := by decide +kernel
theorem d_S_askEveryOrWhile_66 : decode b_S_askEveryOrWhile 66 = .ok (.getfield 10, 3) := by decide +kernel
theorem d_S_askEveryOrWhile_69 : decode b_S_askEveryOrWhile 69 = .ok (.getfield 85, 3) := by decide +kernel
theorem d_S_askEveryOrWhile_72 : decode b_S_askEveryOrWhile 72 = .ok (.iload_n 1, 1) := by decide +kernel
theorem d_S_askEveryOrWhile_73 : decode b_S_askEveryOrWhile 73 = .ok (.iaload, 1) := by decide +kernel
theorem d_S_askEveryOrWhile_74 : decode b_S_askEveryOrWhile 74 = .ok (.invokevirtual 128, 3) := by decide +kernel
theorem d_S_askEveryOrWhile_77 : decode b_S_askEveryOrWhile 77 = .ok (.istore 4, 2) := by decide +kernel
theorem d_S_askEveryOrWhile_79 : decode b_S_askEveryOrWhile 79 = .ok (.iload 4, 2) := by decide +kernel
theorem d_S_askEveryOrWhile_81 : decode b_S_askEveryOrWhile 81 = .ok (.ifCond .ge 6, 3) := by decide +kernel
theorem d_S_askEveryOrWhile_84 : decode b_S_askEveryOrWhile 84 = .ok (.iload 4, 2) := by decide +kernel
theorem d_S_askEveryOrWhile_86 : decode b_S_askEveryOrWhile 86 = .ok (.ireturn, 1) := by decide +kernel
theorem d_S_askEveryOrWhile_87 : decode b_S_askEveryOrWhile 87 = .ok (.iinc 3 1, 3) := by decide +kernel
theorem d_S_askEveryOrWhile_90 : decode b_S_askEveryOrWhile 90 = .ok (.goto (-68), 3) := by decide +kernel
theorem d_S_askEveryOrWhile_93 : decode b_S_askEveryOrWhile 93 = .ok (.iconst 0, 1) := by decide +kernel
theorem d_S_askEveryOrWhile_94 : decode b_S_askEveryOrWhile 94 = .ok (.ireturn, 1) := by decide +kernel
theorem d_S_askThen_0 : decode b_S_askThen 0 = .ok (.aload_n 0, 1) := by decide +kernel
theorem d_S_askThen_1 : decode b_S_askThen 1 = .ok (.getfield 10, 3) := by decide +kernel
theorem d_S_askThen_4 : decode b_S_askThen 4 = .ok (.getfield 85, 3) := by decide +kernel
theorem d_S_askThen_7 : decode b_S_askThen 7 = .ok (.iload_n 1, 1) := by decide +kernel
theorem d_S_askThen_8 : decode b_S_askThen 8 = .ok (.iaload, 1) := by decide +kernel
theorem d_S_askThen_9 : decode b_S_askThen 9 = .ok (.istore_n 2, 1) := by decide +kernel
theorem d_S_askThen_10 : decode b_S_askThen 10 = .ok (.aload_n 0, 1) := by decide +kernel
theorem d_S_askThen_11 : decode b_S_askThen 11 = .ok (.getfield 16, 3) := by decide +kernel
theorem d_S_askThen_14 : decode b_S_askThen 14 = .ok (.iload_n 1, 1) := by decide +kernel
theorem d_S_askThen_15 : decode b_S_askThen 15 = .ok (.iaload, 1) := by decide +kernel
theorem d_S_askThen_16 : decode b_S_askThen 16 = .ok (.ifCond .ne 35, 3) := by decide +kernel
theorem d_S_askThen_19 : decode b_S_askThen 19 = .ok (.aload_n 0, 1) := by decide +kernel
theorem d_S_askThen_20 : decode b_S_askThen 20 = .ok (.aload_n 0, 1) := by decide +kernel
theorem d_S_askThen_21 : decode b_S_askThen 21 = .ok (.getfield 10, 3) := by decide +kernel
theorem d_S_askThen_24 : decode b_S_askThen 24 = .ok (.getfield 122, 3) := by decide +kernel
theorem d_S_askThen_27 : decode b_S_askThen 27 = .ok (.iload_n 1, 1) := by decide +kernel
theorem d_S_askThen_28 : decode b_S_askThen 28 = .ok (.iaload, 1) := by decide +kernel
theorem d_S_askThen_29 : decode b_S_askThen 29 = .ok (.invokevirtual 128, 3) := by decide +kernel
theorem d_S_askThen_32 : decode b_S_askThen 32 = .ok (.istore_n 3, 1) := by decide +kernel
theorem d_S_askThen_33 : decode b_S_askThen 33 = .ok (.iload_n 3, 1) := by decide +kernel
theorem d_S_askThen_34 : decode b_S_askThen 34 = .ok (.ifCond .ge 5, 3) := by decide +kernel
theorem d_S_askThen_37 : decode b_S_askThen 37 = .ok (.iload_n 3, 1) := by decide +kernel
theorem d_S_askThen_38 : decode b_S_askThen 38 = .ok (.ireturn, 1) := by decide +kernel
theorem d_S_askThen_39 : decode b_S_askThen 39 = .ok (.aload_n 0, 1) := by decide +kernel
theorem d_S_askThen_40 : decode b_S_askThen 40 = .ok (.getfield 16, 3) := by decide +kernel
theorem d_S_askThen_43 : decode b_S_askThen 43 = .ok (.iload_n 1, 1) := by decide +kernel
theorem d_S_askThen_44 : decode b_S_askThen 44 = .ok (.iconst 2, 1) := by decide +kernel
theorem d_S_askThen_45 : decode b_S_askThen 45 = .ok (.iastore, 1) := by decide +kernel
theorem d_S_askThen_46 : decode b_S_askThen 46 = .ok (.aload_n 0, 1) := by decide +kernel
theorem d_S_askThen_47 : decode b_S_askThen 47 = .ok (.iload_n 2, 1) := by decide +kernel
theorem d_S_askThen_48 : decode b_S_askThen 48 = .ok (.invokevirtual 52, 3) := by decide +kernel
theorem d_S_askThen_51 : decode b_S_askThen 51 = .ok (.aload_n 0, 1) := by decide +kernel
theorem d_S_askThen_52 : decode b_S_askThen 52 = .ok (.iload_n 1, 1) := by decide +kernel
theorem d_S_askThen_53 : decode b_S_askThen 53 = .ok (.iload_n 2, 1) := by decide +kernel
theorem d_S_askThen_54 : decode b_S_askThen 54 = .ok (.aload_n 0, 1) := by decide +kernel
theorem d_S_askThen_55 : decode b_S_askThen 55 = .ok (.iload_n 2, 1) := by decide +kernel
theorem d_S_askThen_56 : decode b_S_askThen 56 = .ok (.invokevirtual 56, 3) := by decide +kernel
theorem d_S_askThen_59 : decode b_S_askThen 59 = .ok (.invokevirtual 91, 3) := by decide +kernel
theorem d_S_askThen_62 : decode b_S_askThen 62 = .ok (.ireturn, 1) := by decide +kernel
theorem d_S_askIf_0 : decode b_S_askIf 0 = .ok (.aload_n 0, 1) := by decide +kernel
theorem d_S_askIf_1 : decode b_S_askIf 1 = .ok (.getfield 16, 3) := by decide +kernel
theorem d_S_askIf_4 : decode b_S_askIf 4 = .ok (.iload_n 1, 1) := by decide +kernel
theorem d_S_askIf_5 : decode b_S_askIf 5 = .ok (.iaload, 1) := by decide +kernel
theorem d_S_askIf_6 : decode b_S_askIf 6 = .ok (.ifCond .ne 48, 3) := by decide +kernel
theorem d_S_askIf_9 : decode b_S_askIf 9 = .ok (.aload_n 0, 1) := by decide +kernel
theorem d_S_askIf_10 : decode b_S_askIf 10 = .ok (.aload_n 0, 1) := by decide +kernel
theorem d_S_askIf_11 : decode b_S_askIf 11 = .ok (.getfield 10, 3) := by decide +kernel
theorem d_S_askIf_14 : decode b_S_askIf 14 = .ok (.getfield 122, 3) := by decide +kernel
theorem d_S_askIf_17 : decode b_S_askIf 17 = .ok (.iload_n 1, 1) := by decide +kernel
theorem d_S_askIf_18 : decode b_S_askIf 18 = .ok (.iaload, 1) := by decide +kernel
theorem d_S_askIf_19 : decode b_S_askIf 19 = .ok (.invokevirtual 128, 3) := by decide +kernel
theorem d_S_askIf_22 : decode b_S_askIf 22 = .ok (.istore_n 2, 1) := by decide +kernel
theorem d_S_askIf_23 : decode b_S_askIf 23 = .ok (.iload_n 2, 1) := by decide +kernel
theorem d_S_askIf_24 : decode b_S_askIf 24 = .ok (.ifCond .ge 5, 3) := by decide +kernel
theorem d_S_askIf_27 : decode b_S_askIf 27 = .ok (.iload_n 2, 1) := by decide +kernel
theorem d_S_askIf_28 : decode b_S_askIf 28 = .ok (.ireturn, 1) := by decide +kernel
theorem d_S_askIf_29 : decode b_S_askIf 29 = .ok (.aload_n 0, 1) := by decide +kernel
theorem d_S_askIf_30 : decode b_S_askIf 30 = .ok (.getfield 16, 3) := by decide +kernel
theorem d_S_askIf_33 : decode b_S_askIf 33 = .ok (.iload_n 1, 1) := by decide +kernel
theorem d_S_askIf_34 : decode b_S_askIf 34 = .ok (.iload_n 2, 1) := by decide +kernel
theorem d_S_askIf_35 : decode b_S_askIf 35 = .ok (.iconst 1, 1) := by decide +kernel
theorem d_S_askIf_36 : decode b_S_askIf 36 = .ok (.if_icmp .ne 7, 3) := by decide +kernel
theorem d_S_askIf_39 : decode b_S_askIf 39 = .ok (.iconst 2, 1) := by decide +kernel
theorem d_S_askIf_40 : decode b_S_askIf 40 = .ok (.goto 4, 3) := by decide +kernel
theorem d_S_askIf_43 : decode b_S_askIf 43 = .ok (.iconst 3, 1) := by decide +kernel
theorem d_S_askIf_44 : decode b_S_askIf 44 = .ok (.iastore, 1) := by decide +kernel
theorem d_S_askIf_45 : decode b_S_askIf 45 = .ok (.aload_n 0, 1) := by decide +kernel
theorem d_S_askIf_46 : decode b_S_askIf 46 = .ok (.aload_n 0, 1) := by decide +kernel
theorem d_S_askIf_47 : decode b_S_askIf 47 = .ok (.iload_n 1, 1) := by decide +kernel
theorem d_S_askIf_48 : decode b_S_askIf 48 = .ok (.invokevirtual 143, 3) := by decide +kernel
theorem d_S_askIf_51 : decode b_S_askIf 51 = .ok (.invokevirtual 52, 3) := by decide +kernel
theorem d_S_askIf_54 : decode b_S_askIf 54 = .ok (.aload_n 0, 1) := by decide +kernel
theorem d_S_askIf_55 : decode b_S_askIf 55 = .ok (.iload_n 1, 1) := by decide +kernel
theorem d_S_askIf_56 : decode b_S_askIf 56 = .ok (.aload_n 0, 1) := by decide +kernel
theorem d_S_askIf_57 : decode b_S_askIf 57 = .ok (.iload_n 1, 1) := by decide +kernel
theorem d_S_askIf_58 : decode b_S_askIf 58 = .ok (.invokevirtual 143, 3) := by decide +kernel
theorem d_S_askIf_61 : decode b_S_askIf 61 = .ok (.aload_n 0, 1) := by decide +kernel
theorem d_S_askIf_62 : decode b_S_askIf 62 = .ok (.aload_n 0, 1) := by decide +kernel
theorem d_S_askIf_63 : decode b_S_askIf 63 = .ok (.iload_n 1, 1) := by decide +kernel
theorem d_S_askIf_64 : decode b_S_askIf 64 = .ok (.invokevirtual 143, 3) := by decide +kernel
theorem d_S_askIf_67 : decode b_S_askIf 67 = .ok (.invokevirtual 56, 3) := by decide +kernel
theorem d_S_askIf_70 : decode b_S_askIf 70 = .ok (.invokevirtual 91, 3) := by decide +kernel
theorem d_S_askIf_73 : decode b_S_askIf 73 = .ok (.ireturn, 1) := by decide +kernel
theorem d_S_branch_0 : decode b_S_branch 0 = .ok (.aload_n 0, 1) := by decide +kernel
theorem d_S_branch_1 : decode b_S_branch 1 = .ok (.getfield 16, 3) := by decide +kernel
theorem d_S_branch_4 : decode b_S_branch 4 = .ok (.iload_n 1, 1) := by decide +kernel
theorem d_S_branch_5 : decode b_S_branch 5 = .ok (.iaload, 1) := by decide +kernel
theorem d_S_branch_6 : decode b_S_branch 6 = .ok (.iconst 2, 1) := by decide +kernel
theorem d_S_branch_7 : decode b_S_branch 7 = .ok (.if_icmp .ne 15, 3) := by decide +kernel
theorem d_S_branch_10 : decode b_S_branch 10 = .ok (.aload_n 0, 1) := by decide +kernel
theorem d_S_branch_11 : decode b_S_branch 11 = .ok (.getfield 10, 3) := by decide +kernel
theorem d_S_branch_14 : decode b_S_branch 14 = .ok (.getfield 85, 3) := by decide +kernel
theorem d_S_branch_17 : decode b_S_branch 17 = .ok (.iload_n 1, 1) := by decide +kernel
theorem d_S_branch_18 : decode b_S_branch 18 = .ok (.iaload, 1) := by decide +kernel
theorem d_S_branch_19 : decode b_S_branch 19 = .ok (.goto 12, 3) := by decide +kernel
theorem d_S_branch_22 : decode b_S_branch 22 = .ok (.aload_n 0, 1) := by decide +kernel
theorem d_S_branch_23 : decode b_S_branch 23 = .ok (.getfield 10, 3) := by decide +kernel
theorem d_S_branch_26 : decode b_S_branch 26 = .ok (.getfield 146, 3) := by decide +kernel
theorem d_S_branch_29 : decode b_S_branch 29 = .ok (.iload_n 1, 1) := by decide +kernel
theorem d_S_branch_30 : decode b_S_branch 30 = .ok (.iaload, 1) := by decide +kernel
theorem d_S_branch_31 : decode b_S_branch 31 = .ok (.ireturn, 1) := by decide +kernel
theorem d_S_askTo_0 : decode b_S_askTo 0 = .ok (.iconst 0, 1) := by decide +kernel
theorem d_S_askTo_1 : decode b_S_askTo 1 = .ok (.istore_n 2, 1) := by decide +kernel
theorem d_S_askTo_2 : decode b_S_askTo 2 = .ok (.iload_n 2, 1) := by decide +kernel
theorem d_S_askTo_3 : decode b_S_askTo 3 = .ok (.ldc 131, 2) := by decide +kernel
theorem d_S_askTo_5 : decode b_S_askTo 5 = .ok (.if_icmp .ge 135, 3) := by decide +kernel
theorem d_S_askTo_8 : decode b_S_askTo 8 = .ok (.aload_n 0, 1) := by decide +kernel
theorem d_S_askTo_9 : decode b_S_askTo 9 = .ok (.getfield 16, 3) := by decide +kernel
theorem d_S_askTo_12 : decode b_S_askTo 12 = .ok (.iload_n 1, 1) := by decide +kernel
theorem d_S_askTo_13 : decode b_S_askTo 13 = .ok (.iaload, 1) := by decide +kernel
theorem d_S_askTo_14 : decode b_S_askTo 14 = .ok (.iconst 4, 1) := by decide +kernel
theorem d_S_askTo_15 : decode b_S_askTo 15 = .ok (.if_icmp .ne 30, 3) := by decide +kernel
theorem d_S_askTo_18 : decode b_S_askTo 18 = .ok (.aload_n 0, 1) := by decide +kernel
theorem d_S_askTo_19 : decode b_S_askTo 19 = .ok (.getfield 23, 3) := by decide +kernel
theorem d_S_askTo_22 : decode b_S_askTo 22 = .ok (.iload_n 1, 1) := by decide +kernel
theorem d_S_askTo_23 : decode b_S_askTo 23 = .ok (.dup2, 1) := by decide +kernel
theorem d_S_askTo_24 : decode b_S_askTo 24 = .ok (.laload, 1) := by decide +kernel
theorem d_S_askTo_25 : decode b_S_askTo 25 = .ok (.aload_n 0, 1) := by decide +kernel
theorem d_S_askTo_26 : decode b_S_askTo 26 = .ok (.getfield 20, 3) := by decide +kernel
theorem d_S_askTo_29 : decode b_S_askTo 29 = .ok (.aload_n 0, 1) := by decide +kernel
theorem d_S_askTo_30 : decode b_S_askTo 30 = .ok (.getfield 10, 3) := by decide +kernel
theorem d_S_askTo_33 : decode b_S_askTo 33 = .ok (.getfield 146, 3) := by decide +kernel
theorem d_S_askTo_36 : decode b_S_askTo 36 = .ok (.iload_n 1, 1) := by decide +kernel
theorem d_S_askTo_37 : decode b_S_askTo 37 = .ok (.iaload, 1) := by decide +kernel
theorem d_S_askTo_38 : decode b_S_askTo 38 = .ok (.iaload, 1) := by decide +kernel
theorem d_S_askTo_39 : decode b_S_askTo 39 = .ok (.i2l, 1) := by decide +kernel
theorem d_S_askTo_40 : decode b_S_askTo 40 = .ok (.ladd, 1) := by decide +kernel
theorem d_S_askTo_41 : decode b_S_askTo 41 = .ok (.lastore, 1) := by decide +kernel
theorem d_S_askTo_42 : decode b_S_askTo 42 = .ok (.goto 64, 3) := by decide +kernel
theorem d_S_askTo_45 : decode b_S_askTo 45 = .ok (.aload_n 0, 1) := by decide +kernel
theorem d_S_askTo_46 : decode b_S_askTo 46 = .ok (.iload_n 1, 1) := by decide +kernel
theorem d_S_askTo_47 : decode b_S_askTo 47 = .ok (.invokevirtual 149, 3) := by decide +kernel
theorem d_S_askTo_50 : decode b_S_askTo 50 = .ok (.istore_n 3, 1) := by decide +kernel
theorem d_S_askTo_51 : decode b_S_askTo 51 = .ok (.iload_n 3, 1) := by decide +kernel
theorem d_S_askTo_52 : decode b_S_askTo 52 = .ok (.iconst 1, 1) := by decide +kernel
theorem d_S_askTo_53 : decode b_S_askTo 53 = .ok (.if_icmp .eq 5, 3) := by decide +kernel
theorem d_S_askTo_56 : decode b_S_askTo 56 = .ok (.iload_n 3, 1) := by decide +kernel
theorem d_S_askTo_57 : decode b_S_askTo 57 = .ok (.ireturn, 1) := by decide +kernel
theorem d_S_askTo_58 : decode b_S_askTo 58 = .ok (.aload_n 0, 1) := by decide +kernel
theorem d_S_askTo_59 : decode b_S_askTo 59 = .ok (.getfield 20, 3) := by decide +kernel
theorem d_S_askTo_62 : decode b_S_askTo 62 = .ok (.aload_n 0, 1) := by decide +kernel
theorem d_S_askTo_63 : decode b_S_askTo 63 = .ok (.getfield 10, 3) := by decide +kernel
theorem d_S_askTo_66 : decode b_S_askTo 66 = .ok (.getfield 146, 3) := by decide +kernel
theorem d_S_askTo_69 : decode b_S_askTo 69 = .ok (.iload_n 1, 1) := by decide +kernel
theorem d_S_askTo_70 : decode b_S_askTo 70 = .ok (.iaload, 1) := by decide +kernel
theorem d_S_askTo_71 : decode b_S_askTo 71 = .ok (.iaload, 1) := by decide +kernel
theorem d_S_askTo_72 : decode b_S_askTo 72 = .ok (.ifCond .ne 6, 3) := by decide +kernel
theorem d_S_askTo_75 : decode b_S_askTo 75 = .ok (.bipush (-3), 2) := by decide +kernel
theorem d_S_askTo_77 : decode b_S_askTo 77 = .ok (.ireturn, 1) := by decide +kernel
theorem d_S_askTo_78 : decode b_S_askTo 78 = .ok (.aload_n 0, 1) := by decide +kernel
theorem d_S_askTo_79 : decode b_S_askTo 79 = .ok (.getfield 23, 3) := by decide +kernel
theorem d_S_askTo_82 : decode b_S_askTo 82 = .ok (.iload_n 1, 1) := by decide +kernel
theorem d_S_askTo_83 : decode b_S_askTo 83 = .ok (.aload_n 0, 1) := by decide +kernel
theorem d_S_askTo_84 : decode b_S_askTo 84 = .ok (.getfield 20, 3) := by decide +kernel
theorem d_S_askTo_87 : decode b_S_askTo 87 = .ok (.aload_n 0, 1) := by decide +kernel
theorem d_S_askTo_88 : decode b_S_askTo 88 = .ok (.getfield 10, 3) := by decide +kernel
theorem d_S_askTo_91 : decode b_S_askTo 91 = .ok (.getfield 122, 3) := by decide +kernel
theorem d_S_askTo_94 : decode b_S_askTo 94 = .ok (.iload_n 1, 1) := by decide +kernel
theorem d_S_askTo_95 : decode b_S_askTo 95 = .ok (.iaload, 1) := by decide +kernel
theorem d_S_askTo_96 : decode b_S_askTo 96 = .ok (.iaload, 1) := by decide +kernel
theorem d_S_askTo_97 : decode b_S_askTo 97 = .ok (.i2l, 1) := by decide +kernel
theorem d_S_askTo_98 : decode b_S_askTo 98 = .ok (.lastore, 1) := by decide +kernel
theorem d_S_askTo_99 : decode b_S_askTo 99 = .ok (.aload_n 0, 1) := by decide +kernel
theorem d_S_askTo_100 : decode b_S_askTo 100 = .ok (.getfield 16, 3) := by decide +kernel
theorem d_S_askTo_103 : decode b_S_askTo 103 = .ok (.iload_n 1, 1) := by decide +kernel
theorem d_S_askTo_104 : decode b_S_askTo 104 = .ok (.iconst 4, 1) := by decide +kernel
theorem d_S_askTo_105 : decode b_S_askTo 105 = .ok (.iastore, 1) := by decide +kernel
theorem d_S_askTo_106 : decode b_S_askTo 106 = .ok (.aload_n 0, 1) := by decide +kernel
theorem d_S_askTo_107 : decode b_S_askTo 107 = .ok (.iload_n 1, 1) := by decide +kernel
theorem d_S_askTo_108 : decode b_S_askTo 108 = .ok (.invokevirtual 152, 3) := by decide +kernel
theorem d_S_askTo_111 : decode b_S_askTo 111 = .ok (.ifCond .eq 16, 3) := by decide +kernel
theorem d_S_askTo_114 : decode b_S_askTo 114 = .ok (.aload_n 0, 1) := by decide +kernel
theorem d_S_askTo_115 : decode b_S_askTo 115 = .ok (.iload_n 1, 1) := by decide +kernel
theorem d_S_askTo_116 : decode b_S_askTo 116 = .ok (.aload_n 0, 1) := by decide +kernel
theorem d_S_askTo_117 : decode b_S_askTo 117 = .ok (.getfield 23, 3) := by decide +kernel
theorem d_S_askTo_120 : decode b_S_askTo 120 = .ok (.iload_n 1, 1) := by decide +kernel
theorem d_S_askTo_121 : decode b_S_askTo 121 = .ok (.laload, 1) := by decide +kernel
theorem d_S_askTo_122 : decode b_S_askTo 122 = .ok (.l2i, 1) := by decide +kernel
theorem d_S_askTo_123 : decode b_S_askTo 123 = .ok (.invokevirtual 119, 3) := by decide +kernel
theorem d_S_askTo_126 : decode b_S_askTo 126 = .ok (.ireturn, 1) := by decide +kernel
theorem d_S_askTo_127 : decode b_S_askTo 127 = .ok (.aload_n 0, 1) := by decide +kernel
theorem d_S_askTo_128 : decode b_S_askTo 128 = .ok (.getfield 16, 3) := by decide +kernel
theorem d_S_askTo_131 : decode b_S_askTo 131 = .ok (.iload_n 1, 1) := by decide +kernel
theorem d_S_askTo_132 : decode b_S_askTo 132 = .ok (.iconst 3, 1) := by decide +kernel
theorem d_S_askTo_133 : decode b_S_askTo 133 = .ok (.iastore, 1) := by decide +kernel
theorem d_S_askTo_134 : decode b_S_askTo 134 = .ok (.iinc 2 1, 3) := by decide +kernel
theorem d_S_askTo_137 : decode b_S_askTo 137 = .ok (.goto (-135), 3) := by decide +kernel
theorem d_S_askTo_140 : decode b_S_askTo 140 = .ok (.iconst 0, 1) := by decide +kernel
theorem d_S_askTo_141 : decode b_S_askTo 141 = .ok (.ireturn, 1) := by decide +kernel
theorem d_S_isUpToEnd_0 : decode b_S_isUpToEnd 0 = .ok (.aload_n 0, 1) := by decide +kernel
theorem d_S_isUpToEnd_1 : decode b_S_isUpToEnd 1 = .ok (.getfield 20, 3) := by decide +kernel
theorem d_S_isUpToEnd_4 : decode b_S_isUpToEnd 4 = .ok (.aload_n 0, 1) := by decide +kernel
theorem d_S_isUpToEnd_5 : decode b_S_isUpToEnd 5 = .ok (.getfield 10, 3) := by decide +kernel
theorem d_S_isUpToEnd_8 : decode b_S_isUpToEnd 8 = .ok (.getfield 85, 3) := by decide +kernel
theorem d_S_isUpToEnd_11 : decode b_S_isUpToEnd 11 = .ok (.iload_n 1, 1) := by decide +kernel
theorem d_S_isUpToEnd_12 : decode b_S_isUpToEnd 12 = .ok (.iaload, 1) := by decide +kernel
theorem d_S_isUpToEnd_13 : decode b_S_isUpToEnd 13 = .ok (.iaload, 1) := by decide +kernel
theorem d_S_isUpToEnd_14 : decode b_S_isUpToEnd 14 = .ok (.istore_n 2, 1) := by decide +kernel
theorem d_S_isUpToEnd_15 : decode b_S_isUpToEnd 15 = .ok (.aload_n 0, 1) := by decide +kernel
theorem d_S_isUpToEnd_16 : decode b_S_isUpToEnd 16 = .ok (.getfield 20, 3) := by decide +kernel
theorem d_S_isUpToEnd_19 : decode b_S_isUpToEnd 19 = .ok (.aload_n 0, 1) := by decide +kernel
theorem d_S_isUpToEnd_20 : decode b_S_isUpToEnd 20 = .ok (.getfield 10, 3) := by decide +kernel
theorem d_S_isUpToEnd_23 : decode b_S_isUpToEnd 23 = .ok (.getfield 146, 3) := by decide +kernel
theorem d_S_isUpToEnd_26 : decode b_S_isUpToEnd 26 = .ok (.iload_n 1, 1) := by decide +kernel
theorem d_S_isUpToEnd_27 : decode b_S_isUpToEnd 27 = .ok (.iaload, 1) := by decide +kernel
theorem d_S_isUpToEnd_28 : decode b_S_isUpToEnd 28 = .ok (.iaload, 1) := by decide +kernel
theorem d_S_isUpToEnd_29 : decode b_S_isUpToEnd 29 = .ok (.ifCond .le 23, 3) := by decide +kernel
theorem d_S_isUpToEnd_32 : decode b_S_isUpToEnd 32 = .ok (.aload_n 0, 1) := by decide +kernel
theorem d_S_isUpToEnd_33 : decode b_S_isUpToEnd 33 = .ok (.getfield 23, 3) := by decide +kernel
theorem d_S_isUpToEnd_36 : decode b_S_isUpToEnd 36 = .ok (.iload_n 1, 1) := by decide +kernel
theorem d_S_isUpToEnd_37 : decode b_S_isUpToEnd 37 = .ok (.laload, 1) := by decide +kernel
theorem d_S_isUpToEnd_38 : decode b_S_isUpToEnd 38 = .ok (.iload_n 2, 1) := by decide +kernel
theorem d_S_isUpToEnd_39 : decode b_S_isUpToEnd 39 = .ok (.i2l, 1) := by decide +kernel
theorem d_S_isUpToEnd_40 : decode b_S_isUpToEnd 40 = .ok (.lcmp, 1) := by decide +kernel
theorem d_S_isUpToEnd_41 : decode b_S_isUpToEnd 41 = .ok (.ifCond .gt 7, 3) := by decide +kernel
theorem d_S_isUpToEnd_44 : decode b_S_isUpToEnd 44 = .ok (.iconst 1, 1) := by decide +kernel
theorem d_S_isUpToEnd_45 : decode b_S_isUpToEnd 45 = .ok (.goto 24, 3) := by decide +kernel
theorem d_S_isUpToEnd_48 : decode b_S_isUpToEnd 48 = .ok (.iconst 0, 1) := by decide +kernel
theorem d_S_isUpToEnd_49 : decode b_S_isUpToEnd 49 = .ok (.goto 20, 3) := by decide +kernel
theorem d_S_isUpToEnd_52 : decode b_S_isUpToEnd 52 = .ok (.aload_n 0, 1) := by decide +kernel
theorem d_S_isUpToEnd_53 : decode b_S_isUpToEnd 53 = .ok (.getfield 23, 3) := by decide +kernel
theorem d_S_isUpToEnd_56 : decode b_S_isUpToEnd 56 = .ok (.iload_n 1, 1) := by decide +kernel
theorem d_S_isUpToEnd_57 : decode b_S_isUpToEnd 57 = .ok (.laload, 1) := by decide +kernel
theorem d_S_isUpToEnd_58 : decode b_S_isUpToEnd 58 = .ok (.iload_n 2, 1) := by decide +kernel
theorem d_S_isUpToEnd_59 : decode b_S_isUpToEnd 59 = .ok (.i2l, 1) := by decide +kernel
theorem d_S_isUpToEnd_60 : decode b_S_isUpToEnd 60 = .ok (.lcmp, 1) := by decide +kernel
theorem d_S_isUpToEnd_61 : decode b_S_isUpToEnd 61 = .ok (.ifCond .lt 7, 3) := by decide +kernel
theorem d_S_isUpToEnd_64 : decode b_S_isUpToEnd 64 = .ok (.iconst 1, 1) := by decide +kernel
theorem d_S_isUpToEnd_65 : decode b_S_isUpToEnd 65 = .ok (.goto 4, 3) := by decide +kernel
theorem d_S_isUpToEnd_68 : decode b_S_isUpToEnd 68 = .ok (.iconst 0, 1) := by decide +kernel
theorem d_S_isUpToEnd_69 : decode b_S_isUpToEnd 69 = .ok (.ireturn, 1) := by decide +kernel
theorem d_S_askTriple_0 : decode b_S_askTriple 0 = .ok (.aload_n 0, 1) := by decide +kernel
theorem d_S_askTriple_1 : decode b_S_askTriple 1 = .ok (.getfield 10, 3) := by decide +kernel
theorem d_S_askTriple_4 : decode b_S_askTriple 4 = .ok (.getfield 146, 3) := by decide +kernel
theorem d_S_askTriple_7 : decode b_S_askTriple 7 = .ok (.iload_n 1, 1) := by decide +kernel
theorem d_S_askTriple_8 : decode b_S_askTriple 8 = .ok (.iaload, 1) := by decide +kernel
theorem d_S_askTriple_9 : decode b_S_askTriple 9 = .ok (.istore_n 2, 1) := by decide +kernel
theorem d_S_askTriple_10 : decode b_S_askTriple 10 = .ok (.iconst 0, 1) := by decide +kernel
theorem d_S_askTriple_11 : decode b_S_askTriple 11 = .ok (.istore_n 3, 1) := by decide +kernel
theorem d_S_askTriple_12 : decode b_S_askTriple 12 = .ok (.iload_n 3, 1) := by decide +kernel
theorem d_S_askTriple_13 : decode b_S_askTriple 13 = .ok (.ldc 131, 2) := by decide +kernel
theorem d_S_askTriple_15 : decode b_S_askTriple 15 = .ok (.if_icmp .ge 69, 3) := by decide +kernel
theorem d_S_askTriple_18 : decode b_S_askTriple 18 = .ok (.aload_n 0, 1) := by decide +kernel
theorem d_S_askTriple_19 : decode b_S_askTriple 19 = .ok (.getfield 16, 3) := by decide +kernel
theorem d_S_askTriple_22 : decode b_S_askTriple 22 = .ok (.iload_n 1, 1) := by decide +kernel
theorem d_S_askTriple_23 : decode b_S_askTriple 23 = .ok (.iaload, 1) := by decide +kernel
theorem d_S_askTriple_24 : decode b_S_askTriple 24 = .ok (.iconst 3, 1) := by decide +kernel
theorem d_S_askTriple_25 : decode b_S_askTriple 25 = .ok (.if_icmp .eq 31, 3) := by decide +kernel
theorem d_S_askTriple_28 : decode b_S_askTriple 28 = .ok (.aload_n 0, 1) := by decide +kernel
theorem d_S_askTriple_29 : decode b_S_askTriple 29 = .ok (.iload_n 1, 1) := by decide +kernel
theorem d_S_askTriple_30 : decode b_S_askTriple 30 = .ok (.invokevirtual 88, 3) := by decide +kernel
theorem d_S_askTriple_33 : decode b_S_askTriple 33 = .ok (.istore 4, 2) := by decide +kernel
theorem d_S_askTriple_35 : decode b_S_askTriple 35 = .ok (.iload 4, 2) := by decide +kernel
theorem d_S_askTriple_37 : decode b_S_askTriple 37 = .ok (.iconst 1, 1) := by decide +kernel
theorem d_S_askTriple_38 : decode b_S_askTriple 38 = .ok (.if_icmp .eq 6, 3) := by decide +kernel
theorem d_S_askTriple_41 : decode b_S_askTriple 41 = .ok (.iload 4, 2) := by decide +kernel
theorem d_S_askTriple_43 : decode b_S_askTriple 43 = .ok (.ireturn, 1) := by decide +kernel
theorem d_S_askTriple_44 : decode b_S_askTriple 44 = .ok (.aload_n 0, 1) := by decide +kernel
theorem d_S_askTriple_45 : decode b_S_askTriple 45 = .ok (.getfield 16, 3) := by decide +kernel
theorem d_S_askTriple_48 : decode b_S_askTriple 48 = .ok (.iload_n 1, 1) := by decide +kernel
theorem d_S_askTriple_49 : decode b_S_askTriple 49 = .ok (.iconst 3, 1) := by decide +kernel
theorem d_S_askTriple_50 : decode b_S_askTriple 50 = .ok (.iastore, 1) := by decide +kernel
theorem d_S_askTriple_51 : decode b_S_askTriple 51 = .ok (.aload_n 0, 1) := by decide +kernel
theorem d_S_askTriple_52 : decode b_S_askTriple 52 = .ok (.iload_n 2, 1) := by decide +kernel
theorem d_S_askTriple_53 : decode b_S_askTriple 53 = .ok (.invokevirtual 52, 3) := by decide +kernel
theorem d_S_askTriple_56 : decode b_S_askTriple 56 = .ok (.aload_n 0, 1) := by decide +kernel
theorem d_S_askTriple_57 : decode b_S_askTriple 57 = .ok (.iload_n 2, 1) := by decide +kernel
theorem d_S_askTriple_58 : decode b_S_askTriple 58 = .ok (.invokevirtual 56, 3) := by decide +kernel
theorem d_S_askTriple_61 : decode b_S_askTriple 61 = .ok (.istore 4, 2) := by decide +kernel
theorem d_S_askTriple_63 : decode b_S_askTriple 63 = .ok (.iload 4, 2) := by decide +kernel
theorem d_S_askTriple_65 : decode b_S_askTriple 65 = .ok (.ifCond .eq 6, 3) := by decide +kernel
theorem d_S_askTriple_68 : decode b_S_askTriple 68 = .ok (.iload 4, 2) := by decide +kernel
theorem d_S_askTriple_70 : decode b_S_askTriple 70 = .ok (.ireturn, 1) := by decide +kernel
theorem d_S_askTriple_71 : decode b_S_askTriple 71 = .ok (.aload_n 0, 1) := by decide +kernel
theorem d_S_askTriple_72 : decode b_S_askTriple 72 = .ok (.getfield 16, 3) := by decide +kernel
theorem d_S_askTriple_75 : decode b_S_askTriple 75 = .ok (.iload_n 1, 1) := by decide +kernel
theorem d_S_askTriple_76 : decode b_S_askTriple 76 = .ok (.iconst 2, 1) := by decide +kernel
theorem d_S_askTriple_77 : decode b_S_askTriple 77 = .ok (.iastore, 1) := by decide +kernel
theorem d_S_askTriple_78 : decode b_S_askTriple 78 = .ok (.iinc 3 1, 3) := by decide +kernel
theorem d_S_askTriple_81 : decode b_S_askTriple 81 = .ok (.goto (-69), 3) := by decide +kernel
theorem d_S_askTriple_84 : decode b_S_askTriple 84 = .ok (.iconst 0, 1) := by decide +kernel
theorem d_S_askTriple_85 : decode b_S_askTriple 85 = .ok (.ireturn, 1) := by decide +kernel
end
section
/-! decoded rows -/
theorem d_F_init_0 : decode b_F_init 0 = .ok (.aload_n 0, 1) := by decide +kernel
theorem d_F_init_1 : decode b_F_init 1 = .ok (.invokespecial 1, 3) := by decide +kernel
theorem d_F_init_4 : decode b_F_init 4 = .ok (.aload_n 0, 1) := by decide +kernel
theorem d_F_init_5 : decode b_F_init 5 = .ok (.bipush 60, 2) := by decide +kernel
theorem d_F_init_7 : decode b_F_init 7 = .ok (.newarray .int, 2) := by decide +kernel
theorem d_F_init_9 : decode b_F_init 9 = .ok (.putfield 9, 3) := by decide +kernel
theorem d_F_init_12 : decode b_F_init 12 = .ok (.aload_n 0, 1) := by decide +kernel
theorem d_F_init_13 : decode b_F_init 13 = .ok (.bipush 60, 2) := by decide +kernel
theorem d_F_init_15 : decode b_F_init 15 = .ok (.newarray .int, 2) := by decide +kernel
theorem d_F_init_17 : decode b_F_init 17 = .ok (.putfield 13, 3) := by decide +kernel
theorem d_F_init_20 : decode b_F_init 20 = .ok (.aload_n 0, 1) := by decide +kernel
theorem d_F_init_21 : decode b_F_init 21 = .ok (.bipush 60, 2) := by decide +kernel
theorem d_F_init_23 : decode b_F_init 23 = .ok (.newarray .int, 2) := by decide +kernel
theorem d_F_init_25 : decode b_F_init 25 = .ok (.putfield 16, 3) := by decide +kernel
theorem d_F_init_28 : decode b_F_init 28 = .ok (.aload_n 0, 1) := by decide +kernel
theorem d_F_init_29 : decode b_F_init 29 = .ok (.bipush 60, 2) := by decide +kernel
theorem d_F_init_31 : decode b_F_init 31 = .ok (.newarray .int, 2) := by decide +kernel
theorem d_F_init_33 : decode b_F_init 33 = .ok (.putfield 19, 3) := by decide +kernel
theorem d_F_init_36 : decode b_F_init 36 = .ok (.aload_n 0, 1) := by decide +kernel
theorem d_F_init_37 : decode b_F_init 37 = .ok (.bipush 60, 2) := by decide +kernel
theorem d_F_init_39 : decode b_F_init 39 = .ok (.newarray .int, 2) := by decide +kernel
theorem d_F_init_41 : decode b_F_init 41 = .ok (.putfield 22, 3) := by decide +kernel
theorem d_F_init_44 : decode b_F_init 44 = .ok (.aload_n 0, 1) := by decide +kernel
theorem d_F_init_45 : decode b_F_init 45 = .ok (.bipush 60, 2) := by decide +kernel
theorem d_F_init_47 : decode b_F_init 47 = .ok (.newarray .int, 2) := by decide +kernel
theorem d_F_init_49 : decode b_F_init 49 = .ok (.putfield 25, 3) := by decide +kernel
theorem d_F_init_52 : decode b_F_init 52 = .ok (.aload_n 0, 1) := by decide +kernel
theorem d_F_init_53 : decode b_F_init 53 = .ok (.bipush 60, 2) := by decide +kernel
theorem d_F_init_55 : decode b_F_init 55 = .ok (.newarray .boolean, 2) := by decide +kernel
theorem d_F_init_57 : decode b_F_init 57 = .ok (.putfield 28, 3) := by decide +kernel
theorem d_F_init_60 : decode b_F_init 60 = .ok (.aload_n 0, 1) := by decide +kernel
theorem d_F_init_61 : decode b_F_init 61 = .ok (.iconst 0, 1) := by decide +kernel
theorem d_F_init_62 : decode b_F_init 62 = .ok (.putfield 32, 3) := by decide +kernel
theorem d_F_init_65 : decode b_F_init 65 = .ok (.return_, 1) := by decide +kernel
theorem d_F_has_0 : decode b_F_has 0 = .ok (.iload_n 1, 1) := by decide +kernel
theorem d_F_has_1 : decode b_F_has 1 = .ok (.aload_n 0, 1) := by decide +kernel
theorem d_F_has_2 : decode b_F_has 2 = .ok (.getfield 32, 3) := by decide +kernel
theorem d_F_has_5 : decode b_F_has 5 = .ok (.invokestatic 36, 3) := by decide +kernel
theorem d_F_has_8 : decode b_F_has 8 = .ok (.ireturn, 1) := by decide +kernel
theorem d_F_isFull_0 : decode b_F_isFull 0 = .ok (.aload_n 0, 1) := by decide +kernel
theorem d_F_isFull_1 : decode b_F_isFull 1 = .ok (.getfield 32, 3) := by decide +kernel
theorem d_F_isFull_4 : decode b_F_isFull 4 = .ok (.bipush 60, 2) := by decide +kernel
theorem d_F_isFull_6 : decode b_F_isFull 6 = .ok (.if_icmp .lt 7, 3) := by decide +kernel
theorem d_F_isFull_9 : decode b_F_isFull 9 = .ok (.iconst 1, 1) := by decide +kernel
theorem d_F_isFull_10 : decode b_F_isFull 10 = .ok (.goto 4, 3) := by decide +kernel
theorem d_F_isFull_13 : decode b_F_isFull 13 = .ok (.iconst 0, 1) := by decide +kernel
theorem d_F_isFull_14 : decode b_F_isFull 14 = .ok (.ireturn, 1) := by decide +kernel
theorem d_F_depthOver_0 : decode b_F_depthOver 0 = .ok (.iconst 1, 1) := by decide +kernel
theorem d_F_depthOver_1 : decode b_F_depthOver 1 = .ok (.aload_n 0, 1) := by decide +kernel
theorem d_F_depthOver_2 : decode b_F_depthOver 2 = .ok (.getfield 25, 3) := by decide +kernel
theorem d_F_depthOver_5 : decode b_F_depthOver 5 = .ok (.iload_n 1, 1) := by decide +kernel
theorem d_F_depthOver_6 : decode b_F_depthOver 6 = .ok (.iaload, 1) := by decide +kernel
theorem d_F_depthOver_7 : decode b_F_depthOver 7 = .ok (.aload_n 0, 1) := by decide +kernel
theorem d_F_depthOver_8 : decode b_F_depthOver 8 = .ok (.getfield 25, 3) := by decide +kernel
theorem d_F_depthOver_11 : decode b_F_depthOver 11 = .ok (.iload_n 2, 1) := by decide +kernel
theorem d_F_depthOver_12 : decode b_F_depthOver 12 = .ok (.iaload, 1) := by decide +kernel
theorem d_F_depthOver_13 : decode b_F_depthOver 13 = .ok (.aload_n 0, 1) := by decide +kernel
theorem d_F_depthOver_14 : decode b_F_depthOver 14 = .ok (.getfield 25, 3) := by decide +kernel
theorem d_F_depthOver_17 : decode b_F_depthOver 17 = .ok (.iload_n 3, 1) := by decide +kernel
theorem d_F_depthOver_18 : decode b_F_depthOver 18 = .ok (.iaload, 1) := by decide +kernel
theorem d_F_depthOver_19 : decode b_F_depthOver 19 = .ok (.invokestatic 42, 3) := by decide +kernel
theorem d_F_depthOver_22 : decode b_F_depthOver 22 = .ok (.invokestatic 42, 3) := by decide +kernel
theorem d_F_depthOver_25 : decode b_F_depthOver 25 = .ok (.iadd, 1) := by decide +kernel
theorem d_F_depthOver_26 : decode b_F_depthOver 26 = .ok (.ireturn, 1) := by decide +kernel
theorem d_F_addLeaf_0 : decode b_F_addLeaf 0 = .ok (.aload_n 0, 1) := by decide +kernel
theorem d_F_addLeaf_1 : decode b_F_addLeaf 1 = .ok (.getfield 32, 3) := by decide +kernel
theorem d_F_addLeaf_4 : decode b_F_addLeaf 4 = .ok (.istore_n 3, 1) := by decide +kernel
theorem d_F_addLeaf_5 : decode b_F_addLeaf 5 = .ok (.aload_n 0, 1) := by decide +kernel
theorem d_F_addLeaf_6 : decode b_F_addLeaf 6 = .ok (.getfield 9, 3) := by decide +kernel
theorem d_F_addLeaf_9 : decode b_F_addLeaf 9 = .ok (.iload_n 3, 1) := by decide +kernel
theorem d_F_addLeaf_10 : decode b_F_addLeaf 10 = .ok (.iload_n 1, 1) := by decide +kernel
theorem d_F_addLeaf_11 : decode b_F_addLeaf 11 = .ok (.iastore, 1) := by decide +kernel
theorem d_F_addLeaf_12 : decode b_F_addLeaf 12 = .ok (.aload_n 0, 1) := by decide +kernel
theorem d_F_addLeaf_13 : decode b_F_addLeaf 13 = .ok (.getfield 13, 3) := by decide +kernel
theorem d_F_addLeaf_16 : decode b_F_addLeaf 16 = .ok (.iload_n 3, 1) := by decide +kernel
theorem d_F_addLeaf_17 : decode b_F_addLeaf 17 = .ok (.iload_n 2, 1) := by decide +kernel
theorem d_F_addLeaf_18 : decode b_F_addLeaf 18 = .ok (.iastore, 1) := by decide +kernel
theorem d_F_addLeaf_19 : decode b_F_addLeaf 19 = .ok (.aload_n 0, 1) := by decide +kernel
theorem d_F_addLeaf_20 : decode b_F_addLeaf 20 = .ok (.getfield 25, 3) := by decide +kernel
theorem d_F_addLeaf_23 : decode b_F_addLeaf 23 = .ok (.iload_n 3, 1) := by decide +kernel
theorem d_F_addLeaf_24 : decode b_F_addLeaf 24 = .ok (.iconst 1, 1) := by decide +kernel
theorem d_F_addLeaf_25 : decode b_F_addLeaf 25 = .ok (.iastore, 1) := by decide +kernel
theorem d_F_addLeaf_26 : decode b_F_addLeaf 26 = .ok (.aload_n 0, 1) := by decide +kernel
theorem d_F_addLeaf_27 : decode b_F_addLeaf 27 = .ok (.getfield 28, 3) := by decide +kernel
theorem d_F_addLeaf_30 : decode b_F_addLeaf 30 = .ok (.iload_n 3, 1) := by decide +kernel
theorem d_F_addLeaf_31 : decode b_F_addLeaf 31 = .ok (.iconst 1, 1) := by decide +kernel
theorem d_F_addLeaf_32 : decode b_F_addLeaf 32 = .ok (.bastore, 1) := by decide +kernel
theorem d_F_addLeaf_33 : decode b_F_addLeaf 33 = .ok (.aload_n 0, 1) := by decide +kernel
theorem d_F_addLeaf_34 : decode b_F_addLeaf 34 = .ok (.dup, 1) := by decide +kernel
theorem d_F_addLeaf_35 : decode b_F_addLeaf 35 = .ok (.getfield 32, 3) := by decide +kernel
theorem d_F_addLeaf_38 : decode b_F_addLeaf 38 = .ok (.iconst 1, 1) := by decide +kernel
theorem d_F_addLeaf_39 : decode b_F_addLeaf 39 = .ok (.iadd, 1) := by decide +kernel
theorem d_F_addLeaf_40 : decode b_F_addLeaf 40 = .ok (.putfield 32, 3) := by decide +kernel
theorem d_F_addLeaf_43 : decode b_F_addLeaf 43 = .ok (.iload_n 3, 1) := by decide +kernel
theorem d_F_addLeaf_44 : decode b_F_addLeaf 44 = .ok (.ireturn, 1) := by decide +kernel
theorem d_F_addOver_0 : decode b_F_addOver 0 = .ok (.aload_n 0, 1) := by decide +kernel
theorem d_F_addOver_1 : decode b_F_addOver 1 = .ok (.iload_n 1, 1) := by decide +kernel
theorem d_F_addOver_2 : decode b_F_addOver 2 = .ok (.iload_n 2, 1) := by decide +kernel
theorem d_F_addOver_3 : decode b_F_addOver 3 = .ok (.invokevirtual 48, 3) := by decide +kernel
theorem d_F_addOver_6 : decode b_F_addOver 6 = .ok (.istore 6, 2) := by decide +kernel
theorem d_F_addOver_8 : decode b_F_addOver 8 = .ok (.aload_n 0, 1) := by decide +kernel
theorem d_F_addOver_9 : decode b_F_addOver 9 = .ok (.getfield 16, 3) := by decide +kernel
theorem d_F_addOver_12 : decode b_F_addOver 12 = .ok (.iload 6, 2) := by decide +kernel
theorem d_F_addOver_14 : decode b_F_addOver 14 = .ok (.iload_n 3, 1) := by decide +kernel
theorem d_F_addOver_15 : decode b_F_addOver 15 = .ok (.iastore, 1) := by decide +kernel
theorem d_F_addOver_16 : decode b_F_addOver 16 = .ok (.aload_n 0, 1) := by decide +kernel
theorem d_F_addOver_17 : decode b_F_addOver 17 = .ok (.getfield 19, 3) := by decide +kernel
theorem d_F_addOver_20 : decode b_F_addOver 20 = .ok (.iload 6, 2) := by decide +kernel
theorem d_F_addOver_22 : decode b_F_addOver 22 = .ok (.iload 4, 2) := by decide +kernel
theorem d_F_addOver_24 : decode b_F_addOver 24 = .ok (.iastore, 1) := by decide +kernel
theorem d_F_addOver_25 : decode b_F_addOver 25 = .ok (.aload_n 0, 1) := by decide +kernel
theorem d_F_addOver_26 : decode b_F_addOver 26 = .ok (.getfield 22, 3) := by decide +kernel
theorem d_F_addOver_29 : decode b_F_addOver 29 = .ok (.iload 6, 2) := by decide +kernel
theorem d_F_addOver_31 : decode b_F_addOver 31 = .ok (.iload 5, 2) := by decide +kernel
theorem d_F_addOver_33 : decode b_F_addOver 33 = .ok (.iastore, 1) := by decide +kernel
theorem d_F_addOver_34 : decode b_F_addOver 34 = .ok (.aload_n 0, 1) := by decide +kernel
theorem d_F_addOver_35 : decode b_F_addOver 35 = .ok (.getfield 25, 3) := by decide +kernel
theorem d_F_addOver_38 : decode b_F_addOver 38 = .ok (.iload 6, 2) := by decide +kernel
theorem d_F_addOver_40 : decode b_F_addOver 40 = .ok (.aload_n 0, 1) := by decide +kernel
theorem d_F_addOver_41 : decode b_F_addOver 41 = .ok (.iload_n 3, 1) := by decide +kernel
theorem d_F_addOver_42 : decode b_F_addOver 42 = .ok (.iload 4, 2) := by decide +kernel
theorem d_F_addOver_44 : decode b_F_addOver 44 = .ok (.iload 5, 2) := by decide +kernel
theorem d_F_addOver_46 : decode b_F_addOver 46 = .ok (.invokevirtual 51, 3) := by decide +kernel
theorem d_F_addOver_49 : decode b_F_addOver 49 = .ok (.iastore, 1) := by decide +kernel
theorem d_F_addOver_50 : decode b_F_addOver 50 = .ok (.aload_n 0, 1) := by decide +kernel
theorem d_F_addOver_51 : decode b_F_addOver 51 = .ok (.getfield 28, 3) := by decide +kernel
theorem d_F_addOver_54 : decode b_F_addOver 54 = .ok (.iload_n 3, 1) := by decide +kernel
theorem d_F_addOver_55 : decode b_F_addOver 55 = .ok (.iconst 0, 1) := by decide +kernel
theorem d_F_addOver_56 : decode b_F_addOver 56 = .ok (.bastore, 1) := by decide +kernel
theorem d_F_addOver_57 : decode b_F_addOver 57 = .ok (.aload_n 0, 1) := by decide +kernel
theorem d_F_addOver_58 : decode b_F_addOver 58 = .ok (.getfield 28, 3) := by decide +kernel
theorem d_F_addOver_61 : decode b_F_addOver 61 = .ok (.iload 4, 2) := by decide +kernel
theorem d_F_addOver_63 : decode b_F_addOver 63 = .ok (.iconst 0, 1) := by decide +kernel
theorem d_F_addOver_64 : decode b_F_addOver 64 = .ok (.bastore, 1) := by decide +kernel
theorem d_F_addOver_65 : decode b_F_addOver 65 = .ok (.aload_n 0, 1) := by decide +kernel
theorem d_F_addOver_66 : decode b_F_addOver 66 = .ok (.getfield 28, 3) := by decide +kernel
theorem d_F_addOver_69 : decode b_F_addOver 69 = .ok (.iload 5, 2) := by decide +kernel
theorem d_F_addOver_71 : decode b_F_addOver 71 = .ok (.iconst 0, 1) := by decide +kernel
theorem d_F_addOver_72 : decode b_F_addOver 72 = .ok (.bastore, 1) := by decide +kernel
theorem d_F_addOver_73 : decode b_F_addOver 73 = .ok (.iload 6, 2) := by decide +kernel
theorem d_F_addOver_75 : decode b_F_addOver 75 = .ok (.ireturn, 1) := by decide +kernel
theorem d_G_init_0 : decode b_G_init 0 = .ok (.aload_n 0, 1) := by decide +kernel
theorem d_G_init_1 : decode b_G_init 1 = .ok (.invokespecial 1, 3) := by decide +kernel
theorem d_G_init_4 : decode b_G_init 4 = .ok (.aload_n 0, 1) := by decide +kernel
theorem d_G_init_5 : decode b_G_init 5 = .ok (.new 7, 3) := by decide +kernel
theorem d_G_init_8 : decode b_G_init 8 = .ok (.dup, 1) := by decide +kernel
theorem d_G_init_9 : decode b_G_init 9 = .ok (.invokespecial 9, 3) := by decide +kernel
theorem d_G_init_12 : decode b_G_init 12 = .ok (.putfield 10, 3) := by decide +kernel
theorem d_G_init_15 : decode b_G_init 15 = .ok (.aload_n 0, 1) := by decide +kernel
theorem d_G_init_16 : decode b_G_init 16 = .ok (.aload_n 0, 1) := by decide +kernel
theorem d_G_init_17 : decode b_G_init 17 = .ok (.getfield 10, 3) := by decide +kernel
theorem d_G_init_20 : decode b_G_init 20 = .ok (.getfield 16, 3) := by decide +kernel
theorem d_G_init_23 : decode b_G_init 23 = .ok (.putfield 20, 3) := by decide +kernel
theorem d_G_init_26 : decode b_G_init 26 = .ok (.return_, 1) := by decide +kernel
theorem d_G_leaf_0 : decode b_G_leaf 0 = .ok (.iload_n 1, 1) := by decide +kernel
theorem d_G_leaf_1 : decode b_G_leaf 1 = .ok (.iconst 2, 1) := by decide +kernel
theorem d_G_leaf_2 : decode b_G_leaf 2 = .ok (.invokestatic 21, 3) := by decide +kernel
theorem d_G_leaf_5 : decode b_G_leaf 5 = .ok (.ifCond .ne 5, 3) := by decide +kernel
theorem d_G_leaf_8 : decode b_G_leaf 8 = .ok (.iconst (-1), 1) := by decide +kernel
theorem d_G_leaf_9 : decode b_G_leaf 9 = .ok (.ireturn, 1) := by decide +kernel
theorem d_G_leaf_10 : decode b_G_leaf 10 = .ok (.iconst 0, 1) := by decide +kernel
theorem d_G_leaf_11 : decode b_G_leaf 11 = .ok (.iload_n 1, 1) := by decide +kernel
theorem d_G_leaf_12 : decode b_G_leaf 12 = .ok (.iadd, 1) := by decide +kernel
theorem d_G_leaf_13 : decode b_G_leaf 13 = .ok (.istore_n 3, 1) := by decide +kernel
theorem d_G_leaf_14 : decode b_G_leaf 14 = .ok (.iload_n 3, 1) := by decide +kernel
theorem d_G_leaf_15 : decode b_G_leaf 15 = .ok (.iconst 1, 1) := by decide +kernel
theorem d_G_leaf_16 : decode b_G_leaf 16 = .ok (.if_icmp .ne 14, 3) := by decide +kernel
theorem d_G_leaf_19 : decode b_G_leaf 19 = .ok (.iload_n 2, 1) := by decide +kernel
theorem d_G_leaf_20 : decode b_G_leaf 20 = .ok (.bipush 8, 2) := by decide +kernel
theorem d_G_leaf_22 : decode b_G_leaf 22 = .ok (.invokestatic 21, 3) := by decide +kernel
theorem d_G_leaf_25 : decode b_G_leaf 25 = .ok (.ifCond .ne 5, 3) := by decide +kernel
theorem d_G_leaf_28 : decode b_G_leaf 28 = .ok (.iconst (-1), 1) := by decide +kernel
theorem d_G_leaf_29 : decode b_G_leaf 29 = .ok (.ireturn, 1) := by decide +kernel
theorem d_G_leaf_30 : decode b_G_leaf 30 = .ok (.aload_n 0, 1) := by decide +kernel
theorem d_G_leaf_31 : decode b_G_leaf 31 = .ok (.getfield 20, 3) := by decide +kernel
theorem d_G_leaf_34 : decode b_G_leaf 34 = .ok (.invokevirtual 27, 3) := by decide +kernel
theorem d_G_leaf_37 : decode b_G_leaf 37 = .ok (.ifCond .eq 6, 3) := by decide +kernel
theorem d_G_leaf_40 : decode b_G_leaf 40 = .ok (.bipush (-4), 2) := by decide +kernel
theorem d_G_leaf_42 : decode b_G_leaf 42 = .ok (.ireturn, 1) := by decide +kernel
theorem d_G_leaf_43 : decode b_G_leaf 43 = .ok (.aload_n 0, 1) := by decide +kernel
theorem d_G_leaf_44 : decode b_G_leaf 44 = .ok (.getfield 20, 3) := by decide +kernel
theorem d_G_leaf_47 : decode b_G_leaf 47 = .ok (.iload_n 3, 1) := by decide +kernel
theorem d_G_leaf_48 : decode b_G_leaf 48 = .ok (.iload_n 2, 1) := by decide +kernel
theorem d_G_leaf_49 : decode b_G_leaf 49 = .ok (.invokevirtual 31, 3) := by decide +kernel
theorem d_G_leaf_52 : decode b_G_leaf 52 = .ok (.ireturn, 1) := by decide +kernel
theorem d_G_unary_0 : decode b_G_unary 0 = .ok (.iload_n 1, 1) := by decide +kernel
theorem d_G_unary_1 : decode b_G_unary 1 = .ok (.iconst 4, 1) := by decide +kernel
theorem d_G_unary_2 : decode b_G_unary 2 = .ok (.invokestatic 21, 3) := by decide +kernel
theorem d_G_unary_5 : decode b_G_unary 5 = .ok (.ifCond .ne 5, 3) := by decide +kernel
theorem d_G_unary_8 : decode b_G_unary 8 = .ok (.iconst (-1), 1) := by decide +kernel
theorem d_G_unary_9 : decode b_G_unary 9 = .ok (.ireturn, 1) := by decide +kernel
theorem d_G_unary_10 : decode b_G_unary 10 = .ok (.iconst 2, 1) := by decide +kernel
theorem d_G_unary_11 : decode b_G_unary 11 = .ok (.iload_n 1, 1) := by decide +kernel
theorem d_G_unary_12 : decode b_G_unary 12 = .ok (.iadd, 1) := by decide +kernel
theorem d_G_unary_13 : decode b_G_unary 13 = .ok (.istore 4, 2) := by decide +kernel
theorem d_G_unary_15 : decode b_G_unary 15 = .ok (.iload 4, 2) := by decide +kernel
theorem d_G_unary_17 : decode b_G_unary 17 = .ok (.iconst 2, 1) := by decide +kernel
theorem d_G_unary_18 : decode b_G_unary 18 = .ok (.if_icmp .ne 14, 3) := by decide +kernel
theorem d_G_unary_21 : decode b_G_unary 21 = .ok (.iload_n 2, 1) := by decide +kernel
theorem d_G_unary_22 : decode b_G_unary 22 = .ok (.bipush 8, 2) := by decide +kernel
theorem d_G_unary_24 : decode b_G_unary 24 = .ok (.invokestatic 21, 3) := by decide +kernel
theorem d_G_unary_27 : decode b_G_unary 27 = .ok (.ifCond .ne 5, 3) := by decide +kernel
theorem d_G_unary_30 : decode b_G_unary 30 = .ok (.iconst (-1), 1) := by decide +kernel
theorem d_G_unary_31 : decode b_G_unary 31 = .ok (.ireturn, 1) := by decide +kernel
theorem d_G_unary_32 : decode b_G_unary 32 = .ok (.aload_n 0, 1) := by decide +kernel
theorem d_G_unary_33 : decode b_G_unary 33 = .ok (.iload 4, 2) := by decide +kernel
theorem d_G_unary_35 : decode b_G_unary 35 = .ok (.iload_n 2, 1) := by decide +kernel
theorem d_G_unary_36 : decode b_G_unary 36 = .ok (.iload_n 3, 1) := by decide +kernel
theorem d_G_unary_37 : decode b_G_unary 37 = .ok (.iload_n 3, 1) := by decide +kernel
theorem d_G_unary_38 : decode b_G_unary 38 = .ok (.iload_n 3, 1) := by decide +kernel
theorem d_G_unary_39 : decode b_G_unary 39 = .ok (.iconst 0, 1) := by decide +kernel
theorem d_G_unary_40 : decode b_G_unary 40 = .ok (.invokevirtual 35, 3) := by decide +kernel
theorem d_G_unary_43 : decode b_G_unary 43 = .ok (.ireturn, 1) := by decide +kernel
theorem d_G_binary_0 : decode b_G_binary 0 = .ok (.iload_n 1, 1) := by decide +kernel
theorem d_G_binary_1 : decode b_G_binary 1 = .ok (.bipush 12, 2) := by decide +kernel
theorem d_G_binary_3 : decode b_G_binary 3 = .ok (.invokestatic 21, 3) := by decide +kernel
theorem d_G_binary_6 : decode b_G_binary 6 = .ok (.ifCond .ne 5, 3) := by decide +kernel
theorem d_G_binary_9 : decode b_G_binary 9 = .ok (.iconst (-1), 1) := by decide +kernel
theorem d_G_binary_10 : decode b_G_binary 10 = .ok (.ireturn, 1) := by decide +kernel
theorem d_G_binary_11 : decode b_G_binary 11 = .ok (.aload_n 0, 1) := by decide +kernel
theorem d_G_binary_12 : decode b_G_binary 12 = .ok (.bipush 6, 2) := by decide +kernel
theorem d_G_binary_14 : decode b_G_binary 14 = .ok (.iload_n 1, 1) := by decide +kernel
theorem d_G_binary_15 : decode b_G_binary 15 = .ok (.iadd, 1) := by decide +kernel
theorem d_G_binary_16 : decode b_G_binary 16 = .ok (.iconst 0, 1) := by decide +kernel
theorem d_G_binary_17 : decode b_G_binary 17 = .ok (.iload_n 2, 1) := by decide +kernel
theorem d_G_binary_18 : decode b_G_binary 18 = .ok (.iload_n 3, 1) := by decide +kernel
theorem d_G_binary_19 : decode b_G_binary 19 = .ok (.iload_n 3, 1) := by decide +kernel
theorem d_G_binary_20 : decode b_G_binary 20 = .ok (.iload_n 2, 1) := by decide +kernel
theorem d_G_binary_21 : decode b_G_binary 21 = .ok (.iload_n 3, 1) := by decide +kernel
theorem d_G_binary_22 : decode b_G_binary 22 = .ok (.if_icmp .ne 7, 3) := by decide +kernel
theorem d_G_binary_25 : decode b_G_binary 25 = .ok (.iconst 1, 1) := by decide +kernel
theorem d_G_binary_26 : decode b_G_binary 26 = .ok (.goto 4, 3) := by decide +kernel
theorem d_G_binary_29 : decode b_G_binary 29 = .ok (.iconst 0, 1) := by decide +kernel
theorem d_G_binary_30 : decode b_G_binary 30 = .ok (.invokevirtual 35, 3) := by decide +kernel
theorem d_G_binary_33 : decode b_G_binary 33 = .ok (.ireturn, 1) := by decide +kernel
theorem d_G_ternary_0 : decode b_G_ternary 0 = .ok (.iload_n 1, 1) := by decide +kernel
theorem d_G_ternary_1 : decode b_G_ternary 1 = .ok (.iconst 2, 1) := by decide +kernel
theorem d_G_ternary_2 : decode b_G_ternary 2 = .ok (.invokestatic 21, 3) := by decide +kernel
theorem d_G_ternary_5 : decode b_G_ternary 5 = .ok (.ifCond .ne 5, 3) := by decide +kernel
theorem d_G_ternary_8 : decode b_G_ternary 8 = .ok (.iconst (-1), 1) := by decide +kernel
theorem d_G_ternary_9 : decode b_G_ternary 9 = .ok (.ireturn, 1) := by decide +kernel
theorem d_G_ternary_10 : decode b_G_ternary 10 = .ok (.aload_n 0, 1) := by decide +kernel
theorem d_G_ternary_11 : decode b_G_ternary 11 = .ok (.bipush 18, 2) := by decide +kernel
theorem d_G_ternary_13 : decode b_G_ternary 13 = .ok (.iload_n 1, 1) := by decide +kernel
theorem d_G_ternary_14 : decode b_G_ternary 14 = .ok (.iadd, 1) := by decide +kernel
theorem d_G_ternary_15 : decode b_G_ternary 15 = .ok (.iconst 0, 1) := by decide +kernel
theorem d_G_ternary_16 : decode b_G_ternary 16 = .ok (.iload_n 2, 1) := by decide +kernel
theorem d_G_ternary_17 : decode b_G_ternary 17 = .ok (.iload_n 3, 1) := by decide +kernel
theorem d_G_ternary_18 : decode b_G_ternary 18 = .ok (.iload 4, 2) := by decide +kernel
theorem d_G_ternary_20 : decode b_G_ternary 20 = .ok (.iload_n 2, 1) := by decide +kernel
theorem d_G_ternary_21 : decode b_G_ternary 21 = .ok (.iload_n 3, 1) := by decide +kernel
theorem d_G_ternary_22 : decode b_G_ternary 22 = .ok (.if_icmp .eq 15, 3) := by decide +kernel
theorem d_G_ternary_25 : decode b_G_ternary 25 = .ok (.iload_n 3, 1) := by decide +kernel
theorem d_G_ternary_26 : decode b_G_ternary 26 = .ok (.iload 4, 2) := by decide +kernel
theorem d_G_ternary_28 : decode b_G_ternary 28 = .ok (.if_icmp .eq 9, 3) := by decide +kernel
theorem d_G_ternary_31 : decode b_G_ternary 31 = .ok (.iload_n 2, 1) := by decide +kernel
theorem d_G_ternary_32 : decode b_G_ternary 32 = .ok (.iload 4, 2) := by decide +kernel
theorem d_G_ternary_34 : decode b_G_ternary 34 = .ok (.if_icmp .ne 7, 3) := by decide +kernel
theorem d_G_ternary_37 : decode b_G_ternary 37 = .ok (.iconst 1, 1) := by decide +kernel
theorem d_G_ternary_38 : decode b_G_ternary 38 = .ok (.goto 4, 3) := by decide +kernel
theorem d_G_ternary_41 : decode b_G_ternary 41 = .ok (.iconst 0, 1) := by decide +kernel
theorem d_G_ternary_42 : decode b_G_ternary 42 = .ok (.invokevirtual 35, 3) := by decide +kernel
theorem d_G_ternary_45 : decode b_G_ternary 45 = .ok (.ireturn, 1) := by decide +kernel
theorem d_G_expressions_0 : decode b_G_expressions 0 = .ok (.aload_n 0, 1) := by decide +kernel
theorem d_G_expressions_1 : decode b_G_expressions 1 = .ok (.getfield 20, 3) := by decide +kernel
theorem d_G_expressions_4 : decode b_G_expressions 4 = .ok (.getfield 39, 3) := by decide +kernel
theorem d_G_expressions_7 : decode b_G_expressions 7 = .ok (.ireturn, 1) := by decide +kernel
theorem d_G_about_0 : decode b_G_about 0 = .ok (.aload_n 0, 1) := by decide +kernel
theorem d_G_about_1 : decode b_G_about 1 = .ok (.getfield 20, 3) := by decide +kernel
theorem d_G_about_4 : decode b_G_about 4 = .ok (.iload_n 1, 1) := by decide +kernel
theorem d_G_about_5 : decode b_G_about 5 = .ok (.invokevirtual 43, 3) := by decide +kernel
theorem d_G_about_8 : decode b_G_about 8 = .ok (.ifCond .ne 6, 3) := by decide +kernel
theorem d_G_about_11 : decode b_G_about 11 = .ok (.bipush (-2), 2) := by decide +kernel
theorem d_G_about_13 : decode b_G_about 13 = .ok (.ireturn, 1) := by decide +kernel
theorem d_G_about_14 : decode b_G_about 14 = .ok (.aload_n 0, 1) := by decide +kernel
theorem d_G_about_15 : decode b_G_about 15 = .ok (.getfield 20, 3) := by decide +kernel
theorem d_G_about_18 : decode b_G_about 18 = .ok (.getfield 47, 3) := by decide +kernel
theorem d_G_about_21 : decode b_G_about 21 = .ok (.iload_n 1, 1) := by decide +kernel
theorem d_G_about_22 : decode b_G_about 22 = .ok (.iaload, 1) := by decide +kernel
theorem d_G_about_23 : decode b_G_about 23 = .ok (.aload_n 0, 1) := by decide +kernel
theorem d_G_about_24 : decode b_G_about 24 = .ok (.getfield 20, 3) := by decide +kernel
theorem d_G_about_27 : decode b_G_about 27 = .ok (.getfield 51, 3) := by decide +kernel
theorem d_G_about_30 : decode b_G_about 30 = .ok (.iload_n 1, 1) := by decide +kernel
theorem d_G_about_31 : decode b_G_about 31 = .ok (.baload, 1) := by decide +kernel
theorem d_G_about_32 : decode b_G_about 32 = .ok (.ifCond .eq 8, 3) := by decide +kernel
theorem d_G_about_35 : decode b_G_about 35 = .ok (.bipush 32, 2) := by decide +kernel
theorem d_G_about_37 : decode b_G_about 37 = .ok (.goto 4, 3) := by decide +kernel
theorem d_G_about_40 : decode b_G_about 40 = .ok (.iconst 0, 1) := by decide +kernel
theorem d_G_about_41 : decode b_G_about 41 = .ok (.iadd, 1) := by decide +kernel
theorem d_G_about_42 : decode b_G_about 42 = .ok (.ireturn, 1) := by decide +kernel
theorem d_G_set_0 : decode b_G_set 0 = .ok (.iload_n 1, 1) := by decide +kernel
theorem d_G_set_1 : decode b_G_set 1 = .ok (.bipush 8, 2) := by decide +kernel
theorem d_G_set_3 : decode b_G_set 3 = .ok (.invokestatic 21, 3) := by decide +kernel
theorem d_G_set_6 : decode b_G_set 6 = .ok (.ifCond .ne 5, 3) := by decide +kernel
theorem d_G_set_9 : decode b_G_set 9 = .ok (.iconst 0, 1) := by decide +kernel
theorem d_G_set_10 : decode b_G_set 10 = .ok (.ireturn, 1) := by decide +kernel
theorem d_G_set_11 : decode b_G_set 11 = .ok (.aload_n 0, 1) := by decide +kernel
theorem d_G_set_12 : decode b_G_set 12 = .ok (.getfield 10, 3) := by decide +kernel
theorem d_G_set_15 : decode b_G_set 15 = .ok (.getfield 55, 3) := by decide +kernel
theorem d_G_set_18 : decode b_G_set 18 = .ok (.iload_n 1, 1) := by decide +kernel
theorem d_G_set_19 : decode b_G_set 19 = .ok (.iaload, 1) := by decide +kernel
theorem d_G_set_20 : decode b_G_set 20 = .ok (.istore_n 3, 1) := by decide +kernel
theorem d_G_set_21 : decode b_G_set 21 = .ok (.aload_n 0, 1) := by decide +kernel
theorem d_G_set_22 : decode b_G_set 22 = .ok (.getfield 10, 3) := by decide +kernel
theorem d_G_set_25 : decode b_G_set 25 = .ok (.getfield 55, 3) := by decide +kernel
theorem d_G_set_28 : decode b_G_set 28 = .ok (.iload_n 1, 1) := by decide +kernel
theorem d_G_set_29 : decode b_G_set 29 = .ok (.iload_n 2, 1) := by decide +kernel
theorem d_G_set_30 : decode b_G_set 30 = .ok (.iastore, 1) := by decide +kernel
theorem d_G_set_31 : decode b_G_set 31 = .ok (.iload_n 3, 1) := by decide +kernel
theorem d_G_set_32 : decode b_G_set 32 = .ok (.ireturn, 1) := by decide +kernel
theorem d_G_variable_0 : decode b_G_variable 0 = .ok (.iload_n 1, 1) := by decide +kernel
theorem d_G_variable_1 : decode b_G_variable 1 = .ok (.bipush 8, 2) := by decide +kernel
theorem d_G_variable_3 : decode b_G_variable 3 = .ok (.invokestatic 21, 3) := by decide +kernel
theorem d_G_variable_6 : decode b_G_variable 6 = .ok (.ifCond .eq 15, 3) := by decide +kernel
theorem d_G_variable_9 : decode b_G_variable 9 = .ok (.aload_n 0, 1) := by decide +kernel
theorem d_G_variable_10 : decode b_G_variable 10 = .ok (.getfield 10, 3) := by decide +kernel
theorem d_G_variable_13 : decode b_G_variable 13 = .ok (.getfield 55, 3) := by decide +kernel
theorem d_G_variable_16 : decode b_G_variable 16 = .ok (.iload_n 1, 1) := by decide +kernel
theorem d_G_variable_17 : decode b_G_variable 17 = .ok (.iaload, 1) := by decide +kernel
theorem d_G_variable_18 : decode b_G_variable 18 = .ok (.goto 4, 3) := by decide +kernel
theorem d_G_variable_21 : decode b_G_variable 21 = .ok (.iconst 0, 1) := by decide +kernel
theorem d_G_variable_22 : decode b_G_variable 22 = .ok (.ireturn, 1) := by decide +kernel
theorem d_G_begin_0 : decode b_G_begin 0 = .ok (.aload_n 0, 1) := by decide +kernel
theorem d_G_begin_1 : decode b_G_begin 1 = .ok (.getfield 20, 3) := by decide +kernel
theorem d_G_begin_4 : decode b_G_begin 4 = .ok (.iload_n 1, 1) := by decide +kernel
theorem d_G_begin_5 : decode b_G_begin 5 = .ok (.invokevirtual 43, 3) := by decide +kernel
theorem d_G_begin_8 : decode b_G_begin 8 = .ok (.ifCond .ne 6, 3) := by decide +kernel
theorem d_G_begin_11 : decode b_G_begin 11 = .ok (.bipush (-2), 2) := by decide +kernel
theorem d_G_begin_13 : decode b_G_begin 13 = .ok (.ireturn, 1) := by decide +kernel
theorem d_G_begin_14 : decode b_G_begin 14 = .ok (.aload_n 0, 1) := by decide +kernel
theorem d_G_begin_15 : decode b_G_begin 15 = .ok (.getfield 20, 3) := by decide +kernel
theorem d_G_begin_18 : decode b_G_begin 18 = .ok (.getfield 51, 3) := by decide +kernel
theorem d_G_begin_21 : decode b_G_begin 21 = .ok (.iload_n 1, 1) := by decide +kernel
theorem d_G_begin_22 : decode b_G_begin 22 = .ok (.baload, 1) := by decide +kernel
theorem d_G_begin_23 : decode b_G_begin 23 = .ok (.ifCond .ne 6, 3) := by decide +kernel
theorem d_G_begin_26 : decode b_G_begin 26 = .ok (.bipush (-3), 2) := by decide +kernel
theorem d_G_begin_28 : decode b_G_begin 28 = .ok (.ireturn, 1) := by decide +kernel
theorem d_G_begin_29 : decode b_G_begin 29 = .ok (.iload_n 2, 1) := by decide +kernel
theorem d_G_begin_30 : decode b_G_begin 30 = .ok (.sipush 2001, 3) := by decide +kernel
theorem d_G_begin_33 : decode b_G_begin 33 = .ok (.invokestatic 21, 3) := by decide +kernel
theorem d_G_begin_36 : decode b_G_begin 36 = .ok (.ifCond .ne 5, 3) := by decide +kernel
theorem d_G_begin_39 : decode b_G_begin 39 = .ok (.iconst (-1), 1) := by decide +kernel
theorem d_G_begin_40 : decode b_G_begin 40 = .ok (.ireturn, 1) := by decide +kernel
theorem d_G_begin_41 : decode b_G_begin 41 = .ok (.aload_n 0, 1) := by decide +kernel
theorem d_G_begin_42 : decode b_G_begin 42 = .ok (.getfield 10, 3) := by decide +kernel
theorem d_G_begin_45 : decode b_G_begin 45 = .ok (.iload_n 1, 1) := by decide +kernel
theorem d_G_begin_46 : decode b_G_begin 46 = .ok (.iload_n 2, 1) := by decide +kernel
theorem d_G_begin_47 : decode b_G_begin 47 = .ok (.invokevirtual 58, 3) := by decide +kernel
theorem d_G_begin_50 : decode b_G_begin 50 = .ok (.iconst 0, 1) := by decide +kernel
theorem d_G_begin_51 : decode b_G_begin 51 = .ok (.ireturn, 1) := by decide +kernel
theorem d_G_next_0 : decode b_G_next 0 = .ok (.aload_n 0, 1) := by decide +kernel
theorem d_G_next_1 : decode b_G_next 1 = .ok (.getfield 10, 3) := by decide +kernel
theorem d_G_next_4 : decode b_G_next 4 = .ok (.invokevirtual 62, 3) := by decide +kernel
theorem d_G_next_7 : decode b_G_next 7 = .ok (.ireturn, 1) := by decide +kernel
theorem d_G_skip_0 : decode b_G_skip 0 = .ok (.iload_n 1, 1) := by decide +kernel
theorem d_G_skip_1 : decode b_G_skip 1 = .ok (.bipush 100, 2) := by decide +kernel
theorem d_G_skip_3 : decode b_G_skip 3 = .ok (.if_icmp .le 5, 3) := by decide +kernel
theorem d_G_skip_6 : decode b_G_skip 6 = .ok (.iconst 0, 1) := by decide +kernel
theorem d_G_skip_7 : decode b_G_skip 7 = .ok (.ireturn, 1) := by decide +kernel
theorem d_G_skip_8 : decode b_G_skip 8 = .ok (.iconst 0, 1) := by decide +kernel
theorem d_G_skip_9 : decode b_G_skip 9 = .ok (.istore_n 2, 1) := by decide +kernel
theorem d_G_skip_10 : decode b_G_skip 10 = .ok (.iload_n 2, 1) := by decide +kernel
theorem d_G_skip_11 : decode b_G_skip 11 = .ok (.iload_n 1, 1) := by decide +kernel
theorem d_G_skip_12 : decode b_G_skip 12 = .ok (.if_icmp .ge 20, 3) := by decide +kernel
theorem d_G_skip_15 : decode b_G_skip 15 = .ok (.aload_n 0, 1) := by decide +kernel
theorem d_G_skip_16 : decode b_G_skip 16 = .ok (.getfield 10, 3) := by decide +kernel
theorem d_G_skip_19 : decode b_G_skip 19 = .ok (.invokevirtual 62, 3) := by decide +kernel
theorem d_G_skip_22 : decode b_G_skip 22 = .ok (.iconst 1, 1) := by decide +kernel
theorem d_G_skip_23 : decode b_G_skip 23 = .ok (.if_icmp .ne 9, 3) := by decide +kernel
theorem d_G_skip_26 : decode b_G_skip 26 = .ok (.iinc 2 1, 3) := by decide +kernel
theorem d_G_skip_29 : decode b_G_skip 29 = .ok (.goto (-19), 3) := by decide +kernel
theorem d_G_skip_32 : decode b_G_skip 32 = .ok (.iload_n 2, 1) := by decide +kernel
theorem d_G_skip_33 : decode b_G_skip 33 = .ok (.ireturn, 1) := by decide +kernel
theorem d_G_value_0 : decode b_G_value 0 = .ok (.aload_n 0, 1) := by decide +kernel
theorem d_G_value_1 : decode b_G_value 1 = .ok (.getfield 10, 3) := by decide +kernel
theorem d_G_value_4 : decode b_G_value 4 = .ok (.getfield 66, 3) := by decide +kernel
theorem d_G_value_7 : decode b_G_value 7 = .ok (.ireturn, 1) := by decide +kernel
theorem d_G_writes_0 : decode b_G_writes 0 = .ok (.aload_n 0, 1) := by decide +kernel
theorem d_G_writes_1 : decode b_G_writes 1 = .ok (.getfield 10, 3) := by decide +kernel
theorem d_G_writes_4 : decode b_G_writes 4 = .ok (.getfield 69, 3) := by decide +kernel
theorem d_G_writes_7 : decode b_G_writes 7 = .ok (.ireturn, 1) := by decide +kernel
theorem d_G_written_0 : decode b_G_written 0 = .ok (.iload_n 1, 1) := by decide +kernel
theorem d_G_written_1 : decode b_G_written 1 = .ok (.aload_n 0, 1) := by decide +kernel
theorem d_G_written_2 : decode b_G_written 2 = .ok (.getfield 10, 3) := by decide +kernel
theorem d_G_written_5 : decode b_G_written 5 = .ok (.getfield 69, 3) := by decide +kernel
theorem d_G_written_8 : decode b_G_written 8 = .ok (.invokestatic 21, 3) := by decide +kernel
theorem d_G_written_11 : decode b_G_written 11 = .ok (.ifCond .eq 16, 3) := by decide +kernel
theorem d_G_written_14 : decode b_G_written 14 = .ok (.aload_n 0, 1) := by decide +kernel
theorem d_G_written_15 : decode b_G_written 15 = .ok (.getfield 10, 3) := by decide +kernel
theorem d_G_written_18 : decode b_G_written 18 = .ok (.getfield 72, 3) := by decide +kernel
theorem d_G_written_21 : decode b_G_written 21 = .ok (.iload_n 1, 1) := by decide +kernel
theorem d_G_written_22 : decode b_G_written 22 = .ok (.iaload, 1) := by decide +kernel
theorem d_G_written_23 : decode b_G_written 23 = .ok (.i2l, 1) := by decide +kernel
theorem d_G_written_24 : decode b_G_written 24 = .ok (.goto 6, 3) := by decide +kernel
theorem d_G_written_27 : decode b_G_written 27 = .ok (.ldc2_w 75, 3) := by decide +kernel
theorem d_G_written_30 : decode b_G_written 30 = .ok (.lreturn, 1) := by decide +kernel
theorem d_G_cost_0 : decode b_G_cost 0 = .ok (.aload_n 0, 1) := by decide +kernel
theorem d_G_cost_1 : decode b_G_cost 1 = .ok (.getfield 10, 3) := by decide +kernel
theorem d_G_cost_4 : decode b_G_cost 4 = .ok (.getfield 77, 3) := by decide +kernel
theorem d_G_cost_7 : decode b_G_cost 7 = .ok (.ireturn, 1) := by decide +kernel
theorem d_G_isBelow_0 : decode b_G_isBelow 0 = .ok (.iload_n 0, 1) := by decide +kernel
theorem d_G_isBelow_1 : decode b_G_isBelow 1 = .ok (.ifCond .lt 12, 3) := by decide +kernel
theorem d_G_isBelow_4 : decode b_G_isBelow 4 = .ok (.iload_n 0, 1) := by decide +kernel
theorem d_G_isBelow_5 : decode b_G_isBelow 5 = .ok (.iload_n 1, 1) := by decide +kernel
theorem d_G_isBelow_6 : decode b_G_isBelow 6 = .ok (.if_icmp .ge 7, 3) := by decide +kernel
theorem d_G_isBelow_9 : decode b_G_isBelow 9 = .ok (.iconst 1, 1) := by decide +kernel
theorem d_G_isBelow_10 : decode b_G_isBelow 10 = .ok (.goto 4, 3) := by decide +kernel
theorem d_G_isBelow_13 : decode b_G_isBelow 13 = .ok (.iconst 0, 1) := by decide +kernel
theorem d_G_isBelow_14 : decode b_G_isBelow 14 = .ok (.ireturn, 1) := by decide +kernel
theorem d_G_join_0 : decode b_G_join 0 = .ok (.aload_n 0, 1) := by decide +kernel
theorem d_G_join_1 : decode b_G_join 1 = .ok (.getfield 20, 3) := by decide +kernel
theorem d_G_join_4 : decode b_G_join 4 = .ok (.iload_n 3, 1) := by decide +kernel
theorem d_G_join_5 : decode b_G_join 5 = .ok (.invokevirtual 43, 3) := by decide +kernel
theorem d_G_join_8 : decode b_G_join 8 = .ok (.ifCond .eq 27, 3) := by decide +kernel
theorem d_G_join_11 : decode b_G_join 11 = .ok (.aload_n 0, 1) := by decide +kernel
theorem d_G_join_12 : decode b_G_join 12 = .ok (.getfield 20, 3) := by decide +kernel
theorem d_G_join_15 : decode b_G_join 15 = .ok (.iload 4, 2) := by decide +kernel
theorem d_G_join_17 : decode b_G_join 17 = .ok (.invokevirtual 43, 3) := by decide +kernel
theorem d_G_join_20 : decode b_G_join 20 = .ok (.ifCond .eq 15, 3) := by decide +kernel
theorem d_G_join_23 : decode b_G_join 23 = .ok (.aload_n 0, 1) := by decide +kernel
theorem d_G_join_24 : decode b_G_join 24 = .ok (.getfield 20, 3) := by decide +kernel
theorem d_G_join_27 : decode b_G_join 27 = .ok (.iload 5, 2) := by decide +kernel
theorem d_G_join_29 : decode b_G_join 29 = .ok (.invokevirtual 43, 3) := by decide +kernel
theorem d_G_join_32 : decode b_G_join 32 = .ok (.ifCond .ne 6, 3) := by decide +kernel
theorem d_G_join_35 : decode b_G_join 35 = .ok (.bipush (-2), 2) := by decide +kernel
theorem d_G_join_37 : decode b_G_join 37 = .ok (.ireturn, 1) := by decide +kernel
theorem d_G_join_38 : decode b_G_join 38 = .ok (.iload 6, 2) := by decide +kernel
theorem d_G_join_40 : decode b_G_join 40 = .ok (.ifCond .ne 41, 3) := by decide +kernel
theorem d_G_join_43 : decode b_G_join 43 = .ok (.aload_n 0, 1) := by decide +kernel
theorem d_G_join_44 : decode b_G_join 44 = .ok (.getfield 20, 3) := by decide +kernel
theorem d_G_join_47 : decode b_G_join 47 = .ok (.getfield 51, 3) := by decide +kernel
theorem d_G_join_50 : decode b_G_join 50 = .ok (.iload_n 3, 1) := by decide +kernel
theorem d_G_join_51 : decode b_G_join 51 = .ok (.baload, 1) := by decide +kernel
theorem d_G_join_52 : decode b_G_join 52 = .ok (.ifCond .eq 29, 3) := by decide +kernel
theorem d_G_join_55 : decode b_G_join 55 = .ok (.aload_n 0, 1) := by decide +kernel
theorem d_G_join_56 : decode b_G_join 56 = .ok (.getfield 20, 3) := by decide +kernel
theorem d_G_join_59 : decode b_G_join 59 = .ok (.getfield 51, 3) := by decide +kernel
theorem d_G_join_62 : decode b_G_join 62 = .ok (.iload 4, 2) := by decide +kernel
theorem d_G_join_64 : decode b_G_join 64 = .ok (.baload, 1) := by decide +kernel
theorem d_G_join_65 : decode b_G_join 65 = .ok (.ifCond .eq 16, 3) := by decide +kernel
theorem d_G_join_68 : decode b_G_join 68 = .ok (.aload_n 0, 1) := by decide +kernel
theorem d_G_join_69 : decode b_G_join 69 = .ok (.getfield 20, 3) := by decide +kernel
theorem d_G_join_72 : decode b_G_join 72 = .ok (.getfield 51, 3) := by decide +kernel
theorem d_G_join_75 : decode b_G_join 75 = .ok (.iload 5, 2) := by decide +kernel
theorem d_G_join_77 : decode b_G_join 77 = .ok (.baload, 1) := by decide +kernel
theorem d_G_join_78 : decode b_G_join 78 = .ok (.ifCond .ne 6, 3) := by decide +kernel
theorem d_G_join_81 : decode b_G_join 81 = .ok (.bipush (-3), 2) := by decide +kernel
theorem d_G_join_83 : decode b_G_join 83 = .ok (.ireturn, 1) := by decide +kernel
theorem d_G_join_84 : decode b_G_join 84 = .ok (.aload_n 0, 1) := by decide +kernel
theorem d_G_join_85 : decode b_G_join 85 = .ok (.getfield 20, 3) := by decide +kernel
theorem d_G_join_88 : decode b_G_join 88 = .ok (.invokevirtual 27, 3) := by decide +kernel
theorem d_G_join_91 : decode b_G_join 91 = .ok (.ifCond .eq 6, 3) := by decide +kernel
theorem d_G_join_94 : decode b_G_join 94 = .ok (.bipush (-4), 2) := by decide +kernel
theorem d_G_join_96 : decode b_G_join 96 = .ok (.ireturn, 1) := by decide +kernel
theorem d_G_join_97 : decode b_G_join 97 = .ok (.aload_n 0, 1) := by decide +kernel
theorem d_G_join_98 : decode b_G_join 98 = .ok (.getfield 20, 3) := by decide +kernel
theorem d_G_join_101 : decode b_G_join 101 = .ok (.iload_n 3, 1) := by decide +kernel
theorem d_G_join_102 : decode b_G_join 102 = .ok (.iload 4, 2) := by decide +kernel
theorem d_G_join_104 : decode b_G_join 104 = .ok (.iload 5, 2) := by decide +kernel
theorem d_G_join_106 : decode b_G_join 106 = .ok (.invokevirtual 80, 3) := by decide +kernel
theorem d_G_join_109 : decode b_G_join 109 = .ok (.bipush 12, 2) := by decide +kernel
theorem d_G_join_111 : decode b_G_join 111 = .ok (.if_icmp .le 6, 3) := by decide +kernel
theorem d_G_join_114 : decode b_G_join 114 = .ok (.bipush (-5), 2) := by decide +kernel
theorem d_G_join_116 : decode b_G_join 116 = .ok (.ireturn, 1) := by decide +kernel
theorem d_G_join_117 : decode b_G_join 117 = .ok (.aload_n 0, 1) := by decide +kernel
theorem d_G_join_118 : decode b_G_join 118 = .ok (.getfield 20, 3) := by decide +kernel
theorem d_G_join_121 : decode b_G_join 121 = .ok (.iload_n 1, 1) := by decide +kernel
theorem d_G_join_122 : decode b_G_join 122 = .ok (.iload_n 2, 1) := by decide +kernel
theorem d_G_join_123 : decode b_G_join 123 = .ok (.iload_n 3, 1) := by decide +kernel
theorem d_G_join_124 : decode b_G_join 124 = .ok (.iload 4, 2) := by decide +kernel
theorem d_G_join_126 : decode b_G_join 126 = .ok (.iload 5, 2) := by decide +kernel
theorem d_G_join_128 : decode b_G_join 128 = .ok (.invokevirtual 84, 3) := by decide +kernel
theorem d_G_join_131 : decode b_G_join 131 = .ok (.ireturn, 1) := by decide +kernel
end
section
/-! decoded rows -/
theorem d_M_init_0 : decode b_M_init 0 = .ok (.aload_n 0, 1) := by decide +kernel
theorem d_M_init_1 : decode b_M_init 1 = .ok (.invokespecial 1, 3) := by decide +kernel
theorem d_M_init_4 : decode b_M_init 4 = .ok (.aload_n 0, 1) := by decide +kernel
theorem d_M_init_5 : decode b_M_init 5 = .ok (.bipush 60, 2) := by decide +kernel
theorem d_M_init_7 : decode b_M_init 7 = .ok (.newarray .int, 2) := by decide +kernel
theorem d_M_init_9 : decode b_M_init 9 = .ok (.putfield 7, 3) := by decide +kernel
theorem d_M_init_12 : decode b_M_init 12 = .ok (.aload_n 0, 1) := by decide +kernel
theorem d_M_init_13 : decode b_M_init 13 = .ok (.bipush 60, 2) := by decide +kernel
theorem d_M_init_15 : decode b_M_init 15 = .ok (.newarray .int, 2) := by decide +kernel
theorem d_M_init_17 : decode b_M_init 17 = .ok (.putfield 13, 3) := by decide +kernel
theorem d_M_init_20 : decode b_M_init 20 = .ok (.aload_n 0, 1) := by decide +kernel
theorem d_M_init_21 : decode b_M_init 21 = .ok (.sipush 180, 3) := by decide +kernel
theorem d_M_init_24 : decode b_M_init 24 = .ok (.newarray .int, 2) := by decide +kernel
theorem d_M_init_26 : decode b_M_init 26 = .ok (.putfield 16, 3) := by decide +kernel
theorem d_M_init_29 : decode b_M_init 29 = .ok (.aload_n 0, 1) := by decide +kernel
theorem d_M_init_30 : decode b_M_init 30 = .ok (.bipush 60, 2) := by decide +kernel
theorem d_M_init_32 : decode b_M_init 32 = .ok (.newarray .int, 2) := by decide +kernel
theorem d_M_init_34 : decode b_M_init 34 = .ok (.putfield 19, 3) := by decide +kernel
theorem d_M_init_37 : decode b_M_init 37 = .ok (.aload_n 0, 1) := by decide +kernel
theorem d_M_init_38 : decode b_M_init 38 = .ok (.bipush 60, 2) := by decide +kernel
theorem d_M_init_40 : decode b_M_init 40 = .ok (.newarray .boolean, 2) := by decide +kernel
theorem d_M_init_42 : decode b_M_init 42 = .ok (.putfield 22, 3) := by decide +kernel
theorem d_M_init_45 : decode b_M_init 45 = .ok (.aload_n 0, 1) := by decide +kernel
theorem d_M_init_46 : decode b_M_init 46 = .ok (.bipush 60, 2) := by decide +kernel
theorem d_M_init_48 : decode b_M_init 48 = .ok (.newarray .int, 2) := by decide +kernel
theorem d_M_init_50 : decode b_M_init 50 = .ok (.putfield 26, 3) := by decide +kernel
theorem d_M_init_53 : decode b_M_init 53 = .ok (.aload_n 0, 1) := by decide +kernel
theorem d_M_init_54 : decode b_M_init 54 = .ok (.sipush 180, 3) := by decide +kernel
theorem d_M_init_57 : decode b_M_init 57 = .ok (.newarray .long, 2) := by decide +kernel
theorem d_M_init_59 : decode b_M_init 59 = .ok (.putfield 29, 3) := by decide +kernel
theorem d_M_init_62 : decode b_M_init 62 = .ok (.aload_n 0, 1) := by decide +kernel
theorem d_M_init_63 : decode b_M_init 63 = .ok (.bipush 8, 2) := by decide +kernel
theorem d_M_init_65 : decode b_M_init 65 = .ok (.newarray .int, 2) := by decide +kernel
theorem d_M_init_67 : decode b_M_init 67 = .ok (.putfield 33, 3) := by decide +kernel
theorem d_M_init_70 : decode b_M_init 70 = .ok (.aload_n 0, 1) := by decide +kernel
theorem d_M_init_71 : decode b_M_init 71 = .ok (.bipush 32, 2) := by decide +kernel
theorem d_M_init_73 : decode b_M_init 73 = .ok (.newarray .int, 2) := by decide +kernel
theorem d_M_init_75 : decode b_M_init 75 = .ok (.putfield 36, 3) := by decide +kernel
theorem d_M_init_78 : decode b_M_init 78 = .ok (.aload_n 0, 1) := by decide +kernel
theorem d_M_init_79 : decode b_M_init 79 = .ok (.iconst (-1), 1) := by decide +kernel
theorem d_M_init_80 : decode b_M_init 80 = .ok (.putfield 39, 3) := by decide +kernel
theorem d_M_init_83 : decode b_M_init 83 = .ok (.aload_n 0, 1) := by decide +kernel
theorem d_M_init_84 : decode b_M_init 84 = .ok (.bipush 16, 2) := by decide +kernel
theorem d_M_init_86 : decode b_M_init 86 = .ok (.newarray .int, 2) := by decide +kernel
theorem d_M_init_88 : decode b_M_init 88 = .ok (.putfield 43, 3) := by decide +kernel
theorem d_M_init_91 : decode b_M_init 91 = .ok (.return_, 1) := by decide +kernel
theorem d_M_within_0 : decode b_M_within 0 = .ok (.iload_n 0, 1) := by decide +kernel
theorem d_M_within_1 : decode b_M_within 1 = .ok (.iload_n 1, 1) := by decide +kernel
theorem d_M_within_2 : decode b_M_within 2 = .ok (.if_icmp .lt 12, 3) := by decide +kernel
theorem d_M_within_5 : decode b_M_within 5 = .ok (.iload_n 0, 1) := by decide +kernel
theorem d_M_within_6 : decode b_M_within 6 = .ok (.iload_n 2, 1) := by decide +kernel
theorem d_M_within_7 : decode b_M_within 7 = .ok (.if_icmp .gt 7, 3) := by decide +kernel
theorem d_M_within_10 : decode b_M_within 10 = .ok (.iconst 1, 1) := by decide +kernel
theorem d_M_within_11 : decode b_M_within 11 = .ok (.goto 4, 3) := by decide +kernel
theorem d_M_within_14 : decode b_M_within 14 = .ok (.iconst 0, 1) := by decide +kernel
theorem d_M_within_15 : decode b_M_within 15 = .ok (.ireturn, 1) := by decide +kernel
theorem d_M_is_0 : decode b_M_is 0 = .ok (.iload_n 1, 1) := by decide +kernel
theorem d_M_is_1 : decode b_M_is 1 = .ok (.iconst 0, 1) := by decide +kernel
theorem d_M_is_2 : decode b_M_is 2 = .ok (.aload_n 0, 1) := by decide +kernel
theorem d_M_is_3 : decode b_M_is 3 = .ok (.getfield 46, 3) := by decide +kernel
theorem d_M_is_6 : decode b_M_is 6 = .ok (.iconst 1, 1) := by decide +kernel
theorem d_M_is_7 : decode b_M_is 7 = .ok (.isub, 1) := by decide +kernel
theorem d_M_is_8 : decode b_M_is 8 = .ok (.invokestatic 49, 3) := by decide +kernel
theorem d_M_is_11 : decode b_M_is 11 = .ok (.ireturn, 1) := by decide +kernel
theorem d_M_make_0 : decode b_M_make 0 = .ok (.aload_n 0, 1) := by decide +kernel
theorem d_M_make_1 : decode b_M_make 1 = .ok (.getfield 46, 3) := by decide +kernel
theorem d_M_make_4 : decode b_M_make 4 = .ok (.istore 7, 2) := by decide +kernel
theorem d_M_make_6 : decode b_M_make 6 = .ok (.aload_n 0, 1) := by decide +kernel
theorem d_M_make_7 : decode b_M_make 7 = .ok (.dup, 1) := by decide +kernel
theorem d_M_make_8 : decode b_M_make 8 = .ok (.getfield 46, 3) := by decide +kernel
theorem d_M_make_11 : decode b_M_make 11 = .ok (.iconst 1, 1) := by decide +kernel
theorem d_M_make_12 : decode b_M_make 12 = .ok (.iadd, 1) := by decide +kernel
theorem d_M_make_13 : decode b_M_make 13 = .ok (.putfield 46, 3) := by decide +kernel
theorem d_M_make_16 : decode b_M_make 16 = .ok (.aload_n 0, 1) := by decide +kernel
theorem d_M_make_17 : decode b_M_make 17 = .ok (.getfield 7, 3) := by decide +kernel
theorem d_M_make_20 : decode b_M_make 20 = .ok (.iload 7, 2) := by decide +kernel
theorem d_M_make_22 : decode b_M_make 22 = .ok (.iload_n 1, 1) := by decide +kernel
theorem d_M_make_23 : decode b_M_make 23 = .ok (.iastore, 1) := by decide +kernel
theorem d_M_make_24 : decode b_M_make 24 = .ok (.aload_n 0, 1) := by decide +kernel
theorem d_M_make_25 : decode b_M_make 25 = .ok (.getfield 13, 3) := by decide +kernel
theorem d_M_make_28 : decode b_M_make 28 = .ok (.iload 7, 2) := by decide +kernel
theorem d_M_make_30 : decode b_M_make 30 = .ok (.iload_n 2, 1) := by decide +kernel
theorem d_M_make_31 : decode b_M_make 31 = .ok (.iastore, 1) := by decide +kernel
theorem d_M_make_32 : decode b_M_make 32 = .ok (.aload_n 0, 1) := by decide +kernel
theorem d_M_make_33 : decode b_M_make 33 = .ok (.getfield 16, 3) := by decide +kernel
theorem d_M_make_36 : decode b_M_make 36 = .ok (.iconst 3, 1) := by decide +kernel
theorem d_M_make_37 : decode b_M_make 37 = .ok (.iload 7, 2) := by decide +kernel
theorem d_M_make_39 : decode b_M_make 39 = .ok (.imul, 1) := by decide +kernel
theorem d_M_make_40 : decode b_M_make 40 = .ok (.iload_n 3, 1) := by decide +kernel
theorem d_M_make_41 : decode b_M_make 41 = .ok (.iastore, 1) := by decide +kernel
theorem d_M_make_42 : decode b_M_make 42 = .ok (.aload_n 0, 1) := by decide +kernel
theorem d_M_make_43 : decode b_M_make 43 = .ok (.getfield 16, 3) := by decide +kernel
theorem d_M_make_46 : decode b_M_make 46 = .ok (.iconst 3, 1) := by decide +kernel
theorem d_M_make_47 : decode b_M_make 47 = .ok (.iload 7, 2) := by decide +kernel
theorem d_M_make_49 : decode b_M_make 49 = .ok (.imul, 1) := by decide +kernel
theorem d_M_make_50 : decode b_M_make 50 = .ok (.iconst 1, 1) := by decide +kernel
theorem d_M_make_51 : decode b_M_make 51 = .ok (.iadd, 1) := by decide +kernel
theorem d_M_make_52 : decode b_M_make 52 = .ok (.iload 4, 2) := by decide +kernel
theorem d_M_make_54 : decode b_M_make 54 = .ok (.iastore, 1) := by decide +kernel
theorem d_M_make_55 : decode b_M_make 55 = .ok (.aload_n 0, 1) := by decide +kernel
theorem d_M_make_56 : decode b_M_make 56 = .ok (.getfield 16, 3) := by decide +kernel
theorem d_M_make_59 : decode b_M_make 59 = .ok (.iconst 3, 1) := by decide +kernel
theorem d_M_make_60 : decode b_M_make 60 = .ok (.iload 7, 2) := by decide +kernel
theorem d_M_make_62 : decode b_M_make 62 = .ok (.imul, 1) := by decide +kernel
theorem d_M_make_63 : decode b_M_make 63 = .ok (.iconst 2, 1) := by decide +kernel
theorem d_M_make_64 : decode b_M_make 64 = .ok (.iadd, 1) := by decide +kernel
theorem d_M_make_65 : decode b_M_make 65 = .ok (.iload 5, 2) := by decide +kernel
theorem d_M_make_67 : decode b_M_make 67 = .ok (.iastore, 1) := by decide +kernel
theorem d_M_make_68 : decode b_M_make 68 = .ok (.aload_n 0, 1) := by decide +kernel
theorem d_M_make_69 : decode b_M_make 69 = .ok (.getfield 19, 3) := by decide +kernel
theorem d_M_make_72 : decode b_M_make 72 = .ok (.iload 7, 2) := by decide +kernel
theorem d_M_make_74 : decode b_M_make 74 = .ok (.iload 6, 2) := by decide +kernel
theorem d_M_make_76 : decode b_M_make 76 = .ok (.iastore, 1) := by decide +kernel
theorem d_M_make_77 : decode b_M_make 77 = .ok (.aload_n 0, 1) := by decide +kernel
theorem d_M_make_78 : decode b_M_make 78 = .ok (.getfield 22, 3) := by decide +kernel
theorem d_M_make_81 : decode b_M_make 81 = .ok (.iload 7, 2) := by decide +kernel
theorem d_M_make_83 : decode b_M_make 83 = .ok (.iconst 0, 1) := by decide +kernel
theorem d_M_make_84 : decode b_M_make 84 = .ok (.bastore, 1) := by decide +kernel
theorem d_M_make_85 : decode b_M_make 85 = .ok (.iload_n 3, 1) := by decide +kernel
theorem d_M_make_86 : decode b_M_make 86 = .ok (.ifCond .lt 10, 3) := by decide +kernel
theorem d_M_make_89 : decode b_M_make 89 = .ok (.aload_n 0, 1) := by decide +kernel
theorem d_M_make_90 : decode b_M_make 90 = .ok (.getfield 22, 3) := by decide +kernel
theorem d_M_make_93 : decode b_M_make 93 = .ok (.iload_n 3, 1) := by decide +kernel
theorem d_M_make_94 : decode b_M_make 94 = .ok (.iconst 1, 1) := by decide +kernel
theorem d_M_make_95 : decode b_M_make 95 = .ok (.bastore, 1) := by decide +kernel
theorem d_M_make_96 : decode b_M_make 96 = .ok (.iload 4, 2) := by decide +kernel
theorem d_M_make_98 : decode b_M_make 98 = .ok (.ifCond .lt 11, 3) := by decide +kernel
theorem d_M_make_101 : decode b_M_make 101 = .ok (.aload_n 0, 1) := by decide +kernel
theorem d_M_make_102 : decode b_M_make 102 = .ok (.getfield 22, 3) := by decide +kernel
theorem d_M_make_105 : decode b_M_make 105 = .ok (.iload 4, 2) := by decide +kernel
theorem d_M_make_107 : decode b_M_make 107 = .ok (.iconst 1, 1) := by decide +kernel
theorem d_M_make_108 : decode b_M_make 108 = .ok (.bastore, 1) := by decide +kernel
theorem d_M_make_109 : decode b_M_make 109 = .ok (.iload 5, 2) := by decide +kernel
theorem d_M_make_111 : decode b_M_make 111 = .ok (.ifCond .lt 11, 3) := by decide +kernel
theorem d_M_make_114 : decode b_M_make 114 = .ok (.aload_n 0, 1) := by decide +kernel
theorem d_M_make_115 : decode b_M_make 115 = .ok (.getfield 22, 3) := by decide +kernel
theorem d_M_make_118 : decode b_M_make 118 = .ok (.iload 5, 2) := by decide +kernel
theorem d_M_make_120 : decode b_M_make 120 = .ok (.iconst 1, 1) := by decide +kernel
theorem d_M_make_121 : decode b_M_make 121 = .ok (.bastore, 1) := by decide +kernel
theorem d_M_make_122 : decode b_M_make 122 = .ok (.iload 7, 2) := by decide +kernel
theorem d_M_make_124 : decode b_M_make 124 = .ok (.ireturn, 1) := by decide +kernel
theorem d_M_leaf_0 : decode b_M_leaf 0 = .ok (.iload_n 1, 1) := by decide +kernel
theorem d_M_leaf_1 : decode b_M_leaf 1 = .ok (.iconst 0, 1) := by decide +kernel
theorem d_M_leaf_2 : decode b_M_leaf 2 = .ok (.iconst 1, 1) := by decide +kernel
theorem d_M_leaf_3 : decode b_M_leaf 3 = .ok (.invokestatic 49, 3) := by decide +kernel
theorem d_M_leaf_6 : decode b_M_leaf 6 = .ok (.ifCond .eq 18, 3) := by decide +kernel
theorem d_M_leaf_9 : decode b_M_leaf 9 = .ok (.iload_n 1, 1) := by decide +kernel
theorem d_M_leaf_10 : decode b_M_leaf 10 = .ok (.iconst 1, 1) := by decide +kernel
theorem d_M_leaf_11 : decode b_M_leaf 11 = .ok (.if_icmp .ne 15, 3) := by decide +kernel
theorem d_M_leaf_14 : decode b_M_leaf 14 = .ok (.iload_n 2, 1) := by decide +kernel
theorem d_M_leaf_15 : decode b_M_leaf 15 = .ok (.iconst 0, 1) := by decide +kernel
theorem d_M_leaf_16 : decode b_M_leaf 16 = .ok (.bipush 7, 2) := by decide +kernel
theorem d_M_leaf_18 : decode b_M_leaf 18 = .ok (.invokestatic 49, 3) := by decide +kernel
theorem d_M_leaf_21 : decode b_M_leaf 21 = .ok (.ifCond .ne 5, 3) := by decide +kernel
theorem d_M_leaf_24 : decode b_M_leaf 24 = .ok (.iconst (-1), 1) := by decide +kernel
theorem d_M_leaf_25 : decode b_M_leaf 25 = .ok (.ireturn, 1) := by decide +kernel
theorem d_M_leaf_26 : decode b_M_leaf 26 = .ok (.aload_n 0, 1) := by decide +kernel
theorem d_M_leaf_27 : decode b_M_leaf 27 = .ok (.getfield 46, 3) := by decide +kernel
theorem d_M_leaf_30 : decode b_M_leaf 30 = .ok (.bipush 60, 2) := by decide +kernel
theorem d_M_leaf_32 : decode b_M_leaf 32 = .ok (.if_icmp .ne 8, 3) := by decide +kernel
theorem d_M_leaf_35 : decode b_M_leaf 35 = .ok (.bipush (-4), 2) := by decide +kernel
theorem d_M_leaf_37 : decode b_M_leaf 37 = .ok (.goto 13, 3) := by decide +kernel
theorem d_M_leaf_40 : decode b_M_leaf 40 = .ok (.aload_n 0, 1) := by decide +kernel
theorem d_M_leaf_41 : decode b_M_leaf 41 = .ok (.iload_n 1, 1) := by decide +kernel
theorem d_M_leaf_42 : decode b_M_leaf 42 = .ok (.iload_n 2, 1) := by decide +kernel
theorem d_M_leaf_43 : decode b_M_leaf 43 = .ok (.iconst (-1), 1) := by decide +kernel
theorem d_M_leaf_44 : decode b_M_leaf 44 = .ok (.iconst (-1), 1) := by decide +kernel
theorem d_M_leaf_45 : decode b_M_leaf 45 = .ok (.iconst (-1), 1) := by decide +kernel
theorem d_M_leaf_46 : decode b_M_leaf 46 = .ok (.iconst 1, 1) := by decide +kernel
theorem d_M_leaf_47 : decode b_M_leaf 47 = .ok (.invokevirtual 53, 3) := by decide +kernel
theorem d_M_leaf_50 : decode b_M_leaf 50 = .ok (.ireturn, 1) := by decide +kernel
theorem d_M_unary_0 : decode b_M_unary 0 = .ok (.iload_n 1, 1) := by decide +kernel
theorem d_M_unary_1 : decode b_M_unary 1 = .ok (.iconst 0, 1) := by decide +kernel
theorem d_M_unary_2 : decode b_M_unary 2 = .ok (.iconst 3, 1) := by decide +kernel
theorem d_M_unary_3 : decode b_M_unary 3 = .ok (.invokestatic 49, 3) := by decide +kernel
theorem d_M_unary_6 : decode b_M_unary 6 = .ok (.ifCond .eq 17, 3) := by decide +kernel
theorem d_M_unary_9 : decode b_M_unary 9 = .ok (.iload_n 1, 1) := by decide +kernel
theorem d_M_unary_10 : decode b_M_unary 10 = .ok (.ifCond .ne 15, 3) := by decide +kernel
theorem d_M_unary_13 : decode b_M_unary 13 = .ok (.iload_n 2, 1) := by decide +kernel
theorem d_M_unary_14 : decode b_M_unary 14 = .ok (.iconst 0, 1) := by decide +kernel
theorem d_M_unary_15 : decode b_M_unary 15 = .ok (.bipush 7, 2) := by decide +kernel
theorem d_M_unary_17 : decode b_M_unary 17 = .ok (.invokestatic 49, 3) := by decide +kernel
theorem d_M_unary_20 : decode b_M_unary 20 = .ok (.ifCond .ne 5, 3) := by decide +kernel
theorem d_M_unary_23 : decode b_M_unary 23 = .ok (.iconst (-1), 1) := by decide +kernel
theorem d_M_unary_24 : decode b_M_unary 24 = .ok (.ireturn, 1) := by decide +kernel
theorem d_M_unary_25 : decode b_M_unary 25 = .ok (.aload_n 0, 1) := by decide +kernel
theorem d_M_unary_26 : decode b_M_unary 26 = .ok (.iload_n 3, 1) := by decide +kernel
theorem d_M_unary_27 : decode b_M_unary 27 = .ok (.invokevirtual 57, 3) := by decide +kernel
theorem d_M_unary_30 : decode b_M_unary 30 = .ok (.ifCond .ne 6, 3) := by decide +kernel
theorem d_M_unary_33 : decode b_M_unary 33 = .ok (.bipush (-2), 2) := by decide +kernel
theorem d_M_unary_35 : decode b_M_unary 35 = .ok (.ireturn, 1) := by decide +kernel
theorem d_M_unary_36 : decode b_M_unary 36 = .ok (.aload_n 0, 1) := by decide +kernel
theorem d_M_unary_37 : decode b_M_unary 37 = .ok (.getfield 22, 3) := by decide +kernel
theorem d_M_unary_40 : decode b_M_unary 40 = .ok (.iload_n 3, 1) := by decide +kernel
theorem d_M_unary_41 : decode b_M_unary 41 = .ok (.baload, 1) := by decide +kernel
theorem d_M_unary_42 : decode b_M_unary 42 = .ok (.ifCond .eq 6, 3) := by decide +kernel
theorem d_M_unary_45 : decode b_M_unary 45 = .ok (.bipush (-3), 2) := by decide +kernel
theorem d_M_unary_47 : decode b_M_unary 47 = .ok (.ireturn, 1) := by decide +kernel
theorem d_M_unary_48 : decode b_M_unary 48 = .ok (.aload_n 0, 1) := by decide +kernel
theorem d_M_unary_49 : decode b_M_unary 49 = .ok (.getfield 46, 3) := by decide +kernel
theorem d_M_unary_52 : decode b_M_unary 52 = .ok (.bipush 60, 2) := by decide +kernel
theorem d_M_unary_54 : decode b_M_unary 54 = .ok (.if_icmp .ne 6, 3) := by decide +kernel
theorem d_M_unary_57 : decode b_M_unary 57 = .ok (.bipush (-4), 2) := by decide +kernel
theorem d_M_unary_59 : decode b_M_unary 59 = .ok (.ireturn, 1) := by decide +kernel
theorem d_M_unary_60 : decode b_M_unary 60 = .ok (.aload_n 0, 1) := by decide +kernel
theorem d_M_unary_61 : decode b_M_unary 61 = .ok (.getfield 19, 3) := by decide +kernel
theorem d_M_unary_64 : decode b_M_unary 64 = .ok (.iload_n 3, 1) := by decide +kernel
theorem d_M_unary_65 : decode b_M_unary 65 = .ok (.iaload, 1) := by decide +kernel
theorem d_M_unary_66 : decode b_M_unary 66 = .ok (.bipush 12, 2) := by decide +kernel
theorem d_M_unary_68 : decode b_M_unary 68 = .ok (.if_icmp .ne 8, 3) := by decide +kernel
theorem d_M_unary_71 : decode b_M_unary 71 = .ok (.bipush (-5), 2) := by decide +kernel
theorem d_M_unary_73 : decode b_M_unary 73 = .ok (.goto 23, 3) := by decide +kernel
theorem d_M_unary_76 : decode b_M_unary 76 = .ok (.aload_n 0, 1) := by decide +kernel
theorem d_M_unary_77 : decode b_M_unary 77 = .ok (.bipush 10, 2) := by decide +kernel
theorem d_M_unary_79 : decode b_M_unary 79 = .ok (.iload_n 1, 1) := by decide +kernel
theorem d_M_unary_80 : decode b_M_unary 80 = .ok (.iadd, 1) := by decide +kernel
theorem d_M_unary_81 : decode b_M_unary 81 = .ok (.iload_n 2, 1) := by decide +kernel
theorem d_M_unary_82 : decode b_M_unary 82 = .ok (.iload_n 3, 1) := by decide +kernel
theorem d_M_unary_83 : decode b_M_unary 83 = .ok (.iconst (-1), 1) := by decide +kernel
theorem d_M_unary_84 : decode b_M_unary 84 = .ok (.iconst (-1), 1) := by decide +kernel
theorem d_M_unary_85 : decode b_M_unary 85 = .ok (.aload_n 0, 1) := by decide +kernel
theorem d_M_unary_86 : decode b_M_unary 86 = .ok (.getfield 19, 3) := by decide +kernel
theorem d_M_unary_89 : decode b_M_unary 89 = .ok (.iload_n 3, 1) := by decide +kernel
theorem d_M_unary_90 : decode b_M_unary 90 = .ok (.iaload, 1) := by decide +kernel
theorem d_M_unary_91 : decode b_M_unary 91 = .ok (.iconst 1, 1) := by decide +kernel
theorem d_M_unary_92 : decode b_M_unary 92 = .ok (.iadd, 1) := by decide +kernel
theorem d_M_unary_93 : decode b_M_unary 93 = .ok (.invokevirtual 53, 3) := by decide +kernel
theorem d_M_unary_96 : decode b_M_unary 96 = .ok (.ireturn, 1) := by decide +kernel
theorem d_M_binary_0 : decode b_M_binary 0 = .ok (.iload_n 1, 1) := by decide +kernel
theorem d_M_binary_1 : decode b_M_binary 1 = .ok (.iconst 0, 1) := by decide +kernel
theorem d_M_binary_2 : decode b_M_binary 2 = .ok (.bipush 11, 2) := by decide +kernel
theorem d_M_binary_4 : decode b_M_binary 4 = .ok (.invokestatic 49, 3) := by decide +kernel
theorem d_M_binary_7 : decode b_M_binary 7 = .ok (.ifCond .ne 5, 3) := by decide +kernel
theorem d_M_binary_10 : decode b_M_binary 10 = .ok (.iconst (-1), 1) := by decide +kernel
theorem d_M_binary_11 : decode b_M_binary 11 = .ok (.ireturn, 1) := by decide +kernel
theorem d_M_binary_12 : decode b_M_binary 12 = .ok (.aload_n 0, 1) := by decide +kernel
theorem d_M_binary_13 : decode b_M_binary 13 = .ok (.iload_n 2, 1) := by decide +kernel
theorem d_M_binary_14 : decode b_M_binary 14 = .ok (.invokevirtual 57, 3) := by decide +kernel
theorem d_M_binary_17 : decode b_M_binary 17 = .ok (.ifCond .eq 11, 3) := by decide +kernel
theorem d_M_binary_20 : decode b_M_binary 20 = .ok (.aload_n 0, 1) := by decide +kernel
theorem d_M_binary_21 : decode b_M_binary 21 = .ok (.iload_n 3, 1) := by decide +kernel
theorem d_M_binary_22 : decode b_M_binary 22 = .ok (.invokevirtual 57, 3) := by decide +kernel
theorem d_M_binary_25 : decode b_M_binary 25 = .ok (.ifCond .ne 6, 3) := by decide +kernel
theorem d_M_binary_28 : decode b_M_binary 28 = .ok (.bipush (-2), 2) := by decide +kernel
theorem d_M_binary_30 : decode b_M_binary 30 = .ok (.ireturn, 1) := by decide +kernel
theorem d_M_binary_31 : decode b_M_binary 31 = .ok (.aload_n 0, 1) := by decide +kernel
theorem d_M_binary_32 : decode b_M_binary 32 = .ok (.getfield 22, 3) := by decide +kernel
theorem d_M_binary_35 : decode b_M_binary 35 = .ok (.iload_n 2, 1) := by decide +kernel
theorem d_M_binary_36 : decode b_M_binary 36 = .ok (.baload, 1) := by decide +kernel
theorem d_M_binary_37 : decode b_M_binary 37 = .ok (.ifCond .ne 17, 3) := by decide +kernel
theorem d_M_binary_40 : decode b_M_binary 40 = .ok (.aload_n 0, 1) := by decide +kernel
theorem d_M_binary_41 : decode b_M_binary 41 = .ok (.getfield 22, 3) := by decide +kernel
theorem d_M_binary_44 : decode b_M_binary 44 = .ok (.iload_n 3, 1) := by decide +kernel
theorem d_M_binary_45 : decode b_M_binary 45 = .ok (.baload, 1) := by decide +kernel
theorem d_M_binary_46 : decode b_M_binary 46 = .ok (.ifCond .ne 8, 3) := by decide +kernel
theorem d_M_binary_49 : decode b_M_binary 49 = .ok (.iload_n 2, 1) := by decide +kernel
theorem d_M_binary_50 : decode b_M_binary 50 = .ok (.iload_n 3, 1) := by decide +kernel
theorem d_M_binary_51 : decode b_M_binary 51 = .ok (.if_icmp .ne 6, 3) := by decide +kernel
theorem d_M_binary_54 : decode b_M_binary 54 = .ok (.bipush (-3), 2) := by decide +kernel
theorem d_M_binary_56 : decode b_M_binary 56 = .ok (.ireturn, 1) := by decide +kernel
theorem d_M_binary_57 : decode b_M_binary 57 = .ok (.aload_n 0, 1) := by decide +kernel
theorem d_M_binary_58 : decode b_M_binary 58 = .ok (.getfield 46, 3) := by decide +kernel
theorem d_M_binary_61 : decode b_M_binary 61 = .ok (.bipush 60, 2) := by decide +kernel
theorem d_M_binary_63 : decode b_M_binary 63 = .ok (.if_icmp .ne 6, 3) := by decide +kernel
theorem d_M_binary_66 : decode b_M_binary 66 = .ok (.bipush (-4), 2) := by decide +kernel
theorem d_M_binary_68 : decode b_M_binary 68 = .ok (.ireturn, 1) := by decide +kernel
theorem d_M_binary_69 : decode b_M_binary 69 = .ok (.aload_n 0, 1) := by decide +kernel
theorem d_M_binary_70 : decode b_M_binary 70 = .ok (.getfield 19, 3) := by decide +kernel
theorem d_M_binary_73 : decode b_M_binary 73 = .ok (.iload_n 2, 1) := by decide +kernel
theorem d_M_binary_74 : decode b_M_binary 74 = .ok (.iaload, 1) := by decide +kernel
theorem d_M_binary_75 : decode b_M_binary 75 = .ok (.aload_n 0, 1) := by decide +kernel
theorem d_M_binary_76 : decode b_M_binary 76 = .ok (.getfield 19, 3) := by decide +kernel
theorem d_M_binary_79 : decode b_M_binary 79 = .ok (.iload_n 3, 1) := by decide +kernel
theorem d_M_binary_80 : decode b_M_binary 80 = .ok (.iaload, 1) := by decide +kernel
theorem d_M_binary_81 : decode b_M_binary 81 = .ok (.if_icmp .le 12, 3) := by decide +kernel
theorem d_M_binary_84 : decode b_M_binary 84 = .ok (.aload_n 0, 1) := by decide +kernel
theorem d_M_binary_85 : decode b_M_binary 85 = .ok (.getfield 19, 3) := by decide +kernel
theorem d_M_binary_88 : decode b_M_binary 88 = .ok (.iload_n 2, 1) := by decide +kernel
theorem d_M_binary_89 : decode b_M_binary 89 = .ok (.iaload, 1) := by decide +kernel
theorem d_M_binary_90 : decode b_M_binary 90 = .ok (.goto 9, 3) := by decide +kernel
theorem d_M_binary_93 : decode b_M_binary 93 = .ok (.aload_n 0, 1) := by decide +kernel
theorem d_M_binary_94 : decode b_M_binary 94 = .ok (.getfield 19, 3) := by decide +kernel
theorem d_M_binary_97 : decode b_M_binary 97 = .ok (.iload_n 3, 1) := by decide +kernel
theorem d_M_binary_98 : decode b_M_binary 98 = .ok (.iaload, 1) := by decide +kernel
theorem d_M_binary_99 : decode b_M_binary 99 = .ok (.istore 4, 2) := by decide +kernel
theorem d_M_binary_101 : decode b_M_binary 101 = .ok (.iload 4, 2) := by decide +kernel
theorem d_M_binary_103 : decode b_M_binary 103 = .ok (.bipush 12, 2) := by decide +kernel
theorem d_M_binary_105 : decode b_M_binary 105 = .ok (.if_icmp .ne 8, 3) := by decide +kernel
theorem d_M_binary_108 : decode b_M_binary 108 = .ok (.bipush (-5), 2) := by decide +kernel
theorem d_M_binary_110 : decode b_M_binary 110 = .ok (.goto 19, 3) := by decide +kernel
theorem d_M_binary_113 : decode b_M_binary 113 = .ok (.aload_n 0, 1) := by decide +kernel
theorem d_M_binary_114 : decode b_M_binary 114 = .ok (.bipush 20, 2) := by decide +kernel
theorem d_M_binary_116 : decode b_M_binary 116 = .ok (.iload_n 1, 1) := by decide +kernel
theorem d_M_binary_117 : decode b_M_binary 117 = .ok (.iadd, 1) := by decide +kernel
theorem d_M_binary_118 : decode b_M_binary 118 = .ok (.iconst 0, 1) := by decide +kernel
theorem d_M_binary_119 : decode b_M_binary 119 = .ok (.iload_n 2, 1) := by decide +kernel
theorem d_M_binary_120 : decode b_M_binary 120 = .ok (.iload_n 3, 1) := by decide +kernel
theorem d_M_binary_121 : decode b_M_binary 121 = .ok (.iconst (-1), 1) := by decide +kernel
theorem d_M_binary_122 : decode b_M_binary 122 = .ok (.iload 4, 2) := by decide +kernel
theorem d_M_binary_124 : decode b_M_binary 124 = .ok (.iconst 1, 1) := by decide +kernel
theorem d_M_binary_125 : decode b_M_binary 125 = .ok (.iadd, 1) := by decide +kernel
theorem d_M_binary_126 : decode b_M_binary 126 = .ok (.invokevirtual 53, 3) := by decide +kernel
theorem d_M_binary_129 : decode b_M_binary 129 = .ok (.ireturn, 1) := by decide +kernel
theorem d_M_ternary_0 : decode b_M_ternary 0 = .ok (.iload_n 1, 1) := by decide +kernel
theorem d_M_ternary_1 : decode b_M_ternary 1 = .ok (.iconst 0, 1) := by decide +kernel
theorem d_M_ternary_2 : decode b_M_ternary 2 = .ok (.iconst 1, 1) := by decide +kernel
theorem d_M_ternary_3 : decode b_M_ternary 3 = .ok (.invokestatic 49, 3) := by decide +kernel
theorem d_M_ternary_6 : decode b_M_ternary 6 = .ok (.ifCond .ne 5, 3) := by decide +kernel
theorem d_M_ternary_9 : decode b_M_ternary 9 = .ok (.iconst (-1), 1) := by decide +kernel
theorem d_M_ternary_10 : decode b_M_ternary 10 = .ok (.ireturn, 1) := by decide +kernel
theorem d_M_ternary_11 : decode b_M_ternary 11 = .ok (.aload_n 0, 1) := by decide +kernel
theorem d_M_ternary_12 : decode b_M_ternary 12 = .ok (.iload_n 2, 1) := by decide +kernel
theorem d_M_ternary_13 : decode b_M_ternary 13 = .ok (.invokevirtual 57, 3) := by decide +kernel
theorem d_M_ternary_16 : decode b_M_ternary 16 = .ok (.ifCond .eq 20, 3) := by decide +kernel
theorem d_M_ternary_19 : decode b_M_ternary 19 = .ok (.aload_n 0, 1) := by decide +kernel
theorem d_M_ternary_20 : decode b_M_ternary 20 = .ok (.iload_n 3, 1) := by decide +kernel
theorem d_M_ternary_21 : decode b_M_ternary 21 = .ok (.invokevirtual 57, 3) := by decide +kernel
theorem d_M_ternary_24 : decode b_M_ternary 24 = .ok (.ifCond .eq 12, 3) := by decide +kernel
theorem d_M_ternary_27 : decode b_M_ternary 27 = .ok (.aload_n 0, 1) := by decide +kernel
theorem d_M_ternary_28 : decode b_M_ternary 28 = .ok (.iload 4, 2) := by decide +kernel
theorem d_M_ternary_30 : decode b_M_ternary 30 = .ok (.invokevirtual 57, 3) := by decide +kernel
theorem d_M_ternary_33 : decode b_M_ternary 33 = .ok (.ifCond .ne 6, 3) := by decide +kernel
theorem d_M_ternary_36 : decode b_M_ternary 36 = .ok (.bipush (-2), 2) := by decide +kernel
theorem d_M_ternary_38 : decode b_M_ternary 38 = .ok (.ireturn, 1) := by decide +kernel
theorem d_M_ternary_39 : decode b_M_ternary 39 = .ok (.aload_n 0, 1) := by decide +kernel
theorem d_M_ternary_40 : decode b_M_ternary 40 = .ok (.getfield 22, 3) := by decide +kernel
theorem d_M_ternary_43 : decode b_M_ternary 43 = .ok (.iload_n 2, 1) := by decide +kernel
theorem d_M_ternary_44 : decode b_M_ternary 44 = .ok (.baload, 1) := by decide +kernel
theorem d_M_ternary_45 : decode b_M_ternary 45 = .ok (.ifCond .ne 39, 3) := by decide +kernel
theorem d_M_ternary_48 : decode b_M_ternary 48 = .ok (.aload_n 0, 1) := by decide +kernel
theorem d_M_ternary_49 : decode b_M_ternary 49 = .ok (.getfield 22, 3) := by decide +kernel
theorem d_M_ternary_52 : decode b_M_ternary 52 = .ok (.iload_n 3, 1) := by decide +kernel
theorem d_M_ternary_53 : decode b_M_ternary 53 = .ok (.baload, 1) := by decide +kernel
theorem d_M_ternary_54 : decode b_M_ternary 54 = .ok (.ifCond .ne 30, 3) := by decide +kernel
theorem d_M_ternary_57 : decode b_M_ternary 57 = .ok (.aload_n 0, 1) := by decide +kernel
theorem d_M_ternary_58 : decode b_M_ternary 58 = .ok (.getfield 22, 3) := by decide +kernel
theorem d_M_ternary_61 : decode b_M_ternary 61 = .ok (.iload 4, 2) := by decide +kernel
theorem d_M_ternary_63 : decode b_M_ternary 63 = .ok (.baload, 1) := by decide +kernel
theorem d_M_ternary_64 : decode b_M_ternary 64 = .ok (.ifCond .ne 20, 3) := by decide +kernel
theorem d_M_ternary_67 : decode b_M_ternary 67 = .ok (.iload_n 2, 1) := by decide +kernel
theorem d_M_ternary_68 : decode b_M_ternary 68 = .ok (.iload_n 3, 1) := by decide +kernel
theorem d_M_ternary_69 : decode b_M_ternary 69 = .ok (.if_icmp .eq 15, 3) := by decide +kernel
theorem d_M_ternary_72 : decode b_M_ternary 72 = .ok (.iload_n 2, 1) := by decide +kernel
theorem d_M_ternary_73 : decode b_M_ternary 73 = .ok (.iload 4, 2) := by decide +kernel
theorem d_M_ternary_75 : decode b_M_ternary 75 = .ok (.if_icmp .eq 9, 3) := by decide +kernel
theorem d_M_ternary_78 : decode b_M_ternary 78 = .ok (.iload_n 3, 1) := by decide +kernel
theorem d_M_ternary_79 : decode b_M_ternary 79 = .ok (.iload 4, 2) := by decide +kernel
theorem d_M_ternary_81 : decode b_M_ternary 81 = .ok (.if_icmp .ne 6, 3) := by decide +kernel
theorem d_M_ternary_84 : decode b_M_ternary 84 = .ok (.bipush (-3), 2) := by decide +kernel
theorem d_M_ternary_86 : decode b_M_ternary 86 = .ok (.ireturn, 1) := by decide +kernel
theorem d_M_ternary_87 : decode b_M_ternary 87 = .ok (.aload_n 0, 1) := by decide +kernel
theorem d_M_ternary_88 : decode b_M_ternary 88 = .ok (.getfield 46, 3) := by decide +kernel
theorem d_M_ternary_91 : decode b_M_ternary 91 = .ok (.bipush 60, 2) := by decide +kernel
theorem d_M_ternary_93 : decode b_M_ternary 93 = .ok (.if_icmp .ne 6, 3) := by decide +kernel
theorem d_M_ternary_96 : decode b_M_ternary 96 = .ok (.bipush (-4), 2) := by decide +kernel
theorem d_M_ternary_98 : decode b_M_ternary 98 = .ok (.ireturn, 1) := by decide +kernel
theorem d_M_ternary_99 : decode b_M_ternary 99 = .ok (.aload_n 0, 1) := by decide +kernel
theorem d_M_ternary_100 : decode b_M_ternary 100 = .ok (.getfield 19, 3) := by decide +kernel
theorem d_M_ternary_103 : decode b_M_ternary 103 = .ok (.iload_n 2, 1) := by decide +kernel
theorem d_M_ternary_104 : decode b_M_ternary 104 = .ok (.iaload, 1) := by decide +kernel
theorem d_M_ternary_105 : decode b_M_ternary 105 = .ok (.aload_n 0, 1) := by decide +kernel
theorem d_M_ternary_106 : decode b_M_ternary 106 = .ok (.getfield 19, 3) := by decide +kernel
theorem d_M_ternary_109 : decode b_M_ternary 109 = .ok (.iload_n 3, 1) := by decide +kernel
theorem d_M_ternary_110 : decode b_M_ternary 110 = .ok (.iaload, 1) := by decide +kernel
theorem d_M_ternary_111 : decode b_M_ternary 111 = .ok (.if_icmp .le 12, 3) := by decide +kernel
theorem d_M_ternary_114 : decode b_M_ternary 114 = .ok (.aload_n 0, 1) := by decide +kernel
theorem d_M_ternary_115 : decode b_M_ternary 115 = .ok (.getfield 19, 3) := by decide +kernel
theorem d_M_ternary_118 : decode b_M_ternary 118 = .ok (.iload_n 2, 1) := by decide +kernel
theorem d_M_ternary_119 : decode b_M_ternary 119 = .ok (.iaload, 1) := by decide +kernel
theorem d_M_ternary_120 : decode b_M_ternary 120 = .ok (.goto 9, 3) := by decide +kernel
theorem d_M_ternary_123 : decode b_M_ternary 123 = .ok (.aload_n 0, 1) := by decide +kernel
theorem d_M_ternary_124 : decode b_M_ternary 124 = .ok (.getfield 19, 3) := by decide +kernel
theorem d_M_ternary_127 : decode b_M_ternary 127 = .ok (.iload_n 3, 1) := by decide +kernel
theorem d_M_ternary_128 : decode b_M_ternary 128 = .ok (.iaload, 1) := by decide +kernel
theorem d_M_ternary_129 : decode b_M_ternary 129 = .ok (.istore 5, 2) := by decide +kernel
theorem d_M_ternary_131 : decode b_M_ternary 131 = .ok (.aload_n 0, 1) := by decide +kernel
theorem d_M_ternary_132 : decode b_M_ternary 132 = .ok (.getfield 19, 3) := by decide +kernel
theorem d_M_ternary_135 : decode b_M_ternary 135 = .ok (.iload 4, 2) := by decide +kernel
theorem d_M_ternary_137 : decode b_M_ternary 137 = .ok (.iaload, 1) := by decide +kernel
theorem d_M_ternary_138 : decode b_M_ternary 138 = .ok (.iload 5, 2) := by decide +kernel
theorem d_M_ternary_140 : decode b_M_ternary 140 = .ok (.if_icmp .le 12, 3) := by decide +kernel
theorem d_M_ternary_143 : decode b_M_ternary 143 = .ok (.aload_n 0, 1) := by decide +kernel
theorem d_M_ternary_144 : decode b_M_ternary 144 = .ok (.getfield 19, 3) := by decide +kernel
theorem d_M_ternary_147 : decode b_M_ternary 147 = .ok (.iload 4, 2) := by decide +kernel
theorem d_M_ternary_149 : decode b_M_ternary 149 = .ok (.iaload, 1) := by decide +kernel
theorem d_M_ternary_150 : decode b_M_ternary 150 = .ok (.istore 5, 2) := by decide +kernel
theorem d_M_ternary_152 : decode b_M_ternary 152 = .ok (.iload 5, 2) := by decide +kernel
theorem d_M_ternary_154 : decode b_M_ternary 154 = .ok (.bipush 12, 2) := by decide +kernel
theorem d_M_ternary_156 : decode b_M_ternary 156 = .ok (.if_icmp .ne 8, 3) := by decide +kernel
theorem d_M_ternary_159 : decode b_M_ternary 159 = .ok (.bipush (-5), 2) := by decide +kernel
theorem d_M_ternary_161 : decode b_M_ternary 161 = .ok (.goto 20, 3) := by decide +kernel
theorem d_M_ternary_164 : decode b_M_ternary 164 = .ok (.aload_n 0, 1) := by decide +kernel
theorem d_M_ternary_165 : decode b_M_ternary 165 = .ok (.bipush 40, 2) := by decide +kernel
theorem d_M_ternary_167 : decode b_M_ternary 167 = .ok (.iload_n 1, 1) := by decide +kernel
theorem d_M_ternary_168 : decode b_M_ternary 168 = .ok (.iadd, 1) := by decide +kernel
theorem d_M_ternary_169 : decode b_M_ternary 169 = .ok (.iconst 0, 1) := by decide +kernel
theorem d_M_ternary_170 : decode b_M_ternary 170 = .ok (.iload_n 2, 1) := by decide +kernel
theorem d_M_ternary_171 : decode b_M_ternary 171 = .ok (.iload_n 3, 1) := by decide +kernel
theorem d_M_ternary_172 : decode b_M_ternary 172 = .ok (.iload 4, 2) := by decide +kernel
theorem d_M_ternary_174 : decode b_M_ternary 174 = .ok (.iload 5, 2) := by decide +kernel
theorem d_M_ternary_176 : decode b_M_ternary 176 = .ok (.iconst 1, 1) := by decide +kernel
theorem d_M_ternary_177 : decode b_M_ternary 177 = .ok (.iadd, 1) := by decide +kernel
theorem d_M_ternary_178 : decode b_M_ternary 178 = .ok (.invokevirtual 53, 3) := by decide +kernel
theorem d_M_ternary_181 : decode b_M_ternary 181 = .ok (.ireturn, 1) := by decide +kernel
theorem d_M_expressions_0 : decode b_M_expressions 0 = .ok (.aload_n 0, 1) := by decide +kernel
theorem d_M_expressions_1 : decode b_M_expressions 1 = .ok (.getfield 46, 3) := by decide +kernel
theorem d_M_expressions_4 : decode b_M_expressions 4 = .ok (.ireturn, 1) := by decide +kernel
theorem d_M_about_0 : decode b_M_about 0 = .ok (.aload_n 0, 1) := by decide +kernel
theorem d_M_about_1 : decode b_M_about 1 = .ok (.iload_n 1, 1) := by decide +kernel
theorem d_M_about_2 : decode b_M_about 2 = .ok (.invokevirtual 57, 3) := by decide +kernel
theorem d_M_about_5 : decode b_M_about 5 = .ok (.ifCond .eq 28, 3) := by decide +kernel
theorem d_M_about_8 : decode b_M_about 8 = .ok (.aload_n 0, 1) := by decide +kernel
theorem d_M_about_9 : decode b_M_about 9 = .ok (.getfield 19, 3) := by decide +kernel
theorem d_M_about_12 : decode b_M_about 12 = .ok (.iload_n 1, 1) := by decide +kernel
theorem d_M_about_13 : decode b_M_about 13 = .ok (.iaload, 1) := by decide +kernel
theorem d_M_about_14 : decode b_M_about 14 = .ok (.aload_n 0, 1) := by decide +kernel
theorem d_M_about_15 : decode b_M_about 15 = .ok (.getfield 22, 3) := by decide +kernel
theorem d_M_about_18 : decode b_M_about 18 = .ok (.iload_n 1, 1) := by decide +kernel
theorem d_M_about_19 : decode b_M_about 19 = .ok (.baload, 1) := by decide +kernel
theorem d_M_about_20 : decode b_M_about 20 = .ok (.ifCond .eq 7, 3) := by decide +kernel
theorem d_M_about_23 : decode b_M_about 23 = .ok (.iconst 0, 1) := by decide +kernel
theorem d_M_about_24 : decode b_M_about 24 = .ok (.goto 5, 3) := by decide +kernel
theorem d_M_about_27 : decode b_M_about 27 = .ok (.bipush 32, 2) := by decide +kernel
theorem d_M_about_29 : decode b_M_about 29 = .ok (.iadd, 1) := by decide +kernel
theorem d_M_about_30 : decode b_M_about 30 = .ok (.goto 5, 3) := by decide +kernel
theorem d_M_about_33 : decode b_M_about 33 = .ok (.bipush (-2), 2) := by decide +kernel
theorem d_M_about_35 : decode b_M_about 35 = .ok (.ireturn, 1) := by decide +kernel
theorem d_M_set_0 : decode b_M_set 0 = .ok (.iload_n 1, 1) := by decide +kernel
theorem d_M_set_1 : decode b_M_set 1 = .ok (.iconst 0, 1) := by decide +kernel
theorem d_M_set_2 : decode b_M_set 2 = .ok (.bipush 7, 2) := by decide +kernel
theorem d_M_set_4 : decode b_M_set 4 = .ok (.invokestatic 49, 3) := by decide +kernel
theorem d_M_set_7 : decode b_M_set 7 = .ok (.ifCond .ne 5, 3) := by decide +kernel
theorem d_M_set_10 : decode b_M_set 10 = .ok (.iconst 0, 1) := by decide +kernel
theorem d_M_set_11 : decode b_M_set 11 = .ok (.ireturn, 1) := by decide +kernel
theorem d_M_set_12 : decode b_M_set 12 = .ok (.aload_n 0, 1) := by decide +kernel
theorem d_M_set_13 : decode b_M_set 13 = .ok (.getfield 33, 3) := by decide +kernel
theorem d_M_set_16 : decode b_M_set 16 = .ok (.iload_n 1, 1) := by decide +kernel
theorem d_M_set_17 : decode b_M_set 17 = .ok (.iaload, 1) := by decide +kernel
theorem d_M_set_18 : decode b_M_set 18 = .ok (.istore_n 3, 1) := by decide +kernel
theorem d_M_set_19 : decode b_M_set 19 = .ok (.aload_n 0, 1) := by decide +kernel
theorem d_M_set_20 : decode b_M_set 20 = .ok (.getfield 33, 3) := by decide +kernel
theorem d_M_set_23 : decode b_M_set 23 = .ok (.iload_n 1, 1) := by decide +kernel
theorem d_M_set_24 : decode b_M_set 24 = .ok (.iload_n 2, 1) := by decide +kernel
theorem d_M_set_25 : decode b_M_set 25 = .ok (.iastore, 1) := by decide +kernel
theorem d_M_set_26 : decode b_M_set 26 = .ok (.iload_n 3, 1) := by decide +kernel
theorem d_M_set_27 : decode b_M_set 27 = .ok (.ireturn, 1) := by decide +kernel
theorem d_M_variable_0 : decode b_M_variable 0 = .ok (.iload_n 1, 1) := by decide +kernel
theorem d_M_variable_1 : decode b_M_variable 1 = .ok (.iconst 0, 1) := by decide +kernel
theorem d_M_variable_2 : decode b_M_variable 2 = .ok (.bipush 7, 2) := by decide +kernel
theorem d_M_variable_4 : decode b_M_variable 4 = .ok (.invokestatic 49, 3) := by decide +kernel
theorem d_M_variable_7 : decode b_M_variable 7 = .ok (.ifCond .eq 12, 3) := by decide +kernel
theorem d_M_variable_10 : decode b_M_variable 10 = .ok (.aload_n 0, 1) := by decide +kernel
theorem d_M_variable_11 : decode b_M_variable 11 = .ok (.getfield 33, 3) := by decide +kernel
theorem d_M_variable_14 : decode b_M_variable 14 = .ok (.iload_n 1, 1) := by decide +kernel
theorem d_M_variable_15 : decode b_M_variable 15 = .ok (.iaload, 1) := by decide +kernel
theorem d_M_variable_16 : decode b_M_variable 16 = .ok (.goto 4, 3) := by decide +kernel
theorem d_M_variable_19 : decode b_M_variable 19 = .ok (.iconst 0, 1) := by decide +kernel
theorem d_M_variable_20 : decode b_M_variable 20 = .ok (.ireturn, 1) := by decide +kernel
theorem d_M_begin_0 : decode b_M_begin 0 = .ok (.aload_n 0, 1) := by decide +kernel
theorem d_M_begin_1 : decode b_M_begin 1 = .ok (.iload_n 1, 1) := by decide +kernel
theorem d_M_begin_2 : decode b_M_begin 2 = .ok (.invokevirtual 57, 3) := by decide +kernel
theorem d_M_begin_5 : decode b_M_begin 5 = .ok (.ifCond .ne 6, 3) := by decide +kernel
theorem d_M_begin_8 : decode b_M_begin 8 = .ok (.bipush (-2), 2) := by decide +kernel
theorem d_M_begin_10 : decode b_M_begin 10 = .ok (.ireturn, 1) := by decide +kernel
theorem d_M_begin_11 : decode b_M_begin 11 = .ok (.aload_n 0, 1) := by decide +kernel
theorem d_M_begin_12 : decode b_M_begin 12 = .ok (.getfield 22, 3) := by decide +kernel
theorem d_M_begin_15 : decode b_M_begin 15 = .ok (.iload_n 1, 1) := by decide +kernel
theorem d_M_begin_16 : decode b_M_begin 16 = .ok (.baload, 1) := by decide +kernel
theorem d_M_begin_17 : decode b_M_begin 17 = .ok (.ifCond .eq 6, 3) := by decide +kernel
theorem d_M_begin_20 : decode b_M_begin 20 = .ok (.bipush (-3), 2) := by decide +kernel
theorem d_M_begin_22 : decode b_M_begin 22 = .ok (.ireturn, 1) := by decide +kernel
theorem d_M_begin_23 : decode b_M_begin 23 = .ok (.iload_n 2, 1) := by decide +kernel
theorem d_M_begin_24 : decode b_M_begin 24 = .ok (.iconst 0, 1) := by decide +kernel
theorem d_M_begin_25 : decode b_M_begin 25 = .ok (.sipush 2000, 3) := by decide +kernel
theorem d_M_begin_28 : decode b_M_begin 28 = .ok (.invokestatic 49, 3) := by decide +kernel
theorem d_M_begin_31 : decode b_M_begin 31 = .ok (.ifCond .ne 5, 3) := by decide +kernel
theorem d_M_begin_34 : decode b_M_begin 34 = .ok (.iconst (-1), 1) := by decide +kernel
theorem d_M_begin_35 : decode b_M_begin 35 = .ok (.ireturn, 1) := by decide +kernel
theorem d_M_begin_36 : decode b_M_begin 36 = .ok (.aload_n 0, 1) := by decide +kernel
theorem d_M_begin_37 : decode b_M_begin 37 = .ok (.iload_n 1, 1) := by decide +kernel
theorem d_M_begin_38 : decode b_M_begin 38 = .ok (.putfield 39, 3) := by decide +kernel
theorem d_M_begin_41 : decode b_M_begin 41 = .ok (.aload_n 0, 1) := by decide +kernel
theorem d_M_begin_42 : decode b_M_begin 42 = .ok (.getfield 26, 3) := by decide +kernel
theorem d_M_begin_45 : decode b_M_begin 45 = .ok (.iload_n 1, 1) := by decide +kernel
theorem d_M_begin_46 : decode b_M_begin 46 = .ok (.iconst 0, 1) := by decide +kernel
theorem d_M_begin_47 : decode b_M_begin 47 = .ok (.iastore, 1) := by decide +kernel
theorem d_M_begin_48 : decode b_M_begin 48 = .ok (.aload_n 0, 1) := by decide +kernel
theorem d_M_begin_49 : decode b_M_begin 49 = .ok (.iconst 2, 1) := by decide +kernel
theorem d_M_begin_50 : decode b_M_begin 50 = .ok (.putfield 61, 3) := by decide +kernel
theorem d_M_begin_53 : decode b_M_begin 53 = .ok (.aload_n 0, 1) := by decide +kernel
theorem d_M_begin_54 : decode b_M_begin 54 = .ok (.iload_n 2, 1) := by decide +kernel
theorem d_M_begin_55 : decode b_M_begin 55 = .ok (.putfield 64, 3) := by decide +kernel
theorem d_M_begin_58 : decode b_M_begin 58 = .ok (.aload_n 0, 1) := by decide +kernel
theorem d_M_begin_59 : decode b_M_begin 59 = .ok (.iconst 0, 1) := by decide +kernel
theorem d_M_begin_60 : decode b_M_begin 60 = .ok (.putfield 67, 3) := by decide +kernel
theorem d_M_begin_63 : decode b_M_begin 63 = .ok (.aload_n 0, 1) := by decide +kernel
theorem d_M_begin_64 : decode b_M_begin 64 = .ok (.iconst 0, 1) := by decide +kernel
theorem d_M_begin_65 : decode b_M_begin 65 = .ok (.putfield 70, 3) := by decide +kernel
theorem d_M_begin_68 : decode b_M_begin 68 = .ok (.aload_n 0, 1) := by decide +kernel
theorem d_M_begin_69 : decode b_M_begin 69 = .ok (.iconst 0, 1) := by decide +kernel
theorem d_M_begin_70 : decode b_M_begin 70 = .ok (.putfield 73, 3) := by decide +kernel
theorem d_M_begin_73 : decode b_M_begin 73 = .ok (.iconst 0, 1) := by decide +kernel
theorem d_M_begin_74 : decode b_M_begin 74 = .ok (.ireturn, 1) := by decide +kernel
theorem d_M_give_0 : decode b_M_give 0 = .ok (.aload_n 0, 1) := by decide +kernel
theorem d_M_give_1 : decode b_M_give 1 = .ok (.iload_n 1, 1) := by decide +kernel
theorem d_M_give_2 : decode b_M_give 2 = .ok (.putfield 76, 3) := by decide +kernel
theorem d_M_give_5 : decode b_M_give 5 = .ok (.iconst 1, 1) := by decide +kernel
theorem d_M_give_6 : decode b_M_give 6 = .ok (.ireturn, 1) := by decide +kernel
theorem d_M_paid_0 : decode b_M_paid 0 = .ok (.aload_n 0, 1) := by decide +kernel
theorem d_M_paid_1 : decode b_M_paid 1 = .ok (.getfield 67, 3) := by decide +kernel
theorem d_M_paid_4 : decode b_M_paid 4 = .ok (.aload_n 0, 1) := by decide +kernel
theorem d_M_paid_5 : decode b_M_paid 5 = .ok (.getfield 64, 3) := by decide +kernel
theorem d_M_paid_8 : decode b_M_paid 8 = .ok (.if_icmp .ne 11, 3) := by decide +kernel
theorem d_M_paid_11 : decode b_M_paid 11 = .ok (.aload_n 0, 1) := by decide +kernel
theorem d_M_paid_12 : decode b_M_paid 12 = .ok (.bipush (-5), 2) := by decide +kernel
theorem d_M_paid_14 : decode b_M_paid 14 = .ok (.putfield 79, 3) := by decide +kernel
theorem d_M_paid_17 : decode b_M_paid 17 = .ok (.iconst 0, 1) := by decide +kernel
theorem d_M_paid_18 : decode b_M_paid 18 = .ok (.ireturn, 1) := by decide +kernel
theorem d_M_paid_19 : decode b_M_paid 19 = .ok (.aload_n 0, 1) := by decide +kernel
theorem d_M_paid_20 : decode b_M_paid 20 = .ok (.dup, 1) := by decide +kernel
theorem d_M_paid_21 : decode b_M_paid 21 = .ok (.getfield 67, 3) := by decide +kernel
theorem d_M_paid_24 : decode b_M_paid 24 = .ok (.iconst 1, 1) := by decide +kernel
theorem d_M_paid_25 : decode b_M_paid 25 = .ok (.iadd, 1) := by decide +kernel
theorem d_M_paid_26 : decode b_M_paid 26 = .ok (.putfield 67, 3) := by decide +kernel
theorem d_M_paid_29 : decode b_M_paid 29 = .ok (.aload_n 0, 1) := by decide +kernel
theorem d_M_paid_30 : decode b_M_paid 30 = .ok (.iload_n 1, 1) := by decide +kernel
theorem d_M_paid_31 : decode b_M_paid 31 = .ok (.invokevirtual 82, 3) := by decide +kernel
theorem d_M_paid_34 : decode b_M_paid 34 = .ok (.ireturn, 1) := by decide +kernel
theorem d_M_ask_0 : decode b_M_ask 0 = .ok (.aload_n 0, 1) := by decide +kernel
theorem d_M_ask_1 : decode b_M_ask 1 = .ok (.getfield 26, 3) := by decide +kernel
theorem d_M_ask_4 : decode b_M_ask 4 = .ok (.iload_n 1, 1) := by decide +kernel
theorem d_M_ask_5 : decode b_M_ask 5 = .ok (.iload_n 3, 1) := by decide +kernel
theorem d_M_ask_6 : decode b_M_ask 6 = .ok (.iastore, 1) := by decide +kernel
theorem d_M_ask_7 : decode b_M_ask 7 = .ok (.aload_n 0, 1) := by decide +kernel
theorem d_M_ask_8 : decode b_M_ask 8 = .ok (.getfield 43, 3) := by decide +kernel
theorem d_M_ask_11 : decode b_M_ask 11 = .ok (.aload_n 0, 1) := by decide +kernel
theorem d_M_ask_12 : decode b_M_ask 12 = .ok (.getfield 86, 3) := by decide +kernel
theorem d_M_ask_15 : decode b_M_ask 15 = .ok (.aload_n 0, 1) := by decide +kernel
theorem d_M_ask_16 : decode b_M_ask 16 = .ok (.getfield 16, 3) := by decide +kernel
theorem d_M_ask_19 : decode b_M_ask 19 = .ok (.iconst 3, 1) := by decide +kernel
theorem d_M_ask_20 : decode b_M_ask 20 = .ok (.iload_n 1, 1) := by decide +kernel
theorem d_M_ask_21 : decode b_M_ask 21 = .ok (.imul, 1) := by decide +kernel
theorem d_M_ask_22 : decode b_M_ask 22 = .ok (.iload_n 2, 1) := by decide +kernel
theorem d_M_ask_23 : decode b_M_ask 23 = .ok (.iadd, 1) := by decide +kernel
theorem d_M_ask_24 : decode b_M_ask 24 = .ok (.iaload, 1) := by decide +kernel
theorem d_M_ask_25 : decode b_M_ask 25 = .ok (.iastore, 1) := by decide +kernel
theorem d_M_ask_26 : decode b_M_ask 26 = .ok (.aload_n 0, 1) := by decide +kernel
theorem d_M_ask_27 : decode b_M_ask 27 = .ok (.dup, 1) := by decide +kernel
theorem d_M_ask_28 : decode b_M_ask 28 = .ok (.getfield 86, 3) := by decide +kernel
theorem d_M_ask_31 : decode b_M_ask 31 = .ok (.iconst 1, 1) := by decide +kernel
end
section
/-! decoded rows -/
theorem d_M_ask_32 : decode b_M_ask 32 = .ok (.iadd, 1) := by decide +kernel
theorem d_M_ask_33 : decode b_M_ask 33 = .ok (.putfield 86, 3) := by decide +kernel
theorem d_M_ask_36 : decode b_M_ask 36 = .ok (.iconst 2, 1) := by decide +kernel
theorem d_M_ask_37 : decode b_M_ask 37 = .ok (.ireturn, 1) := by decide +kernel
theorem d_M_first_0 : decode b_M_first 0 = .ok (.aload_n 0, 1) := by decide +kernel
theorem d_M_first_1 : decode b_M_first 1 = .ok (.getfield 26, 3) := by decide +kernel
theorem d_M_first_4 : decode b_M_first 4 = .ok (.aload_n 0, 1) := by decide +kernel
theorem d_M_first_5 : decode b_M_first 5 = .ok (.getfield 16, 3) := by decide +kernel
theorem d_M_first_8 : decode b_M_first 8 = .ok (.iconst 3, 1) := by decide +kernel
theorem d_M_first_9 : decode b_M_first 9 = .ok (.iload_n 1, 1) := by decide +kernel
theorem d_M_first_10 : decode b_M_first 10 = .ok (.imul, 1) := by decide +kernel
theorem d_M_first_11 : decode b_M_first 11 = .ok (.iload_n 2, 1) := by decide +kernel
theorem d_M_first_12 : decode b_M_first 12 = .ok (.iadd, 1) := by decide +kernel
theorem d_M_first_13 : decode b_M_first 13 = .ok (.iaload, 1) := by decide +kernel
theorem d_M_first_14 : decode b_M_first 14 = .ok (.iconst 0, 1) := by decide +kernel
theorem d_M_first_15 : decode b_M_first 15 = .ok (.iastore, 1) := by decide +kernel
theorem d_M_first_16 : decode b_M_first 16 = .ok (.aload_n 0, 1) := by decide +kernel
theorem d_M_first_17 : decode b_M_first 17 = .ok (.iload_n 1, 1) := by decide +kernel
theorem d_M_first_18 : decode b_M_first 18 = .ok (.iload_n 2, 1) := by decide +kernel
theorem d_M_first_19 : decode b_M_first 19 = .ok (.iload_n 3, 1) := by decide +kernel
theorem d_M_first_20 : decode b_M_first 20 = .ok (.invokevirtual 89, 3) := by decide +kernel
theorem d_M_first_23 : decode b_M_first 23 = .ok (.ireturn, 1) := by decide +kernel
theorem d_M_step_0 : decode b_M_step 0 = .ok (.aload_n 0, 1) := by decide +kernel
theorem d_M_step_1 : decode b_M_step 1 = .ok (.getfield 7, 3) := by decide +kernel
theorem d_M_step_4 : decode b_M_step 4 = .ok (.iload_n 1, 1) := by decide +kernel
theorem d_M_step_5 : decode b_M_step 5 = .ok (.iaload, 1) := by decide +kernel
theorem d_M_step_6 : decode b_M_step 6 = .ok (.istore_n 3, 1) := by decide +kernel
theorem d_M_step_7 : decode b_M_step 7 = .ok (.iload_n 3, 1) := by decide +kernel
theorem d_M_step_8 : decode b_M_step 8 = .ok (.bipush 10, 2) := by decide +kernel
theorem d_M_step_10 : decode b_M_step 10 = .ok (.if_icmp .ge 9, 3) := by decide +kernel
theorem d_M_step_13 : decode b_M_step 13 = .ok (.aload_n 0, 1) := by decide +kernel
theorem d_M_step_14 : decode b_M_step 14 = .ok (.iload_n 1, 1) := by decide +kernel
theorem d_M_step_15 : decode b_M_step 15 = .ok (.invokevirtual 93, 3) := by decide +kernel
theorem d_M_step_18 : decode b_M_step 18 = .ok (.ireturn, 1) := by decide +kernel
theorem d_M_step_19 : decode b_M_step 19 = .ok (.iload_n 3, 1) := by decide +kernel
theorem d_M_step_20 : decode b_M_step 20 = .ok (.bipush 20, 2) := by decide +kernel
theorem d_M_step_22 : decode b_M_step 22 = .ok (.if_icmp .ge 10, 3) := by decide +kernel
theorem d_M_step_25 : decode b_M_step 25 = .ok (.aload_n 0, 1) := by decide +kernel
theorem d_M_step_26 : decode b_M_step 26 = .ok (.iload_n 1, 1) := by decide +kernel
theorem d_M_step_27 : decode b_M_step 27 = .ok (.iload_n 2, 1) := by decide +kernel
theorem d_M_step_28 : decode b_M_step 28 = .ok (.invokevirtual 96, 3) := by decide +kernel
theorem d_M_step_31 : decode b_M_step 31 = .ok (.ireturn, 1) := by decide +kernel
theorem d_M_step_32 : decode b_M_step 32 = .ok (.iload_n 3, 1) := by decide +kernel
theorem d_M_step_33 : decode b_M_step 33 = .ok (.bipush 21, 2) := by decide +kernel
theorem d_M_step_35 : decode b_M_step 35 = .ok (.if_icmp .lt 16, 3) := by decide +kernel
theorem d_M_step_38 : decode b_M_step 38 = .ok (.iload_n 3, 1) := by decide +kernel
theorem d_M_step_39 : decode b_M_step 39 = .ok (.bipush 27, 2) := by decide +kernel
theorem d_M_step_41 : decode b_M_step 41 = .ok (.if_icmp .gt 10, 3) := by decide +kernel
theorem d_M_step_44 : decode b_M_step 44 = .ok (.aload_n 0, 1) := by decide +kernel
theorem d_M_step_45 : decode b_M_step 45 = .ok (.iload_n 1, 1) := by decide +kernel
theorem d_M_step_46 : decode b_M_step 46 = .ok (.iload_n 2, 1) := by decide +kernel
theorem d_M_step_47 : decode b_M_step 47 = .ok (.invokevirtual 100, 3) := by decide +kernel
theorem d_M_step_50 : decode b_M_step 50 = .ok (.ireturn, 1) := by decide +kernel
theorem d_M_step_51 : decode b_M_step 51 = .ok (.iload_n 3, 1) := by decide +kernel
theorem d_M_step_52 : decode b_M_step 52 = .ok (.bipush 40, 2) := by decide +kernel
theorem d_M_step_54 : decode b_M_step 54 = .ok (.if_icmp .ge 10, 3) := by decide +kernel
theorem d_M_step_57 : decode b_M_step 57 = .ok (.aload_n 0, 1) := by decide +kernel
theorem d_M_step_58 : decode b_M_step 58 = .ok (.iload_n 1, 1) := by decide +kernel
theorem d_M_step_59 : decode b_M_step 59 = .ok (.iload_n 2, 1) := by decide +kernel
theorem d_M_step_60 : decode b_M_step 60 = .ok (.invokevirtual 103, 3) := by decide +kernel
theorem d_M_step_63 : decode b_M_step 63 = .ok (.ireturn, 1) := by decide +kernel
theorem d_M_step_64 : decode b_M_step 64 = .ok (.iload_n 3, 1) := by decide +kernel
theorem d_M_step_65 : decode b_M_step 65 = .ok (.bipush 40, 2) := by decide +kernel
theorem d_M_step_67 : decode b_M_step 67 = .ok (.if_icmp .ne 12, 3) := by decide +kernel
theorem d_M_step_70 : decode b_M_step 70 = .ok (.aload_n 0, 1) := by decide +kernel
theorem d_M_step_71 : decode b_M_step 71 = .ok (.iload_n 1, 1) := by decide +kernel
theorem d_M_step_72 : decode b_M_step 72 = .ok (.iload_n 2, 1) := by decide +kernel
theorem d_M_step_73 : decode b_M_step 73 = .ok (.invokevirtual 106, 3) := by decide +kernel
theorem d_M_step_76 : decode b_M_step 76 = .ok (.goto 9, 3) := by decide +kernel
theorem d_M_step_79 : decode b_M_step 79 = .ok (.aload_n 0, 1) := by decide +kernel
theorem d_M_step_80 : decode b_M_step 80 = .ok (.iload_n 1, 1) := by decide +kernel
theorem d_M_step_81 : decode b_M_step 81 = .ok (.iload_n 2, 1) := by decide +kernel
theorem d_M_step_82 : decode b_M_step 82 = .ok (.invokevirtual 109, 3) := by decide +kernel
theorem d_M_step_85 : decode b_M_step 85 = .ok (.ireturn, 1) := by decide +kernel
theorem d_M_leafStep_0 : decode b_M_leafStep 0 = .ok (.aload_n 0, 1) := by decide +kernel
theorem d_M_leafStep_1 : decode b_M_leafStep 1 = .ok (.getfield 26, 3) := by decide +kernel
theorem d_M_leafStep_4 : decode b_M_leafStep 4 = .ok (.iload_n 1, 1) := by decide +kernel
theorem d_M_leafStep_5 : decode b_M_leafStep 5 = .ok (.iaload, 1) := by decide +kernel
theorem d_M_leafStep_6 : decode b_M_leafStep 6 = .ok (.iconst 1, 1) := by decide +kernel
theorem d_M_leafStep_7 : decode b_M_leafStep 7 = .ok (.if_icmp .ne 5, 3) := by decide +kernel
theorem d_M_leafStep_10 : decode b_M_leafStep 10 = .ok (.iconst 0, 1) := by decide +kernel
theorem d_M_leafStep_11 : decode b_M_leafStep 11 = .ok (.ireturn, 1) := by decide +kernel
theorem d_M_leafStep_12 : decode b_M_leafStep 12 = .ok (.aload_n 0, 1) := by decide +kernel
theorem d_M_leafStep_13 : decode b_M_leafStep 13 = .ok (.getfield 26, 3) := by decide +kernel
theorem d_M_leafStep_16 : decode b_M_leafStep 16 = .ok (.iload_n 1, 1) := by decide +kernel
theorem d_M_leafStep_17 : decode b_M_leafStep 17 = .ok (.iconst 1, 1) := by decide +kernel
theorem d_M_leafStep_18 : decode b_M_leafStep 18 = .ok (.iastore, 1) := by decide +kernel
theorem d_M_leafStep_19 : decode b_M_leafStep 19 = .ok (.aload_n 0, 1) := by decide +kernel
theorem d_M_leafStep_20 : decode b_M_leafStep 20 = .ok (.aload_n 0, 1) := by decide +kernel
theorem d_M_leafStep_21 : decode b_M_leafStep 21 = .ok (.getfield 7, 3) := by decide +kernel
theorem d_M_leafStep_24 : decode b_M_leafStep 24 = .ok (.iload_n 1, 1) := by decide +kernel
theorem d_M_leafStep_25 : decode b_M_leafStep 25 = .ok (.iaload, 1) := by decide +kernel
theorem d_M_leafStep_26 : decode b_M_leafStep 26 = .ok (.ifCond .ne 12, 3) := by decide +kernel
theorem d_M_leafStep_29 : decode b_M_leafStep 29 = .ok (.aload_n 0, 1) := by decide +kernel
theorem d_M_leafStep_30 : decode b_M_leafStep 30 = .ok (.getfield 13, 3) := by decide +kernel
theorem d_M_leafStep_33 : decode b_M_leafStep 33 = .ok (.iload_n 1, 1) := by decide +kernel
theorem d_M_leafStep_34 : decode b_M_leafStep 34 = .ok (.iaload, 1) := by decide +kernel
theorem d_M_leafStep_35 : decode b_M_leafStep 35 = .ok (.goto 14, 3) := by decide +kernel
theorem d_M_leafStep_38 : decode b_M_leafStep 38 = .ok (.aload_n 0, 1) := by decide +kernel
theorem d_M_leafStep_39 : decode b_M_leafStep 39 = .ok (.getfield 33, 3) := by decide +kernel
theorem d_M_leafStep_42 : decode b_M_leafStep 42 = .ok (.aload_n 0, 1) := by decide +kernel
theorem d_M_leafStep_43 : decode b_M_leafStep 43 = .ok (.getfield 13, 3) := by decide +kernel
theorem d_M_leafStep_46 : decode b_M_leafStep 46 = .ok (.iload_n 1, 1) := by decide +kernel
theorem d_M_leafStep_47 : decode b_M_leafStep 47 = .ok (.iaload, 1) := by decide +kernel
theorem d_M_leafStep_48 : decode b_M_leafStep 48 = .ok (.iaload, 1) := by decide +kernel
theorem d_M_leafStep_49 : decode b_M_leafStep 49 = .ok (.invokevirtual 112, 3) := by decide +kernel
theorem d_M_leafStep_52 : decode b_M_leafStep 52 = .ok (.ireturn, 1) := by decide +kernel
theorem d_M_unaryStep_0 : decode b_M_unaryStep 0 = .ok (.aload_n 0, 1) := by decide +kernel
theorem d_M_unaryStep_1 : decode b_M_unaryStep 1 = .ok (.getfield 7, 3) := by decide +kernel
theorem d_M_unaryStep_4 : decode b_M_unaryStep 4 = .ok (.iload_n 1, 1) := by decide +kernel
theorem d_M_unaryStep_5 : decode b_M_unaryStep 5 = .ok (.iaload, 1) := by decide +kernel
theorem d_M_unaryStep_6 : decode b_M_unaryStep 6 = .ok (.bipush 10, 2) := by decide +kernel
theorem d_M_unaryStep_8 : decode b_M_unaryStep 8 = .ok (.isub, 1) := by decide +kernel
theorem d_M_unaryStep_9 : decode b_M_unaryStep 9 = .ok (.istore_n 3, 1) := by decide +kernel
theorem d_M_unaryStep_10 : decode b_M_unaryStep 10 = .ok (.iload_n 3, 1) := by decide +kernel
theorem d_M_unaryStep_11 : decode b_M_unaryStep 11 = .ok (.iconst 2, 1) := by decide +kernel
theorem d_M_unaryStep_12 : decode b_M_unaryStep 12 = .ok (.if_icmp .ne 49, 3) := by decide +kernel
theorem d_M_unaryStep_15 : decode b_M_unaryStep 15 = .ok (.aload_n 0, 1) := by decide +kernel
theorem d_M_unaryStep_16 : decode b_M_unaryStep 16 = .ok (.getfield 26, 3) := by decide +kernel
theorem d_M_unaryStep_19 : decode b_M_unaryStep 19 = .ok (.iload_n 1, 1) := by decide +kernel
theorem d_M_unaryStep_20 : decode b_M_unaryStep 20 = .ok (.iaload, 1) := by decide +kernel
theorem d_M_unaryStep_21 : decode b_M_unaryStep 21 = .ok (.iconst 2, 1) := by decide +kernel
theorem d_M_unaryStep_22 : decode b_M_unaryStep 22 = .ok (.if_icmp .ne 5, 3) := by decide +kernel
theorem d_M_unaryStep_25 : decode b_M_unaryStep 25 = .ok (.iconst 0, 1) := by decide +kernel
theorem d_M_unaryStep_26 : decode b_M_unaryStep 26 = .ok (.ireturn, 1) := by decide +kernel
theorem d_M_unaryStep_27 : decode b_M_unaryStep 27 = .ok (.iload_n 2, 1) := by decide +kernel
theorem d_M_unaryStep_28 : decode b_M_unaryStep 28 = .ok (.ifCond .ne 11, 3) := by decide +kernel
theorem d_M_unaryStep_31 : decode b_M_unaryStep 31 = .ok (.aload_n 0, 1) := by decide +kernel
theorem d_M_unaryStep_32 : decode b_M_unaryStep 32 = .ok (.iload_n 1, 1) := by decide +kernel
theorem d_M_unaryStep_33 : decode b_M_unaryStep 33 = .ok (.iconst 0, 1) := by decide +kernel
theorem d_M_unaryStep_34 : decode b_M_unaryStep 34 = .ok (.iconst 1, 1) := by decide +kernel
theorem d_M_unaryStep_35 : decode b_M_unaryStep 35 = .ok (.invokevirtual 115, 3) := by decide +kernel
theorem d_M_unaryStep_38 : decode b_M_unaryStep 38 = .ok (.ireturn, 1) := by decide +kernel
theorem d_M_unaryStep_39 : decode b_M_unaryStep 39 = .ok (.aload_n 0, 1) := by decide +kernel
theorem d_M_unaryStep_40 : decode b_M_unaryStep 40 = .ok (.getfield 26, 3) := by decide +kernel
theorem d_M_unaryStep_43 : decode b_M_unaryStep 43 = .ok (.iload_n 1, 1) := by decide +kernel
theorem d_M_unaryStep_44 : decode b_M_unaryStep 44 = .ok (.iconst 2, 1) := by decide +kernel
theorem d_M_unaryStep_45 : decode b_M_unaryStep 45 = .ok (.iastore, 1) := by decide +kernel
theorem d_M_unaryStep_46 : decode b_M_unaryStep 46 = .ok (.iload_n 2, 1) := by decide +kernel
theorem d_M_unaryStep_47 : decode b_M_unaryStep 47 = .ok (.iconst 1, 1) := by decide +kernel
theorem d_M_unaryStep_48 : decode b_M_unaryStep 48 = .ok (.if_icmp .ne 7, 3) := by decide +kernel
theorem d_M_unaryStep_51 : decode b_M_unaryStep 51 = .ok (.iconst 0, 1) := by decide +kernel
theorem d_M_unaryStep_52 : decode b_M_unaryStep 52 = .ok (.goto 8, 3) := by decide +kernel
theorem d_M_unaryStep_55 : decode b_M_unaryStep 55 = .ok (.aload_n 0, 1) := by decide +kernel
theorem d_M_unaryStep_56 : decode b_M_unaryStep 56 = .ok (.iconst 0, 1) := by decide +kernel
theorem d_M_unaryStep_57 : decode b_M_unaryStep 57 = .ok (.invokevirtual 82, 3) := by decide +kernel
theorem d_M_unaryStep_60 : decode b_M_unaryStep 60 = .ok (.ireturn, 1) := by decide +kernel
theorem d_M_unaryStep_61 : decode b_M_unaryStep 61 = .ok (.iload_n 2, 1) := by decide +kernel
theorem d_M_unaryStep_62 : decode b_M_unaryStep 62 = .ok (.ifCond .ne 38, 3) := by decide +kernel
theorem d_M_unaryStep_65 : decode b_M_unaryStep 65 = .ok (.aload_n 0, 1) := by decide +kernel
theorem d_M_unaryStep_66 : decode b_M_unaryStep 66 = .ok (.getfield 26, 3) := by decide +kernel
theorem d_M_unaryStep_69 : decode b_M_unaryStep 69 = .ok (.iload_n 1, 1) := by decide +kernel
theorem d_M_unaryStep_70 : decode b_M_unaryStep 70 = .ok (.iaload, 1) := by decide +kernel
theorem d_M_unaryStep_71 : decode b_M_unaryStep 71 = .ok (.iconst 1, 1) := by decide +kernel
theorem d_M_unaryStep_72 : decode b_M_unaryStep 72 = .ok (.if_icmp .ne 11, 3) := by decide +kernel
theorem d_M_unaryStep_75 : decode b_M_unaryStep 75 = .ok (.aload_n 0, 1) := by decide +kernel
theorem d_M_unaryStep_76 : decode b_M_unaryStep 76 = .ok (.iload_n 1, 1) := by decide +kernel
theorem d_M_unaryStep_77 : decode b_M_unaryStep 77 = .ok (.iconst 0, 1) := by decide +kernel
theorem d_M_unaryStep_78 : decode b_M_unaryStep 78 = .ok (.iconst 1, 1) := by decide +kernel
theorem d_M_unaryStep_79 : decode b_M_unaryStep 79 = .ok (.invokevirtual 89, 3) := by decide +kernel
theorem d_M_unaryStep_82 : decode b_M_unaryStep 82 = .ok (.ireturn, 1) := by decide +kernel
theorem d_M_unaryStep_83 : decode b_M_unaryStep 83 = .ok (.aload_n 0, 1) := by decide +kernel
theorem d_M_unaryStep_84 : decode b_M_unaryStep 84 = .ok (.getfield 29, 3) := by decide +kernel
theorem d_M_unaryStep_87 : decode b_M_unaryStep 87 = .ok (.iconst 3, 1) := by decide +kernel
theorem d_M_unaryStep_88 : decode b_M_unaryStep 88 = .ok (.iload_n 1, 1) := by decide +kernel
theorem d_M_unaryStep_89 : decode b_M_unaryStep 89 = .ok (.imul, 1) := by decide +kernel
theorem d_M_unaryStep_90 : decode b_M_unaryStep 90 = .ok (.lconst 0, 1) := by decide +kernel
theorem d_M_unaryStep_91 : decode b_M_unaryStep 91 = .ok (.lastore, 1) := by decide +kernel
theorem d_M_unaryStep_92 : decode b_M_unaryStep 92 = .ok (.aload_n 0, 1) := by decide +kernel
theorem d_M_unaryStep_93 : decode b_M_unaryStep 93 = .ok (.iload_n 1, 1) := by decide +kernel
theorem d_M_unaryStep_94 : decode b_M_unaryStep 94 = .ok (.iconst 0, 1) := by decide +kernel
theorem d_M_unaryStep_95 : decode b_M_unaryStep 95 = .ok (.iconst 1, 1) := by decide +kernel
theorem d_M_unaryStep_96 : decode b_M_unaryStep 96 = .ok (.invokevirtual 115, 3) := by decide +kernel
theorem d_M_unaryStep_99 : decode b_M_unaryStep 99 = .ok (.ireturn, 1) := by decide +kernel
theorem d_M_unaryStep_100 : decode b_M_unaryStep 100 = .ok (.iload_n 2, 1) := by decide +kernel
theorem d_M_unaryStep_101 : decode b_M_unaryStep 101 = .ok (.iconst 2, 1) := by decide +kernel
theorem d_M_unaryStep_102 : decode b_M_unaryStep 102 = .ok (.if_icmp .ne 40, 3) := by decide +kernel
theorem d_M_unaryStep_105 : decode b_M_unaryStep 105 = .ok (.iload_n 3, 1) := by decide +kernel
theorem d_M_unaryStep_106 : decode b_M_unaryStep 106 = .ok (.iconst 3, 1) := by decide +kernel
theorem d_M_unaryStep_107 : decode b_M_unaryStep 107 = .ok (.if_icmp .ne 16, 3) := by decide +kernel
theorem d_M_unaryStep_110 : decode b_M_unaryStep 110 = .ok (.aload_n 0, 1) := by decide +kernel
theorem d_M_unaryStep_111 : decode b_M_unaryStep 111 = .ok (.getfield 29, 3) := by decide +kernel
theorem d_M_unaryStep_114 : decode b_M_unaryStep 114 = .ok (.iconst 3, 1) := by decide +kernel
theorem d_M_unaryStep_115 : decode b_M_unaryStep 115 = .ok (.iload_n 1, 1) := by decide +kernel
theorem d_M_unaryStep_116 : decode b_M_unaryStep 116 = .ok (.imul, 1) := by decide +kernel
theorem d_M_unaryStep_117 : decode b_M_unaryStep 117 = .ok (.laload, 1) := by decide +kernel
theorem d_M_unaryStep_118 : decode b_M_unaryStep 118 = .ok (.lconst 0, 1) := by decide +kernel
theorem d_M_unaryStep_119 : decode b_M_unaryStep 119 = .ok (.lcmp, 1) := by decide +kernel
theorem d_M_unaryStep_120 : decode b_M_unaryStep 120 = .ok (.ifCond .ne 5, 3) := by decide +kernel
theorem d_M_unaryStep_123 : decode b_M_unaryStep 123 = .ok (.iconst 0, 1) := by decide +kernel
theorem d_M_unaryStep_124 : decode b_M_unaryStep 124 = .ok (.ireturn, 1) := by decide +kernel
theorem d_M_unaryStep_125 : decode b_M_unaryStep 125 = .ok (.aload_n 0, 1) := by decide +kernel
theorem d_M_unaryStep_126 : decode b_M_unaryStep 126 = .ok (.getfield 29, 3) := by decide +kernel
theorem d_M_unaryStep_129 : decode b_M_unaryStep 129 = .ok (.iconst 3, 1) := by decide +kernel
theorem d_M_unaryStep_130 : decode b_M_unaryStep 130 = .ok (.iload_n 1, 1) := by decide +kernel
theorem d_M_unaryStep_131 : decode b_M_unaryStep 131 = .ok (.imul, 1) := by decide +kernel
theorem d_M_unaryStep_132 : decode b_M_unaryStep 132 = .ok (.lconst 0, 1) := by decide +kernel
theorem d_M_unaryStep_133 : decode b_M_unaryStep 133 = .ok (.lastore, 1) := by decide +kernel
theorem d_M_unaryStep_134 : decode b_M_unaryStep 134 = .ok (.aload_n 0, 1) := by decide +kernel
theorem d_M_unaryStep_135 : decode b_M_unaryStep 135 = .ok (.iload_n 1, 1) := by decide +kernel
theorem d_M_unaryStep_136 : decode b_M_unaryStep 136 = .ok (.iconst 0, 1) := by decide +kernel
theorem d_M_unaryStep_137 : decode b_M_unaryStep 137 = .ok (.iconst 1, 1) := by decide +kernel
theorem d_M_unaryStep_138 : decode b_M_unaryStep 138 = .ok (.invokevirtual 115, 3) := by decide +kernel
theorem d_M_unaryStep_141 : decode b_M_unaryStep 141 = .ok (.ireturn, 1) := by decide +kernel
theorem d_M_unaryStep_142 : decode b_M_unaryStep 142 = .ok (.aload_n 0, 1) := by decide +kernel
theorem d_M_unaryStep_143 : decode b_M_unaryStep 143 = .ok (.getfield 29, 3) := by decide +kernel
theorem d_M_unaryStep_146 : decode b_M_unaryStep 146 = .ok (.iconst 3, 1) := by decide +kernel
theorem d_M_unaryStep_147 : decode b_M_unaryStep 147 = .ok (.iload_n 1, 1) := by decide +kernel
theorem d_M_unaryStep_148 : decode b_M_unaryStep 148 = .ok (.imul, 1) := by decide +kernel
theorem d_M_unaryStep_149 : decode b_M_unaryStep 149 = .ok (.lconst 1, 1) := by decide +kernel
theorem d_M_unaryStep_150 : decode b_M_unaryStep 150 = .ok (.lastore, 1) := by decide +kernel
theorem d_M_unaryStep_151 : decode b_M_unaryStep 151 = .ok (.iload_n 3, 1) := by decide +kernel
theorem d_M_unaryStep_152 : decode b_M_unaryStep 152 = .ok (.ifCond .ne 18, 3) := by decide +kernel
theorem d_M_unaryStep_155 : decode b_M_unaryStep 155 = .ok (.aload_n 0, 1) := by decide +kernel
theorem d_M_unaryStep_156 : decode b_M_unaryStep 156 = .ok (.getfield 33, 3) := by decide +kernel
theorem d_M_unaryStep_159 : decode b_M_unaryStep 159 = .ok (.aload_n 0, 1) := by decide +kernel
theorem d_M_unaryStep_160 : decode b_M_unaryStep 160 = .ok (.getfield 13, 3) := by decide +kernel
theorem d_M_unaryStep_163 : decode b_M_unaryStep 163 = .ok (.iload_n 1, 1) := by decide +kernel
theorem d_M_unaryStep_164 : decode b_M_unaryStep 164 = .ok (.iaload, 1) := by decide +kernel
theorem d_M_unaryStep_165 : decode b_M_unaryStep 165 = .ok (.aload_n 0, 1) := by decide +kernel
theorem d_M_unaryStep_166 : decode b_M_unaryStep 166 = .ok (.getfield 76, 3) := by decide +kernel
theorem d_M_unaryStep_169 : decode b_M_unaryStep 169 = .ok (.iastore, 1) := by decide +kernel
theorem d_M_unaryStep_170 : decode b_M_unaryStep 170 = .ok (.iload_n 3, 1) := by decide +kernel
theorem d_M_unaryStep_171 : decode b_M_unaryStep 171 = .ok (.iconst 1, 1) := by decide +kernel
theorem d_M_unaryStep_172 : decode b_M_unaryStep 172 = .ok (.if_icmp .ne 43, 3) := by decide +kernel
theorem d_M_unaryStep_175 : decode b_M_unaryStep 175 = .ok (.aload_n 0, 1) := by decide +kernel
theorem d_M_unaryStep_176 : decode b_M_unaryStep 176 = .ok (.getfield 73, 3) := by decide +kernel
theorem d_M_unaryStep_179 : decode b_M_unaryStep 179 = .ok (.bipush 32, 2) := by decide +kernel
theorem d_M_unaryStep_181 : decode b_M_unaryStep 181 = .ok (.if_icmp .ne 11, 3) := by decide +kernel
theorem d_M_unaryStep_184 : decode b_M_unaryStep 184 = .ok (.aload_n 0, 1) := by decide +kernel
theorem d_M_unaryStep_185 : decode b_M_unaryStep 185 = .ok (.bipush (-6), 2) := by decide +kernel
theorem d_M_unaryStep_187 : decode b_M_unaryStep 187 = .ok (.putfield 79, 3) := by decide +kernel
theorem d_M_unaryStep_190 : decode b_M_unaryStep 190 = .ok (.iconst 0, 1) := by decide +kernel
theorem d_M_unaryStep_191 : decode b_M_unaryStep 191 = .ok (.ireturn, 1) := by decide +kernel
theorem d_M_unaryStep_192 : decode b_M_unaryStep 192 = .ok (.aload_n 0, 1) := by decide +kernel
theorem d_M_unaryStep_193 : decode b_M_unaryStep 193 = .ok (.getfield 36, 3) := by decide +kernel
theorem d_M_unaryStep_196 : decode b_M_unaryStep 196 = .ok (.aload_n 0, 1) := by decide +kernel
theorem d_M_unaryStep_197 : decode b_M_unaryStep 197 = .ok (.getfield 73, 3) := by decide +kernel
theorem d_M_unaryStep_200 : decode b_M_unaryStep 200 = .ok (.aload_n 0, 1) := by decide +kernel
theorem d_M_unaryStep_201 : decode b_M_unaryStep 201 = .ok (.getfield 76, 3) := by decide +kernel
theorem d_M_unaryStep_204 : decode b_M_unaryStep 204 = .ok (.iastore, 1) := by decide +kernel
theorem d_M_unaryStep_205 : decode b_M_unaryStep 205 = .ok (.aload_n 0, 1) := by decide +kernel
theorem d_M_unaryStep_206 : decode b_M_unaryStep 206 = .ok (.dup, 1) := by decide +kernel
theorem d_M_unaryStep_207 : decode b_M_unaryStep 207 = .ok (.getfield 73, 3) := by decide +kernel
theorem d_M_unaryStep_210 : decode b_M_unaryStep 210 = .ok (.iconst 1, 1) := by decide +kernel
theorem d_M_unaryStep_211 : decode b_M_unaryStep 211 = .ok (.iadd, 1) := by decide +kernel
theorem d_M_unaryStep_212 : decode b_M_unaryStep 212 = .ok (.putfield 73, 3) := by decide +kernel
theorem d_M_unaryStep_215 : decode b_M_unaryStep 215 = .ok (.iconst 1, 1) := by decide +kernel
theorem d_M_unaryStep_216 : decode b_M_unaryStep 216 = .ok (.ireturn, 1) := by decide +kernel
theorem d_M_pairStep_0 : decode b_M_pairStep 0 = .ok (.iload_n 2, 1) := by decide +kernel
theorem d_M_pairStep_1 : decode b_M_pairStep 1 = .ok (.ifCond .ne 30, 3) := by decide +kernel
theorem d_M_pairStep_4 : decode b_M_pairStep 4 = .ok (.aload_n 0, 1) := by decide +kernel
theorem d_M_pairStep_5 : decode b_M_pairStep 5 = .ok (.getfield 26, 3) := by decide +kernel
theorem d_M_pairStep_8 : decode b_M_pairStep 8 = .ok (.iload_n 1, 1) := by decide +kernel
theorem d_M_pairStep_9 : decode b_M_pairStep 9 = .ok (.iaload, 1) := by decide +kernel
theorem d_M_pairStep_10 : decode b_M_pairStep 10 = .ok (.ifCond .ne 13, 3) := by decide +kernel
theorem d_M_pairStep_13 : decode b_M_pairStep 13 = .ok (.aload_n 0, 1) := by decide +kernel
theorem d_M_pairStep_14 : decode b_M_pairStep 14 = .ok (.iload_n 1, 1) := by decide +kernel
theorem d_M_pairStep_15 : decode b_M_pairStep 15 = .ok (.iconst 0, 1) := by decide +kernel
theorem d_M_pairStep_16 : decode b_M_pairStep 16 = .ok (.iconst 1, 1) := by decide +kernel
theorem d_M_pairStep_17 : decode b_M_pairStep 17 = .ok (.invokevirtual 115, 3) := by decide +kernel
theorem d_M_pairStep_20 : decode b_M_pairStep 20 = .ok (.goto 10, 3) := by decide +kernel
theorem d_M_pairStep_23 : decode b_M_pairStep 23 = .ok (.aload_n 0, 1) := by decide +kernel
theorem d_M_pairStep_24 : decode b_M_pairStep 24 = .ok (.iload_n 1, 1) := by decide +kernel
theorem d_M_pairStep_25 : decode b_M_pairStep 25 = .ok (.iconst 1, 1) := by decide +kernel
theorem d_M_pairStep_26 : decode b_M_pairStep 26 = .ok (.iconst 2, 1) := by decide +kernel
theorem d_M_pairStep_27 : decode b_M_pairStep 27 = .ok (.invokevirtual 89, 3) := by decide +kernel
theorem d_M_pairStep_30 : decode b_M_pairStep 30 = .ok (.ireturn, 1) := by decide +kernel
theorem d_M_pairStep_31 : decode b_M_pairStep 31 = .ok (.aload_n 0, 1) := by decide +kernel
theorem d_M_pairStep_32 : decode b_M_pairStep 32 = .ok (.getfield 26, 3) := by decide +kernel
theorem d_M_pairStep_35 : decode b_M_pairStep 35 = .ok (.iload_n 1, 1) := by decide +kernel
theorem d_M_pairStep_36 : decode b_M_pairStep 36 = .ok (.iaload, 1) := by decide +kernel
theorem d_M_pairStep_37 : decode b_M_pairStep 37 = .ok (.iconst 1, 1) := by decide +kernel
theorem d_M_pairStep_38 : decode b_M_pairStep 38 = .ok (.if_icmp .ne 31, 3) := by decide +kernel
theorem d_M_pairStep_41 : decode b_M_pairStep 41 = .ok (.iload_n 2, 1) := by decide +kernel
theorem d_M_pairStep_42 : decode b_M_pairStep 42 = .ok (.iconst 2, 1) := by decide +kernel
theorem d_M_pairStep_43 : decode b_M_pairStep 43 = .ok (.if_icmp .ne 5, 3) := by decide +kernel
theorem d_M_pairStep_46 : decode b_M_pairStep 46 = .ok (.iconst 0, 1) := by decide +kernel
theorem d_M_pairStep_47 : decode b_M_pairStep 47 = .ok (.ireturn, 1) := by decide +kernel
theorem d_M_pairStep_48 : decode b_M_pairStep 48 = .ok (.aload_n 0, 1) := by decide +kernel
theorem d_M_pairStep_49 : decode b_M_pairStep 49 = .ok (.getfield 29, 3) := by decide +kernel
theorem d_M_pairStep_52 : decode b_M_pairStep 52 = .ok (.iconst 3, 1) := by decide +kernel
theorem d_M_pairStep_53 : decode b_M_pairStep 53 = .ok (.iload_n 1, 1) := by decide +kernel
theorem d_M_pairStep_54 : decode b_M_pairStep 54 = .ok (.imul, 1) := by decide +kernel
theorem d_M_pairStep_55 : decode b_M_pairStep 55 = .ok (.aload_n 0, 1) := by decide +kernel
theorem d_M_pairStep_56 : decode b_M_pairStep 56 = .ok (.getfield 76, 3) := by decide +kernel
theorem d_M_pairStep_59 : decode b_M_pairStep 59 = .ok (.i2l, 1) := by decide +kernel
theorem d_M_pairStep_60 : decode b_M_pairStep 60 = .ok (.lastore, 1) := by decide +kernel
theorem d_M_pairStep_61 : decode b_M_pairStep 61 = .ok (.aload_n 0, 1) := by decide +kernel
theorem d_M_pairStep_62 : decode b_M_pairStep 62 = .ok (.iload_n 1, 1) := by decide +kernel
theorem d_M_pairStep_63 : decode b_M_pairStep 63 = .ok (.iconst 1, 1) := by decide +kernel
theorem d_M_pairStep_64 : decode b_M_pairStep 64 = .ok (.iconst 2, 1) := by decide +kernel
theorem d_M_pairStep_65 : decode b_M_pairStep 65 = .ok (.invokevirtual 115, 3) := by decide +kernel
theorem d_M_pairStep_68 : decode b_M_pairStep 68 = .ok (.ireturn, 1) := by decide +kernel
theorem d_M_pairStep_69 : decode b_M_pairStep 69 = .ok (.iload_n 2, 1) := by decide +kernel
theorem d_M_pairStep_70 : decode b_M_pairStep 70 = .ok (.iconst 2, 1) := by decide +kernel
theorem d_M_pairStep_71 : decode b_M_pairStep 71 = .ok (.if_icmp .ne 11, 3) := by decide +kernel
theorem d_M_pairStep_74 : decode b_M_pairStep 74 = .ok (.aload_n 0, 1) := by decide +kernel
theorem d_M_pairStep_75 : decode b_M_pairStep 75 = .ok (.iload_n 1, 1) := by decide +kernel
theorem d_M_pairStep_76 : decode b_M_pairStep 76 = .ok (.iconst 0, 1) := by decide +kernel
theorem d_M_pairStep_77 : decode b_M_pairStep 77 = .ok (.iconst 1, 1) := by decide +kernel
theorem d_M_pairStep_78 : decode b_M_pairStep 78 = .ok (.invokevirtual 89, 3) := by decide +kernel
theorem d_M_pairStep_81 : decode b_M_pairStep 81 = .ok (.ireturn, 1) := by decide +kernel
theorem d_M_pairStep_82 : decode b_M_pairStep 82 = .ok (.aload_n 0, 1) := by decide +kernel
theorem d_M_pairStep_83 : decode b_M_pairStep 83 = .ok (.getfield 7, 3) := by decide +kernel
theorem d_M_pairStep_86 : decode b_M_pairStep 86 = .ok (.iload_n 1, 1) := by decide +kernel
theorem d_M_pairStep_87 : decode b_M_pairStep 87 = .ok (.iaload, 1) := by decide +kernel
theorem d_M_pairStep_88 : decode b_M_pairStep 88 = .ok (.bipush 20, 2) := by decide +kernel
theorem d_M_pairStep_90 : decode b_M_pairStep 90 = .ok (.isub, 1) := by decide +kernel
theorem d_M_pairStep_91 : decode b_M_pairStep 91 = .ok (.istore_n 3, 1) := by decide +kernel
theorem d_M_pairStep_92 : decode b_M_pairStep 92 = .ok (.aload_n 0, 1) := by decide +kernel
theorem d_M_pairStep_93 : decode b_M_pairStep 93 = .ok (.getfield 29, 3) := by decide +kernel
theorem d_M_pairStep_96 : decode b_M_pairStep 96 = .ok (.iconst 3, 1) := by decide +kernel
theorem d_M_pairStep_97 : decode b_M_pairStep 97 = .ok (.iload_n 1, 1) := by decide +kernel
theorem d_M_pairStep_98 : decode b_M_pairStep 98 = .ok (.imul, 1) := by decide +kernel
theorem d_M_pairStep_99 : decode b_M_pairStep 99 = .ok (.laload, 1) := by decide +kernel
theorem d_M_pairStep_100 : decode b_M_pairStep 100 = .ok (.lstore 4, 2) := by decide +kernel
theorem d_M_pairStep_102 : decode b_M_pairStep 102 = .ok (.iload_n 3, 1) := by decide +kernel
theorem d_M_pairStep_103 : decode b_M_pairStep 103 = .ok (.iconst 5, 1) := by decide +kernel
theorem d_M_pairStep_104 : decode b_M_pairStep 104 = .ok (.if_icmp .lt 87, 3) := by decide +kernel
theorem d_M_pairStep_107 : decode b_M_pairStep 107 = .ok (.iload_n 3, 1) := by decide +kernel
theorem d_M_pairStep_108 : decode b_M_pairStep 108 = .ok (.iconst 5, 1) := by decide +kernel
theorem d_M_pairStep_109 : decode b_M_pairStep 109 = .ok (.if_icmp .ne 22, 3) := by decide +kernel
theorem d_M_pairStep_112 : decode b_M_pairStep 112 = .ok (.lload 4, 2) := by decide +kernel
theorem d_M_pairStep_114 : decode b_M_pairStep 114 = .ok (.aload_n 0, 1) := by decide +kernel
theorem d_M_pairStep_115 : decode b_M_pairStep 115 = .ok (.getfield 76, 3) := by decide +kernel
theorem d_M_pairStep_118 : decode b_M_pairStep 118 = .ok (.i2l, 1) := by decide +kernel
theorem d_M_pairStep_119 : decode b_M_pairStep 119 = .ok (.lcmp, 1) := by decide +kernel
theorem d_M_pairStep_120 : decode b_M_pairStep 120 = .ok (.ifCond .ge 7, 3) := by decide +kernel
theorem d_M_pairStep_123 : decode b_M_pairStep 123 = .ok (.iconst 1, 1) := by decide +kernel
theorem d_M_pairStep_124 : decode b_M_pairStep 124 = .ok (.goto 48, 3) := by decide +kernel
theorem d_M_pairStep_127 : decode b_M_pairStep 127 = .ok (.iconst 0, 1) := by decide +kernel
theorem d_M_pairStep_128 : decode b_M_pairStep 128 = .ok (.goto 44, 3) := by decide +kernel
theorem d_M_pairStep_131 : decode b_M_pairStep 131 = .ok (.iload_n 3, 1) := by decide +kernel
theorem d_M_pairStep_132 : decode b_M_pairStep 132 = .ok (.bipush 6, 2) := by decide +kernel
theorem d_M_pairStep_134 : decode b_M_pairStep 134 = .ok (.if_icmp .ne 22, 3) := by decide +kernel
theorem d_M_pairStep_137 : decode b_M_pairStep 137 = .ok (.lload 4, 2) := by decide +kernel
theorem d_M_pairStep_139 : decode b_M_pairStep 139 = .ok (.aload_n 0, 1) := by decide +kernel
theorem d_M_pairStep_140 : decode b_M_pairStep 140 = .ok (.getfield 76, 3) := by decide +kernel
theorem d_M_pairStep_143 : decode b_M_pairStep 143 = .ok (.i2l, 1) := by decide +kernel
theorem d_M_pairStep_144 : decode b_M_pairStep 144 = .ok (.lcmp, 1) := by decide +kernel
theorem d_M_pairStep_145 : decode b_M_pairStep 145 = .ok (.ifCond .ne 7, 3) := by decide +kernel
theorem d_M_pairStep_148 : decode b_M_pairStep 148 = .ok (.iconst 1, 1) := by decide +kernel
theorem d_M_pairStep_149 : decode b_M_pairStep 149 = .ok (.goto 23, 3) := by decide +kernel
theorem d_M_pairStep_152 : decode b_M_pairStep 152 = .ok (.iconst 0, 1) := by decide +kernel
theorem d_M_pairStep_153 : decode b_M_pairStep 153 = .ok (.goto 19, 3) := by decide +kernel
theorem d_M_pairStep_156 : decode b_M_pairStep 156 = .ok (.lload 4, 2) := by decide +kernel
theorem d_M_pairStep_158 : decode b_M_pairStep 158 = .ok (.aload_n 0, 1) := by decide +kernel
theorem d_M_pairStep_159 : decode b_M_pairStep 159 = .ok (.getfield 76, 3) := by decide +kernel
theorem d_M_pairStep_162 : decode b_M_pairStep 162 = .ok (.i2l, 1) := by decide +kernel
theorem d_M_pairStep_163 : decode b_M_pairStep 163 = .ok (.lcmp, 1) := by decide +kernel
theorem d_M_pairStep_164 : decode b_M_pairStep 164 = .ok (.ifCond .eq 7, 3) := by decide +kernel
theorem d_M_pairStep_167 : decode b_M_pairStep 167 = .ok (.iconst 1, 1) := by decide +kernel
theorem d_M_pairStep_168 : decode b_M_pairStep 168 = .ok (.goto 4, 3) := by decide +kernel
theorem d_M_pairStep_171 : decode b_M_pairStep 171 = .ok (.iconst 0, 1) := by decide +kernel
theorem d_M_pairStep_172 : decode b_M_pairStep 172 = .ok (.istore 6, 2) := by decide +kernel
theorem d_M_pairStep_174 : decode b_M_pairStep 174 = .ok (.iload 6, 2) := by decide +kernel
theorem d_M_pairStep_176 : decode b_M_pairStep 176 = .ok (.ifCond .eq 7, 3) := by decide +kernel
theorem d_M_pairStep_179 : decode b_M_pairStep 179 = .ok (.iconst 1, 1) := by decide +kernel
theorem d_M_pairStep_180 : decode b_M_pairStep 180 = .ok (.goto 10, 3) := by decide +kernel
theorem d_M_pairStep_183 : decode b_M_pairStep 183 = .ok (.aload_n 0, 1) := by decide +kernel
theorem d_M_pairStep_184 : decode b_M_pairStep 184 = .ok (.iload_n 1, 1) := by decide +kernel
theorem d_M_pairStep_185 : decode b_M_pairStep 185 = .ok (.iconst 1, 1) := by decide +kernel
theorem d_M_pairStep_186 : decode b_M_pairStep 186 = .ok (.iconst 2, 1) := by decide +kernel
theorem d_M_pairStep_187 : decode b_M_pairStep 187 = .ok (.invokevirtual 89, 3) := by decide +kernel
theorem d_M_pairStep_190 : decode b_M_pairStep 190 = .ok (.ireturn, 1) := by decide +kernel
theorem d_M_pairStep_191 : decode b_M_pairStep 191 = .ok (.iload_n 3, 1) := by decide +kernel
theorem d_M_pairStep_192 : decode b_M_pairStep 192 = .ok (.iconst 1, 1) := by decide +kernel
theorem d_M_pairStep_193 : decode b_M_pairStep 193 = .ok (.if_icmp .ne 5, 3) := by decide +kernel
theorem d_M_pairStep_196 : decode b_M_pairStep 196 = .ok (.iconst 1, 1) := by decide +kernel
theorem d_M_pairStep_197 : decode b_M_pairStep 197 = .ok (.ireturn, 1) := by decide +kernel
theorem d_M_pairStep_198 : decode b_M_pairStep 198 = .ok (.iload_n 3, 1) := by decide +kernel
theorem d_M_pairStep_199 : decode b_M_pairStep 199 = .ok (.iconst 2, 1) := by decide +kernel
theorem d_M_pairStep_200 : decode b_M_pairStep 200 = .ok (.if_icmp .ne 14, 3) := by decide +kernel
theorem d_M_pairStep_203 : decode b_M_pairStep 203 = .ok (.lload 4, 2) := by decide +kernel
theorem d_M_pairStep_205 : decode b_M_pairStep 205 = .ok (.aload_n 0, 1) := by decide +kernel
theorem d_M_pairStep_206 : decode b_M_pairStep 206 = .ok (.getfield 76, 3) := by decide +kernel
theorem d_M_pairStep_209 : decode b_M_pairStep 209 = .ok (.i2l, 1) := by decide +kernel
theorem d_M_pairStep_210 : decode b_M_pairStep 210 = .ok (.ladd, 1) := by decide +kernel
theorem d_M_pairStep_211 : decode b_M_pairStep 211 = .ok (.goto 27, 3) := by decide +kernel
theorem d_M_pairStep_214 : decode b_M_pairStep 214 = .ok (.iload_n 3, 1) := by decide +kernel
theorem d_M_pairStep_215 : decode b_M_pairStep 215 = .ok (.iconst 3, 1) := by decide +kernel
theorem d_M_pairStep_216 : decode b_M_pairStep 216 = .ok (.if_icmp .ne 14, 3) := by decide +kernel
theorem d_M_pairStep_219 : decode b_M_pairStep 219 = .ok (.lload 4, 2) := by decide +kernel
theorem d_M_pairStep_221 : decode b_M_pairStep 221 = .ok (.aload_n 0, 1) := by decide +kernel
theorem d_M_pairStep_222 : decode b_M_pairStep 222 = .ok (.getfield 76, 3) := by decide +kernel
theorem d_M_pairStep_225 : decode b_M_pairStep 225 = .ok (.i2l, 1) := by decide +kernel
theorem d_M_pairStep_226 : decode b_M_pairStep 226 = .ok (.lsub, 1) := by decide +kernel
theorem d_M_pairStep_227 : decode b_M_pairStep 227 = .ok (.goto 11, 3) := by decide +kernel
theorem d_M_pairStep_230 : decode b_M_pairStep 230 = .ok (.lload 4, 2) := by decide +kernel
theorem d_M_pairStep_232 : decode b_M_pairStep 232 = .ok (.aload_n 0, 1) := by decide +kernel
theorem d_M_pairStep_233 : decode b_M_pairStep 233 = .ok (.getfield 76, 3) := by decide +kernel
theorem d_M_pairStep_236 : decode b_M_pairStep 236 = .ok (.i2l, 1) := by decide +kernel
theorem d_M_pairStep_237 : decode b_M_pairStep 237 = .ok (.lmul, 1) := by decide +kernel
theorem d_M_pairStep_238 : decode b_M_pairStep 238 = .ok (.lstore 6, 2) := by decide +kernel
theorem d_M_pairStep_240 : decode b_M_pairStep 240 = .ok (.lload 6, 2) := by decide +kernel
theorem d_M_pairStep_242 : decode b_M_pairStep 242 = .ok (.lload 6, 2) := by decide +kernel
theorem d_M_pairStep_244 : decode b_M_pairStep 244 = .ok (.l2i, 1) := by decide +kernel
theorem d_M_pairStep_245 : decode b_M_pairStep 245 = .ok (.i2l, 1) := by decide +kernel
theorem d_M_pairStep_246 : decode b_M_pairStep 246 = .ok (.lcmp, 1) := by decide +kernel
theorem d_M_pairStep_247 : decode b_M_pairStep 247 = .ok (.ifCond .eq 11, 3) := by decide +kernel
theorem d_M_pairStep_250 : decode b_M_pairStep 250 = .ok (.aload_n 0, 1) := by decide +kernel
theorem d_M_pairStep_251 : decode b_M_pairStep 251 = .ok (.bipush (-4), 2) := by decide +kernel
theorem d_M_pairStep_253 : decode b_M_pairStep 253 = .ok (.putfield 79, 3) := by decide +kernel
theorem d_M_pairStep_256 : decode b_M_pairStep 256 = .ok (.iconst 0, 1) := by decide +kernel
theorem d_M_pairStep_257 : decode b_M_pairStep 257 = .ok (.ireturn, 1) := by decide +kernel
theorem d_M_pairStep_258 : decode b_M_pairStep 258 = .ok (.aload_n 0, 1) := by decide +kernel
theorem d_M_pairStep_259 : decode b_M_pairStep 259 = .ok (.lload 6, 2) := by decide +kernel
theorem d_M_pairStep_261 : decode b_M_pairStep 261 = .ok (.l2i, 1) := by decide +kernel
theorem d_M_pairStep_262 : decode b_M_pairStep 262 = .ok (.invokevirtual 82, 3) := by decide +kernel
theorem d_M_pairStep_265 : decode b_M_pairStep 265 = .ok (.ireturn, 1) := by decide +kernel
theorem d_M_binaryStep_0 : decode b_M_binaryStep 0 = .ok (.aload_n 0, 1) := by decide +kernel
theorem d_M_binaryStep_1 : decode b_M_binaryStep 1 = .ok (.getfield 7, 3) := by decide +kernel
theorem d_M_binaryStep_4 : decode b_M_binaryStep 4 = .ok (.iload_n 1, 1) := by decide +kernel
theorem d_M_binaryStep_5 : decode b_M_binaryStep 5 = .ok (.iaload, 1) := by decide +kernel
theorem d_M_binaryStep_6 : decode b_M_binaryStep 6 = .ok (.bipush 20, 2) := by decide +kernel
theorem d_M_binaryStep_8 : decode b_M_binaryStep 8 = .ok (.isub, 1) := by decide +kernel
theorem d_M_binaryStep_9 : decode b_M_binaryStep 9 = .ok (.istore_n 3, 1) := by decide +kernel
theorem d_M_binaryStep_10 : decode b_M_binaryStep 10 = .ok (.aload_n 0, 1) := by decide +kernel
theorem d_M_binaryStep_11 : decode b_M_binaryStep 11 = .ok (.getfield 26, 3) := by decide +kernel
theorem d_M_binaryStep_14 : decode b_M_binaryStep 14 = .ok (.iload_n 1, 1) := by decide +kernel
theorem d_M_binaryStep_15 : decode b_M_binaryStep 15 = .ok (.iaload, 1) := by decide +kernel
theorem d_M_binaryStep_16 : decode b_M_binaryStep 16 = .ok (.istore 4, 2) := by decide +kernel
theorem d_M_binaryStep_18 : decode b_M_binaryStep 18 = .ok (.iload_n 3, 1) := by decide +kernel
theorem d_M_binaryStep_19 : decode b_M_binaryStep 19 = .ok (.ifCond .ne 59, 3) := by decide +kernel
theorem d_M_binaryStep_22 : decode b_M_binaryStep 22 = .ok (.iload_n 2, 1) := by decide +kernel
theorem d_M_binaryStep_23 : decode b_M_binaryStep 23 = .ok (.ifCond .ne 30, 3) := by decide +kernel
theorem d_M_binaryStep_26 : decode b_M_binaryStep 26 = .ok (.iload 4, 2) := by decide +kernel
theorem d_M_binaryStep_28 : decode b_M_binaryStep 28 = .ok (.ifCond .ne 13, 3) := by decide +kernel
theorem d_M_binaryStep_31 : decode b_M_binaryStep 31 = .ok (.aload_n 0, 1) := by decide +kernel
theorem d_M_binaryStep_32 : decode b_M_binaryStep 32 = .ok (.iload_n 1, 1) := by decide +kernel
theorem d_M_binaryStep_33 : decode b_M_binaryStep 33 = .ok (.iconst 0, 1) := by decide +kernel
theorem d_M_binaryStep_34 : decode b_M_binaryStep 34 = .ok (.iconst 1, 1) := by decide +kernel
theorem d_M_binaryStep_35 : decode b_M_binaryStep 35 = .ok (.invokevirtual 115, 3) := by decide +kernel
theorem d_M_binaryStep_38 : decode b_M_binaryStep 38 = .ok (.goto 14, 3) := by decide +kernel
theorem d_M_binaryStep_41 : decode b_M_binaryStep 41 = .ok (.aload_n 0, 1) := by decide +kernel
theorem d_M_binaryStep_42 : decode b_M_binaryStep 42 = .ok (.iload_n 1, 1) := by decide +kernel
theorem d_M_binaryStep_43 : decode b_M_binaryStep 43 = .ok (.iload 4, 2) := by decide +kernel
theorem d_M_binaryStep_45 : decode b_M_binaryStep 45 = .ok (.iconst 1, 1) := by decide +kernel
theorem d_M_binaryStep_46 : decode b_M_binaryStep 46 = .ok (.isub, 1) := by decide +kernel
theorem d_M_binaryStep_47 : decode b_M_binaryStep 47 = .ok (.iload 4, 2) := by decide +kernel
theorem d_M_binaryStep_49 : decode b_M_binaryStep 49 = .ok (.invokevirtual 89, 3) := by decide +kernel
theorem d_M_binaryStep_52 : decode b_M_binaryStep 52 = .ok (.ireturn, 1) := by decide +kernel
theorem d_M_binaryStep_53 : decode b_M_binaryStep 53 = .ok (.iload_n 2, 1) := by decide +kernel
theorem d_M_binaryStep_54 : decode b_M_binaryStep 54 = .ok (.iconst 1, 1) := by decide +kernel
theorem d_M_binaryStep_55 : decode b_M_binaryStep 55 = .ok (.if_icmp .ne 5, 3) := by decide +kernel
theorem d_M_binaryStep_58 : decode b_M_binaryStep 58 = .ok (.iconst 1, 1) := by decide +kernel
theorem d_M_binaryStep_59 : decode b_M_binaryStep 59 = .ok (.ireturn, 1) := by decide +kernel
theorem d_M_binaryStep_60 : decode b_M_binaryStep 60 = .ok (.iload 4, 2) := by decide +kernel
theorem d_M_binaryStep_62 : decode b_M_binaryStep 62 = .ok (.iconst 1, 1) := by decide +kernel
theorem d_M_binaryStep_63 : decode b_M_binaryStep 63 = .ok (.if_icmp .ne 13, 3) := by decide +kernel
theorem d_M_binaryStep_66 : decode b_M_binaryStep 66 = .ok (.aload_n 0, 1) := by decide +kernel
theorem d_M_binaryStep_67 : decode b_M_binaryStep 67 = .ok (.iload_n 1, 1) := by decide +kernel
theorem d_M_binaryStep_68 : decode b_M_binaryStep 68 = .ok (.iconst 1, 1) := by decide +kernel
theorem d_M_binaryStep_69 : decode b_M_binaryStep 69 = .ok (.iconst 2, 1) := by decide +kernel
theorem d_M_binaryStep_70 : decode b_M_binaryStep 70 = .ok (.invokevirtual 115, 3) := by decide +kernel
theorem d_M_binaryStep_73 : decode b_M_binaryStep 73 = .ok (.goto 4, 3) := by decide +kernel
theorem d_M_binaryStep_76 : decode b_M_binaryStep 76 = .ok (.iconst 0, 1) := by decide +kernel
theorem d_M_binaryStep_77 : decode b_M_binaryStep 77 = .ok (.ireturn, 1) := by decide +kernel
theorem d_M_binaryStep_78 : decode b_M_binaryStep 78 = .ok (.iload_n 3, 1) := by decide +kernel
theorem d_M_binaryStep_79 : decode b_M_binaryStep 79 = .ok (.bipush 8, 2) := by decide +kernel
theorem d_M_binaryStep_81 : decode b_M_binaryStep 81 = .ok (.if_icmp .ne 10, 3) := by decide +kernel
theorem d_M_binaryStep_84 : decode b_M_binaryStep 84 = .ok (.aload_n 0, 1) := by decide +kernel
theorem d_M_binaryStep_85 : decode b_M_binaryStep 85 = .ok (.iload_n 1, 1) := by decide +kernel
theorem d_M_binaryStep_86 : decode b_M_binaryStep 86 = .ok (.iload_n 2, 1) := by decide +kernel
theorem d_M_binaryStep_87 : decode b_M_binaryStep 87 = .ok (.invokevirtual 118, 3) := by decide +kernel
theorem d_M_binaryStep_90 : decode b_M_binaryStep 90 = .ok (.ireturn, 1) := by decide +kernel
theorem d_M_binaryStep_91 : decode b_M_binaryStep 91 = .ok (.iload_n 3, 1) := by decide +kernel
theorem d_M_binaryStep_92 : decode b_M_binaryStep 92 = .ok (.bipush 9, 2) := by decide +kernel
theorem d_M_binaryStep_94 : decode b_M_binaryStep 94 = .ok (.if_icmp .ne 46, 3) := by decide +kernel
theorem d_M_binaryStep_97 : decode b_M_binaryStep 97 = .ok (.iload_n 2, 1) := by decide +kernel
theorem d_M_binaryStep_98 : decode b_M_binaryStep 98 = .ok (.ifCond .ne 11, 3) := by decide +kernel
theorem d_M_binaryStep_101 : decode b_M_binaryStep 101 = .ok (.aload_n 0, 1) := by decide +kernel
theorem d_M_binaryStep_102 : decode b_M_binaryStep 102 = .ok (.iload_n 1, 1) := by decide +kernel
theorem d_M_binaryStep_103 : decode b_M_binaryStep 103 = .ok (.iconst 0, 1) := by decide +kernel
theorem d_M_binaryStep_104 : decode b_M_binaryStep 104 = .ok (.iconst 1, 1) := by decide +kernel
theorem d_M_binaryStep_105 : decode b_M_binaryStep 105 = .ok (.invokevirtual 115, 3) := by decide +kernel
theorem d_M_binaryStep_108 : decode b_M_binaryStep 108 = .ok (.ireturn, 1) := by decide +kernel
theorem d_M_binaryStep_109 : decode b_M_binaryStep 109 = .ok (.iload 4, 2) := by decide +kernel
theorem d_M_binaryStep_111 : decode b_M_binaryStep 111 = .ok (.iconst 2, 1) := by decide +kernel
theorem d_M_binaryStep_112 : decode b_M_binaryStep 112 = .ok (.if_icmp .ne 11, 3) := by decide +kernel
theorem d_M_binaryStep_115 : decode b_M_binaryStep 115 = .ok (.aload_n 0, 1) := by decide +kernel
theorem d_M_binaryStep_116 : decode b_M_binaryStep 116 = .ok (.iload_n 1, 1) := by decide +kernel
theorem d_M_binaryStep_117 : decode b_M_binaryStep 117 = .ok (.iconst 0, 1) := by decide +kernel
theorem d_M_binaryStep_118 : decode b_M_binaryStep 118 = .ok (.iconst 1, 1) := by decide +kernel
theorem d_M_binaryStep_119 : decode b_M_binaryStep 119 = .ok (.invokevirtual 89, 3) := by decide +kernel
theorem d_M_binaryStep_122 : decode b_M_binaryStep 122 = .ok (.ireturn, 1) := by decide +kernel
theorem d_M_binaryStep_123 : decode b_M_binaryStep 123 = .ok (.iload_n 2, 1) := by decide +kernel
theorem d_M_binaryStep_124 : decode b_M_binaryStep 124 = .ok (.iconst 1, 1) := by decide +kernel
theorem d_M_binaryStep_125 : decode b_M_binaryStep 125 = .ok (.if_icmp .ne 13, 3) := by decide +kernel
theorem d_M_binaryStep_128 : decode b_M_binaryStep 128 = .ok (.aload_n 0, 1) := by decide +kernel
theorem d_M_binaryStep_129 : decode b_M_binaryStep 129 = .ok (.iload_n 1, 1) := by decide +kernel
theorem d_M_binaryStep_130 : decode b_M_binaryStep 130 = .ok (.iconst 1, 1) := by decide +kernel
theorem d_M_binaryStep_131 : decode b_M_binaryStep 131 = .ok (.iconst 2, 1) := by decide +kernel
theorem d_M_binaryStep_132 : decode b_M_binaryStep 132 = .ok (.invokevirtual 115, 3) := by decide +kernel
theorem d_M_binaryStep_135 : decode b_M_binaryStep 135 = .ok (.goto 4, 3) := by decide +kernel
theorem d_M_binaryStep_138 : decode b_M_binaryStep 138 = .ok (.iconst 0, 1) := by decide +kernel
theorem d_M_binaryStep_139 : decode b_M_binaryStep 139 = .ok (.ireturn, 1) := by decide +kernel
theorem d_M_binaryStep_140 : decode b_M_binaryStep 140 = .ok (.iload_n 3, 1) := by decide +kernel
theorem d_M_binaryStep_141 : decode b_M_binaryStep 141 = .ok (.bipush 10, 2) := by decide +kernel
end
section
/-! decoded rows -/
theorem d_M_binaryStep_143 : decode b_M_binaryStep 143 = .ok (.if_icmp .ne 38, 3) := by decide +kernel
theorem d_M_binaryStep_146 : decode b_M_binaryStep 146 = .ok (.iload_n 2, 1) := by decide +kernel
theorem d_M_binaryStep_147 : decode b_M_binaryStep 147 = .ok (.ifCond .eq 9, 3) := by decide +kernel
theorem d_M_binaryStep_150 : decode b_M_binaryStep 150 = .ok (.iload 4, 2) := by decide +kernel
theorem d_M_binaryStep_152 : decode b_M_binaryStep 152 = .ok (.iconst 2, 1) := by decide +kernel
theorem d_M_binaryStep_153 : decode b_M_binaryStep 153 = .ok (.if_icmp .ne 11, 3) := by decide +kernel
theorem d_M_binaryStep_156 : decode b_M_binaryStep 156 = .ok (.aload_n 0, 1) := by decide +kernel
theorem d_M_binaryStep_157 : decode b_M_binaryStep 157 = .ok (.iload_n 1, 1) := by decide +kernel
theorem d_M_binaryStep_158 : decode b_M_binaryStep 158 = .ok (.iconst 0, 1) := by decide +kernel
theorem d_M_binaryStep_159 : decode b_M_binaryStep 159 = .ok (.iconst 1, 1) := by decide +kernel
theorem d_M_binaryStep_160 : decode b_M_binaryStep 160 = .ok (.invokevirtual 115, 3) := by decide +kernel
theorem d_M_binaryStep_163 : decode b_M_binaryStep 163 = .ok (.ireturn, 1) := by decide +kernel
theorem d_M_binaryStep_164 : decode b_M_binaryStep 164 = .ok (.iload_n 2, 1) := by decide +kernel
theorem d_M_binaryStep_165 : decode b_M_binaryStep 165 = .ok (.iconst 1, 1) := by decide +kernel
theorem d_M_binaryStep_166 : decode b_M_binaryStep 166 = .ok (.if_icmp .ne 13, 3) := by decide +kernel
theorem d_M_binaryStep_169 : decode b_M_binaryStep 169 = .ok (.aload_n 0, 1) := by decide +kernel
theorem d_M_binaryStep_170 : decode b_M_binaryStep 170 = .ok (.iload_n 1, 1) := by decide +kernel
theorem d_M_binaryStep_171 : decode b_M_binaryStep 171 = .ok (.iconst 1, 1) := by decide +kernel
theorem d_M_binaryStep_172 : decode b_M_binaryStep 172 = .ok (.iconst 2, 1) := by decide +kernel
theorem d_M_binaryStep_173 : decode b_M_binaryStep 173 = .ok (.invokevirtual 115, 3) := by decide +kernel
theorem d_M_binaryStep_176 : decode b_M_binaryStep 176 = .ok (.goto 4, 3) := by decide +kernel
theorem d_M_binaryStep_179 : decode b_M_binaryStep 179 = .ok (.iconst 0, 1) := by decide +kernel
theorem d_M_binaryStep_180 : decode b_M_binaryStep 180 = .ok (.ireturn, 1) := by decide +kernel
theorem d_M_binaryStep_181 : decode b_M_binaryStep 181 = .ok (.iload_n 2, 1) := by decide +kernel
theorem d_M_binaryStep_182 : decode b_M_binaryStep 182 = .ok (.ifCond .ne 26, 3) := by decide +kernel
theorem d_M_binaryStep_185 : decode b_M_binaryStep 185 = .ok (.iload 4, 2) := by decide +kernel
theorem d_M_binaryStep_187 : decode b_M_binaryStep 187 = .ok (.ifCond .ne 13, 3) := by decide +kernel
theorem d_M_binaryStep_190 : decode b_M_binaryStep 190 = .ok (.aload_n 0, 1) := by decide +kernel
theorem d_M_binaryStep_191 : decode b_M_binaryStep 191 = .ok (.iload_n 1, 1) := by decide +kernel
theorem d_M_binaryStep_192 : decode b_M_binaryStep 192 = .ok (.iconst 0, 1) := by decide +kernel
theorem d_M_binaryStep_193 : decode b_M_binaryStep 193 = .ok (.iconst 1, 1) := by decide +kernel
theorem d_M_binaryStep_194 : decode b_M_binaryStep 194 = .ok (.invokevirtual 115, 3) := by decide +kernel
theorem d_M_binaryStep_197 : decode b_M_binaryStep 197 = .ok (.goto 10, 3) := by decide +kernel
theorem d_M_binaryStep_200 : decode b_M_binaryStep 200 = .ok (.aload_n 0, 1) := by decide +kernel
theorem d_M_binaryStep_201 : decode b_M_binaryStep 201 = .ok (.iload_n 1, 1) := by decide +kernel
theorem d_M_binaryStep_202 : decode b_M_binaryStep 202 = .ok (.iconst 1, 1) := by decide +kernel
theorem d_M_binaryStep_203 : decode b_M_binaryStep 203 = .ok (.iconst 2, 1) := by decide +kernel
theorem d_M_binaryStep_204 : decode b_M_binaryStep 204 = .ok (.invokevirtual 89, 3) := by decide +kernel
theorem d_M_binaryStep_207 : decode b_M_binaryStep 207 = .ok (.ireturn, 1) := by decide +kernel
theorem d_M_binaryStep_208 : decode b_M_binaryStep 208 = .ok (.iload 4, 2) := by decide +kernel
theorem d_M_binaryStep_210 : decode b_M_binaryStep 210 = .ok (.iconst 1, 1) := by decide +kernel
theorem d_M_binaryStep_211 : decode b_M_binaryStep 211 = .ok (.if_icmp .ne 11, 3) := by decide +kernel
theorem d_M_binaryStep_214 : decode b_M_binaryStep 214 = .ok (.aload_n 0, 1) := by decide +kernel
theorem d_M_binaryStep_215 : decode b_M_binaryStep 215 = .ok (.iload_n 1, 1) := by decide +kernel
theorem d_M_binaryStep_216 : decode b_M_binaryStep 216 = .ok (.iconst 1, 1) := by decide +kernel
theorem d_M_binaryStep_217 : decode b_M_binaryStep 217 = .ok (.iconst 2, 1) := by decide +kernel
theorem d_M_binaryStep_218 : decode b_M_binaryStep 218 = .ok (.invokevirtual 115, 3) := by decide +kernel
theorem d_M_binaryStep_221 : decode b_M_binaryStep 221 = .ok (.ireturn, 1) := by decide +kernel
theorem d_M_binaryStep_222 : decode b_M_binaryStep 222 = .ok (.iload_n 2, 1) := by decide +kernel
theorem d_M_binaryStep_223 : decode b_M_binaryStep 223 = .ok (.iconst 1, 1) := by decide +kernel
theorem d_M_binaryStep_224 : decode b_M_binaryStep 224 = .ok (.if_icmp .ne 7, 3) := by decide +kernel
theorem d_M_binaryStep_227 : decode b_M_binaryStep 227 = .ok (.iconst 1, 1) := by decide +kernel
theorem d_M_binaryStep_228 : decode b_M_binaryStep 228 = .ok (.goto 4, 3) := by decide +kernel
theorem d_M_binaryStep_231 : decode b_M_binaryStep 231 = .ok (.iconst 0, 1) := by decide +kernel
theorem d_M_binaryStep_232 : decode b_M_binaryStep 232 = .ok (.ireturn, 1) := by decide +kernel
theorem d_M_limit_0 : decode b_M_limit 0 = .ok (.iload_n 2, 1) := by decide +kernel
theorem d_M_limit_1 : decode b_M_limit 1 = .ok (.ifCond .ne 20, 3) := by decide +kernel
theorem d_M_limit_4 : decode b_M_limit 4 = .ok (.aload_n 0, 1) := by decide +kernel
theorem d_M_limit_5 : decode b_M_limit 5 = .ok (.getfield 26, 3) := by decide +kernel
theorem d_M_limit_8 : decode b_M_limit 8 = .ok (.iload_n 1, 1) := by decide +kernel
theorem d_M_limit_9 : decode b_M_limit 9 = .ok (.iaload, 1) := by decide +kernel
theorem d_M_limit_10 : decode b_M_limit 10 = .ok (.ifCond .ne 11, 3) := by decide +kernel
theorem d_M_limit_13 : decode b_M_limit 13 = .ok (.aload_n 0, 1) := by decide +kernel
theorem d_M_limit_14 : decode b_M_limit 14 = .ok (.iload_n 1, 1) := by decide +kernel
theorem d_M_limit_15 : decode b_M_limit 15 = .ok (.iconst 1, 1) := by decide +kernel
theorem d_M_limit_16 : decode b_M_limit 16 = .ok (.iconst 1, 1) := by decide +kernel
theorem d_M_limit_17 : decode b_M_limit 17 = .ok (.invokevirtual 115, 3) := by decide +kernel
theorem d_M_limit_20 : decode b_M_limit 20 = .ok (.ireturn, 1) := by decide +kernel
theorem d_M_limit_21 : decode b_M_limit 21 = .ok (.iload_n 2, 1) := by decide +kernel
theorem d_M_limit_22 : decode b_M_limit 22 = .ok (.ifCond .ne 34, 3) := by decide +kernel
theorem d_M_limit_25 : decode b_M_limit 25 = .ok (.aload_n 0, 1) := by decide +kernel
theorem d_M_limit_26 : decode b_M_limit 26 = .ok (.getfield 29, 3) := by decide +kernel
theorem d_M_limit_29 : decode b_M_limit 29 = .ok (.iconst 3, 1) := by decide +kernel
theorem d_M_limit_30 : decode b_M_limit 30 = .ok (.iload_n 1, 1) := by decide +kernel
theorem d_M_limit_31 : decode b_M_limit 31 = .ok (.imul, 1) := by decide +kernel
theorem d_M_limit_32 : decode b_M_limit 32 = .ok (.laload, 1) := by decide +kernel
theorem d_M_limit_33 : decode b_M_limit 33 = .ok (.lconst 0, 1) := by decide +kernel
theorem d_M_limit_34 : decode b_M_limit 34 = .ok (.lcmp, 1) := by decide +kernel
theorem d_M_limit_35 : decode b_M_limit 35 = .ok (.ifCond .le 13, 3) := by decide +kernel
theorem d_M_limit_38 : decode b_M_limit 38 = .ok (.aload_n 0, 1) := by decide +kernel
theorem d_M_limit_39 : decode b_M_limit 39 = .ok (.iload_n 1, 1) := by decide +kernel
theorem d_M_limit_40 : decode b_M_limit 40 = .ok (.iconst 0, 1) := by decide +kernel
theorem d_M_limit_41 : decode b_M_limit 41 = .ok (.iconst 2, 1) := by decide +kernel
theorem d_M_limit_42 : decode b_M_limit 42 = .ok (.invokevirtual 89, 3) := by decide +kernel
theorem d_M_limit_45 : decode b_M_limit 45 = .ok (.goto 10, 3) := by decide +kernel
theorem d_M_limit_48 : decode b_M_limit 48 = .ok (.aload_n 0, 1) := by decide +kernel
theorem d_M_limit_49 : decode b_M_limit 49 = .ok (.iload_n 1, 1) := by decide +kernel
theorem d_M_limit_50 : decode b_M_limit 50 = .ok (.iconst 1, 1) := by decide +kernel
theorem d_M_limit_51 : decode b_M_limit 51 = .ok (.iconst 1, 1) := by decide +kernel
theorem d_M_limit_52 : decode b_M_limit 52 = .ok (.invokevirtual 89, 3) := by decide +kernel
theorem d_M_limit_55 : decode b_M_limit 55 = .ok (.ireturn, 1) := by decide +kernel
theorem d_M_limit_56 : decode b_M_limit 56 = .ok (.aload_n 0, 1) := by decide +kernel
theorem d_M_limit_57 : decode b_M_limit 57 = .ok (.getfield 26, 3) := by decide +kernel
theorem d_M_limit_60 : decode b_M_limit 60 = .ok (.iload_n 1, 1) := by decide +kernel
theorem d_M_limit_61 : decode b_M_limit 61 = .ok (.iaload, 1) := by decide +kernel
theorem d_M_limit_62 : decode b_M_limit 62 = .ok (.iconst 2, 1) := by decide +kernel
theorem d_M_limit_63 : decode b_M_limit 63 = .ok (.if_icmp .ne 30, 3) := by decide +kernel
theorem d_M_limit_66 : decode b_M_limit 66 = .ok (.iload_n 2, 1) := by decide +kernel
theorem d_M_limit_67 : decode b_M_limit 67 = .ok (.iconst 2, 1) := by decide +kernel
theorem d_M_limit_68 : decode b_M_limit 68 = .ok (.if_icmp .ne 11, 3) := by decide +kernel
theorem d_M_limit_71 : decode b_M_limit 71 = .ok (.aload_n 0, 1) := by decide +kernel
theorem d_M_limit_72 : decode b_M_limit 72 = .ok (.iload_n 1, 1) := by decide +kernel
theorem d_M_limit_73 : decode b_M_limit 73 = .ok (.iconst 1, 1) := by decide +kernel
theorem d_M_limit_74 : decode b_M_limit 74 = .ok (.iconst 1, 1) := by decide +kernel
theorem d_M_limit_75 : decode b_M_limit 75 = .ok (.invokevirtual 89, 3) := by decide +kernel
theorem d_M_limit_78 : decode b_M_limit 78 = .ok (.ireturn, 1) := by decide +kernel
theorem d_M_limit_79 : decode b_M_limit 79 = .ok (.aload_n 0, 1) := by decide +kernel
theorem d_M_limit_80 : decode b_M_limit 80 = .ok (.getfield 29, 3) := by decide +kernel
theorem d_M_limit_83 : decode b_M_limit 83 = .ok (.iconst 3, 1) := by decide +kernel
theorem d_M_limit_84 : decode b_M_limit 84 = .ok (.iload_n 1, 1) := by decide +kernel
theorem d_M_limit_85 : decode b_M_limit 85 = .ok (.imul, 1) := by decide +kernel
theorem d_M_limit_86 : decode b_M_limit 86 = .ok (.dup2, 1) := by decide +kernel
theorem d_M_limit_87 : decode b_M_limit 87 = .ok (.laload, 1) := by decide +kernel
theorem d_M_limit_88 : decode b_M_limit 88 = .ok (.lconst 1, 1) := by decide +kernel
theorem d_M_limit_89 : decode b_M_limit 89 = .ok (.lsub, 1) := by decide +kernel
theorem d_M_limit_90 : decode b_M_limit 90 = .ok (.lastore, 1) := by decide +kernel
theorem d_M_limit_91 : decode b_M_limit 91 = .ok (.iconst 1, 1) := by decide +kernel
theorem d_M_limit_92 : decode b_M_limit 92 = .ok (.ireturn, 1) := by decide +kernel
theorem d_M_limit_93 : decode b_M_limit 93 = .ok (.iload_n 2, 1) := by decide +kernel
theorem d_M_limit_94 : decode b_M_limit 94 = .ok (.iconst 2, 1) := by decide +kernel
theorem d_M_limit_95 : decode b_M_limit 95 = .ok (.if_icmp .ne 5, 3) := by decide +kernel
theorem d_M_limit_98 : decode b_M_limit 98 = .ok (.iconst 0, 1) := by decide +kernel
theorem d_M_limit_99 : decode b_M_limit 99 = .ok (.ireturn, 1) := by decide +kernel
theorem d_M_limit_100 : decode b_M_limit 100 = .ok (.aload_n 0, 1) := by decide +kernel
theorem d_M_limit_101 : decode b_M_limit 101 = .ok (.getfield 29, 3) := by decide +kernel
theorem d_M_limit_104 : decode b_M_limit 104 = .ok (.iconst 3, 1) := by decide +kernel
theorem d_M_limit_105 : decode b_M_limit 105 = .ok (.iload_n 1, 1) := by decide +kernel
theorem d_M_limit_106 : decode b_M_limit 106 = .ok (.imul, 1) := by decide +kernel
theorem d_M_limit_107 : decode b_M_limit 107 = .ok (.aload_n 0, 1) := by decide +kernel
theorem d_M_limit_108 : decode b_M_limit 108 = .ok (.getfield 76, 3) := by decide +kernel
theorem d_M_limit_111 : decode b_M_limit 111 = .ok (.i2l, 1) := by decide +kernel
theorem d_M_limit_112 : decode b_M_limit 112 = .ok (.lastore, 1) := by decide +kernel
theorem d_M_limit_113 : decode b_M_limit 113 = .ok (.aload_n 0, 1) := by decide +kernel
theorem d_M_limit_114 : decode b_M_limit 114 = .ok (.getfield 76, 3) := by decide +kernel
theorem d_M_limit_117 : decode b_M_limit 117 = .ok (.ifCond .le 13, 3) := by decide +kernel
theorem d_M_limit_120 : decode b_M_limit 120 = .ok (.aload_n 0, 1) := by decide +kernel
theorem d_M_limit_121 : decode b_M_limit 121 = .ok (.iload_n 1, 1) := by decide +kernel
theorem d_M_limit_122 : decode b_M_limit 122 = .ok (.iconst 0, 1) := by decide +kernel
theorem d_M_limit_123 : decode b_M_limit 123 = .ok (.iconst 2, 1) := by decide +kernel
theorem d_M_limit_124 : decode b_M_limit 124 = .ok (.invokevirtual 115, 3) := by decide +kernel
theorem d_M_limit_127 : decode b_M_limit 127 = .ok (.goto 10, 3) := by decide +kernel
theorem d_M_limit_130 : decode b_M_limit 130 = .ok (.aload_n 0, 1) := by decide +kernel
theorem d_M_limit_131 : decode b_M_limit 131 = .ok (.iload_n 1, 1) := by decide +kernel
theorem d_M_limit_132 : decode b_M_limit 132 = .ok (.iconst 1, 1) := by decide +kernel
theorem d_M_limit_133 : decode b_M_limit 133 = .ok (.iconst 1, 1) := by decide +kernel
theorem d_M_limit_134 : decode b_M_limit 134 = .ok (.invokevirtual 89, 3) := by decide +kernel
theorem d_M_limit_137 : decode b_M_limit 137 = .ok (.ireturn, 1) := by decide +kernel
theorem d_M_toStep_0 : decode b_M_toStep 0 = .ok (.aload_n 0, 1) := by decide +kernel
theorem d_M_toStep_1 : decode b_M_toStep 1 = .ok (.getfield 26, 3) := by decide +kernel
theorem d_M_toStep_4 : decode b_M_toStep 4 = .ok (.iload_n 1, 1) := by decide +kernel
theorem d_M_toStep_5 : decode b_M_toStep 5 = .ok (.iaload, 1) := by decide +kernel
theorem d_M_toStep_6 : decode b_M_toStep 6 = .ok (.istore_n 3, 1) := by decide +kernel
theorem d_M_toStep_7 : decode b_M_toStep 7 = .ok (.iload_n 2, 1) := by decide +kernel
theorem d_M_toStep_8 : decode b_M_toStep 8 = .ok (.ifCond .ne 23, 3) := by decide +kernel
theorem d_M_toStep_11 : decode b_M_toStep 11 = .ok (.iload_n 3, 1) := by decide +kernel
theorem d_M_toStep_12 : decode b_M_toStep 12 = .ok (.ifCond .ne 13, 3) := by decide +kernel
theorem d_M_toStep_15 : decode b_M_toStep 15 = .ok (.aload_n 0, 1) := by decide +kernel
theorem d_M_toStep_16 : decode b_M_toStep 16 = .ok (.iload_n 1, 1) := by decide +kernel
theorem d_M_toStep_17 : decode b_M_toStep 17 = .ok (.iconst 0, 1) := by decide +kernel
theorem d_M_toStep_18 : decode b_M_toStep 18 = .ok (.iconst 1, 1) := by decide +kernel
theorem d_M_toStep_19 : decode b_M_toStep 19 = .ok (.invokevirtual 115, 3) := by decide +kernel
theorem d_M_toStep_22 : decode b_M_toStep 22 = .ok (.goto 8, 3) := by decide +kernel
theorem d_M_toStep_25 : decode b_M_toStep 25 = .ok (.aload_n 0, 1) := by decide +kernel
theorem d_M_toStep_26 : decode b_M_toStep 26 = .ok (.iload_n 1, 1) := by decide +kernel
theorem d_M_toStep_27 : decode b_M_toStep 27 = .ok (.invokevirtual 121, 3) := by decide +kernel
theorem d_M_toStep_30 : decode b_M_toStep 30 = .ok (.ireturn, 1) := by decide +kernel
theorem d_M_toStep_31 : decode b_M_toStep 31 = .ok (.iload_n 2, 1) := by decide +kernel
theorem d_M_toStep_32 : decode b_M_toStep 32 = .ok (.iconst 2, 1) := by decide +kernel
theorem d_M_toStep_33 : decode b_M_toStep 33 = .ok (.if_icmp .ne 24, 3) := by decide +kernel
theorem d_M_toStep_36 : decode b_M_toStep 36 = .ok (.iload_n 3, 1) := by decide +kernel
theorem d_M_toStep_37 : decode b_M_toStep 37 = .ok (.iconst 1, 1) := by decide +kernel
theorem d_M_toStep_38 : decode b_M_toStep 38 = .ok (.if_icmp .ne 7, 3) := by decide +kernel
theorem d_M_toStep_41 : decode b_M_toStep 41 = .ok (.iconst 0, 1) := by decide +kernel
theorem d_M_toStep_42 : decode b_M_toStep 42 = .ok (.goto 14, 3) := by decide +kernel
theorem d_M_toStep_45 : decode b_M_toStep 45 = .ok (.aload_n 0, 1) := by decide +kernel
theorem d_M_toStep_46 : decode b_M_toStep 46 = .ok (.iload_n 1, 1) := by decide +kernel
theorem d_M_toStep_47 : decode b_M_toStep 47 = .ok (.iload_n 3, 1) := by decide +kernel
theorem d_M_toStep_48 : decode b_M_toStep 48 = .ok (.iconst 2, 1) := by decide +kernel
theorem d_M_toStep_49 : decode b_M_toStep 49 = .ok (.isub, 1) := by decide +kernel
theorem d_M_toStep_50 : decode b_M_toStep 50 = .ok (.iload_n 3, 1) := by decide +kernel
theorem d_M_toStep_51 : decode b_M_toStep 51 = .ok (.iconst 1, 1) := by decide +kernel
theorem d_M_toStep_52 : decode b_M_toStep 52 = .ok (.isub, 1) := by decide +kernel
theorem d_M_toStep_53 : decode b_M_toStep 53 = .ok (.invokevirtual 89, 3) := by decide +kernel
theorem d_M_toStep_56 : decode b_M_toStep 56 = .ok (.ireturn, 1) := by decide +kernel
theorem d_M_toStep_57 : decode b_M_toStep 57 = .ok (.iload_n 3, 1) := by decide +kernel
theorem d_M_toStep_58 : decode b_M_toStep 58 = .ok (.iconst 1, 1) := by decide +kernel
theorem d_M_toStep_59 : decode b_M_toStep 59 = .ok (.if_icmp .ne 21, 3) := by decide +kernel
theorem d_M_toStep_62 : decode b_M_toStep 62 = .ok (.aload_n 0, 1) := by decide +kernel
theorem d_M_toStep_63 : decode b_M_toStep 63 = .ok (.getfield 13, 3) := by decide +kernel
theorem d_M_toStep_66 : decode b_M_toStep 66 = .ok (.iload_n 1, 1) := by decide +kernel
theorem d_M_toStep_67 : decode b_M_toStep 67 = .ok (.aload_n 0, 1) := by decide +kernel
theorem d_M_toStep_68 : decode b_M_toStep 68 = .ok (.getfield 76, 3) := by decide +kernel
theorem d_M_toStep_71 : decode b_M_toStep 71 = .ok (.iastore, 1) := by decide +kernel
theorem d_M_toStep_72 : decode b_M_toStep 72 = .ok (.aload_n 0, 1) := by decide +kernel
theorem d_M_toStep_73 : decode b_M_toStep 73 = .ok (.iload_n 1, 1) := by decide +kernel
theorem d_M_toStep_74 : decode b_M_toStep 74 = .ok (.iconst 1, 1) := by decide +kernel
theorem d_M_toStep_75 : decode b_M_toStep 75 = .ok (.iconst 2, 1) := by decide +kernel
theorem d_M_toStep_76 : decode b_M_toStep 76 = .ok (.invokevirtual 115, 3) := by decide +kernel
theorem d_M_toStep_79 : decode b_M_toStep 79 = .ok (.ireturn, 1) := by decide +kernel
theorem d_M_toStep_80 : decode b_M_toStep 80 = .ok (.aload_n 0, 1) := by decide +kernel
theorem d_M_toStep_81 : decode b_M_toStep 81 = .ok (.getfield 29, 3) := by decide +kernel
theorem d_M_toStep_84 : decode b_M_toStep 84 = .ok (.iconst 3, 1) := by decide +kernel
theorem d_M_toStep_85 : decode b_M_toStep 85 = .ok (.iload_n 1, 1) := by decide +kernel
theorem d_M_toStep_86 : decode b_M_toStep 86 = .ok (.imul, 1) := by decide +kernel
theorem d_M_toStep_87 : decode b_M_toStep 87 = .ok (.iload_n 3, 1) := by decide +kernel
theorem d_M_toStep_88 : decode b_M_toStep 88 = .ok (.iadd, 1) := by decide +kernel
theorem d_M_toStep_89 : decode b_M_toStep 89 = .ok (.iconst 1, 1) := by decide +kernel
theorem d_M_toStep_90 : decode b_M_toStep 90 = .ok (.isub, 1) := by decide +kernel
theorem d_M_toStep_91 : decode b_M_toStep 91 = .ok (.aload_n 0, 1) := by decide +kernel
theorem d_M_toStep_92 : decode b_M_toStep 92 = .ok (.getfield 76, 3) := by decide +kernel
theorem d_M_toStep_95 : decode b_M_toStep 95 = .ok (.i2l, 1) := by decide +kernel
theorem d_M_toStep_96 : decode b_M_toStep 96 = .ok (.lastore, 1) := by decide +kernel
theorem d_M_toStep_97 : decode b_M_toStep 97 = .ok (.iload_n 3, 1) := by decide +kernel
theorem d_M_toStep_98 : decode b_M_toStep 98 = .ok (.iconst 2, 1) := by decide +kernel
theorem d_M_toStep_99 : decode b_M_toStep 99 = .ok (.if_icmp .ne 11, 3) := by decide +kernel
theorem d_M_toStep_102 : decode b_M_toStep 102 = .ok (.aload_n 0, 1) := by decide +kernel
theorem d_M_toStep_103 : decode b_M_toStep 103 = .ok (.iload_n 1, 1) := by decide +kernel
theorem d_M_toStep_104 : decode b_M_toStep 104 = .ok (.iconst 2, 1) := by decide +kernel
theorem d_M_toStep_105 : decode b_M_toStep 105 = .ok (.iconst 3, 1) := by decide +kernel
theorem d_M_toStep_106 : decode b_M_toStep 106 = .ok (.invokevirtual 115, 3) := by decide +kernel
theorem d_M_toStep_109 : decode b_M_toStep 109 = .ok (.ireturn, 1) := by decide +kernel
theorem d_M_toStep_110 : decode b_M_toStep 110 = .ok (.aload_n 0, 1) := by decide +kernel
theorem d_M_toStep_111 : decode b_M_toStep 111 = .ok (.getfield 76, 3) := by decide +kernel
theorem d_M_toStep_114 : decode b_M_toStep 114 = .ok (.ifCond .ne 11, 3) := by decide +kernel
theorem d_M_toStep_117 : decode b_M_toStep 117 = .ok (.aload_n 0, 1) := by decide +kernel
theorem d_M_toStep_118 : decode b_M_toStep 118 = .ok (.bipush (-3), 2) := by decide +kernel
theorem d_M_toStep_120 : decode b_M_toStep 120 = .ok (.putfield 79, 3) := by decide +kernel
theorem d_M_toStep_123 : decode b_M_toStep 123 = .ok (.iconst 0, 1) := by decide +kernel
theorem d_M_toStep_124 : decode b_M_toStep 124 = .ok (.ireturn, 1) := by decide +kernel
theorem d_M_toStep_125 : decode b_M_toStep 125 = .ok (.aload_n 0, 1) := by decide +kernel
theorem d_M_toStep_126 : decode b_M_toStep 126 = .ok (.getfield 29, 3) := by decide +kernel
theorem d_M_toStep_129 : decode b_M_toStep 129 = .ok (.iconst 3, 1) := by decide +kernel
theorem d_M_toStep_130 : decode b_M_toStep 130 = .ok (.iload_n 1, 1) := by decide +kernel
theorem d_M_toStep_131 : decode b_M_toStep 131 = .ok (.imul, 1) := by decide +kernel
theorem d_M_toStep_132 : decode b_M_toStep 132 = .ok (.aload_n 0, 1) := by decide +kernel
theorem d_M_toStep_133 : decode b_M_toStep 133 = .ok (.getfield 13, 3) := by decide +kernel
theorem d_M_toStep_136 : decode b_M_toStep 136 = .ok (.iload_n 1, 1) := by decide +kernel
theorem d_M_toStep_137 : decode b_M_toStep 137 = .ok (.iaload, 1) := by decide +kernel
theorem d_M_toStep_138 : decode b_M_toStep 138 = .ok (.i2l, 1) := by decide +kernel
theorem d_M_toStep_139 : decode b_M_toStep 139 = .ok (.lastore, 1) := by decide +kernel
theorem d_M_toStep_140 : decode b_M_toStep 140 = .ok (.aload_n 0, 1) := by decide +kernel
theorem d_M_toStep_141 : decode b_M_toStep 141 = .ok (.iload_n 1, 1) := by decide +kernel
theorem d_M_toStep_142 : decode b_M_toStep 142 = .ok (.invokevirtual 121, 3) := by decide +kernel
theorem d_M_toStep_145 : decode b_M_toStep 145 = .ok (.ireturn, 1) := by decide +kernel
theorem d_M_onward_0 : decode b_M_onward 0 = .ok (.aload_n 0, 1) := by decide +kernel
theorem d_M_onward_1 : decode b_M_onward 1 = .ok (.getfield 29, 3) := by decide +kernel
theorem d_M_onward_4 : decode b_M_onward 4 = .ok (.iconst 3, 1) := by decide +kernel
theorem d_M_onward_5 : decode b_M_onward 5 = .ok (.iload_n 1, 1) := by decide +kernel
theorem d_M_onward_6 : decode b_M_onward 6 = .ok (.imul, 1) := by decide +kernel
theorem d_M_onward_7 : decode b_M_onward 7 = .ok (.laload, 1) := by decide +kernel
theorem d_M_onward_8 : decode b_M_onward 8 = .ok (.lstore_n 2, 1) := by decide +kernel
theorem d_M_onward_9 : decode b_M_onward 9 = .ok (.aload_n 0, 1) := by decide +kernel
theorem d_M_onward_10 : decode b_M_onward 10 = .ok (.getfield 29, 3) := by decide +kernel
theorem d_M_onward_13 : decode b_M_onward 13 = .ok (.iconst 3, 1) := by decide +kernel
theorem d_M_onward_14 : decode b_M_onward 14 = .ok (.iload_n 1, 1) := by decide +kernel
theorem d_M_onward_15 : decode b_M_onward 15 = .ok (.imul, 1) := by decide +kernel
theorem d_M_onward_16 : decode b_M_onward 16 = .ok (.iconst 2, 1) := by decide +kernel
theorem d_M_onward_17 : decode b_M_onward 17 = .ok (.iadd, 1) := by decide +kernel
theorem d_M_onward_18 : decode b_M_onward 18 = .ok (.laload, 1) := by decide +kernel
theorem d_M_onward_19 : decode b_M_onward 19 = .ok (.lstore 4, 2) := by decide +kernel
theorem d_M_onward_21 : decode b_M_onward 21 = .ok (.lload 4, 2) := by decide +kernel
theorem d_M_onward_23 : decode b_M_onward 23 = .ok (.lconst 0, 1) := by decide +kernel
theorem d_M_onward_24 : decode b_M_onward 24 = .ok (.lcmp, 1) := by decide +kernel
theorem d_M_onward_25 : decode b_M_onward 25 = .ok (.ifCond .le 21, 3) := by decide +kernel
theorem d_M_onward_28 : decode b_M_onward 28 = .ok (.lload_n 2, 1) := by decide +kernel
theorem d_M_onward_29 : decode b_M_onward 29 = .ok (.aload_n 0, 1) := by decide +kernel
theorem d_M_onward_30 : decode b_M_onward 30 = .ok (.getfield 29, 3) := by decide +kernel
theorem d_M_onward_33 : decode b_M_onward 33 = .ok (.iconst 3, 1) := by decide +kernel
theorem d_M_onward_34 : decode b_M_onward 34 = .ok (.iload_n 1, 1) := by decide +kernel
theorem d_M_onward_35 : decode b_M_onward 35 = .ok (.imul, 1) := by decide +kernel
theorem d_M_onward_36 : decode b_M_onward 36 = .ok (.iconst 1, 1) := by decide +kernel
theorem d_M_onward_37 : decode b_M_onward 37 = .ok (.iadd, 1) := by decide +kernel
theorem d_M_onward_38 : decode b_M_onward 38 = .ok (.laload, 1) := by decide +kernel
theorem d_M_onward_39 : decode b_M_onward 39 = .ok (.lcmp, 1) := by decide +kernel
theorem d_M_onward_40 : decode b_M_onward 40 = .ok (.ifCond .le 29, 3) := by decide +kernel
theorem d_M_onward_43 : decode b_M_onward 43 = .ok (.goto 18, 3) := by decide +kernel
theorem d_M_onward_46 : decode b_M_onward 46 = .ok (.lload_n 2, 1) := by decide +kernel
theorem d_M_onward_47 : decode b_M_onward 47 = .ok (.aload_n 0, 1) := by decide +kernel
theorem d_M_onward_48 : decode b_M_onward 48 = .ok (.getfield 29, 3) := by decide +kernel
theorem d_M_onward_51 : decode b_M_onward 51 = .ok (.iconst 3, 1) := by decide +kernel
theorem d_M_onward_52 : decode b_M_onward 52 = .ok (.iload_n 1, 1) := by decide +kernel
theorem d_M_onward_53 : decode b_M_onward 53 = .ok (.imul, 1) := by decide +kernel
theorem d_M_onward_54 : decode b_M_onward 54 = .ok (.iconst 1, 1) := by decide +kernel
theorem d_M_onward_55 : decode b_M_onward 55 = .ok (.iadd, 1) := by decide +kernel
theorem d_M_onward_56 : decode b_M_onward 56 = .ok (.laload, 1) := by decide +kernel
theorem d_M_onward_57 : decode b_M_onward 57 = .ok (.lcmp, 1) := by decide +kernel
theorem d_M_onward_58 : decode b_M_onward 58 = .ok (.ifCond .ge 11, 3) := by decide +kernel
theorem d_M_onward_61 : decode b_M_onward 61 = .ok (.aload_n 0, 1) := by decide +kernel
theorem d_M_onward_62 : decode b_M_onward 62 = .ok (.iload_n 1, 1) := by decide +kernel
theorem d_M_onward_63 : decode b_M_onward 63 = .ok (.iconst 2, 1) := by decide +kernel
theorem d_M_onward_64 : decode b_M_onward 64 = .ok (.iconst 3, 1) := by decide +kernel
theorem d_M_onward_65 : decode b_M_onward 65 = .ok (.invokevirtual 89, 3) := by decide +kernel
theorem d_M_onward_68 : decode b_M_onward 68 = .ok (.ireturn, 1) := by decide +kernel
theorem d_M_onward_69 : decode b_M_onward 69 = .ok (.aload_n 0, 1) := by decide +kernel
theorem d_M_onward_70 : decode b_M_onward 70 = .ok (.getfield 26, 3) := by decide +kernel
theorem d_M_onward_73 : decode b_M_onward 73 = .ok (.iload_n 1, 1) := by decide +kernel
theorem d_M_onward_74 : decode b_M_onward 74 = .ok (.iconst 4, 1) := by decide +kernel
theorem d_M_onward_75 : decode b_M_onward 75 = .ok (.iastore, 1) := by decide +kernel
theorem d_M_onward_76 : decode b_M_onward 76 = .ok (.aload_n 0, 1) := by decide +kernel
theorem d_M_onward_77 : decode b_M_onward 77 = .ok (.getfield 29, 3) := by decide +kernel
theorem d_M_onward_80 : decode b_M_onward 80 = .ok (.iconst 3, 1) := by decide +kernel
theorem d_M_onward_81 : decode b_M_onward 81 = .ok (.iload_n 1, 1) := by decide +kernel
theorem d_M_onward_82 : decode b_M_onward 82 = .ok (.imul, 1) := by decide +kernel
theorem d_M_onward_83 : decode b_M_onward 83 = .ok (.lload_n 2, 1) := by decide +kernel
theorem d_M_onward_84 : decode b_M_onward 84 = .ok (.lload 4, 2) := by decide +kernel
theorem d_M_onward_86 : decode b_M_onward 86 = .ok (.ladd, 1) := by decide +kernel
theorem d_M_onward_87 : decode b_M_onward 87 = .ok (.lastore, 1) := by decide +kernel
theorem d_M_onward_88 : decode b_M_onward 88 = .ok (.aload_n 0, 1) := by decide +kernel
theorem d_M_onward_89 : decode b_M_onward 89 = .ok (.lload_n 2, 1) := by decide +kernel
theorem d_M_onward_90 : decode b_M_onward 90 = .ok (.l2i, 1) := by decide +kernel
theorem d_M_onward_91 : decode b_M_onward 91 = .ok (.invokevirtual 112, 3) := by decide +kernel
theorem d_M_onward_94 : decode b_M_onward 94 = .ok (.ireturn, 1) := by decide +kernel
theorem d_M_choose_0 : decode b_M_choose 0 = .ok (.aload_n 0, 1) := by decide +kernel
theorem d_M_choose_1 : decode b_M_choose 1 = .ok (.getfield 26, 3) := by decide +kernel
theorem d_M_choose_4 : decode b_M_choose 4 = .ok (.iload_n 1, 1) := by decide +kernel
theorem d_M_choose_5 : decode b_M_choose 5 = .ok (.iaload, 1) := by decide +kernel
theorem d_M_choose_6 : decode b_M_choose 6 = .ok (.istore_n 3, 1) := by decide +kernel
theorem d_M_choose_7 : decode b_M_choose 7 = .ok (.iload_n 2, 1) := by decide +kernel
theorem d_M_choose_8 : decode b_M_choose 8 = .ok (.ifCond .ne 27, 3) := by decide +kernel
theorem d_M_choose_11 : decode b_M_choose 11 = .ok (.iload_n 3, 1) := by decide +kernel
theorem d_M_choose_12 : decode b_M_choose 12 = .ok (.ifCond .ne 13, 3) := by decide +kernel
theorem d_M_choose_15 : decode b_M_choose 15 = .ok (.aload_n 0, 1) := by decide +kernel
theorem d_M_choose_16 : decode b_M_choose 16 = .ok (.iload_n 1, 1) := by decide +kernel
theorem d_M_choose_17 : decode b_M_choose 17 = .ok (.iconst 0, 1) := by decide +kernel
theorem d_M_choose_18 : decode b_M_choose 18 = .ok (.iconst 1, 1) := by decide +kernel
theorem d_M_choose_19 : decode b_M_choose 19 = .ok (.invokevirtual 115, 3) := by decide +kernel
theorem d_M_choose_22 : decode b_M_choose 22 = .ok (.goto 12, 3) := by decide +kernel
theorem d_M_choose_25 : decode b_M_choose 25 = .ok (.aload_n 0, 1) := by decide +kernel
theorem d_M_choose_26 : decode b_M_choose 26 = .ok (.iload_n 1, 1) := by decide +kernel
theorem d_M_choose_27 : decode b_M_choose 27 = .ok (.iload_n 3, 1) := by decide +kernel
theorem d_M_choose_28 : decode b_M_choose 28 = .ok (.iconst 1, 1) := by decide +kernel
theorem d_M_choose_29 : decode b_M_choose 29 = .ok (.isub, 1) := by decide +kernel
theorem d_M_choose_30 : decode b_M_choose 30 = .ok (.iload_n 3, 1) := by decide +kernel
theorem d_M_choose_31 : decode b_M_choose 31 = .ok (.invokevirtual 89, 3) := by decide +kernel
theorem d_M_choose_34 : decode b_M_choose 34 = .ok (.ireturn, 1) := by decide +kernel
theorem d_M_choose_35 : decode b_M_choose 35 = .ok (.iload_n 3, 1) := by decide +kernel
theorem d_M_choose_36 : decode b_M_choose 36 = .ok (.iconst 1, 1) := by decide +kernel
theorem d_M_choose_37 : decode b_M_choose 37 = .ok (.if_icmp .ne 26, 3) := by decide +kernel
theorem d_M_choose_40 : decode b_M_choose 40 = .ok (.iload_n 2, 1) := by decide +kernel
theorem d_M_choose_41 : decode b_M_choose 41 = .ok (.iconst 1, 1) := by decide +kernel
theorem d_M_choose_42 : decode b_M_choose 42 = .ok (.if_icmp .ne 13, 3) := by decide +kernel
theorem d_M_choose_45 : decode b_M_choose 45 = .ok (.aload_n 0, 1) := by decide +kernel
theorem d_M_choose_46 : decode b_M_choose 46 = .ok (.iload_n 1, 1) := by decide +kernel
theorem d_M_choose_47 : decode b_M_choose 47 = .ok (.iconst 1, 1) := by decide +kernel
theorem d_M_choose_48 : decode b_M_choose 48 = .ok (.iconst 2, 1) := by decide +kernel
theorem d_M_choose_49 : decode b_M_choose 49 = .ok (.invokevirtual 115, 3) := by decide +kernel
theorem d_M_choose_52 : decode b_M_choose 52 = .ok (.goto 10, 3) := by decide +kernel
theorem d_M_choose_55 : decode b_M_choose 55 = .ok (.aload_n 0, 1) := by decide +kernel
theorem d_M_choose_56 : decode b_M_choose 56 = .ok (.iload_n 1, 1) := by decide +kernel
theorem d_M_choose_57 : decode b_M_choose 57 = .ok (.iconst 2, 1) := by decide +kernel
theorem d_M_choose_58 : decode b_M_choose 58 = .ok (.iconst 3, 1) := by decide +kernel
theorem d_M_choose_59 : decode b_M_choose 59 = .ok (.invokevirtual 115, 3) := by decide +kernel
theorem d_M_choose_62 : decode b_M_choose 62 = .ok (.ireturn, 1) := by decide +kernel
theorem d_M_choose_63 : decode b_M_choose 63 = .ok (.iload_n 2, 1) := by decide +kernel
theorem d_M_choose_64 : decode b_M_choose 64 = .ok (.iconst 1, 1) := by decide +kernel
theorem d_M_choose_65 : decode b_M_choose 65 = .ok (.if_icmp .ne 7, 3) := by decide +kernel
theorem d_M_choose_68 : decode b_M_choose 68 = .ok (.iconst 1, 1) := by decide +kernel
theorem d_M_choose_69 : decode b_M_choose 69 = .ok (.goto 4, 3) := by decide +kernel
theorem d_M_choose_72 : decode b_M_choose 72 = .ok (.iconst 0, 1) := by decide +kernel
theorem d_M_choose_73 : decode b_M_choose 73 = .ok (.ireturn, 1) := by decide +kernel
theorem d_M_next_0 : decode b_M_next 0 = .ok (.aload_n 0, 1) := by decide +kernel
theorem d_M_next_1 : decode b_M_next 1 = .ok (.getfield 39, 3) := by decide +kernel
theorem d_M_next_4 : decode b_M_next 4 = .ok (.ifCond .ge 5, 3) := by decide +kernel
theorem d_M_next_7 : decode b_M_next 7 = .ok (.iconst (-1), 1) := by decide +kernel
theorem d_M_next_8 : decode b_M_next 8 = .ok (.ireturn, 1) := by decide +kernel
theorem d_M_next_9 : decode b_M_next 9 = .ok (.aload_n 0, 1) := by decide +kernel
theorem d_M_next_10 : decode b_M_next 10 = .ok (.getfield 61, 3) := by decide +kernel
theorem d_M_next_13 : decode b_M_next 13 = .ok (.iconst 2, 1) := by decide +kernel
theorem d_M_next_14 : decode b_M_next 14 = .ok (.if_icmp .eq 8, 3) := by decide +kernel
theorem d_M_next_17 : decode b_M_next 17 = .ok (.aload_n 0, 1) := by decide +kernel
theorem d_M_next_18 : decode b_M_next 18 = .ok (.getfield 61, 3) := by decide +kernel
theorem d_M_next_21 : decode b_M_next 21 = .ok (.ireturn, 1) := by decide +kernel
theorem d_M_next_22 : decode b_M_next 22 = .ok (.aload_n 0, 1) := by decide +kernel
theorem d_M_next_23 : decode b_M_next 23 = .ok (.iconst 0, 1) := by decide +kernel
theorem d_M_next_24 : decode b_M_next 24 = .ok (.putfield 79, 3) := by decide +kernel
theorem d_M_next_27 : decode b_M_next 27 = .ok (.aload_n 0, 1) := by decide +kernel
theorem d_M_next_28 : decode b_M_next 28 = .ok (.getfield 43, 3) := by decide +kernel
theorem d_M_next_31 : decode b_M_next 31 = .ok (.iconst 0, 1) := by decide +kernel
theorem d_M_next_32 : decode b_M_next 32 = .ok (.aload_n 0, 1) := by decide +kernel
theorem d_M_next_33 : decode b_M_next 33 = .ok (.getfield 39, 3) := by decide +kernel
theorem d_M_next_36 : decode b_M_next 36 = .ok (.iastore, 1) := by decide +kernel
theorem d_M_next_37 : decode b_M_next 37 = .ok (.aload_n 0, 1) := by decide +kernel
theorem d_M_next_38 : decode b_M_next 38 = .ok (.iconst 1, 1) := by decide +kernel
theorem d_M_next_39 : decode b_M_next 39 = .ok (.putfield 86, 3) := by decide +kernel
theorem d_M_next_42 : decode b_M_next 42 = .ok (.iconst 0, 1) := by decide +kernel
theorem d_M_next_43 : decode b_M_next 43 = .ok (.istore_n 1, 1) := by decide +kernel
theorem d_M_next_44 : decode b_M_next 44 = .ok (.iconst 0, 1) := by decide +kernel
theorem d_M_next_45 : decode b_M_next 45 = .ok (.istore_n 2, 1) := by decide +kernel
theorem d_M_next_46 : decode b_M_next 46 = .ok (.iload_n 2, 1) := by decide +kernel
theorem d_M_next_47 : decode b_M_next 47 = .ok (.ldc 124, 2) := by decide +kernel
theorem d_M_next_49 : decode b_M_next 49 = .ok (.if_icmp .ge 89, 3) := by decide +kernel
theorem d_M_next_52 : decode b_M_next 52 = .ok (.aload_n 0, 1) := by decide +kernel
theorem d_M_next_53 : decode b_M_next 53 = .ok (.getfield 86, 3) := by decide +kernel
theorem d_M_next_56 : decode b_M_next 56 = .ok (.ifCond .le 82, 3) := by decide +kernel
theorem d_M_next_59 : decode b_M_next 59 = .ok (.aload_n 0, 1) := by decide +kernel
theorem d_M_next_60 : decode b_M_next 60 = .ok (.getfield 43, 3) := by decide +kernel
theorem d_M_next_63 : decode b_M_next 63 = .ok (.aload_n 0, 1) := by decide +kernel
theorem d_M_next_64 : decode b_M_next 64 = .ok (.getfield 86, 3) := by decide +kernel
theorem d_M_next_67 : decode b_M_next 67 = .ok (.iconst 1, 1) := by decide +kernel
theorem d_M_next_68 : decode b_M_next 68 = .ok (.isub, 1) := by decide +kernel
theorem d_M_next_69 : decode b_M_next 69 = .ok (.iaload, 1) := by decide +kernel
theorem d_M_next_70 : decode b_M_next 70 = .ok (.istore_n 3, 1) := by decide +kernel
theorem d_M_next_71 : decode b_M_next 71 = .ok (.aload_n 0, 1) := by decide +kernel
theorem d_M_next_72 : decode b_M_next 72 = .ok (.iload_n 3, 1) := by decide +kernel
theorem d_M_next_73 : decode b_M_next 73 = .ok (.iload_n 1, 1) := by decide +kernel
theorem d_M_next_74 : decode b_M_next 74 = .ok (.invokevirtual 125, 3) := by decide +kernel
theorem d_M_next_77 : decode b_M_next 77 = .ok (.istore 4, 2) := by decide +kernel
theorem d_M_next_79 : decode b_M_next 79 = .ok (.aload_n 0, 1) := by decide +kernel
theorem d_M_next_80 : decode b_M_next 80 = .ok (.getfield 79, 3) := by decide +kernel
theorem d_M_next_83 : decode b_M_next 83 = .ok (.ifCond .eq 16, 3) := by decide +kernel
theorem d_M_next_86 : decode b_M_next 86 = .ok (.aload_n 0, 1) := by decide +kernel
theorem d_M_next_87 : decode b_M_next 87 = .ok (.aload_n 0, 1) := by decide +kernel
theorem d_M_next_88 : decode b_M_next 88 = .ok (.getfield 79, 3) := by decide +kernel
theorem d_M_next_91 : decode b_M_next 91 = .ok (.putfield 61, 3) := by decide +kernel
theorem d_M_next_94 : decode b_M_next 94 = .ok (.aload_n 0, 1) := by decide +kernel
theorem d_M_next_95 : decode b_M_next 95 = .ok (.getfield 61, 3) := by decide +kernel
theorem d_M_next_98 : decode b_M_next 98 = .ok (.ireturn, 1) := by decide +kernel
theorem d_M_next_99 : decode b_M_next 99 = .ok (.iload 4, 2) := by decide +kernel
theorem d_M_next_101 : decode b_M_next 101 = .ok (.iconst 2, 1) := by decide +kernel
theorem d_M_next_102 : decode b_M_next 102 = .ok (.if_icmp .ne 8, 3) := by decide +kernel
theorem d_M_next_105 : decode b_M_next 105 = .ok (.iconst 0, 1) := by decide +kernel
theorem d_M_next_106 : decode b_M_next 106 = .ok (.istore_n 1, 1) := by decide +kernel
theorem d_M_next_107 : decode b_M_next 107 = .ok (.goto 25, 3) := by decide +kernel
theorem d_M_next_110 : decode b_M_next 110 = .ok (.aload_n 0, 1) := by decide +kernel
theorem d_M_next_111 : decode b_M_next 111 = .ok (.dup, 1) := by decide +kernel
theorem d_M_next_112 : decode b_M_next 112 = .ok (.getfield 86, 3) := by decide +kernel
theorem d_M_next_115 : decode b_M_next 115 = .ok (.iconst 1, 1) := by decide +kernel
theorem d_M_next_116 : decode b_M_next 116 = .ok (.isub, 1) := by decide +kernel
theorem d_M_next_117 : decode b_M_next 117 = .ok (.putfield 86, 3) := by decide +kernel
theorem d_M_next_120 : decode b_M_next 120 = .ok (.iload 4, 2) := by decide +kernel
theorem d_M_next_122 : decode b_M_next 122 = .ok (.iconst 1, 1) := by decide +kernel
theorem d_M_next_123 : decode b_M_next 123 = .ok (.if_icmp .ne 7, 3) := by decide +kernel
theorem d_M_next_126 : decode b_M_next 126 = .ok (.iconst 1, 1) := by decide +kernel
theorem d_M_next_127 : decode b_M_next 127 = .ok (.goto 4, 3) := by decide +kernel
theorem d_M_next_130 : decode b_M_next 130 = .ok (.iconst 2, 1) := by decide +kernel
theorem d_M_next_131 : decode b_M_next 131 = .ok (.istore_n 1, 1) := by decide +kernel
theorem d_M_next_132 : decode b_M_next 132 = .ok (.iinc 2 1, 3) := by decide +kernel
theorem d_M_next_135 : decode b_M_next 135 = .ok (.goto (-89), 3) := by decide +kernel
theorem d_M_next_138 : decode b_M_next 138 = .ok (.iload_n 1, 1) := by decide +kernel
theorem d_M_next_139 : decode b_M_next 139 = .ok (.iconst 2, 1) := by decide +kernel
theorem d_M_next_140 : decode b_M_next 140 = .ok (.if_icmp .ne 10, 3) := by decide +kernel
theorem d_M_next_143 : decode b_M_next 143 = .ok (.aload_n 0, 1) := by decide +kernel
theorem d_M_next_144 : decode b_M_next 144 = .ok (.iconst 0, 1) := by decide +kernel
theorem d_M_next_145 : decode b_M_next 145 = .ok (.putfield 61, 3) := by decide +kernel
theorem d_M_next_148 : decode b_M_next 148 = .ok (.iconst 0, 1) := by decide +kernel
theorem d_M_next_149 : decode b_M_next 149 = .ok (.ireturn, 1) := by decide +kernel
theorem d_M_next_150 : decode b_M_next 150 = .ok (.aload_n 0, 1) := by decide +kernel
theorem d_M_next_151 : decode b_M_next 151 = .ok (.aload_n 0, 1) := by decide +kernel
theorem d_M_next_152 : decode b_M_next 152 = .ok (.getfield 76, 3) := by decide +kernel
theorem d_M_next_155 : decode b_M_next 155 = .ok (.putfield 70, 3) := by decide +kernel
theorem d_M_next_158 : decode b_M_next 158 = .ok (.iconst 1, 1) := by decide +kernel
theorem d_M_next_159 : decode b_M_next 159 = .ok (.ireturn, 1) := by decide +kernel
theorem d_M_skip_0 : decode b_M_skip 0 = .ok (.iconst 0, 1) := by decide +kernel
theorem d_M_skip_1 : decode b_M_skip 1 = .ok (.istore_n 2, 1) := by decide +kernel
theorem d_M_skip_2 : decode b_M_skip 2 = .ok (.iload_n 1, 1) := by decide +kernel
theorem d_M_skip_3 : decode b_M_skip 3 = .ok (.iconst 1, 1) := by decide +kernel
theorem d_M_skip_4 : decode b_M_skip 4 = .ok (.bipush 100, 2) := by decide +kernel
theorem d_M_skip_6 : decode b_M_skip 6 = .ok (.invokestatic 49, 3) := by decide +kernel
theorem d_M_skip_9 : decode b_M_skip 9 = .ok (.ifCond .ne 5, 3) := by decide +kernel
theorem d_M_skip_12 : decode b_M_skip 12 = .ok (.iconst 0, 1) := by decide +kernel
theorem d_M_skip_13 : decode b_M_skip 13 = .ok (.ireturn, 1) := by decide +kernel
theorem d_M_skip_14 : decode b_M_skip 14 = .ok (.iconst 0, 1) := by decide +kernel
theorem d_M_skip_15 : decode b_M_skip 15 = .ok (.istore_n 3, 1) := by decide +kernel
theorem d_M_skip_16 : decode b_M_skip 16 = .ok (.iload_n 3, 1) := by decide +kernel
theorem d_M_skip_17 : decode b_M_skip 17 = .ok (.iload_n 1, 1) := by decide +kernel
theorem d_M_skip_18 : decode b_M_skip 18 = .ok (.if_icmp .ge 26, 3) := by decide +kernel
theorem d_M_skip_21 : decode b_M_skip 21 = .ok (.aload_n 0, 1) := by decide +kernel
theorem d_M_skip_22 : decode b_M_skip 22 = .ok (.invokevirtual 128, 3) := by decide +kernel
theorem d_M_skip_25 : decode b_M_skip 25 = .ok (.istore 4, 2) := by decide +kernel
theorem d_M_skip_27 : decode b_M_skip 27 = .ok (.iload 4, 2) := by decide +kernel
theorem d_M_skip_29 : decode b_M_skip 29 = .ok (.iconst 1, 1) := by decide +kernel
theorem d_M_skip_30 : decode b_M_skip 30 = .ok (.if_icmp .eq 5, 3) := by decide +kernel
theorem d_M_skip_33 : decode b_M_skip 33 = .ok (.iload_n 2, 1) := by decide +kernel
theorem d_M_skip_34 : decode b_M_skip 34 = .ok (.ireturn, 1) := by decide +kernel
theorem d_M_skip_35 : decode b_M_skip 35 = .ok (.iinc 2 1, 3) := by decide +kernel
theorem d_M_skip_38 : decode b_M_skip 38 = .ok (.iinc 3 1, 3) := by decide +kernel
theorem d_M_skip_41 : decode b_M_skip 41 = .ok (.goto (-25), 3) := by decide +kernel
theorem d_M_skip_44 : decode b_M_skip 44 = .ok (.iload_n 2, 1) := by decide +kernel
theorem d_M_skip_45 : decode b_M_skip 45 = .ok (.ireturn, 1) := by decide +kernel
theorem d_M_value_0 : decode b_M_value 0 = .ok (.aload_n 0, 1) := by decide +kernel
theorem d_M_value_1 : decode b_M_value 1 = .ok (.getfield 70, 3) := by decide +kernel
theorem d_M_value_4 : decode b_M_value 4 = .ok (.ireturn, 1) := by decide +kernel
theorem d_M_writes_0 : decode b_M_writes 0 = .ok (.aload_n 0, 1) := by decide +kernel
theorem d_M_writes_1 : decode b_M_writes 1 = .ok (.getfield 73, 3) := by decide +kernel
theorem d_M_writes_4 : decode b_M_writes 4 = .ok (.ireturn, 1) := by decide +kernel
theorem d_M_written_0 : decode b_M_written 0 = .ok (.iload_n 1, 1) := by decide +kernel
theorem d_M_written_1 : decode b_M_written 1 = .ok (.iconst 0, 1) := by decide +kernel
theorem d_M_written_2 : decode b_M_written 2 = .ok (.aload_n 0, 1) := by decide +kernel
theorem d_M_written_3 : decode b_M_written 3 = .ok (.getfield 73, 3) := by decide +kernel
theorem d_M_written_6 : decode b_M_written 6 = .ok (.iconst 1, 1) := by decide +kernel
theorem d_M_written_7 : decode b_M_written 7 = .ok (.isub, 1) := by decide +kernel
theorem d_M_written_8 : decode b_M_written 8 = .ok (.invokestatic 49, 3) := by decide +kernel
theorem d_M_written_11 : decode b_M_written 11 = .ok (.ifCond .eq 13, 3) := by decide +kernel
theorem d_M_written_14 : decode b_M_written 14 = .ok (.aload_n 0, 1) := by decide +kernel
theorem d_M_written_15 : decode b_M_written 15 = .ok (.getfield 36, 3) := by decide +kernel
theorem d_M_written_18 : decode b_M_written 18 = .ok (.iload_n 1, 1) := by decide +kernel
theorem d_M_written_19 : decode b_M_written 19 = .ok (.iaload, 1) := by decide +kernel
theorem d_M_written_20 : decode b_M_written 20 = .ok (.i2l, 1) := by decide +kernel
theorem d_M_written_21 : decode b_M_written 21 = .ok (.goto 6, 3) := by decide +kernel
theorem d_M_written_24 : decode b_M_written 24 = .ok (.ldc2_w 132, 3) := by decide +kernel
theorem d_M_written_27 : decode b_M_written 27 = .ok (.lreturn, 1) := by decide +kernel
theorem d_M_cost_0 : decode b_M_cost 0 = .ok (.aload_n 0, 1) := by decide +kernel
theorem d_M_cost_1 : decode b_M_cost 1 = .ok (.getfield 67, 3) := by decide +kernel
theorem d_M_cost_4 : decode b_M_cost 4 = .ok (.ireturn, 1) := by decide +kernel
end
section
/-! decoded rows -/
theorem d_L_law_0 : decode code 0 = .ok (.new 7, 3) := by decide +kernel
theorem d_L_law_3 : decode code 3 = .ok (.dup, 1) := by decide +kernel
theorem d_L_law_4 : decode code 4 = .ok (.invokespecial 9, 3) := by decide +kernel
theorem d_L_law_7 : decode code 7 = .ok (.astore_n 1, 1) := by decide +kernel
theorem d_L_law_8 : decode code 8 = .ok (.new 10, 3) := by decide +kernel
theorem d_L_law_11 : decode code 11 = .ok (.dup, 1) := by decide +kernel
theorem d_L_law_12 : decode code 12 = .ok (.invokespecial 12, 3) := by decide +kernel
theorem d_L_law_15 : decode code 15 = .ok (.astore_n 2, 1) := by decide +kernel
theorem d_L_law_16 : decode code 16 = .ok (.iconst 0, 1) := by decide +kernel
theorem d_L_law_17 : decode code 17 = .ok (.istore_n 3, 1) := by decide +kernel
theorem d_L_law_18 : decode code 18 = .ok (.iload_n 3, 1) := by decide +kernel
theorem d_L_law_19 : decode code 19 = .ok (.aload_n 0, 1) := by decide +kernel
theorem d_L_law_20 : decode code 20 = .ok (.arraylength, 1) := by decide +kernel
theorem d_L_law_21 : decode code 21 = .ok (.iconst 5, 1) := by decide +kernel
theorem d_L_law_22 : decode code 22 = .ok (.isub, 1) := by decide +kernel
theorem d_L_law_23 : decode code 23 = .ok (.if_icmp .gt 487, 3) := by decide +kernel
theorem d_L_law_26 : decode code 26 = .ok (.aload_n 0, 1) := by decide +kernel
theorem d_L_law_27 : decode code 27 = .ok (.iload_n 3, 1) := by decide +kernel
theorem d_L_law_28 : decode code 28 = .ok (.iaload, 1) := by decide +kernel
theorem d_L_law_29 : decode code 29 = .ok (.bipush 15, 2) := by decide +kernel
theorem d_L_law_31 : decode code 31 = .ok (.iand, 1) := by decide +kernel
theorem d_L_law_32 : decode code 32 = .ok (.tableswitch 472 0 14 #[76, 109, 152, 195, 248, 261, 284, 317, 340, 373, 386, 409, 422, 435, 459], 76) := by decide +kernel
theorem d_L_law_108 : decode code 108 = .ok (.aload_n 1, 1) := by decide +kernel
theorem d_L_law_109 : decode code 109 = .ok (.aload_n 0, 1) := by decide +kernel
theorem d_L_law_110 : decode code 110 = .ok (.iload_n 3, 1) := by decide +kernel
theorem d_L_law_111 : decode code 111 = .ok (.iconst 1, 1) := by decide +kernel
theorem d_L_law_112 : decode code 112 = .ok (.iadd, 1) := by decide +kernel
theorem d_L_law_113 : decode code 113 = .ok (.iaload, 1) := by decide +kernel
theorem d_L_law_114 : decode code 114 = .ok (.aload_n 0, 1) := by decide +kernel
theorem d_L_law_115 : decode code 115 = .ok (.iload_n 3, 1) := by decide +kernel
theorem d_L_law_116 : decode code 116 = .ok (.iconst 2, 1) := by decide +kernel
theorem d_L_law_117 : decode code 117 = .ok (.iadd, 1) := by decide +kernel
theorem d_L_law_118 : decode code 118 = .ok (.iaload, 1) := by decide +kernel
theorem d_L_law_119 : decode code 119 = .ok (.invokevirtual 13, 3) := by decide +kernel
theorem d_L_law_122 : decode code 122 = .ok (.aload_n 2, 1) := by decide +kernel
theorem d_L_law_123 : decode code 123 = .ok (.aload_n 0, 1) := by decide +kernel
theorem d_L_law_124 : decode code 124 = .ok (.iload_n 3, 1) := by decide +kernel
theorem d_L_law_125 : decode code 125 = .ok (.iconst 1, 1) := by decide +kernel
theorem d_L_law_126 : decode code 126 = .ok (.iadd, 1) := by decide +kernel
theorem d_L_law_127 : decode code 127 = .ok (.iaload, 1) := by decide +kernel
theorem d_L_law_128 : decode code 128 = .ok (.aload_n 0, 1) := by decide +kernel
theorem d_L_law_129 : decode code 129 = .ok (.iload_n 3, 1) := by decide +kernel
theorem d_L_law_130 : decode code 130 = .ok (.iconst 2, 1) := by decide +kernel
theorem d_L_law_131 : decode code 131 = .ok (.iadd, 1) := by decide +kernel
theorem d_L_law_132 : decode code 132 = .ok (.iaload, 1) := by decide +kernel
theorem d_L_law_133 : decode code 133 = .ok (.invokevirtual 17, 3) := by decide +kernel
theorem d_L_law_136 : decode code 136 = .ok (.if_icmp .eq 368, 3) := by decide +kernel
theorem d_L_law_139 : decode code 139 = .ok (.iconst 0, 1) := by decide +kernel
theorem d_L_law_140 : decode code 140 = .ok (.ireturn, 1) := by decide +kernel
theorem d_L_law_141 : decode code 141 = .ok (.aload_n 1, 1) := by decide +kernel
theorem d_L_law_142 : decode code 142 = .ok (.aload_n 0, 1) := by decide +kernel
theorem d_L_law_143 : decode code 143 = .ok (.iload_n 3, 1) := by decide +kernel
theorem d_L_law_144 : decode code 144 = .ok (.iconst 1, 1) := by decide +kernel
theorem d_L_law_145 : decode code 145 = .ok (.iadd, 1) := by decide +kernel
theorem d_L_law_146 : decode code 146 = .ok (.iaload, 1) := by decide +kernel
theorem d_L_law_147 : decode code 147 = .ok (.aload_n 0, 1) := by decide +kernel
theorem d_L_law_148 : decode code 148 = .ok (.iload_n 3, 1) := by decide +kernel
theorem d_L_law_149 : decode code 149 = .ok (.iconst 2, 1) := by decide +kernel
theorem d_L_law_150 : decode code 150 = .ok (.iadd, 1) := by decide +kernel
theorem d_L_law_151 : decode code 151 = .ok (.iaload, 1) := by decide +kernel
theorem d_L_law_152 : decode code 152 = .ok (.aload_n 0, 1) := by decide +kernel
theorem d_L_law_153 : decode code 153 = .ok (.iload_n 3, 1) := by decide +kernel
theorem d_L_law_154 : decode code 154 = .ok (.iconst 3, 1) := by decide +kernel
theorem d_L_law_155 : decode code 155 = .ok (.iadd, 1) := by decide +kernel
theorem d_L_law_156 : decode code 156 = .ok (.iaload, 1) := by decide +kernel
theorem d_L_law_157 : decode code 157 = .ok (.invokevirtual 18, 3) := by decide +kernel
theorem d_L_law_160 : decode code 160 = .ok (.aload_n 2, 1) := by decide +kernel
theorem d_L_law_161 : decode code 161 = .ok (.aload_n 0, 1) := by decide +kernel
theorem d_L_law_162 : decode code 162 = .ok (.iload_n 3, 1) := by decide +kernel
theorem d_L_law_163 : decode code 163 = .ok (.iconst 1, 1) := by decide +kernel
theorem d_L_law_164 : decode code 164 = .ok (.iadd, 1) := by decide +kernel
theorem d_L_law_165 : decode code 165 = .ok (.iaload, 1) := by decide +kernel
theorem d_L_law_166 : decode code 166 = .ok (.aload_n 0, 1) := by decide +kernel
theorem d_L_law_167 : decode code 167 = .ok (.iload_n 3, 1) := by decide +kernel
theorem d_L_law_168 : decode code 168 = .ok (.iconst 2, 1) := by decide +kernel
theorem d_L_law_169 : decode code 169 = .ok (.iadd, 1) := by decide +kernel
theorem d_L_law_170 : decode code 170 = .ok (.iaload, 1) := by decide +kernel
theorem d_L_law_171 : decode code 171 = .ok (.aload_n 0, 1) := by decide +kernel
theorem d_L_law_172 : decode code 172 = .ok (.iload_n 3, 1) := by decide +kernel
theorem d_L_law_173 : decode code 173 = .ok (.iconst 3, 1) := by decide +kernel
theorem d_L_law_174 : decode code 174 = .ok (.iadd, 1) := by decide +kernel
theorem d_L_law_175 : decode code 175 = .ok (.iaload, 1) := by decide +kernel
theorem d_L_law_176 : decode code 176 = .ok (.invokevirtual 22, 3) := by decide +kernel
theorem d_L_law_179 : decode code 179 = .ok (.if_icmp .eq 325, 3) := by decide +kernel
theorem d_L_law_182 : decode code 182 = .ok (.iconst 0, 1) := by decide +kernel
theorem d_L_law_183 : decode code 183 = .ok (.ireturn, 1) := by decide +kernel
theorem d_L_law_184 : decode code 184 = .ok (.aload_n 1, 1) := by decide +kernel
theorem d_L_law_185 : decode code 185 = .ok (.aload_n 0, 1) := by decide +kernel
theorem d_L_law_186 : decode code 186 = .ok (.iload_n 3, 1) := by decide +kernel
theorem d_L_law_187 : decode code 187 = .ok (.iconst 1, 1) := by decide +kernel
theorem d_L_law_188 : decode code 188 = .ok (.iadd, 1) := by decide +kernel
theorem d_L_law_189 : decode code 189 = .ok (.iaload, 1) := by decide +kernel
theorem d_L_law_190 : decode code 190 = .ok (.aload_n 0, 1) := by decide +kernel
theorem d_L_law_191 : decode code 191 = .ok (.iload_n 3, 1) := by decide +kernel
theorem d_L_law_192 : decode code 192 = .ok (.iconst 2, 1) := by decide +kernel
theorem d_L_law_193 : decode code 193 = .ok (.iadd, 1) := by decide +kernel
theorem d_L_law_194 : decode code 194 = .ok (.iaload, 1) := by decide +kernel
theorem d_L_law_195 : decode code 195 = .ok (.aload_n 0, 1) := by decide +kernel
theorem d_L_law_196 : decode code 196 = .ok (.iload_n 3, 1) := by decide +kernel
theorem d_L_law_197 : decode code 197 = .ok (.iconst 3, 1) := by decide +kernel
theorem d_L_law_198 : decode code 198 = .ok (.iadd, 1) := by decide +kernel
theorem d_L_law_199 : decode code 199 = .ok (.iaload, 1) := by decide +kernel
theorem d_L_law_200 : decode code 200 = .ok (.invokevirtual 23, 3) := by decide +kernel
theorem d_L_law_203 : decode code 203 = .ok (.aload_n 2, 1) := by decide +kernel
theorem d_L_law_204 : decode code 204 = .ok (.aload_n 0, 1) := by decide +kernel
theorem d_L_law_205 : decode code 205 = .ok (.iload_n 3, 1) := by decide +kernel
theorem d_L_law_206 : decode code 206 = .ok (.iconst 1, 1) := by decide +kernel
theorem d_L_law_207 : decode code 207 = .ok (.iadd, 1) := by decide +kernel
theorem d_L_law_208 : decode code 208 = .ok (.iaload, 1) := by decide +kernel
theorem d_L_law_209 : decode code 209 = .ok (.aload_n 0, 1) := by decide +kernel
theorem d_L_law_210 : decode code 210 = .ok (.iload_n 3, 1) := by decide +kernel
theorem d_L_law_211 : decode code 211 = .ok (.iconst 2, 1) := by decide +kernel
theorem d_L_law_212 : decode code 212 = .ok (.iadd, 1) := by decide +kernel
theorem d_L_law_213 : decode code 213 = .ok (.iaload, 1) := by decide +kernel
theorem d_L_law_214 : decode code 214 = .ok (.aload_n 0, 1) := by decide +kernel
theorem d_L_law_215 : decode code 215 = .ok (.iload_n 3, 1) := by decide +kernel
theorem d_L_law_216 : decode code 216 = .ok (.iconst 3, 1) := by decide +kernel
theorem d_L_law_217 : decode code 217 = .ok (.iadd, 1) := by decide +kernel
theorem d_L_law_218 : decode code 218 = .ok (.iaload, 1) := by decide +kernel
theorem d_L_law_219 : decode code 219 = .ok (.invokevirtual 26, 3) := by decide +kernel
theorem d_L_law_222 : decode code 222 = .ok (.if_icmp .eq 282, 3) := by decide +kernel
theorem d_L_law_225 : decode code 225 = .ok (.iconst 0, 1) := by decide +kernel
theorem d_L_law_226 : decode code 226 = .ok (.ireturn, 1) := by decide +kernel
theorem d_L_law_227 : decode code 227 = .ok (.aload_n 1, 1) := by decide +kernel
theorem d_L_law_228 : decode code 228 = .ok (.aload_n 0, 1) := by decide +kernel
theorem d_L_law_229 : decode code 229 = .ok (.iload_n 3, 1) := by decide +kernel
theorem d_L_law_230 : decode code 230 = .ok (.iconst 1, 1) := by decide +kernel
theorem d_L_law_231 : decode code 231 = .ok (.iadd, 1) := by decide +kernel
theorem d_L_law_232 : decode code 232 = .ok (.iaload, 1) := by decide +kernel
theorem d_L_law_233 : decode code 233 = .ok (.aload_n 0, 1) := by decide +kernel
theorem d_L_law_234 : decode code 234 = .ok (.iload_n 3, 1) := by decide +kernel
theorem d_L_law_235 : decode code 235 = .ok (.iconst 2, 1) := by decide +kernel
theorem d_L_law_236 : decode code 236 = .ok (.iadd, 1) := by decide +kernel
theorem d_L_law_237 : decode code 237 = .ok (.iaload, 1) := by decide +kernel
theorem d_L_law_238 : decode code 238 = .ok (.aload_n 0, 1) := by decide +kernel
theorem d_L_law_239 : decode code 239 = .ok (.iload_n 3, 1) := by decide +kernel
theorem d_L_law_240 : decode code 240 = .ok (.iconst 3, 1) := by decide +kernel
theorem d_L_law_241 : decode code 241 = .ok (.iadd, 1) := by decide +kernel
theorem d_L_law_242 : decode code 242 = .ok (.iaload, 1) := by decide +kernel
theorem d_L_law_243 : decode code 243 = .ok (.aload_n 0, 1) := by decide +kernel
theorem d_L_law_244 : decode code 244 = .ok (.iload_n 3, 1) := by decide +kernel
theorem d_L_law_245 : decode code 245 = .ok (.iconst 4, 1) := by decide +kernel
theorem d_L_law_246 : decode code 246 = .ok (.iadd, 1) := by decide +kernel
theorem d_L_law_247 : decode code 247 = .ok (.iaload, 1) := by decide +kernel
theorem d_L_law_248 : decode code 248 = .ok (.invokevirtual 27, 3) := by decide +kernel
theorem d_L_law_251 : decode code 251 = .ok (.aload_n 2, 1) := by decide +kernel
theorem d_L_law_252 : decode code 252 = .ok (.aload_n 0, 1) := by decide +kernel
theorem d_L_law_253 : decode code 253 = .ok (.iload_n 3, 1) := by decide +kernel
theorem d_L_law_254 : decode code 254 = .ok (.iconst 1, 1) := by decide +kernel
theorem d_L_law_255 : decode code 255 = .ok (.iadd, 1) := by decide +kernel
theorem d_L_law_256 : decode code 256 = .ok (.iaload, 1) := by decide +kernel
theorem d_L_law_257 : decode code 257 = .ok (.aload_n 0, 1) := by decide +kernel
theorem d_L_law_258 : decode code 258 = .ok (.iload_n 3, 1) := by decide +kernel
theorem d_L_law_259 : decode code 259 = .ok (.iconst 2, 1) := by decide +kernel
theorem d_L_law_260 : decode code 260 = .ok (.iadd, 1) := by decide +kernel
theorem d_L_law_261 : decode code 261 = .ok (.iaload, 1) := by decide +kernel
theorem d_L_law_262 : decode code 262 = .ok (.aload_n 0, 1) := by decide +kernel
theorem d_L_law_263 : decode code 263 = .ok (.iload_n 3, 1) := by decide +kernel
theorem d_L_law_264 : decode code 264 = .ok (.iconst 3, 1) := by decide +kernel
theorem d_L_law_265 : decode code 265 = .ok (.iadd, 1) := by decide +kernel
theorem d_L_law_266 : decode code 266 = .ok (.iaload, 1) := by decide +kernel
theorem d_L_law_267 : decode code 267 = .ok (.aload_n 0, 1) := by decide +kernel
theorem d_L_law_268 : decode code 268 = .ok (.iload_n 3, 1) := by decide +kernel
theorem d_L_law_269 : decode code 269 = .ok (.iconst 4, 1) := by decide +kernel
theorem d_L_law_270 : decode code 270 = .ok (.iadd, 1) := by decide +kernel
theorem d_L_law_271 : decode code 271 = .ok (.iaload, 1) := by decide +kernel
theorem d_L_law_272 : decode code 272 = .ok (.invokevirtual 31, 3) := by decide +kernel
theorem d_L_law_275 : decode code 275 = .ok (.if_icmp .eq 229, 3) := by decide +kernel
theorem d_L_law_278 : decode code 278 = .ok (.iconst 0, 1) := by decide +kernel
theorem d_L_law_279 : decode code 279 = .ok (.ireturn, 1) := by decide +kernel
theorem d_L_law_280 : decode code 280 = .ok (.aload_n 1, 1) := by decide +kernel
theorem d_L_law_281 : decode code 281 = .ok (.invokevirtual 32, 3) := by decide +kernel
theorem d_L_law_284 : decode code 284 = .ok (.aload_n 2, 1) := by decide +kernel
theorem d_L_law_285 : decode code 285 = .ok (.invokevirtual 36, 3) := by decide +kernel
theorem d_L_law_288 : decode code 288 = .ok (.if_icmp .eq 216, 3) := by decide +kernel
theorem d_L_law_291 : decode code 291 = .ok (.iconst 0, 1) := by decide +kernel
theorem d_L_law_292 : decode code 292 = .ok (.ireturn, 1) := by decide +kernel
theorem d_L_law_293 : decode code 293 = .ok (.aload_n 1, 1) := by decide +kernel
theorem d_L_law_294 : decode code 294 = .ok (.aload_n 0, 1) := by decide +kernel
theorem d_L_law_295 : decode code 295 = .ok (.iload_n 3, 1) := by decide +kernel
theorem d_L_law_296 : decode code 296 = .ok (.iconst 1, 1) := by decide +kernel
theorem d_L_law_297 : decode code 297 = .ok (.iadd, 1) := by decide +kernel
theorem d_L_law_298 : decode code 298 = .ok (.iaload, 1) := by decide +kernel
theorem d_L_law_299 : decode code 299 = .ok (.invokevirtual 37, 3) := by decide +kernel
theorem d_L_law_302 : decode code 302 = .ok (.aload_n 2, 1) := by decide +kernel
theorem d_L_law_303 : decode code 303 = .ok (.aload_n 0, 1) := by decide +kernel
theorem d_L_law_304 : decode code 304 = .ok (.iload_n 3, 1) := by decide +kernel
theorem d_L_law_305 : decode code 305 = .ok (.iconst 1, 1) := by decide +kernel
theorem d_L_law_306 : decode code 306 = .ok (.iadd, 1) := by decide +kernel
theorem d_L_law_307 : decode code 307 = .ok (.iaload, 1) := by decide +kernel
theorem d_L_law_308 : decode code 308 = .ok (.invokevirtual 41, 3) := by decide +kernel
theorem d_L_law_311 : decode code 311 = .ok (.if_icmp .eq 193, 3) := by decide +kernel
theorem d_L_law_314 : decode code 314 = .ok (.iconst 0, 1) := by decide +kernel
theorem d_L_law_315 : decode code 315 = .ok (.ireturn, 1) := by decide +kernel
theorem d_L_law_316 : decode code 316 = .ok (.aload_n 1, 1) := by decide +kernel
theorem d_L_law_317 : decode code 317 = .ok (.aload_n 0, 1) := by decide +kernel
theorem d_L_law_318 : decode code 318 = .ok (.iload_n 3, 1) := by decide +kernel
theorem d_L_law_319 : decode code 319 = .ok (.iconst 1, 1) := by decide +kernel
theorem d_L_law_320 : decode code 320 = .ok (.iadd, 1) := by decide +kernel
theorem d_L_law_321 : decode code 321 = .ok (.iaload, 1) := by decide +kernel
theorem d_L_law_322 : decode code 322 = .ok (.aload_n 0, 1) := by decide +kernel
theorem d_L_law_323 : decode code 323 = .ok (.iload_n 3, 1) := by decide +kernel
theorem d_L_law_324 : decode code 324 = .ok (.iconst 2, 1) := by decide +kernel
theorem d_L_law_325 : decode code 325 = .ok (.iadd, 1) := by decide +kernel
theorem d_L_law_326 : decode code 326 = .ok (.iaload, 1) := by decide +kernel
theorem d_L_law_327 : decode code 327 = .ok (.invokevirtual 42, 3) := by decide +kernel
theorem d_L_law_330 : decode code 330 = .ok (.aload_n 2, 1) := by decide +kernel
theorem d_L_law_331 : decode code 331 = .ok (.aload_n 0, 1) := by decide +kernel
theorem d_L_law_332 : decode code 332 = .ok (.iload_n 3, 1) := by decide +kernel
theorem d_L_law_333 : decode code 333 = .ok (.iconst 1, 1) := by decide +kernel
theorem d_L_law_334 : decode code 334 = .ok (.iadd, 1) := by decide +kernel
theorem d_L_law_335 : decode code 335 = .ok (.iaload, 1) := by decide +kernel
theorem d_L_law_336 : decode code 336 = .ok (.aload_n 0, 1) := by decide +kernel
theorem d_L_law_337 : decode code 337 = .ok (.iload_n 3, 1) := by decide +kernel
theorem d_L_law_338 : decode code 338 = .ok (.iconst 2, 1) := by decide +kernel
theorem d_L_law_339 : decode code 339 = .ok (.iadd, 1) := by decide +kernel
theorem d_L_law_340 : decode code 340 = .ok (.iaload, 1) := by decide +kernel
theorem d_L_law_341 : decode code 341 = .ok (.invokevirtual 45, 3) := by decide +kernel
theorem d_L_law_344 : decode code 344 = .ok (.if_icmp .eq 160, 3) := by decide +kernel
theorem d_L_law_347 : decode code 347 = .ok (.iconst 0, 1) := by decide +kernel
theorem d_L_law_348 : decode code 348 = .ok (.ireturn, 1) := by decide +kernel
theorem d_L_law_349 : decode code 349 = .ok (.aload_n 1, 1) := by decide +kernel
theorem d_L_law_350 : decode code 350 = .ok (.aload_n 0, 1) := by decide +kernel
theorem d_L_law_351 : decode code 351 = .ok (.iload_n 3, 1) := by decide +kernel
theorem d_L_law_352 : decode code 352 = .ok (.iconst 1, 1) := by decide +kernel
theorem d_L_law_353 : decode code 353 = .ok (.iadd, 1) := by decide +kernel
theorem d_L_law_354 : decode code 354 = .ok (.iaload, 1) := by decide +kernel
theorem d_L_law_355 : decode code 355 = .ok (.invokevirtual 46, 3) := by decide +kernel
theorem d_L_law_358 : decode code 358 = .ok (.aload_n 2, 1) := by decide +kernel
theorem d_L_law_359 : decode code 359 = .ok (.aload_n 0, 1) := by decide +kernel
theorem d_L_law_360 : decode code 360 = .ok (.iload_n 3, 1) := by decide +kernel
theorem d_L_law_361 : decode code 361 = .ok (.iconst 1, 1) := by decide +kernel
theorem d_L_law_362 : decode code 362 = .ok (.iadd, 1) := by decide +kernel
theorem d_L_law_363 : decode code 363 = .ok (.iaload, 1) := by decide +kernel
theorem d_L_law_364 : decode code 364 = .ok (.invokevirtual 49, 3) := by decide +kernel
theorem d_L_law_367 : decode code 367 = .ok (.if_icmp .eq 137, 3) := by decide +kernel
theorem d_L_law_370 : decode code 370 = .ok (.iconst 0, 1) := by decide +kernel
theorem d_L_law_371 : decode code 371 = .ok (.ireturn, 1) := by decide +kernel
theorem d_L_law_372 : decode code 372 = .ok (.aload_n 1, 1) := by decide +kernel
theorem d_L_law_373 : decode code 373 = .ok (.aload_n 0, 1) := by decide +kernel
theorem d_L_law_374 : decode code 374 = .ok (.iload_n 3, 1) := by decide +kernel
theorem d_L_law_375 : decode code 375 = .ok (.iconst 1, 1) := by decide +kernel
theorem d_L_law_376 : decode code 376 = .ok (.iadd, 1) := by decide +kernel
theorem d_L_law_377 : decode code 377 = .ok (.iaload, 1) := by decide +kernel
theorem d_L_law_378 : decode code 378 = .ok (.aload_n 0, 1) := by decide +kernel
theorem d_L_law_379 : decode code 379 = .ok (.iload_n 3, 1) := by decide +kernel
theorem d_L_law_380 : decode code 380 = .ok (.iconst 2, 1) := by decide +kernel
theorem d_L_law_381 : decode code 381 = .ok (.iadd, 1) := by decide +kernel
theorem d_L_law_382 : decode code 382 = .ok (.iaload, 1) := by decide +kernel
theorem d_L_law_383 : decode code 383 = .ok (.invokevirtual 50, 3) := by decide +kernel
theorem d_L_law_386 : decode code 386 = .ok (.aload_n 2, 1) := by decide +kernel
theorem d_L_law_387 : decode code 387 = .ok (.aload_n 0, 1) := by decide +kernel
theorem d_L_law_388 : decode code 388 = .ok (.iload_n 3, 1) := by decide +kernel
theorem d_L_law_389 : decode code 389 = .ok (.iconst 1, 1) := by decide +kernel
theorem d_L_law_390 : decode code 390 = .ok (.iadd, 1) := by decide +kernel
theorem d_L_law_391 : decode code 391 = .ok (.iaload, 1) := by decide +kernel
theorem d_L_law_392 : decode code 392 = .ok (.aload_n 0, 1) := by decide +kernel
theorem d_L_law_393 : decode code 393 = .ok (.iload_n 3, 1) := by decide +kernel
theorem d_L_law_394 : decode code 394 = .ok (.iconst 2, 1) := by decide +kernel
theorem d_L_law_395 : decode code 395 = .ok (.iadd, 1) := by decide +kernel
theorem d_L_law_396 : decode code 396 = .ok (.iaload, 1) := by decide +kernel
theorem d_L_law_397 : decode code 397 = .ok (.invokevirtual 53, 3) := by decide +kernel
theorem d_L_law_400 : decode code 400 = .ok (.if_icmp .eq 104, 3) := by decide +kernel
theorem d_L_law_403 : decode code 403 = .ok (.iconst 0, 1) := by decide +kernel
theorem d_L_law_404 : decode code 404 = .ok (.ireturn, 1) := by decide +kernel
theorem d_L_law_405 : decode code 405 = .ok (.aload_n 1, 1) := by decide +kernel
theorem d_L_law_406 : decode code 406 = .ok (.invokevirtual 54, 3) := by decide +kernel
theorem d_L_law_409 : decode code 409 = .ok (.aload_n 2, 1) := by decide +kernel
theorem d_L_law_410 : decode code 410 = .ok (.invokevirtual 57, 3) := by decide +kernel
theorem d_L_law_413 : decode code 413 = .ok (.if_icmp .eq 91, 3) := by decide +kernel
theorem d_L_law_416 : decode code 416 = .ok (.iconst 0, 1) := by decide +kernel
theorem d_L_law_417 : decode code 417 = .ok (.ireturn, 1) := by decide +kernel
theorem d_L_law_418 : decode code 418 = .ok (.aload_n 1, 1) := by decide +kernel
theorem d_L_law_419 : decode code 419 = .ok (.aload_n 0, 1) := by decide +kernel
theorem d_L_law_420 : decode code 420 = .ok (.iload_n 3, 1) := by decide +kernel
theorem d_L_law_421 : decode code 421 = .ok (.iconst 1, 1) := by decide +kernel
theorem d_L_law_422 : decode code 422 = .ok (.iadd, 1) := by decide +kernel
theorem d_L_law_423 : decode code 423 = .ok (.iaload, 1) := by decide +kernel
theorem d_L_law_424 : decode code 424 = .ok (.invokevirtual 58, 3) := by decide +kernel
theorem d_L_law_427 : decode code 427 = .ok (.aload_n 2, 1) := by decide +kernel
theorem d_L_law_428 : decode code 428 = .ok (.aload_n 0, 1) := by decide +kernel
theorem d_L_law_429 : decode code 429 = .ok (.iload_n 3, 1) := by decide +kernel
theorem d_L_law_430 : decode code 430 = .ok (.iconst 1, 1) := by decide +kernel
theorem d_L_law_431 : decode code 431 = .ok (.iadd, 1) := by decide +kernel
theorem d_L_law_432 : decode code 432 = .ok (.iaload, 1) := by decide +kernel
theorem d_L_law_433 : decode code 433 = .ok (.invokevirtual 61, 3) := by decide +kernel
theorem d_L_law_436 : decode code 436 = .ok (.if_icmp .eq 68, 3) := by decide +kernel
theorem d_L_law_439 : decode code 439 = .ok (.iconst 0, 1) := by decide +kernel
theorem d_L_law_440 : decode code 440 = .ok (.ireturn, 1) := by decide +kernel
theorem d_L_law_441 : decode code 441 = .ok (.aload_n 1, 1) := by decide +kernel
theorem d_L_law_442 : decode code 442 = .ok (.invokevirtual 62, 3) := by decide +kernel
theorem d_L_law_445 : decode code 445 = .ok (.aload_n 2, 1) := by decide +kernel
theorem d_L_law_446 : decode code 446 = .ok (.invokevirtual 65, 3) := by decide +kernel
theorem d_L_law_449 : decode code 449 = .ok (.if_icmp .eq 55, 3) := by decide +kernel
theorem d_L_law_452 : decode code 452 = .ok (.iconst 0, 1) := by decide +kernel
theorem d_L_law_453 : decode code 453 = .ok (.ireturn, 1) := by decide +kernel
theorem d_L_law_454 : decode code 454 = .ok (.aload_n 1, 1) := by decide +kernel
theorem d_L_law_455 : decode code 455 = .ok (.invokevirtual 66, 3) := by decide +kernel
theorem d_L_law_458 : decode code 458 = .ok (.aload_n 2, 1) := by decide +kernel
theorem d_L_law_459 : decode code 459 = .ok (.invokevirtual 69, 3) := by decide +kernel
theorem d_L_law_462 : decode code 462 = .ok (.if_icmp .eq 42, 3) := by decide +kernel
theorem d_L_law_465 : decode code 465 = .ok (.iconst 0, 1) := by decide +kernel
theorem d_L_law_466 : decode code 466 = .ok (.ireturn, 1) := by decide +kernel
theorem d_L_law_467 : decode code 467 = .ok (.aload_n 1, 1) := by decide +kernel
theorem d_L_law_468 : decode code 468 = .ok (.aload_n 0, 1) := by decide +kernel
theorem d_L_law_469 : decode code 469 = .ok (.iload_n 3, 1) := by decide +kernel
theorem d_L_law_470 : decode code 470 = .ok (.iconst 1, 1) := by decide +kernel
theorem d_L_law_471 : decode code 471 = .ok (.iadd, 1) := by decide +kernel
theorem d_L_law_472 : decode code 472 = .ok (.iaload, 1) := by decide +kernel
theorem d_L_law_473 : decode code 473 = .ok (.invokevirtual 70, 3) := by decide +kernel
theorem d_L_law_476 : decode code 476 = .ok (.aload_n 2, 1) := by decide +kernel
theorem d_L_law_477 : decode code 477 = .ok (.aload_n 0, 1) := by decide +kernel
theorem d_L_law_478 : decode code 478 = .ok (.iload_n 3, 1) := by decide +kernel
theorem d_L_law_479 : decode code 479 = .ok (.iconst 1, 1) := by decide +kernel
theorem d_L_law_480 : decode code 480 = .ok (.iadd, 1) := by decide +kernel
theorem d_L_law_481 : decode code 481 = .ok (.iaload, 1) := by decide +kernel
theorem d_L_law_482 : decode code 482 = .ok (.invokevirtual 74, 3) := by decide +kernel
theorem d_L_law_485 : decode code 485 = .ok (.lcmp, 1) := by decide +kernel
theorem d_L_law_486 : decode code 486 = .ok (.ifCond .eq 18, 3) := by decide +kernel
theorem d_L_law_489 : decode code 489 = .ok (.iconst 0, 1) := by decide +kernel
theorem d_L_law_490 : decode code 490 = .ok (.ireturn, 1) := by decide +kernel
theorem d_L_law_491 : decode code 491 = .ok (.aload_n 1, 1) := by decide +kernel
theorem d_L_law_492 : decode code 492 = .ok (.invokevirtual 75, 3) := by decide +kernel
theorem d_L_law_495 : decode code 495 = .ok (.aload_n 2, 1) := by decide +kernel
theorem d_L_law_496 : decode code 496 = .ok (.invokevirtual 78, 3) := by decide +kernel
theorem d_L_law_499 : decode code 499 = .ok (.if_icmp .eq 5, 3) := by decide +kernel
theorem d_L_law_502 : decode code 502 = .ok (.iconst 0, 1) := by decide +kernel
theorem d_L_law_503 : decode code 503 = .ok (.ireturn, 1) := by decide +kernel
theorem d_L_law_504 : decode code 504 = .ok (.iinc 3 5, 3) := by decide +kernel
theorem d_L_law_507 : decode code 507 = .ok (.goto (-489), 3) := by decide +kernel
theorem d_L_law_510 : decode code 510 = .ok (.iconst 1, 1) := by decide +kernel
theorem d_L_law_511 : decode code 511 = .ok (.ireturn, 1) := by decide +kernel
end
section
/-! parameters of the methods -/
theorem pd_G_init : (parseMethodDescriptor y_G_init.desc).map (fun d => d.parameters.length) = some 0 := by decide +kernel
theorem pc_G_init : y_G_init.cls ≠ "java/lang/invoke/MethodHandle" ∧ y_G_init.cls ≠ "java/lang/invoke/VarHandle" := by decide +kernel
theorem pd_S_init : (parseMethodDescriptor y_S_init.desc).map (fun d => d.parameters.length) = some 0 := by decide +kernel
theorem pc_S_init : y_S_init.cls ≠ "java/lang/invoke/MethodHandle" ∧ y_S_init.cls ≠ "java/lang/invoke/VarHandle" := by decide +kernel
theorem pd_F_init : (parseMethodDescriptor y_F_init.desc).map (fun d => d.parameters.length) = some 0 := by decide +kernel
theorem pc_F_init : y_F_init.cls ≠ "java/lang/invoke/MethodHandle" ∧ y_F_init.cls ≠ "java/lang/invoke/VarHandle" := by decide +kernel
theorem pd_G_leaf : (parseMethodDescriptor y_G_leaf.desc).map (fun d => d.parameters.length) = some 2 := by decide +kernel
theorem pc_G_leaf : y_G_leaf.cls ≠ "java/lang/invoke/MethodHandle" ∧ y_G_leaf.cls ≠ "java/lang/invoke/VarHandle" := by decide +kernel
theorem pd_G_isBelow : (parseMethodDescriptor y_G_isBelow.desc).map (fun d => d.parameters.length) = some 2 := by decide +kernel
theorem pc_G_isBelow : y_G_isBelow.cls ≠ "java/lang/invoke/MethodHandle" ∧ y_G_isBelow.cls ≠ "java/lang/invoke/VarHandle" := by decide +kernel
theorem pd_F_isFull : (parseMethodDescriptor y_F_isFull.desc).map (fun d => d.parameters.length) = some 0 := by decide +kernel
theorem pc_F_isFull : y_F_isFull.cls ≠ "java/lang/invoke/MethodHandle" ∧ y_F_isFull.cls ≠ "java/lang/invoke/VarHandle" := by decide +kernel
theorem pd_F_addLeaf : (parseMethodDescriptor y_F_addLeaf.desc).map (fun d => d.parameters.length) = some 2 := by decide +kernel
theorem pc_F_addLeaf : y_F_addLeaf.cls ≠ "java/lang/invoke/MethodHandle" ∧ y_F_addLeaf.cls ≠ "java/lang/invoke/VarHandle" := by decide +kernel
theorem pd_G_unary : (parseMethodDescriptor y_G_unary.desc).map (fun d => d.parameters.length) = some 3 := by decide +kernel
theorem pc_G_unary : y_G_unary.cls ≠ "java/lang/invoke/MethodHandle" ∧ y_G_unary.cls ≠ "java/lang/invoke/VarHandle" := by decide +kernel
theorem pd_G_join : (parseMethodDescriptor y_G_join.desc).map (fun d => d.parameters.length) = some 6 := by decide +kernel
theorem pc_G_join : y_G_join.cls ≠ "java/lang/invoke/MethodHandle" ∧ y_G_join.cls ≠ "java/lang/invoke/VarHandle" := by decide +kernel
theorem pd_F_has : (parseMethodDescriptor y_F_has.desc).map (fun d => d.parameters.length) = some 1 := by decide +kernel
theorem pc_F_has : y_F_has.cls ≠ "java/lang/invoke/MethodHandle" ∧ y_F_has.cls ≠ "java/lang/invoke/VarHandle" := by decide +kernel
theorem pd_F_depthOver : (parseMethodDescriptor y_F_depthOver.desc).map (fun d => d.parameters.length) = some 3 := by decide +kernel
theorem pc_F_depthOver : y_F_depthOver.cls ≠ "java/lang/invoke/MethodHandle" ∧ y_F_depthOver.cls ≠ "java/lang/invoke/VarHandle" := by decide +kernel
theorem pd_F_addOver : (parseMethodDescriptor y_F_addOver.desc).map (fun d => d.parameters.length) = some 5 := by decide +kernel
theorem pc_F_addOver : y_F_addOver.cls ≠ "java/lang/invoke/MethodHandle" ∧ y_F_addOver.cls ≠ "java/lang/invoke/VarHandle" := by decide +kernel
theorem pd_G_binary : (parseMethodDescriptor y_G_binary.desc).map (fun d => d.parameters.length) = some 3 := by decide +kernel
theorem pc_G_binary : y_G_binary.cls ≠ "java/lang/invoke/MethodHandle" ∧ y_G_binary.cls ≠ "java/lang/invoke/VarHandle" := by decide +kernel
theorem pd_G_ternary : (parseMethodDescriptor y_G_ternary.desc).map (fun d => d.parameters.length) = some 4 := by decide +kernel
theorem pc_G_ternary : y_G_ternary.cls ≠ "java/lang/invoke/MethodHandle" ∧ y_G_ternary.cls ≠ "java/lang/invoke/VarHandle" := by decide +kernel
theorem pd_G_expressions : (parseMethodDescriptor y_G_expressions.desc).map (fun d => d.parameters.length) = some 0 := by decide +kernel
theorem pc_G_expressions : y_G_expressions.cls ≠ "java/lang/invoke/MethodHandle" ∧ y_G_expressions.cls ≠ "java/lang/invoke/VarHandle" := by decide +kernel
theorem pd_G_about : (parseMethodDescriptor y_G_about.desc).map (fun d => d.parameters.length) = some 1 := by decide +kernel
theorem pc_G_about : y_G_about.cls ≠ "java/lang/invoke/MethodHandle" ∧ y_G_about.cls ≠ "java/lang/invoke/VarHandle" := by decide +kernel
theorem pd_G_set : (parseMethodDescriptor y_G_set.desc).map (fun d => d.parameters.length) = some 2 := by decide +kernel
theorem pc_G_set : y_G_set.cls ≠ "java/lang/invoke/MethodHandle" ∧ y_G_set.cls ≠ "java/lang/invoke/VarHandle" := by decide +kernel
theorem pd_G_variable : (parseMethodDescriptor y_G_variable.desc).map (fun d => d.parameters.length) = some 1 := by decide +kernel
theorem pc_G_variable : y_G_variable.cls ≠ "java/lang/invoke/MethodHandle" ∧ y_G_variable.cls ≠ "java/lang/invoke/VarHandle" := by decide +kernel
theorem pd_G_begin : (parseMethodDescriptor y_G_begin.desc).map (fun d => d.parameters.length) = some 2 := by decide +kernel
theorem pc_G_begin : y_G_begin.cls ≠ "java/lang/invoke/MethodHandle" ∧ y_G_begin.cls ≠ "java/lang/invoke/VarHandle" := by decide +kernel
theorem pd_S_open : (parseMethodDescriptor y_S_open.desc).map (fun d => d.parameters.length) = some 2 := by decide +kernel
theorem pc_S_open : y_S_open.cls ≠ "java/lang/invoke/MethodHandle" ∧ y_S_open.cls ≠ "java/lang/invoke/VarHandle" := by decide +kernel
theorem pd_S_start : (parseMethodDescriptor y_S_start.desc).map (fun d => d.parameters.length) = some 1 := by decide +kernel
theorem pc_S_start : y_S_start.cls ≠ "java/lang/invoke/MethodHandle" ∧ y_S_start.cls ≠ "java/lang/invoke/VarHandle" := by decide +kernel
theorem pd_G_next : (parseMethodDescriptor y_G_next.desc).map (fun d => d.parameters.length) = some 0 := by decide +kernel
theorem pc_G_next : y_G_next.cls ≠ "java/lang/invoke/MethodHandle" ∧ y_G_next.cls ≠ "java/lang/invoke/VarHandle" := by decide +kernel
theorem pd_S_proceed : (parseMethodDescriptor y_S_proceed.desc).map (fun d => d.parameters.length) = some 0 := by decide +kernel
theorem pc_S_proceed : y_S_proceed.cls ≠ "java/lang/invoke/MethodHandle" ∧ y_S_proceed.cls ≠ "java/lang/invoke/VarHandle" := by decide +kernel
theorem pd_S_ask : (parseMethodDescriptor y_S_ask.desc).map (fun d => d.parameters.length) = some 1 := by decide +kernel
theorem pc_S_ask : y_S_ask.cls ≠ "java/lang/invoke/MethodHandle" ∧ y_S_ask.cls ≠ "java/lang/invoke/VarHandle" := by decide +kernel
theorem pd_S_askLeaf : (parseMethodDescriptor y_S_askLeaf.desc).map (fun d => d.parameters.length) = some 2 := by decide +kernel
theorem pc_S_askLeaf : y_S_askLeaf.cls ≠ "java/lang/invoke/MethodHandle" ∧ y_S_askLeaf.cls ≠ "java/lang/invoke/VarHandle" := by decide +kernel
theorem pd_S_giveForFuel : (parseMethodDescriptor y_S_giveForFuel.desc).map (fun d => d.parameters.length) = some 2 := by decide +kernel
theorem pc_S_giveForFuel : y_S_giveForFuel.cls ≠ "java/lang/invoke/MethodHandle" ∧ y_S_giveForFuel.cls ≠ "java/lang/invoke/VarHandle" := by decide +kernel
theorem pd_S_give : (parseMethodDescriptor y_S_give.desc).map (fun d => d.parameters.length) = some 2 := by decide +kernel
theorem pc_S_give : y_S_give.cls ≠ "java/lang/invoke/MethodHandle" ∧ y_S_give.cls ≠ "java/lang/invoke/VarHandle" := by decide +kernel
theorem pd_S_askAssign : (parseMethodDescriptor y_S_askAssign.desc).map (fun d => d.parameters.length) = some 1 := by decide +kernel
theorem pc_S_askAssign : y_S_askAssign.cls ≠ "java/lang/invoke/MethodHandle" ∧ y_S_askAssign.cls ≠ "java/lang/invoke/VarHandle" := by decide +kernel
theorem pd_S_askX : (parseMethodDescriptor y_S_askX.desc).map (fun d => d.parameters.length) = some 1 := by decide +kernel
theorem pc_S_askX : y_S_askX.cls ≠ "java/lang/invoke/MethodHandle" ∧ y_S_askX.cls ≠ "java/lang/invoke/VarHandle" := by decide +kernel
theorem pd_S_handUp : (parseMethodDescriptor y_S_handUp.desc).map (fun d => d.parameters.length) = some 3 := by decide +kernel
theorem pc_S_handUp : y_S_handUp.cls ≠ "java/lang/invoke/MethodHandle" ∧ y_S_handUp.cls ≠ "java/lang/invoke/VarHandle" := by decide +kernel
theorem pd_S_askWrite : (parseMethodDescriptor y_S_askWrite.desc).map (fun d => d.parameters.length) = some 1 := by decide +kernel
theorem pc_S_askWrite : y_S_askWrite.cls ≠ "java/lang/invoke/MethodHandle" ∧ y_S_askWrite.cls ≠ "java/lang/invoke/VarHandle" := by decide +kernel
theorem pd_S_askNot : (parseMethodDescriptor y_S_askNot.desc).map (fun d => d.parameters.length) = some 1 := by decide +kernel
theorem pc_S_askNot : y_S_askNot.cls ≠ "java/lang/invoke/MethodHandle" ∧ y_S_askNot.cls ≠ "java/lang/invoke/VarHandle" := by decide +kernel
theorem pd_S_tryOnce : (parseMethodDescriptor y_S_tryOnce.desc).map (fun d => d.parameters.length) = some 1 := by decide +kernel
theorem pc_S_tryOnce : y_S_tryOnce.cls ≠ "java/lang/invoke/MethodHandle" ∧ y_S_tryOnce.cls ≠ "java/lang/invoke/VarHandle" := by decide +kernel
theorem pd_S_askAgain : (parseMethodDescriptor y_S_askAgain.desc).map (fun d => d.parameters.length) = some 1 := by decide +kernel
theorem pc_S_askAgain : y_S_askAgain.cls ≠ "java/lang/invoke/MethodHandle" ∧ y_S_askAgain.cls ≠ "java/lang/invoke/VarHandle" := by decide +kernel
theorem pd_S_askEither : (parseMethodDescriptor y_S_askEither.desc).map (fun d => d.parameters.length) = some 1 := by decide +kernel
theorem pc_S_askEither : y_S_askEither.cls ≠ "java/lang/invoke/MethodHandle" ∧ y_S_askEither.cls ≠ "java/lang/invoke/VarHandle" := by decide +kernel
theorem pd_S_askPair : (parseMethodDescriptor y_S_askPair.desc).map (fun d => d.parameters.length) = some 1 := by decide +kernel
theorem pc_S_askPair : y_S_askPair.cls ≠ "java/lang/invoke/MethodHandle" ∧ y_S_askPair.cls ≠ "java/lang/invoke/VarHandle" := by decide +kernel
theorem pd_S_askArithmetic : (parseMethodDescriptor y_S_askArithmetic.desc).map (fun d => d.parameters.length) = some 1 := by decide +kernel
theorem pc_S_askArithmetic : y_S_askArithmetic.cls ≠ "java/lang/invoke/MethodHandle" ∧ y_S_askArithmetic.cls ≠ "java/lang/invoke/VarHandle" := by decide +kernel
theorem pd_S_calculate : (parseMethodDescriptor y_S_calculate.desc).map (fun d => d.parameters.length) = some 3 := by decide +kernel
theorem pc_S_calculate : y_S_calculate.cls ≠ "java/lang/invoke/MethodHandle" ∧ y_S_calculate.cls ≠ "java/lang/invoke/VarHandle" := by decide +kernel
theorem pd_S_askComparison : (parseMethodDescriptor y_S_askComparison.desc).map (fun d => d.parameters.length) = some 1 := by decide +kernel
theorem pc_S_askComparison : y_S_askComparison.cls ≠ "java/lang/invoke/MethodHandle" ∧ y_S_askComparison.cls ≠ "java/lang/invoke/VarHandle" := by decide +kernel
theorem pd_S_holds : (parseMethodDescriptor y_S_holds.desc).map (fun d => d.parameters.length) = some 3 := by decide +kernel
theorem pc_S_holds : y_S_holds.cls ≠ "java/lang/invoke/MethodHandle" ∧ y_S_holds.cls ≠ "java/lang/invoke/VarHandle" := by decide +kernel
theorem pd_S_askLimit : (parseMethodDescriptor y_S_askLimit.desc).map (fun d => d.parameters.length) = some 1 := by decide +kernel
theorem pc_S_askLimit : y_S_askLimit.cls ≠ "java/lang/invoke/MethodHandle" ∧ y_S_askLimit.cls ≠ "java/lang/invoke/VarHandle" := by decide +kernel
theorem pd_S_askBound : (parseMethodDescriptor y_S_askBound.desc).map (fun d => d.parameters.length) = some 1 := by decide +kernel
theorem pc_S_askBound : y_S_askBound.cls ≠ "java/lang/invoke/MethodHandle" ∧ y_S_askBound.cls ≠ "java/lang/invoke/VarHandle" := by decide +kernel
theorem pd_S_askEveryOrWhile : (parseMethodDescriptor y_S_askEveryOrWhile.desc).map (fun d => d.parameters.length) = some 1 := by decide +kernel
theorem pc_S_askEveryOrWhile : y_S_askEveryOrWhile.cls ≠ "java/lang/invoke/MethodHandle" ∧ y_S_askEveryOrWhile.cls ≠ "java/lang/invoke/VarHandle" := by decide +kernel
theorem pd_S_askThen : (parseMethodDescriptor y_S_askThen.desc).map (fun d => d.parameters.length) = some 1 := by decide +kernel
theorem pc_S_askThen : y_S_askThen.cls ≠ "java/lang/invoke/MethodHandle" ∧ y_S_askThen.cls ≠ "java/lang/invoke/VarHandle" := by decide +kernel
theorem pd_S_askTo : (parseMethodDescriptor y_S_askTo.desc).map (fun d => d.parameters.length) = some 1 := by decide +kernel
theorem pc_S_askTo : y_S_askTo.cls ≠ "java/lang/invoke/MethodHandle" ∧ y_S_askTo.cls ≠ "java/lang/invoke/VarHandle" := by decide +kernel
theorem pd_S_askTriple : (parseMethodDescriptor y_S_askTriple.desc).map (fun d => d.parameters.length) = some 1 := by decide +kernel
theorem pc_S_askTriple : y_S_askTriple.cls ≠ "java/lang/invoke/MethodHandle" ∧ y_S_askTriple.cls ≠ "java/lang/invoke/VarHandle" := by decide +kernel
theorem pd_S_isUpToEnd : (parseMethodDescriptor y_S_isUpToEnd.desc).map (fun d => d.parameters.length) = some 1 := by decide +kernel
theorem pc_S_isUpToEnd : y_S_isUpToEnd.cls ≠ "java/lang/invoke/MethodHandle" ∧ y_S_isUpToEnd.cls ≠ "java/lang/invoke/VarHandle" := by decide +kernel
theorem pd_S_askIf : (parseMethodDescriptor y_S_askIf.desc).map (fun d => d.parameters.length) = some 1 := by decide +kernel
theorem pc_S_askIf : y_S_askIf.cls ≠ "java/lang/invoke/MethodHandle" ∧ y_S_askIf.cls ≠ "java/lang/invoke/VarHandle" := by decide +kernel
theorem pd_S_branch : (parseMethodDescriptor y_S_branch.desc).map (fun d => d.parameters.length) = some 1 := by decide +kernel
theorem pc_S_branch : y_S_branch.cls ≠ "java/lang/invoke/MethodHandle" ∧ y_S_branch.cls ≠ "java/lang/invoke/VarHandle" := by decide +kernel
theorem pd_G_skip : (parseMethodDescriptor y_G_skip.desc).map (fun d => d.parameters.length) = some 1 := by decide +kernel
theorem pc_G_skip : y_G_skip.cls ≠ "java/lang/invoke/MethodHandle" ∧ y_G_skip.cls ≠ "java/lang/invoke/VarHandle" := by decide +kernel
theorem pd_G_value : (parseMethodDescriptor y_G_value.desc).map (fun d => d.parameters.length) = some 0 := by decide +kernel
theorem pc_G_value : y_G_value.cls ≠ "java/lang/invoke/MethodHandle" ∧ y_G_value.cls ≠ "java/lang/invoke/VarHandle" := by decide +kernel
theorem pd_G_writes : (parseMethodDescriptor y_G_writes.desc).map (fun d => d.parameters.length) = some 0 := by decide +kernel
theorem pc_G_writes : y_G_writes.cls ≠ "java/lang/invoke/MethodHandle" ∧ y_G_writes.cls ≠ "java/lang/invoke/VarHandle" := by decide +kernel
theorem pd_G_written : (parseMethodDescriptor y_G_written.desc).map (fun d => d.parameters.length) = some 1 := by decide +kernel
theorem pc_G_written : y_G_written.cls ≠ "java/lang/invoke/MethodHandle" ∧ y_G_written.cls ≠ "java/lang/invoke/VarHandle" := by decide +kernel
theorem pd_G_cost : (parseMethodDescriptor y_G_cost.desc).map (fun d => d.parameters.length) = some 0 := by decide +kernel
theorem pc_G_cost : y_G_cost.cls ≠ "java/lang/invoke/MethodHandle" ∧ y_G_cost.cls ≠ "java/lang/invoke/VarHandle" := by decide +kernel
theorem pd_M_init : (parseMethodDescriptor y_M_init.desc).map (fun d => d.parameters.length) = some 0 := by decide +kernel
theorem pc_M_init : y_M_init.cls ≠ "java/lang/invoke/MethodHandle" ∧ y_M_init.cls ≠ "java/lang/invoke/VarHandle" := by decide +kernel
theorem pd_M_leaf : (parseMethodDescriptor y_M_leaf.desc).map (fun d => d.parameters.length) = some 2 := by decide +kernel
theorem pc_M_leaf : y_M_leaf.cls ≠ "java/lang/invoke/MethodHandle" ∧ y_M_leaf.cls ≠ "java/lang/invoke/VarHandle" := by decide +kernel
theorem pd_M_within : (parseMethodDescriptor y_M_within.desc).map (fun d => d.parameters.length) = some 3 := by decide +kernel
theorem pc_M_within : y_M_within.cls ≠ "java/lang/invoke/MethodHandle" ∧ y_M_within.cls ≠ "java/lang/invoke/VarHandle" := by decide +kernel
theorem pd_M_make : (parseMethodDescriptor y_M_make.desc).map (fun d => d.parameters.length) = some 6 := by decide +kernel
theorem pc_M_make : y_M_make.cls ≠ "java/lang/invoke/MethodHandle" ∧ y_M_make.cls ≠ "java/lang/invoke/VarHandle" := by decide +kernel
theorem pd_M_unary : (parseMethodDescriptor y_M_unary.desc).map (fun d => d.parameters.length) = some 3 := by decide +kernel
theorem pc_M_unary : y_M_unary.cls ≠ "java/lang/invoke/MethodHandle" ∧ y_M_unary.cls ≠ "java/lang/invoke/VarHandle" := by decide +kernel
theorem pd_M_is : (parseMethodDescriptor y_M_is.desc).map (fun d => d.parameters.length) = some 1 := by decide +kernel
theorem pc_M_is : y_M_is.cls ≠ "java/lang/invoke/MethodHandle" ∧ y_M_is.cls ≠ "java/lang/invoke/VarHandle" := by decide +kernel
theorem pd_M_binary : (parseMethodDescriptor y_M_binary.desc).map (fun d => d.parameters.length) = some 3 := by decide +kernel
theorem pc_M_binary : y_M_binary.cls ≠ "java/lang/invoke/MethodHandle" ∧ y_M_binary.cls ≠ "java/lang/invoke/VarHandle" := by decide +kernel
theorem pd_M_ternary : (parseMethodDescriptor y_M_ternary.desc).map (fun d => d.parameters.length) = some 4 := by decide +kernel
theorem pc_M_ternary : y_M_ternary.cls ≠ "java/lang/invoke/MethodHandle" ∧ y_M_ternary.cls ≠ "java/lang/invoke/VarHandle" := by decide +kernel
theorem pd_M_expressions : (parseMethodDescriptor y_M_expressions.desc).map (fun d => d.parameters.length) = some 0 := by decide +kernel
theorem pc_M_expressions : y_M_expressions.cls ≠ "java/lang/invoke/MethodHandle" ∧ y_M_expressions.cls ≠ "java/lang/invoke/VarHandle" := by decide +kernel
theorem pd_M_about : (parseMethodDescriptor y_M_about.desc).map (fun d => d.parameters.length) = some 1 := by decide +kernel
theorem pc_M_about : y_M_about.cls ≠ "java/lang/invoke/MethodHandle" ∧ y_M_about.cls ≠ "java/lang/invoke/VarHandle" := by decide +kernel
theorem pd_M_set : (parseMethodDescriptor y_M_set.desc).map (fun d => d.parameters.length) = some 2 := by decide +kernel
theorem pc_M_set : y_M_set.cls ≠ "java/lang/invoke/MethodHandle" ∧ y_M_set.cls ≠ "java/lang/invoke/VarHandle" := by decide +kernel
theorem pd_M_variable : (parseMethodDescriptor y_M_variable.desc).map (fun d => d.parameters.length) = some 1 := by decide +kernel
theorem pc_M_variable : y_M_variable.cls ≠ "java/lang/invoke/MethodHandle" ∧ y_M_variable.cls ≠ "java/lang/invoke/VarHandle" := by decide +kernel
theorem pd_M_begin : (parseMethodDescriptor y_M_begin.desc).map (fun d => d.parameters.length) = some 2 := by decide +kernel
theorem pc_M_begin : y_M_begin.cls ≠ "java/lang/invoke/MethodHandle" ∧ y_M_begin.cls ≠ "java/lang/invoke/VarHandle" := by decide +kernel
theorem pd_M_next : (parseMethodDescriptor y_M_next.desc).map (fun d => d.parameters.length) = some 0 := by decide +kernel
theorem pc_M_next : y_M_next.cls ≠ "java/lang/invoke/MethodHandle" ∧ y_M_next.cls ≠ "java/lang/invoke/VarHandle" := by decide +kernel
theorem pd_M_step : (parseMethodDescriptor y_M_step.desc).map (fun d => d.parameters.length) = some 2 := by decide +kernel
theorem pc_M_step : y_M_step.cls ≠ "java/lang/invoke/MethodHandle" ∧ y_M_step.cls ≠ "java/lang/invoke/VarHandle" := by decide +kernel
theorem pd_M_leafStep : (parseMethodDescriptor y_M_leafStep.desc).map (fun d => d.parameters.length) = some 1 := by decide +kernel
theorem pc_M_leafStep : y_M_leafStep.cls ≠ "java/lang/invoke/MethodHandle" ∧ y_M_leafStep.cls ≠ "java/lang/invoke/VarHandle" := by decide +kernel
theorem pd_M_paid : (parseMethodDescriptor y_M_paid.desc).map (fun d => d.parameters.length) = some 1 := by decide +kernel
theorem pc_M_paid : y_M_paid.cls ≠ "java/lang/invoke/MethodHandle" ∧ y_M_paid.cls ≠ "java/lang/invoke/VarHandle" := by decide +kernel
theorem pd_M_give : (parseMethodDescriptor y_M_give.desc).map (fun d => d.parameters.length) = some 1 := by decide +kernel
theorem pc_M_give : y_M_give.cls ≠ "java/lang/invoke/MethodHandle" ∧ y_M_give.cls ≠ "java/lang/invoke/VarHandle" := by decide +kernel
theorem pd_M_unaryStep : (parseMethodDescriptor y_M_unaryStep.desc).map (fun d => d.parameters.length) = some 2 := by decide +kernel
theorem pc_M_unaryStep : y_M_unaryStep.cls ≠ "java/lang/invoke/MethodHandle" ∧ y_M_unaryStep.cls ≠ "java/lang/invoke/VarHandle" := by decide +kernel
theorem pd_M_first : (parseMethodDescriptor y_M_first.desc).map (fun d => d.parameters.length) = some 3 := by decide +kernel
theorem pc_M_first : y_M_first.cls ≠ "java/lang/invoke/MethodHandle" ∧ y_M_first.cls ≠ "java/lang/invoke/VarHandle" := by decide +kernel
theorem pd_M_ask : (parseMethodDescriptor y_M_ask.desc).map (fun d => d.parameters.length) = some 3 := by decide +kernel
theorem pc_M_ask : y_M_ask.cls ≠ "java/lang/invoke/MethodHandle" ∧ y_M_ask.cls ≠ "java/lang/invoke/VarHandle" := by decide +kernel
theorem pd_M_pairStep : (parseMethodDescriptor y_M_pairStep.desc).map (fun d => d.parameters.length) = some 2 := by decide +kernel
theorem pc_M_pairStep : y_M_pairStep.cls ≠ "java/lang/invoke/MethodHandle" ∧ y_M_pairStep.cls ≠ "java/lang/invoke/VarHandle" := by decide +kernel
theorem pd_M_binaryStep : (parseMethodDescriptor y_M_binaryStep.desc).map (fun d => d.parameters.length) = some 2 := by decide +kernel
theorem pc_M_binaryStep : y_M_binaryStep.cls ≠ "java/lang/invoke/MethodHandle" ∧ y_M_binaryStep.cls ≠ "java/lang/invoke/VarHandle" := by decide +kernel
theorem pd_M_limit : (parseMethodDescriptor y_M_limit.desc).map (fun d => d.parameters.length) = some 2 := by decide +kernel
theorem pc_M_limit : y_M_limit.cls ≠ "java/lang/invoke/MethodHandle" ∧ y_M_limit.cls ≠ "java/lang/invoke/VarHandle" := by decide +kernel
theorem pd_M_toStep : (parseMethodDescriptor y_M_toStep.desc).map (fun d => d.parameters.length) = some 2 := by decide +kernel
theorem pc_M_toStep : y_M_toStep.cls ≠ "java/lang/invoke/MethodHandle" ∧ y_M_toStep.cls ≠ "java/lang/invoke/VarHandle" := by decide +kernel
theorem pd_M_onward : (parseMethodDescriptor y_M_onward.desc).map (fun d => d.parameters.length) = some 1 := by decide +kernel
theorem pc_M_onward : y_M_onward.cls ≠ "java/lang/invoke/MethodHandle" ∧ y_M_onward.cls ≠ "java/lang/invoke/VarHandle" := by decide +kernel
theorem pd_M_choose : (parseMethodDescriptor y_M_choose.desc).map (fun d => d.parameters.length) = some 2 := by decide +kernel
theorem pc_M_choose : y_M_choose.cls ≠ "java/lang/invoke/MethodHandle" ∧ y_M_choose.cls ≠ "java/lang/invoke/VarHandle" := by decide +kernel
theorem pd_M_skip : (parseMethodDescriptor y_M_skip.desc).map (fun d => d.parameters.length) = some 1 := by decide +kernel
theorem pc_M_skip : y_M_skip.cls ≠ "java/lang/invoke/MethodHandle" ∧ y_M_skip.cls ≠ "java/lang/invoke/VarHandle" := by decide +kernel
theorem pd_M_value : (parseMethodDescriptor y_M_value.desc).map (fun d => d.parameters.length) = some 0 := by decide +kernel
theorem pc_M_value : y_M_value.cls ≠ "java/lang/invoke/MethodHandle" ∧ y_M_value.cls ≠ "java/lang/invoke/VarHandle" := by decide +kernel
theorem pd_M_writes : (parseMethodDescriptor y_M_writes.desc).map (fun d => d.parameters.length) = some 0 := by decide +kernel
theorem pc_M_writes : y_M_writes.cls ≠ "java/lang/invoke/MethodHandle" ∧ y_M_writes.cls ≠ "java/lang/invoke/VarHandle" := by decide +kernel
theorem pd_M_written : (parseMethodDescriptor y_M_written.desc).map (fun d => d.parameters.length) = some 1 := by decide +kernel
theorem pc_M_written : y_M_written.cls ≠ "java/lang/invoke/MethodHandle" ∧ y_M_written.cls ≠ "java/lang/invoke/VarHandle" := by decide +kernel
theorem pd_M_cost : (parseMethodDescriptor y_M_cost.desc).map (fun d => d.parameters.length) = some 0 := by decide +kernel
theorem pc_M_cost : y_M_cost.cls ≠ "java/lang/invoke/MethodHandle" ∧ y_M_cost.cls ≠ "java/lang/invoke/VarHandle" := by decide +kernel
end
section
/-! Contracts over one world, and the rows for calls that keep it. -/
theorem tb_good {w : Cond} (h : w ∈ lw_g) : (w.onTables && w.keeps) = true ∨ ∃ ty, w = .arrayClass ty := good_of_word (List.mem_filter.mp h).2
theorem good_w {y : MethodName} {b : ByteArray} {n : Nat} {ret : Option FieldType} (hc : Cond.code y b n ret ∈ lw_g) : GoodIn lw_g (Cond.code y b n ret :: lw_g) := fun w h => by
  rcases List.mem_cons.mp h with h | h
  · rw [h]; exact ⟨hc, tb_good hc⟩
  · exact ⟨h, tb_good h⟩
theorem good_V {own C : String} {idx : Nat} {y : MethodName} {b : ByteArray} {n : Nat} {ret : Option FieldType} (h1 : Cond.methodLink own idx y ∈ lw_g) (h2 : Cond.instanceMethod y ∈ lw_g) (h3 : Cond.selects C y y ∈ lw_g) (h4 : Cond.initialized C ∈ lw_g) (hc : Cond.code y b n ret ∈ lw_g) : GoodIn lw_g (wsV own idx C y (Cond.code y b n ret :: lw_g)) := fun w h => by
  unfold wsV at h
  rcases List.mem_append.mp h with h | h
  · have h9 : w ∈ lw_g := by
      simp only [List.mem_cons, List.not_mem_nil, or_false] at h
      rcases h with h | h | h | h <;> rw [h] <;> assumption
    exact ⟨h9, tb_good h9⟩
  · exact good_w hc w h
theorem good_S {own : String} {idx : Nat} {y : MethodName} {b : ByteArray} {n : Nat} {ret : Option FieldType} (h1 : Cond.methodLink own idx y ∈ lw_g) (h2 : Cond.static y ∈ lw_g) (h4 : Cond.initialized own ∈ lw_g) (hc : Cond.code y b n ret ∈ lw_g) : GoodIn lw_g (wsS own idx y (Cond.code y b n ret :: lw_g)) := fun w h => by
  unfold wsS at h
  rcases List.mem_append.mp h with h | h
  · have h9 : w ∈ lw_g := by
      simp only [List.mem_cons, List.not_mem_nil, or_false] at h
      rcases h with h | h | h <;> rw [h] <;> assumption
    exact ⟨h9, tb_good h9⟩
  · exact good_w hc w h
section ZW
variable {S : Type}
def zPre (dC : Nat → ClassId) (dI : Nat → Nat → Nat) (tys : List (ClassId × FieldType)) (w : S → va_W) (s0 : S) (sz : Nat) (U : State) : Prop :=
  U.heap.size = sz ∧ va_P (dC, dI) vwCl (w s0) U.heap ∧ va_K (dC, dI) vwCl tys U ∧ va_D (fun _ => True) (w s0) ∧ zN U
def zAft (dC : Nat → ClassId) (dI : Nat → Nat → Nat) (tys : List (ClassId × FieldType)) (w : S → va_W) (A : Nat → Prop) (u : S) (t : State) : Prop :=
  va_P (dC, dI) vwCl (w u) t.heap ∧ va_K (dC, dI) vwCl tys t ∧ va_D A (w u)
def MetI (l : Launch) (y : MethodName) (ws : List Cond) (rm : Room) (dC : Nat → ClassId) (dI : Nat → Nat → Nat) (tys : List (ClassId × FieldType)) (w : S → va_W) (As : List Value) (s0 : S) (post : Int32 → S → Prop) : Prop :=
  ∀ sz : Nat, Met l y ws rm (va_Pc As (zPre dC dI tys w s0 sz)) (va_Qi post (zAft dC dI tys w (va_A (w s0) sz)) (va_A (w s0) sz)) 0 0 (va_A (w s0) sz)
def MetJ (l : Launch) (y : MethodName) (ws : List Cond) (rm : Room) (dC : Nat → ClassId) (dI : Nat → Nat → Nat) (tys : List (ClassId × FieldType)) (w : S → va_W) (As : List Value) (s0 : S) (post : Int64 → S → Prop) : Prop :=
  ∀ sz : Nat, Met l y ws rm (va_Pc As (zPre dC dI tys w s0 sz)) (va_Ql post (zAft dC dI tys w (va_A (w s0) sz)) (va_A (w s0) sz)) 0 0 (va_A (w s0) sz)
def MetV (l : Launch) (y : MethodName) (ws : List Cond) (rm : Room) (dC : Nat → ClassId) (dI : Nat → Nat → Nat) (tys : List (ClassId × FieldType)) (w : S → va_W) (As : List Value) (s0 : S) (post : S → Prop) : Prop :=
  ∀ sz : Nat, Met l y ws rm (va_Pc As (zPre dC dI tys w s0 sz)) (va_Qv post (zAft dC dI tys w (va_A (w s0) sz)) (va_A (w s0) sz)) 0 0 (va_A (w s0) sz)
variable {l : Launch} {y : MethodName} {ws ws' : List Cond} {rm : Room} {dC : Nat → ClassId} {dI : Nat → Nat → Nat} {tys : List (ClassId × FieldType)} {w : S → va_W} {As : List Value} {s0 : S} {cc : ByteArray} {maxL : Nat} {ret : Option FieldType}
/-- what a walk begins with -/
def zGo (l : Launch) (y : MethodName) (ws : List Cond) (rm : Room) (dC : Nat → ClassId) (dI : Nat → Nat → Nat) (tys : List (ClassId × FieldType)) (w : S → va_W) (As : List Value) (s0 : S) (cc : ByteArray) (maxL : Nat) (ret : Option FieldType) (Qc : (Nat → Prop) → Array Value → State → Outcome → State → Prop) : Prop :=
  ∀ (p : Program) (e : Env) (s : State) (m : MethodId) (args : Array Value) (below : List Frame) (meth : Method) (c : Code) (A : Nat → Prop) (ls : Array Slot),
    p.tables.exec = Jvm.exec → c.code = cc → meth.sig.returnType = ret → (∀ w ∈ ws, w.before args s = true) → s.vm.findClass y.cls = some m.cls → meth.locks = false → c.maxLocals = maxL → (∀ q, s.heap.size ≤ q → A q) → va_P (dC, dI) vwCl (w s0) s.heap → va_K (dC, dI) vwCl tys s → va_D A (w s0) → va_S A s.heap s.heap [] → zN s → lv_has ls maxL (lv_args 0 As) →
    W p l e rm s m args below meth c s.heap [] 0 0 (MQ below (Qc A) args s 0 0 A) (F0 m 0 ls [])
theorem metI_of {post : Int32 → S → Prop} (hy : plainName y.cls = true) (hw : ws = Cond.code y cc maxL ret :: ws') (hlen : (lg_sl As).length ≤ maxL) (body : zGo l y ws rm dC dI tys w As s0 cc maxL ret (fun A => va_Qi post (zAft dC dI tys w A) A)) : MetI l y ws rm dC dI tys w As s0 post := by
  intro sz
  refine Met.ofW (cc := cc) (maxL := maxL) (ret := ret) hy hw ?_
  intro p e s m args below meth c s₁ B hml hv
  obtain ⟨rfl, hsz, hP, hK, hD0, hN⟩ := hv
  subst hsz
  have hl := lv_entry As hlen
  rw [lg_entry_eq]
  exact body p e s m _ below meth c _ _ B.exec B.bytes B.returns (atoms_spec (ws := ws) B.pre) (findClass_of_methodNamed B.named) B.notSynchronized hml (fun q h => Or.inr h) hP hK hD0.self va_S.rf hN hl
theorem metJ_of {post : Int64 → S → Prop} (hy : plainName y.cls = true) (hw : ws = Cond.code y cc maxL ret :: ws') (hlen : (lg_sl As).length ≤ maxL) (body : zGo l y ws rm dC dI tys w As s0 cc maxL ret (fun A => va_Ql post (zAft dC dI tys w A) A)) : MetJ l y ws rm dC dI tys w As s0 post := by
  intro sz
  refine Met.ofW (cc := cc) (maxL := maxL) (ret := ret) hy hw ?_
  intro p e s m args below meth c s₁ B hml hv
  obtain ⟨rfl, hsz, hP, hK, hD0, hN⟩ := hv
  subst hsz
  have hl := lv_entry As hlen
  rw [lg_entry_eq]
  exact body p e s m _ below meth c _ _ B.exec B.bytes B.returns (atoms_spec (ws := ws) B.pre) (findClass_of_methodNamed B.named) B.notSynchronized hml (fun q h => Or.inr h) hP hK hD0.self va_S.rf hN hl
theorem metV_of {post : S → Prop} (hy : plainName y.cls = true) (hw : ws = Cond.code y cc maxL ret :: ws') (hlen : (lg_sl As).length ≤ maxL) (body : zGo l y ws rm dC dI tys w As s0 cc maxL ret (fun A => va_Qv post (zAft dC dI tys w A) A)) : MetV l y ws rm dC dI tys w As s0 post := by
  intro sz
  refine Met.ofW (cc := cc) (maxL := maxL) (ret := ret) hy hw ?_
  intro p e s m args below meth c s₁ B hml hv
  obtain ⟨rfl, hsz, hP, hK, hD0, hN⟩ := hv
  subst hsz
  have hl := lv_entry As hlen
  rw [lg_entry_eq]
  exact body p e s m _ below meth c _ _ B.exec B.bytes B.returns (atoms_spec (ws := ws) B.pre) (findClass_of_methodNamed B.named) B.notSynchronized hml (fun q h => Or.inr h) hP hK hD0.self va_S.rf hN hl
end ZW
section ZR
variable {S : Type} {p : Program} {l : Launch} {e : Env} {R : Room} {s : State} {m : MethodId} {args : Array Value} {below : List Frame} {meth : Method} {c : Code} {H : Heap} {locs : List Loc} {Q : State → Prop} {cc : ByteArray} {pc : Nat} {ls : Array Slot} {dC : Nat → ClassId} {dI : Nat → Nat → Nat} {tys : List (ClassId × FieldType)} {w : S → va_W} {A : Nat → Prop}
theorem ret_i {post : Int32 → S → Prop} {v : Int32} {u : S} (hx : p.tables.exec = Jvm.exec) (hb : c.code = cc) (hr : meth.sig.returnType = some .int) (hlocks : meth.locks = false) (hP : va_P (dC, dI) vwCl (w u) H) (hK : va_K (dC, dI) vwCl tys s) (hD : va_D A (w u)) (hS : va_S A s.heap H locs) (hdg : decode cc pc = .ok (.ireturn, 1)) (hpost : post v u) : W p l e R s m args below meth c H locs 0 0 (MQ below (va_Qi post (zAft dC dI tys w A) A) args s 0 0 A) (F0 m pc ls [.int v]) :=
  W.iret hx hb hr (fun t ht hW => ⟨⟨v, u, rfl, hpost, by rw [ht]; exact hP, va_K.moved hW.alike hK, hD⟩, hS.F ht⟩) hS.2.2 hdg hlocks
theorem ret_z {post : Int32 → S → Prop} {v : Int32} {u : S} (hx : p.tables.exec = Jvm.exec) (hb : c.code = cc) (hr : meth.sig.returnType = some .boolean) (hlocks : meth.locks = false) (hP : va_P (dC, dI) vwCl (w u) H) (hK : va_K (dC, dI) vwCl tys s) (hD : va_D A (w u)) (hS : va_S A s.heap H locs) (hdg : decode cc pc = .ok (.ireturn, 1)) (hn : narrow .boolean (.int v) = .int v) (hpost : post v u) : W p l e R s m args below meth c H locs 0 0 (MQ below (va_Qi post (zAft dC dI tys w A) A) args s 0 0 A) (F0 m pc ls [.int v]) :=
  W.zret hx hb hr hn (fun t ht hW => ⟨⟨v, u, rfl, hpost, by rw [ht]; exact hP, va_K.moved hW.alike hK, hD⟩, hS.F ht⟩) hS.2.2 hdg hlocks
theorem ret_v {post : S → Prop} {u : S} (hx : p.tables.exec = Jvm.exec) (hb : c.code = cc) (hr : meth.sig.returnType = none) (hlocks : meth.locks = false) (hP : va_P (dC, dI) vwCl (w u) H) (hK : va_K (dC, dI) vwCl tys s) (hD : va_D A (w u)) (hS : va_S A s.heap H locs) (hdg : decode cc pc = .ok (.return_, 1)) (hpost : post u) : W p l e R s m args below meth c H locs 0 0 (MQ below (va_Qv post (zAft dC dI tys w A) A) args s 0 0 A) (F0 m pc ls []) :=
  W.vret hx hb hr (fun t ht hW => ⟨⟨u, rfl, hpost, by rw [ht]; exact hP, va_K.moved hW.alike hK, hD⟩, hS.F ht⟩) hS.2.2 hdg hlocks
theorem z_free {s0 : S} {H0 : Heap} (hD : va_D A (w s0)) (hS : va_S A H0 H locs) (hA : ∀ q, H0.size ≤ q → A q) : ∀ q, va_A (w s0) H.size q → A q := fun q h => by
  rcases h with ⟨k, e, h⟩ | h
  · exact hD.2 k _ h
  · exact hA q (Nat.le_trans hS.1 h)
theorem z_blind {s0 : S} {As : List Value} {sz : Nat} : FrameBlind (va_Pc As (zPre dC dI tys w s0 sz)) := fun a U g mk q => by
  obtain ⟨q0, q1, qP, qK, qD, qN⟩ := q
  exact ⟨q0, q1, qP, va_K.moved (u := U) (U := U.calling g mk a) (Vm.Alike.refl U.vm) qK, qD, zN_vm (U := U) rfl qN⟩
theorem z_pre {s0 : S} {As : List Value} (hP : va_P (dC, dI) vwCl (w s0) H) (hK : va_K (dC, dI) vwCl tys s) (hD : va_D A (w s0)) (hN : zN s) : ∀ U : State, U.heap = H → s.WarmedH U.vm → va_Pc As (zPre dC dI tys w s0 H.size) As.toArray U := fun U hU hW =>
  ⟨rfl, by rw [hU], by rw [hU]; exact hP, va_K.moved hW.alike hK, hD.weaken (fun _ _ _ _ => trivial), zN_warm hW hN⟩
variable {st0 : List Value} {own C : String} {idx nL maxL ci q0 q : Nat} {y : MethodName} {b : ByteArray} {ret : Option FieldType} {rm : Room} {As rest : List Value} {s0 : S} {fs : List Value} {cn : vw_C}
theorem call_i {post : Int32 → S → Prop} (hM : MetI l y (Cond.code y b maxL ret :: lw_g) rm dC dI tys w (.ref q :: As) s0 post) (h1 : Cond.methodLink own idx y ∈ lw_g) (h2 : Cond.instanceMethod y ∈ lw_g) (h3 : Cond.selects C y y ∈ lw_g) (h4 : Cond.initialized C ∈ lw_g) (hc : Cond.code y b maxL ret ∈ lw_g)
    (hd : y.cls = C ∧ y.cls ≠ "java/lang/invoke/MethodHandle" ∧ y.cls ≠ "java/lang/invoke/VarHandle" ∧ (parseMethodDescriptor y.desc).map (fun d => d.parameters.length) = some As.length) (hcl : vwCl[ci]? = some cn) (hcn : cn.1 = C) (he : (w s0)[q0]? = some (q, .inr (ci, fs))) (hrc : rm.cells = 0) (hrs : rm.slots = 0) (hR : rm.frames + 1 ≤ R.frames ∧ 8 + (maxL + 11) + rm.locals ≤ R.locals) (hst : (rest.map fun v => v.category).sum ≤ 8) (hstk : st0 = As.reverse ++ .ref q :: rest)
    (hx : p.tables.exec = Jvm.exec) (hb : c.code = cc) (hml : c.maxLocals = nL) (hown : s.vm.findClass own = some m.cls) (ht : ∀ w ∈ lw_g, w.before args s = true) (hls : ls.size = nL) (hP : va_P (dC, dI) vwCl (w s0) H) (hK : va_K (dC, dI) vwCl tys s) (hD : va_D A (w s0)) (hS : va_S A s.heap H locs) (hA : ∀ q, s.heap.size ≤ q → A q) (hN : zN s) (hdg : decode cc pc = .ok (.invokevirtual idx, 3))
    (kk : ∀ (r : Int32) (u : S) (H1 : Heap) (locs1 : List Loc), post r u → va_P (dC, dI) vwCl (w u) H1 → va_D A (w u) → va_S A s.heap H1 locs1 → W p l e R s m args below meth c H1 locs1 0 0 Q (F0 m (pc + 3) ls (.int r :: rest))) : W p l e R s m args below meth c H locs 0 0 Q (F0 m pc ls st0) := by
  have hF := z_free hD hS hA
  refine va_calli (va_runV (As := As) (rest := rest) ⟨hx, hb, hml, hown, ht⟩ (hM H.size) (cwV (C := C) As.length ht (good_V h1 h2 h3 h4 hc) rfl hrc hrs hd hR) ⟨z_blind, by rw [← hcn]; exact va_recv hK hP hcl he, z_pre hP hK hD hN⟩ rfl rfl hls hstk (lv_room hst) hdg ⟨Nat.zero_le _, Nat.zero_le _⟩) hS (fun q _ h => hF q h) hF (fun r u t H1 locs ht' hvm hpost hB hz hk hS1 => ?_)
  obtain ⟨hP1, hK1, hD1⟩ := hB
  rw [ht'] at hP1
  exact kk r u H1 locs hpost hP1 (hD1.weaken (fun _ q _ h => hF q.1 h)) hS1
theorem call_v {post : S → Prop} (hM : MetV l y (Cond.code y b maxL ret :: lw_g) rm dC dI tys w (.ref q :: As) s0 post) (h1 : Cond.methodLink own idx y ∈ lw_g) (h2 : Cond.instanceMethod y ∈ lw_g) (h3 : Cond.selects C y y ∈ lw_g) (h4 : Cond.initialized C ∈ lw_g) (hc : Cond.code y b maxL ret ∈ lw_g)
    (hd : y.cls = C ∧ y.cls ≠ "java/lang/invoke/MethodHandle" ∧ y.cls ≠ "java/lang/invoke/VarHandle" ∧ (parseMethodDescriptor y.desc).map (fun d => d.parameters.length) = some As.length) (hcl : vwCl[ci]? = some cn) (hcn : cn.1 = C) (he : (w s0)[q0]? = some (q, .inr (ci, fs))) (hrc : rm.cells = 0) (hrs : rm.slots = 0) (hR : rm.frames + 1 ≤ R.frames ∧ 8 + (maxL + 11) + rm.locals ≤ R.locals) (hst : (rest.map fun v => v.category).sum ≤ 8) (hstk : st0 = As.reverse ++ .ref q :: rest)
    (hx : p.tables.exec = Jvm.exec) (hb : c.code = cc) (hml : c.maxLocals = nL) (hown : s.vm.findClass own = some m.cls) (ht : ∀ w ∈ lw_g, w.before args s = true) (hls : ls.size = nL) (hP : va_P (dC, dI) vwCl (w s0) H) (hK : va_K (dC, dI) vwCl tys s) (hD : va_D A (w s0)) (hS : va_S A s.heap H locs) (hA : ∀ q, s.heap.size ≤ q → A q) (hN : zN s) (hdg : decode cc pc = .ok (.invokevirtual idx, 3))
    (kk : ∀ (u : S) (H1 : Heap) (locs1 : List Loc), post u → va_P (dC, dI) vwCl (w u) H1 → va_D A (w u) → va_S A s.heap H1 locs1 → W p l e R s m args below meth c H1 locs1 0 0 Q (F0 m (pc + 3) ls rest)) : W p l e R s m args below meth c H locs 0 0 Q (F0 m pc ls st0) := by
  have hF := z_free hD hS hA
  refine va_callv (va_runV (As := As) (rest := rest) ⟨hx, hb, hml, hown, ht⟩ (hM H.size) (cwV (C := C) As.length ht (good_V h1 h2 h3 h4 hc) rfl hrc hrs hd hR) ⟨z_blind, by rw [← hcn]; exact va_recv hK hP hcl he, z_pre hP hK hD hN⟩ rfl rfl hls hstk (lv_room hst) hdg ⟨Nat.zero_le _, Nat.zero_le _⟩) hS (fun q _ h => hF q h) hF (fun u t H1 locs ht' hvm hpost hB hz hk hS1 => ?_)
  obtain ⟨hP1, hK1, hD1⟩ := hB
  rw [ht'] at hP1
  exact kk u H1 locs hpost hP1 (hD1.weaken (fun _ q _ h => hF q.1 h)) hS1
theorem call_s {post : Int32 → S → Prop} (hM : MetI l y (Cond.code y b maxL ret :: lw_g) rm dC dI tys w As s0 post) (h1 : Cond.methodLink own idx y ∈ lw_g) (h2 : Cond.static y ∈ lw_g) (h4 : Cond.initialized own ∈ lw_g) (hc : Cond.code y b maxL ret ∈ lw_g)
    (hd : y.cls = own ∧ y.cls ≠ "java/lang/invoke/MethodHandle" ∧ y.cls ≠ "java/lang/invoke/VarHandle" ∧ (parseMethodDescriptor y.desc).map (fun d => d.parameters.length) = some As.length) (hrc : rm.cells = 0) (hrs : rm.slots = 0) (hR : rm.frames + 1 ≤ R.frames ∧ 8 + (maxL + 11) + rm.locals ≤ R.locals) (hst : (rest.map fun v => v.category).sum ≤ 8) (hstk : st0 = As.reverse ++ rest)
    (hx : p.tables.exec = Jvm.exec) (hb : c.code = cc) (hml : c.maxLocals = nL) (hown : s.vm.findClass own = some m.cls) (ht : ∀ w ∈ lw_g, w.before args s = true) (hls : ls.size = nL) (hP : va_P (dC, dI) vwCl (w s0) H) (hK : va_K (dC, dI) vwCl tys s) (hD : va_D A (w s0)) (hS : va_S A s.heap H locs) (hA : ∀ q, s.heap.size ≤ q → A q) (hN : zN s) (hdg : decode cc pc = .ok (.invokestatic idx, 3))
    (kk : ∀ (r : Int32) (u : S) (H1 : Heap) (locs1 : List Loc), post r u → va_P (dC, dI) vwCl (w u) H1 → va_D A (w u) → va_S A s.heap H1 locs1 → W p l e R s m args below meth c H1 locs1 0 0 Q (F0 m (pc + 3) ls (.int r :: rest))) : W p l e R s m args below meth c H locs 0 0 Q (F0 m pc ls st0) := by
  have hF := z_free hD hS hA
  refine va_calli (va_runS (As := As) (rest := rest) ⟨hx, hb, hml, hown, ht⟩ (hM H.size) (cwS As.length ht (good_S h1 h2 h4 hc) rfl hrc hrs hd hR) ⟨z_blind, z_pre hP hK hD hN⟩ rfl rfl hls hstk (lv_room hst) hdg ⟨Nat.zero_le _, Nat.zero_le _⟩) hS (fun q _ h => hF q h) hF (fun r u t H1 locs ht' hvm hpost hB hz hk hS1 => ?_)
  obtain ⟨hP1, hK1, hD1⟩ := hB
  rw [ht'] at hP1
  exact kk r u H1 locs hpost hP1 (hD1.weaken (fun _ q _ h => hF q.1 h)) hS1
theorem call_sj {post : Int64 → S → Prop} (hM : MetJ l y (Cond.code y b maxL ret :: lw_g) rm dC dI tys w As s0 post) (h1 : Cond.methodLink own idx y ∈ lw_g) (h2 : Cond.static y ∈ lw_g) (h4 : Cond.initialized own ∈ lw_g) (hc : Cond.code y b maxL ret ∈ lw_g)
    (hd : y.cls = own ∧ y.cls ≠ "java/lang/invoke/MethodHandle" ∧ y.cls ≠ "java/lang/invoke/VarHandle" ∧ (parseMethodDescriptor y.desc).map (fun d => d.parameters.length) = some As.length) (hrc : rm.cells = 0) (hrs : rm.slots = 0) (hR : rm.frames + 1 ≤ R.frames ∧ 8 + (maxL + 11) + rm.locals ≤ R.locals) (hst : (rest.map fun v => v.category).sum ≤ 8) (hstk : st0 = As.reverse ++ rest)
    (hx : p.tables.exec = Jvm.exec) (hb : c.code = cc) (hml : c.maxLocals = nL) (hown : s.vm.findClass own = some m.cls) (ht : ∀ w ∈ lw_g, w.before args s = true) (hls : ls.size = nL) (hP : va_P (dC, dI) vwCl (w s0) H) (hK : va_K (dC, dI) vwCl tys s) (hD : va_D A (w s0)) (hS : va_S A s.heap H locs) (hA : ∀ q, s.heap.size ≤ q → A q) (hN : zN s) (hdg : decode cc pc = .ok (.invokestatic idx, 3))
    (kk : ∀ (r : Int64) (u : S) (H1 : Heap) (locs1 : List Loc), post r u → va_P (dC, dI) vwCl (w u) H1 → va_D A (w u) → va_S A s.heap H1 locs1 → W p l e R s m args below meth c H1 locs1 0 0 Q (F0 m (pc + 3) ls (.long r :: rest))) : W p l e R s m args below meth c H locs 0 0 Q (F0 m pc ls st0) := by
  have hF := z_free hD hS hA
  refine va_calll (va_runS (As := As) (rest := rest) ⟨hx, hb, hml, hown, ht⟩ (hM H.size) (cwS As.length ht (good_S h1 h2 h4 hc) rfl hrc hrs hd hR) ⟨z_blind, z_pre hP hK hD hN⟩ rfl rfl hls hstk (lv_room hst) hdg ⟨Nat.zero_le _, Nat.zero_le _⟩) hS (fun q _ h => hF q h) hF (fun r u t H1 locs ht' hvm hpost hB hz hk hS1 => ?_)
  obtain ⟨hP1, hK1, hD1⟩ := hB
  rw [ht'] at hP1
  exact kk r u H1 locs hpost hP1 (hD1.weaken (fun _ q _ h => hF q.1 h)) hS1
theorem call_j {post : Int64 → S → Prop} (hM : MetJ l y (Cond.code y b maxL ret :: lw_g) rm dC dI tys w (.ref q :: As) s0 post) (h1 : Cond.methodLink own idx y ∈ lw_g) (h2 : Cond.instanceMethod y ∈ lw_g) (h3 : Cond.selects C y y ∈ lw_g) (h4 : Cond.initialized C ∈ lw_g) (hc : Cond.code y b maxL ret ∈ lw_g)
    (hd : y.cls = C ∧ y.cls ≠ "java/lang/invoke/MethodHandle" ∧ y.cls ≠ "java/lang/invoke/VarHandle" ∧ (parseMethodDescriptor y.desc).map (fun d => d.parameters.length) = some As.length) (hcl : vwCl[ci]? = some cn) (hcn : cn.1 = C) (he : (w s0)[q0]? = some (q, .inr (ci, fs))) (hrc : rm.cells = 0) (hrs : rm.slots = 0) (hR : rm.frames + 1 ≤ R.frames ∧ 8 + (maxL + 11) + rm.locals ≤ R.locals) (hst : (rest.map fun v => v.category).sum ≤ 8) (hstk : st0 = As.reverse ++ .ref q :: rest)
    (hx : p.tables.exec = Jvm.exec) (hb : c.code = cc) (hml : c.maxLocals = nL) (hown : s.vm.findClass own = some m.cls) (ht : ∀ w ∈ lw_g, w.before args s = true) (hls : ls.size = nL) (hP : va_P (dC, dI) vwCl (w s0) H) (hK : va_K (dC, dI) vwCl tys s) (hD : va_D A (w s0)) (hS : va_S A s.heap H locs) (hA : ∀ q, s.heap.size ≤ q → A q) (hN : zN s) (hdg : decode cc pc = .ok (.invokevirtual idx, 3))
    (kk : ∀ (r : Int64) (u : S) (H1 : Heap) (locs1 : List Loc), post r u → va_P (dC, dI) vwCl (w u) H1 → va_D A (w u) → va_S A s.heap H1 locs1 → W p l e R s m args below meth c H1 locs1 0 0 Q (F0 m (pc + 3) ls (.long r :: rest))) : W p l e R s m args below meth c H locs 0 0 Q (F0 m pc ls st0) := by
  have hF := z_free hD hS hA
  refine va_calll (va_runV (As := As) (rest := rest) ⟨hx, hb, hml, hown, ht⟩ (hM H.size) (cwV (C := C) As.length ht (good_V h1 h2 h3 h4 hc) rfl hrc hrs hd hR) ⟨z_blind, by rw [← hcn]; exact va_recv hK hP hcl he, z_pre hP hK hD hN⟩ rfl rfl hls hstk (lv_room hst) hdg ⟨Nat.zero_le _, Nat.zero_le _⟩) hS (fun q _ h => hF q h) hF (fun r u t H1 locs ht' hvm hpost hB hz hk hS1 => ?_)
  obtain ⟨hP1, hK1, hD1⟩ := hB
  rw [ht'] at hP1
  exact kk r u H1 locs hpost hP1 (hD1.weaken (fun _ q _ h => hF q.1 h)) hS1
theorem call_n {host : String} {post : Int32 → S → Prop} (hM : MetI l y (Cond.code y b maxL ret :: lw_g) rm dC dI tys w As s0 post) (h1 : va_Nw (Cond.methodLinkNest own idx y host) s) (h2 : Cond.static y ∈ lw_g) (h4 : Cond.initialized y.cls ∈ lw_g) (hc : Cond.code y b maxL ret ∈ lw_g)
    (hd : y.cls ≠ "java/lang/invoke/MethodHandle" ∧ y.cls ≠ "java/lang/invoke/VarHandle" ∧ (parseMethodDescriptor y.desc).map (fun d => d.parameters.length) = some As.length) (hrc : rm.cells = 0) (hrs : rm.slots = 0) (hR : rm.frames + 1 ≤ R.frames ∧ 8 + (maxL + 11) + rm.locals ≤ R.locals) (hst : (rest.map fun v => v.category).sum ≤ 8) (hstk : st0 = As.reverse ++ rest)
    (hx : p.tables.exec = Jvm.exec) (hb : c.code = cc) (hml : c.maxLocals = nL) (hown : s.vm.findClass own = some m.cls) (ht : ∀ w ∈ lw_g, w.before args s = true) (hls : ls.size = nL) (hP : va_P (dC, dI) vwCl (w s0) H) (hK : va_K (dC, dI) vwCl tys s) (hD : va_D A (w s0)) (hS : va_S A s.heap H locs) (hA : ∀ q, s.heap.size ≤ q → A q) (hN : zN s) (hdg : decode cc pc = .ok (.invokestatic idx, 3))
    (kk : ∀ (r : Int32) (u : S) (H1 : Heap) (locs1 : List Loc), post r u → va_P (dC, dI) vwCl (w u) H1 → va_D A (w u) → va_S A s.heap H1 locs1 → W p l e R s m args below meth c H1 locs1 0 0 Q (F0 m (pc + 3) ls (.int r :: rest))) : W p l e R s m args below meth c H locs 0 0 Q (F0 m pc ls st0) := by
  have hF := z_free hD hS hA
  refine va_calli (va_runSN (As := As) (rest := rest) ⟨hx, hb, hml, hown, ht⟩ (hM H.size) ⟨va_cnB As.length ht (good_w hc) rfl hrc hrs h1 (ht _ h4) hd hR, ht _ h2, trivial⟩ ⟨z_blind, z_pre hP hK hD hN⟩ rfl rfl hls hstk (lv_room hst) hdg ⟨Nat.zero_le _, Nat.zero_le _⟩) hS (fun q _ h => hF q h) hF (fun r u t H1 locs ht' hvm hpost hB hz hk hS1 => ?_)
  obtain ⟨hP1, hK1, hD1⟩ := hB
  rw [ht'] at hP1
  exact kk r u H1 locs hpost hP1 (hD1.weaken (fun _ q _ h => hF q.1 h)) hS1
theorem ret_l {post : Int64 → S → Prop} {v : Int64} {u : S} (hx : p.tables.exec = Jvm.exec) (hb : c.code = cc) (hr : meth.sig.returnType = some .long) (hlocks : meth.locks = false) (hP : va_P (dC, dI) vwCl (w u) H) (hK : va_K (dC, dI) vwCl tys s) (hD : va_D A (w u)) (hS : va_S A s.heap H locs) (hdg : decode cc pc = .ok (.lreturn, 1)) (hpost : post v u) : W p l e R s m args below meth c H locs 0 0 (MQ below (va_Ql post (zAft dC dI tys w A) A) args s 0 0 A) (F0 m pc ls [.long v]) :=
  W.lret hx hb hr (fun t ht hW => ⟨⟨v, u, rfl, hpost, by rw [ht]; exact hP, va_K.moved hW.alike hK, hD⟩, hS.F ht⟩) hS.2.2 hdg hlocks
end ZR
/-- a room of n frames that makes nothing -/
def rmN (n : Nat) : Room := { frames := n, cells := 0, slots := 0, locals := 40 * n }
theorem rm_le {n N maxL : Nat} (h : n + 1 ≤ N) (hm : maxL ≤ 21) : (rmN n).frames + 1 ≤ (rmN N).frames ∧ 8 + (maxL + 11) + (rmN n).locals ≤ (rmN N).locals := by
  refine ⟨h, ?_⟩
  show 8 + (maxL + 11) + 40 * n ≤ 40 * N
  omega
/-- every question at depth d is answered as p_all says -/
def AskOK (l : Launch) (dC : Nat → ClassId) (dI : Nat → Nat → Nat) (a : Nat → Nat) (k : Nat → ClassId) (X : zX) (T : zT) (M d : Nat) : Prop := ∀ (e : Int32) (s : zC), Tr (x_F X) T d e → Wk s →
  MetI l y_S_ask w_S_ask (rmN (5 * d + 3)) dC dI (yX k) (wS a k X) [.ref (a 1), .int e] s (fun r u => p_all (x_F X) M d e s = (r, u) ∧ Wk u)
-- the written count stays: by equations whose sides differ in names alone
theorem pg_1 {α β γ δ : Type} (a b : α) (t : β × γ × δ) : (a, t).2.2.2 = (b, t).2.2.2 := rfl
theorem pg_2 {α β γ δ : Type} (x : α) (a b : β) (t : γ × δ) : (x, a, t).2.2.2 = (x, b, t).2.2.2 := rfl
theorem pg_3 {α β γ δ : Type} (x : α) (y : β) (a b : γ) (t : δ) : (x, y, a, t).2.2.2 = (x, y, b, t).2.2.2 := rfl
theorem pw_1 {α β γ δ : Type} (a b : α) (t : β × γ × δ) : (a, t).2.2.1 = (b, t).2.2.1 := rfl
theorem kg_st (s : zC) (e v : Int32) : c_g (s_st s e v) = c_g s := pg_1 (upd s.1 (ix e) v) s.1 s.2
theorem kg_rs (s : zC) (e v : Int32) : c_g (s_rs s e v) = c_g s := pg_2 s.1 (upd s.2.1 (ix e) v) s.2.1 s.2.2
theorem kg_ct (s : zC) (e : Int32) (v : Int64) : c_g (s_ct s e v) = c_g s := pg_3 s.1 s.2.1 (vp_updL s.2.2.1 (ix e) v) s.2.2.1 s.2.2.2
theorem kw_va (g : zG) (k v : Int32) : g_wc (h_va g k v) = g_wc g := pw_1 (upd g.1 (ix k) v) g.1 g.2
theorem wk_st {s : zC} {e v : Int32} (h : Wk s) : Wk (s_st s e v) := by
  obtain ⟨n, hn, h⟩ := h
  exact ⟨n, hn, (congrArg g_wc (kg_st s e v)).trans h⟩
theorem wk_rs {s : zC} {e v : Int32} (h : Wk s) : Wk (s_rs s e v) := by
  obtain ⟨n, hn, h⟩ := h
  exact ⟨n, hn, (congrArg g_wc (kg_rs s e v)).trans h⟩
theorem wk_ct {s : zC} {e : Int32} {v : Int64} (h : Wk s) : Wk (s_ct s e v) := by
  obtain ⟨n, hn, h⟩ := h
  exact ⟨n, hn, (congrArg g_wc (kg_ct s e v)).trans h⟩
theorem wk_va {s : zC} {k v : Int32} (h : Wk s) : Wk (s_g s (h_va (c_g s) k v)) := by
  obtain ⟨n, hn, h⟩ := h
  exact ⟨n, hn, (kw_va (c_g s) k v).trans h⟩
theorem wk_sp {s : zC} (h : Wk s) : Wk (s_g s (h_sp (c_g s))) := by
  obtain ⟨n, hn, h⟩ := h
  exact ⟨n, hn, h⟩
end
section
/-! worlds behind one store -/
theorem cP_S_st {D : va_G} {H : Heap} {a : Nat → Nat} {k : Nat → ClassId} {X : zX} {s : zC} {e : Int32} {v : Int32} (g0 : va_P D vwCl ((wS a k X s).set 10 (a 10, .inl (k 10, 60, .inl (upd (c_st s) (ix e) v)))) H) : va_P D vwCl (wS a k X (s_st s e v)) H := g0
theorem cD_S_st {A : Nat → Prop} {a : Nat → Nat} {k : Nat → ClassId} {X : zX} {s : zC} {e : Int32} {v : Int32} (g0 : va_D A ((wS a k X s).set 10 (a 10, .inl (k 10, 60, .inl (upd (c_st s) (ix e) v))))) : va_D A (wS a k X (s_st s e v)) := g0
theorem cP_S_rs {D : va_G} {H : Heap} {a : Nat → Nat} {k : Nat → ClassId} {X : zX} {s : zC} {e : Int32} {v : Int32} (g0 : va_P D vwCl ((wS a k X s).set 11 (a 11, .inl (k 11, 60, .inl (upd (c_rs s) (ix e) v)))) H) : va_P D vwCl (wS a k X (s_rs s e v)) H := g0
theorem cD_S_rs {A : Nat → Prop} {a : Nat → Nat} {k : Nat → ClassId} {X : zX} {s : zC} {e : Int32} {v : Int32} (g0 : va_D A ((wS a k X s).set 11 (a 11, .inl (k 11, 60, .inl (upd (c_rs s) (ix e) v))))) : va_D A (wS a k X (s_rs s e v)) := g0
theorem cP_S_ct {D : va_G} {H : Heap} {a : Nat → Nat} {k : Nat → ClassId} {X : zX} {s : zC} {e : Int32} {v : Int64} (g0 : va_P D vwCl ((wS a k X s).set 12 (a 12, .inl (k 12, 60, .inr (.inl (vp_updL (c_ct s) (ix e) v))))) H) : va_P D vwCl (wS a k X (s_ct s e v)) H := g0
theorem cD_S_ct {A : Nat → Prop} {a : Nat → Nat} {k : Nat → ClassId} {X : zX} {s : zC} {e : Int32} {v : Int64} (g0 : va_D A ((wS a k X s).set 12 (a 12, .inl (k 12, 60, .inr (.inl (vp_updL (c_ct s) (ix e) v)))))) : va_D A (wS a k X (s_ct s e v)) := g0
theorem cP_S_va {D : va_G} {H : Heap} {a : Nat → Nat} {k : Nat → ClassId} {X : zX} {s : zC} {e : Int32} {v : Int32} (g0 : va_P D vwCl ((wS a k X s).set 13 (a 13, .inl (k 13, 8, .inl (upd (g_va (c_g s)) (ix e) v)))) H) : va_P D vwCl (wS a k X (s_g s (h_va (c_g s) e v))) H := g0
theorem cD_S_va {A : Nat → Prop} {a : Nat → Nat} {k : Nat → ClassId} {X : zX} {s : zC} {e : Int32} {v : Int32} (g0 : va_D A ((wS a k X s).set 13 (a 13, .inl (k 13, 8, .inl (upd (g_va (c_g s)) (ix e) v))))) : va_D A (wS a k X (s_g s (h_va (c_g s) e v))) := g0
theorem cP_S_w0 {D : va_G} {H : Heap} {a : Nat → Nat} {k : Nat → ClassId} {X : zX} {s : zC} {e : Int32} {v : Int32} (g0 : va_P D vwCl ((wS a k X s).set 14 (a 14, .inl (k 14, 32, .inl (upd (g_wr (c_g s)) (ix e) v)))) H) : va_P D vwCl (wS a k X (s_g s (h_w0 (c_g s) e v))) H := g0
theorem cD_S_w0 {A : Nat → Prop} {a : Nat → Nat} {k : Nat → ClassId} {X : zX} {s : zC} {e : Int32} {v : Int32} (g0 : va_D A ((wS a k X s).set 14 (a 14, .inl (k 14, 32, .inl (upd (g_wr (c_g s)) (ix e) v))))) : va_D A (wS a k X (s_g s (h_w0 (c_g s) e v))) := g0
theorem cP_S_sp {D : va_G} {H : Heap} {a : Nat → Nat} {k : Nat → ClassId} {X : zX} {s : zC} (g0 : va_P D vwCl ((wS a k X s).set 1 (a 1, .inr (1, ([.ref (a 2), .ref (a 10), .ref (a 11), .ref (a 12), .ref (a 13), .ref (a 14), .int (g_wc (c_g s)), .int (g_sp (c_g s)), .int (x_l X), .int (f_f (x_F X)), .int (x_b X), .int (x_a X)]).set 7 (.int (g_sp (c_g s) + 1))))) H) : va_P D vwCl (wS a k X (s_g s (h_sp (c_g s)))) H := g0
theorem cD_S_sp {A : Nat → Prop} {a : Nat → Nat} {k : Nat → ClassId} {X : zX} {s : zC} (g0 : va_D A ((wS a k X s).set 1 (a 1, .inr (1, ([.ref (a 2), .ref (a 10), .ref (a 11), .ref (a 12), .ref (a 13), .ref (a 14), .int (g_wc (c_g s)), .int (g_sp (c_g s)), .int (x_l X), .int (f_f (x_F X)), .int (x_b X), .int (x_a X)]).set 7 (.int (g_sp (c_g s) + 1)))))) : va_D A (wS a k X (s_g s (h_sp (c_g s)))) := g0
theorem cP_S_w1 {D : va_G} {H : Heap} {a : Nat → Nat} {k : Nat → ClassId} {X : zX} {s : zC} (g0 : va_P D vwCl ((wS a k X s).set 1 (a 1, .inr (1, ([.ref (a 2), .ref (a 10), .ref (a 11), .ref (a 12), .ref (a 13), .ref (a 14), .int (g_wc (c_g s)), .int (g_sp (c_g s)), .int (x_l X), .int (f_f (x_F X)), .int (x_b X), .int (x_a X)]).set 6 (.int (g_wc (c_g s) + 1))))) H) : va_P D vwCl (wS a k X (s_g s (h_w1 (c_g s)))) H := g0
theorem cD_S_w1 {A : Nat → Prop} {a : Nat → Nat} {k : Nat → ClassId} {X : zX} {s : zC} (g0 : va_D A ((wS a k X s).set 1 (a 1, .inr (1, ([.ref (a 2), .ref (a 10), .ref (a 11), .ref (a 12), .ref (a 13), .ref (a 14), .int (g_wc (c_g s)), .int (g_sp (c_g s)), .int (x_l X), .int (f_f (x_F X)), .int (x_b X), .int (x_a X)]).set 6 (.int (g_wc (c_g s) + 1)))))) : va_D A (wS a k X (s_g s (h_w1 (c_g s)))) := g0
theorem cP_X_k {D : va_G} {H : Heap} {a : Nat → Nat} {k : Nat → ClassId} {X : zX} {e v : Int32} (g0 : va_P D vwCl ((wX a k X).set 3 (a 3, .inl (k 3, 60, .inl (upd (f_k (x_F X)) (ix e) v)))) H) : va_P D vwCl (wX a k (X_k X e v)) H := g0
theorem cD_X_k {A : Nat → Prop} {a : Nat → Nat} {k : Nat → ClassId} {X : zX} {e v : Int32} (g0 : va_D A ((wX a k X).set 3 (a 3, .inl (k 3, 60, .inl (upd (f_k (x_F X)) (ix e) v))))) : va_D A (wX a k (X_k X e v)) := g0
theorem cP_X_m {D : va_G} {H : Heap} {a : Nat → Nat} {k : Nat → ClassId} {X : zX} {e v : Int32} (g0 : va_P D vwCl ((wX a k X).set 4 (a 4, .inl (k 4, 60, .inl (upd (f_n (x_F X)) (ix e) v)))) H) : va_P D vwCl (wX a k (X_m X e v)) H := g0
theorem cD_X_m {A : Nat → Prop} {a : Nat → Nat} {k : Nat → ClassId} {X : zX} {e v : Int32} (g0 : va_D A ((wX a k X).set 4 (a 4, .inl (k 4, 60, .inl (upd (f_n (x_F X)) (ix e) v))))) : va_D A (wX a k (X_m X e v)) := g0
theorem cP_X_x {D : va_G} {H : Heap} {a : Nat → Nat} {k : Nat → ClassId} {X : zX} {e v : Int32} (g0 : va_P D vwCl ((wX a k X).set 5 (a 5, .inl (k 5, 60, .inl (upd (f_x (x_F X)) (ix e) v)))) H) : va_P D vwCl (wX a k (X_x X e v)) H := g0
theorem cD_X_x {A : Nat → Prop} {a : Nat → Nat} {k : Nat → ClassId} {X : zX} {e v : Int32} (g0 : va_D A ((wX a k X).set 5 (a 5, .inl (k 5, 60, .inl (upd (f_x (x_F X)) (ix e) v))))) : va_D A (wX a k (X_x X e v)) := g0
theorem cP_X_y {D : va_G} {H : Heap} {a : Nat → Nat} {k : Nat → ClassId} {X : zX} {e v : Int32} (g0 : va_P D vwCl ((wX a k X).set 6 (a 6, .inl (k 6, 60, .inl (upd (f_y (x_F X)) (ix e) v)))) H) : va_P D vwCl (wX a k (X_y X e v)) H := g0
theorem cD_X_y {A : Nat → Prop} {a : Nat → Nat} {k : Nat → ClassId} {X : zX} {e v : Int32} (g0 : va_D A ((wX a k X).set 6 (a 6, .inl (k 6, 60, .inl (upd (f_y (x_F X)) (ix e) v))))) : va_D A (wX a k (X_y X e v)) := g0
theorem cP_X_z {D : va_G} {H : Heap} {a : Nat → Nat} {k : Nat → ClassId} {X : zX} {e v : Int32} (g0 : va_P D vwCl ((wX a k X).set 7 (a 7, .inl (k 7, 60, .inl (upd (f_z (x_F X)) (ix e) v)))) H) : va_P D vwCl (wX a k (X_z X e v)) H := g0
theorem cD_X_z {A : Nat → Prop} {a : Nat → Nat} {k : Nat → ClassId} {X : zX} {e v : Int32} (g0 : va_D A ((wX a k X).set 7 (a 7, .inl (k 7, 60, .inl (upd (f_z (x_F X)) (ix e) v))))) : va_D A (wX a k (X_z X e v)) := g0
theorem cP_X_d {D : va_G} {H : Heap} {a : Nat → Nat} {k : Nat → ClassId} {X : zX} {e v : Int32} (g0 : va_P D vwCl ((wX a k X).set 8 (a 8, .inl (k 8, 60, .inl (upd (x_d X) (ix e) v)))) H) : va_P D vwCl (wX a k (X_d X e v)) H := g0
theorem cD_X_d {A : Nat → Prop} {a : Nat → Nat} {k : Nat → ClassId} {X : zX} {e v : Int32} (g0 : va_D A ((wX a k X).set 8 (a 8, .inl (k 8, 60, .inl (upd (x_d X) (ix e) v))))) : va_D A (wX a k (X_d X e v)) := g0
theorem cP_X_f {D : va_G} {H : Heap} {a : Nat → Nat} {k : Nat → ClassId} {X : zX} {e v : Int32} (g0 : va_P D vwCl ((wX a k X).set 9 (a 9, .inl (k 9, 60, .inl (upd (x_f X) (ix e) v)))) H) : va_P D vwCl (wX a k (X_f X e v)) H := g0
theorem cD_X_f {A : Nat → Prop} {a : Nat → Nat} {k : Nat → ClassId} {X : zX} {e v : Int32} (g0 : va_D A ((wX a k X).set 9 (a 9, .inl (k 9, 60, .inl (upd (x_f X) (ix e) v))))) : va_D A (wX a k (X_f X e v)) := g0
theorem cP_X_va {D : va_G} {H : Heap} {a : Nat → Nat} {k : Nat → ClassId} {X : zX} {e v : Int32} (g0 : va_P D vwCl ((wX a k X).set 13 (a 13, .inl (k 13, 8, .inl (upd (g_va (c_g (x_c X))) (ix e) v)))) H) : va_P D vwCl (wX a k (X_q X (fun s => s_g s (h_va (c_g s) e v)))) H := g0
theorem cD_X_va {A : Nat → Prop} {a : Nat → Nat} {k : Nat → ClassId} {X : zX} {e v : Int32} (g0 : va_D A ((wX a k X).set 13 (a 13, .inl (k 13, 8, .inl (upd (g_va (c_g (x_c X))) (ix e) v))))) : va_D A (wX a k (X_q X (fun s => s_g s (h_va (c_g s) e v)))) := g0
theorem cP_X_n {D : va_G} {H : Heap} {a : Nat → Nat} {k : Nat → ClassId} {X : zX} {v : Int32} (g0 : va_P D vwCl ((wX a k X).set 2 (a 2, .inr (0, ([.ref (a 3), .ref (a 4), .ref (a 5), .ref (a 6), .ref (a 7), .ref (a 8), .ref (a 9), .int (x_n X)]).set 7 (.int v)))) H) : va_P D vwCl (wX a k (X_n X v)) H := g0
theorem cD_X_n {A : Nat → Prop} {a : Nat → Nat} {k : Nat → ClassId} {X : zX} {v : Int32} (g0 : va_D A ((wX a k X).set 2 (a 2, .inr (0, ([.ref (a 3), .ref (a 4), .ref (a 5), .ref (a 6), .ref (a 7), .ref (a 8), .ref (a 9), .int (x_n X)]).set 7 (.int v))))) : va_D A (wX a k (X_n X v)) := g0
theorem cP_X_b {D : va_G} {H : Heap} {a : Nat → Nat} {k : Nat → ClassId} {X : zX} {v : Int32} (g0 : va_P D vwCl ((wX a k X).set 1 (a 1, .inr (1, ([.ref (a 2), .ref (a 10), .ref (a 11), .ref (a 12), .ref (a 13), .ref (a 14), .int (g_wc (c_g (x_c X))), .int (g_sp (c_g (x_c X))), .int (x_l X), .int (f_f (x_F X)), .int (x_b X), .int (x_a X)]).set 10 (.int v)))) H) : va_P D vwCl (wX a k (X_b X v)) H := g0
theorem cD_X_b {A : Nat → Prop} {a : Nat → Nat} {k : Nat → ClassId} {X : zX} {v : Int32} (g0 : va_D A ((wX a k X).set 1 (a 1, .inr (1, ([.ref (a 2), .ref (a 10), .ref (a 11), .ref (a 12), .ref (a 13), .ref (a 14), .int (g_wc (c_g (x_c X))), .int (g_sp (c_g (x_c X))), .int (x_l X), .int (f_f (x_F X)), .int (x_b X), .int (x_a X)]).set 10 (.int v))))) : va_D A (wX a k (X_b X v)) := g0
theorem cP_X_u {D : va_G} {H : Heap} {a : Nat → Nat} {k : Nat → ClassId} {X : zX} {v : Int32} (g0 : va_P D vwCl ((wX a k X).set 1 (a 1, .inr (1, ([.ref (a 2), .ref (a 10), .ref (a 11), .ref (a 12), .ref (a 13), .ref (a 14), .int (g_wc (c_g (x_c X))), .int (g_sp (c_g (x_c X))), .int (x_l X), .int (f_f (x_F X)), .int (x_b X), .int (x_a X)]).set 9 (.int v)))) H) : va_P D vwCl (wX a k (X_u X v)) H := g0
theorem cD_X_u {A : Nat → Prop} {a : Nat → Nat} {k : Nat → ClassId} {X : zX} {v : Int32} (g0 : va_D A ((wX a k X).set 1 (a 1, .inr (1, ([.ref (a 2), .ref (a 10), .ref (a 11), .ref (a 12), .ref (a 13), .ref (a 14), .int (g_wc (c_g (x_c X))), .int (g_sp (c_g (x_c X))), .int (x_l X), .int (f_f (x_F X)), .int (x_b X), .int (x_a X)]).set 9 (.int v))))) : va_D A (wX a k (X_u X v)) := g0
theorem cP_X_l {D : va_G} {H : Heap} {a : Nat → Nat} {k : Nat → ClassId} {X : zX} {v : Int32} (g0 : va_P D vwCl ((wX a k X).set 1 (a 1, .inr (1, ([.ref (a 2), .ref (a 10), .ref (a 11), .ref (a 12), .ref (a 13), .ref (a 14), .int (g_wc (c_g (x_c X))), .int (g_sp (c_g (x_c X))), .int (x_l X), .int (f_f (x_F X)), .int (x_b X), .int (x_a X)]).set 8 (.int v)))) H) : va_P D vwCl (wX a k (X_l X v)) H := g0
theorem cD_X_l {A : Nat → Prop} {a : Nat → Nat} {k : Nat → ClassId} {X : zX} {v : Int32} (g0 : va_D A ((wX a k X).set 1 (a 1, .inr (1, ([.ref (a 2), .ref (a 10), .ref (a 11), .ref (a 12), .ref (a 13), .ref (a 14), .int (g_wc (c_g (x_c X))), .int (g_sp (c_g (x_c X))), .int (x_l X), .int (f_f (x_F X)), .int (x_b X), .int (x_a X)]).set 8 (.int v))))) : va_D A (wX a k (X_l X v)) := g0
theorem cP_X_a {D : va_G} {H : Heap} {a : Nat → Nat} {k : Nat → ClassId} {X : zX} {v : Int32} (g0 : va_P D vwCl ((wX a k X).set 1 (a 1, .inr (1, ([.ref (a 2), .ref (a 10), .ref (a 11), .ref (a 12), .ref (a 13), .ref (a 14), .int (g_wc (c_g (x_c X))), .int (g_sp (c_g (x_c X))), .int (x_l X), .int (f_f (x_F X)), .int (x_b X), .int (x_a X)]).set 11 (.int v)))) H) : va_P D vwCl (wX a k (X_a X v)) H := g0
theorem cD_X_a {A : Nat → Prop} {a : Nat → Nat} {k : Nat → ClassId} {X : zX} {v : Int32} (g0 : va_D A ((wX a k X).set 1 (a 1, .inr (1, ([.ref (a 2), .ref (a 10), .ref (a 11), .ref (a 12), .ref (a 13), .ref (a 14), .int (g_wc (c_g (x_c X))), .int (g_sp (c_g (x_c X))), .int (x_l X), .int (f_f (x_F X)), .int (x_b X), .int (x_a X)]).set 11 (.int v))))) : va_D A (wX a k (X_a X v)) := g0
theorem cP_X_sp {D : va_G} {H : Heap} {a : Nat → Nat} {k : Nat → ClassId} {X : zX} {v : Int32} (g0 : va_P D vwCl ((wX a k X).set 1 (a 1, .inr (1, ([.ref (a 2), .ref (a 10), .ref (a 11), .ref (a 12), .ref (a 13), .ref (a 14), .int (g_wc (c_g (x_c X))), .int (g_sp (c_g (x_c X))), .int (x_l X), .int (f_f (x_F X)), .int (x_b X), .int (x_a X)]).set 7 (.int v)))) H) : va_P D vwCl (wX a k (X_q X (fun s => s_g s (h_c (c_g s) v)))) H := g0
theorem cD_X_sp {A : Nat → Prop} {a : Nat → Nat} {k : Nat → ClassId} {X : zX} {v : Int32} (g0 : va_D A ((wX a k X).set 1 (a 1, .inr (1, ([.ref (a 2), .ref (a 10), .ref (a 11), .ref (a 12), .ref (a 13), .ref (a 14), .int (g_wc (c_g (x_c X))), .int (g_sp (c_g (x_c X))), .int (x_l X), .int (f_f (x_F X)), .int (x_b X), .int (x_a X)]).set 7 (.int v))))) : va_D A (wX a k (X_q X (fun s => s_g s (h_c (c_g s) v)))) := g0
theorem cP_X_wc {D : va_G} {H : Heap} {a : Nat → Nat} {k : Nat → ClassId} {X : zX} {v : Int32} (g0 : va_P D vwCl ((wX a k X).set 1 (a 1, .inr (1, ([.ref (a 2), .ref (a 10), .ref (a 11), .ref (a 12), .ref (a 13), .ref (a 14), .int (g_wc (c_g (x_c X))), .int (g_sp (c_g (x_c X))), .int (x_l X), .int (f_f (x_F X)), .int (x_b X), .int (x_a X)]).set 6 (.int v)))) H) : va_P D vwCl (wX a k (X_q X (fun s => s_g s (h_wc (c_g s) v)))) H := g0
theorem cD_X_wc {A : Nat → Prop} {a : Nat → Nat} {k : Nat → ClassId} {X : zX} {v : Int32} (g0 : va_D A ((wX a k X).set 1 (a 1, .inr (1, ([.ref (a 2), .ref (a 10), .ref (a 11), .ref (a 12), .ref (a 13), .ref (a 14), .int (g_wc (c_g (x_c X))), .int (g_sp (c_g (x_c X))), .int (x_l X), .int (f_f (x_F X)), .int (x_b X), .int (x_a X)]).set 6 (.int v))))) : va_D A (wX a k (X_q X (fun s => s_g s (h_wc (c_g s) v)))) := g0
theorem cP_X_c {D : va_G} {H : Heap} {a : Nat → Nat} {k : Nat → ClassId} {X : zX} {s : zC} (h : va_P D vwCl (wS a k X s) H) : va_P D vwCl (wX a k (X_c X s)) H := h
theorem cD_X_c {A : Nat → Prop} {a : Nat → Nat} {k : Nat → ClassId} {X : zX} {s : zC} (h : va_D A (wS a k X s)) : va_D A (wX a k (X_c X s)) := h
theorem cP_X_s {D : va_G} {H : Heap} {a : Nat → Nat} {k : Nat → ClassId} {X : zX} (h : va_P D vwCl (wX a k X) H) : va_P D vwCl (wS a k X (x_c X)) H := h
theorem cD_X_s {A : Nat → Prop} {a : Nat → Nat} {k : Nat → ClassId} {X : zX} (h : va_D A (wX a k X)) : va_D A (wS a k X (x_c X)) := h
theorem cP_R_nm {D : va_G} {H : Heap} {b : Nat → Nat} {h : Nat → ClassId} {Y : zY} {r : zR} {e : Int32} {v : Int32} (g0 : va_P D vwCl ((wR b h Y r).set 2 (b 2, .inl (h 2, 60, .inl (upd (r_nm r) (ix e) v)))) H) : va_P D vwCl (wR b h Y (u_nm r e v)) H := g0
theorem cD_R_nm {A : Nat → Prop} {b : Nat → Nat} {h : Nat → ClassId} {Y : zY} {r : zR} {e : Int32} {v : Int32} (g0 : va_D A ((wR b h Y r).set 2 (b 2, .inl (h 2, 60, .inl (upd (r_nm r) (ix e) v))))) : va_D A (wR b h Y (u_nm r e v)) := g0
theorem cP_R_ph {D : va_G} {H : Heap} {b : Nat → Nat} {h : Nat → ClassId} {Y : zY} {r : zR} {e : Int32} {v : Int32} (g0 : va_P D vwCl ((wR b h Y r).set 6 (b 6, .inl (h 6, 60, .inl (upd (r_ph r) (ix e) v)))) H) : va_P D vwCl (wR b h Y (u_ph r e v)) H := g0
theorem cD_R_ph {A : Nat → Prop} {b : Nat → Nat} {h : Nat → ClassId} {Y : zY} {r : zR} {e : Int32} {v : Int32} (g0 : va_D A ((wR b h Y r).set 6 (b 6, .inl (h 6, 60, .inl (upd (r_ph r) (ix e) v))))) : va_D A (wR b h Y (u_ph r e v)) := g0
theorem cP_R_kp {D : va_G} {H : Heap} {b : Nat → Nat} {h : Nat → ClassId} {Y : zY} {r : zR} {e : Int32} {v : Int64} (g0 : va_P D vwCl ((wR b h Y r).set 7 (b 7, .inl (h 7, 180, .inr (.inl (vp_updL (r_kp r) (ix e) v))))) H) : va_P D vwCl (wR b h Y (u_kp r e v)) H := g0
theorem cD_R_kp {A : Nat → Prop} {b : Nat → Nat} {h : Nat → ClassId} {Y : zY} {r : zR} {e : Int32} {v : Int64} (g0 : va_D A ((wR b h Y r).set 7 (b 7, .inl (h 7, 180, .inr (.inl (vp_updL (r_kp r) (ix e) v)))))) : va_D A (wR b h Y (u_kp r e v)) := g0
theorem cP_R_va {D : va_G} {H : Heap} {b : Nat → Nat} {h : Nat → ClassId} {Y : zY} {r : zR} {e : Int32} {v : Int32} (g0 : va_P D vwCl ((wR b h Y r).set 8 (b 8, .inl (h 8, 8, .inl (upd (g_va (r_g r)) (ix e) v)))) H) : va_P D vwCl (wR b h Y (u_g r (h_va (r_g r) e v))) H := g0
theorem cD_R_va {A : Nat → Prop} {b : Nat → Nat} {h : Nat → ClassId} {Y : zY} {r : zR} {e : Int32} {v : Int32} (g0 : va_D A ((wR b h Y r).set 8 (b 8, .inl (h 8, 8, .inl (upd (g_va (r_g r)) (ix e) v))))) : va_D A (wR b h Y (u_g r (h_va (r_g r) e v))) := g0
theorem cP_R_w0 {D : va_G} {H : Heap} {b : Nat → Nat} {h : Nat → ClassId} {Y : zY} {r : zR} {e : Int32} {v : Int32} (g0 : va_P D vwCl ((wR b h Y r).set 9 (b 9, .inl (h 9, 32, .inl (upd (g_wr (r_g r)) (ix e) v)))) H) : va_P D vwCl (wR b h Y (u_g r (h_w0 (r_g r) e v))) H := g0
theorem cD_R_w0 {A : Nat → Prop} {b : Nat → Nat} {h : Nat → ClassId} {Y : zY} {r : zR} {e : Int32} {v : Int32} (g0 : va_D A ((wR b h Y r).set 9 (b 9, .inl (h 9, 32, .inl (upd (g_wr (r_g r)) (ix e) v))))) : va_D A (wR b h Y (u_g r (h_w0 (r_g r) e v))) := g0
theorem cP_R_sk {D : va_G} {H : Heap} {b : Nat → Nat} {h : Nat → ClassId} {Y : zY} {r : zR} {e : Int32} {v : Int32} (g0 : va_P D vwCl ((wR b h Y r).set 10 (b 10, .inl (h 10, 16, .inl (upd (r_sk r) (ix e) v)))) H) : va_P D vwCl (wR b h Y (u_sk r e v)) H := g0
theorem cD_R_sk {A : Nat → Prop} {b : Nat → Nat} {h : Nat → ClassId} {Y : zY} {r : zR} {e : Int32} {v : Int32} (g0 : va_D A ((wR b h Y r).set 10 (b 10, .inl (h 10, 16, .inl (upd (r_sk r) (ix e) v))))) : va_D A (wR b h Y (u_sk r e v)) := g0
theorem cP_R_gv {D : va_G} {H : Heap} {b : Nat → Nat} {h : Nat → ClassId} {Y : zY} {r : zR} {v : Int32} (g0 : va_P D vwCl ((wR b h Y r).set 0 (b 0, .inr (3, ([.int (y_n Y), .ref (b 1), .ref (b 2), .ref (b 3), .ref (b 4), .ref (b 5), .ref (b 6), .ref (b 7), .ref (b 8), .ref (b 9), .int (g_wc (r_g r)), .int (y_b Y), .int (y_e Y), .int (t_f (y_T Y)), .int (g_sp (r_g r)), .int (y_l Y), .ref (b 10), .int (r_tp r), .int (r_gv r), .int (r_er r)]).set 18 (.int (v))))) H) : va_P D vwCl (wR b h Y (u_gv r v)) H := g0
theorem cD_R_gv {A : Nat → Prop} {b : Nat → Nat} {h : Nat → ClassId} {Y : zY} {r : zR} {v : Int32} (g0 : va_D A ((wR b h Y r).set 0 (b 0, .inr (3, ([.int (y_n Y), .ref (b 1), .ref (b 2), .ref (b 3), .ref (b 4), .ref (b 5), .ref (b 6), .ref (b 7), .ref (b 8), .ref (b 9), .int (g_wc (r_g r)), .int (y_b Y), .int (y_e Y), .int (t_f (y_T Y)), .int (g_sp (r_g r)), .int (y_l Y), .ref (b 10), .int (r_tp r), .int (r_gv r), .int (r_er r)]).set 18 (.int (v)))))) : va_D A (wR b h Y (u_gv r v)) := g0
theorem cP_R_er {D : va_G} {H : Heap} {b : Nat → Nat} {h : Nat → ClassId} {Y : zY} {r : zR} {v : Int32} (g0 : va_P D vwCl ((wR b h Y r).set 0 (b 0, .inr (3, ([.int (y_n Y), .ref (b 1), .ref (b 2), .ref (b 3), .ref (b 4), .ref (b 5), .ref (b 6), .ref (b 7), .ref (b 8), .ref (b 9), .int (g_wc (r_g r)), .int (y_b Y), .int (y_e Y), .int (t_f (y_T Y)), .int (g_sp (r_g r)), .int (y_l Y), .ref (b 10), .int (r_tp r), .int (r_gv r), .int (r_er r)]).set 19 (.int (v))))) H) : va_P D vwCl (wR b h Y (u_er r v)) H := g0
theorem cD_R_er {A : Nat → Prop} {b : Nat → Nat} {h : Nat → ClassId} {Y : zY} {r : zR} {v : Int32} (g0 : va_D A ((wR b h Y r).set 0 (b 0, .inr (3, ([.int (y_n Y), .ref (b 1), .ref (b 2), .ref (b 3), .ref (b 4), .ref (b 5), .ref (b 6), .ref (b 7), .ref (b 8), .ref (b 9), .int (g_wc (r_g r)), .int (y_b Y), .int (y_e Y), .int (t_f (y_T Y)), .int (g_sp (r_g r)), .int (y_l Y), .ref (b 10), .int (r_tp r), .int (r_gv r), .int (r_er r)]).set 19 (.int (v)))))) : va_D A (wR b h Y (u_er r v)) := g0
theorem cP_R_tp {D : va_G} {H : Heap} {b : Nat → Nat} {h : Nat → ClassId} {Y : zY} {r : zR} {v : Int32} (g0 : va_P D vwCl ((wR b h Y r).set 0 (b 0, .inr (3, ([.int (y_n Y), .ref (b 1), .ref (b 2), .ref (b 3), .ref (b 4), .ref (b 5), .ref (b 6), .ref (b 7), .ref (b 8), .ref (b 9), .int (g_wc (r_g r)), .int (y_b Y), .int (y_e Y), .int (t_f (y_T Y)), .int (g_sp (r_g r)), .int (y_l Y), .ref (b 10), .int (r_tp r), .int (r_gv r), .int (r_er r)]).set 17 (.int (v))))) H) : va_P D vwCl (wR b h Y (u_tp r v)) H := g0
theorem cD_R_tp {A : Nat → Prop} {b : Nat → Nat} {h : Nat → ClassId} {Y : zY} {r : zR} {v : Int32} (g0 : va_D A ((wR b h Y r).set 0 (b 0, .inr (3, ([.int (y_n Y), .ref (b 1), .ref (b 2), .ref (b 3), .ref (b 4), .ref (b 5), .ref (b 6), .ref (b 7), .ref (b 8), .ref (b 9), .int (g_wc (r_g r)), .int (y_b Y), .int (y_e Y), .int (t_f (y_T Y)), .int (g_sp (r_g r)), .int (y_l Y), .ref (b 10), .int (r_tp r), .int (r_gv r), .int (r_er r)]).set 17 (.int (v)))))) : va_D A (wR b h Y (u_tp r v)) := g0
theorem cP_R_sp {D : va_G} {H : Heap} {b : Nat → Nat} {h : Nat → ClassId} {Y : zY} {r : zR} (g0 : va_P D vwCl ((wR b h Y r).set 0 (b 0, .inr (3, ([.int (y_n Y), .ref (b 1), .ref (b 2), .ref (b 3), .ref (b 4), .ref (b 5), .ref (b 6), .ref (b 7), .ref (b 8), .ref (b 9), .int (g_wc (r_g r)), .int (y_b Y), .int (y_e Y), .int (t_f (y_T Y)), .int (g_sp (r_g r)), .int (y_l Y), .ref (b 10), .int (r_tp r), .int (r_gv r), .int (r_er r)]).set 14 (.int (g_sp (r_g r) + 1))))) H) : va_P D vwCl (wR b h Y (u_g r (h_sp (r_g r)))) H := g0
theorem cD_R_sp {A : Nat → Prop} {b : Nat → Nat} {h : Nat → ClassId} {Y : zY} {r : zR} (g0 : va_D A ((wR b h Y r).set 0 (b 0, .inr (3, ([.int (y_n Y), .ref (b 1), .ref (b 2), .ref (b 3), .ref (b 4), .ref (b 5), .ref (b 6), .ref (b 7), .ref (b 8), .ref (b 9), .int (g_wc (r_g r)), .int (y_b Y), .int (y_e Y), .int (t_f (y_T Y)), .int (g_sp (r_g r)), .int (y_l Y), .ref (b 10), .int (r_tp r), .int (r_gv r), .int (r_er r)]).set 14 (.int (g_sp (r_g r) + 1)))))) : va_D A (wR b h Y (u_g r (h_sp (r_g r)))) := g0
theorem cP_R_w1 {D : va_G} {H : Heap} {b : Nat → Nat} {h : Nat → ClassId} {Y : zY} {r : zR} (g0 : va_P D vwCl ((wR b h Y r).set 0 (b 0, .inr (3, ([.int (y_n Y), .ref (b 1), .ref (b 2), .ref (b 3), .ref (b 4), .ref (b 5), .ref (b 6), .ref (b 7), .ref (b 8), .ref (b 9), .int (g_wc (r_g r)), .int (y_b Y), .int (y_e Y), .int (t_f (y_T Y)), .int (g_sp (r_g r)), .int (y_l Y), .ref (b 10), .int (r_tp r), .int (r_gv r), .int (r_er r)]).set 10 (.int (g_wc (r_g r) + 1))))) H) : va_P D vwCl (wR b h Y (u_g r (h_w1 (r_g r)))) H := g0
theorem cD_R_w1 {A : Nat → Prop} {b : Nat → Nat} {h : Nat → ClassId} {Y : zY} {r : zR} (g0 : va_D A ((wR b h Y r).set 0 (b 0, .inr (3, ([.int (y_n Y), .ref (b 1), .ref (b 2), .ref (b 3), .ref (b 4), .ref (b 5), .ref (b 6), .ref (b 7), .ref (b 8), .ref (b 9), .int (g_wc (r_g r)), .int (y_b Y), .int (y_e Y), .int (t_f (y_T Y)), .int (g_sp (r_g r)), .int (y_l Y), .ref (b 10), .int (r_tp r), .int (r_gv r), .int (r_er r)]).set 10 (.int (g_wc (r_g r) + 1)))))) : va_D A (wR b h Y (u_g r (h_w1 (r_g r)))) := g0
theorem cP_Y_nm {D : va_G} {H : Heap} {b : Nat → Nat} {h : Nat → ClassId} {Y : zY} {e : Int32} {v : Int32} (g0 : va_P D vwCl ((wY b h Y).set 2 (b 2, .inl (h 2, 60, .inl (upd (r_nm (y_r Y)) (ix e) v)))) H) : va_P D vwCl (wY b h (Y_q Y (fun r => u_nm r e v))) H := g0
theorem cD_Y_nm {A : Nat → Prop} {b : Nat → Nat} {h : Nat → ClassId} {Y : zY} {e : Int32} {v : Int32} (g0 : va_D A ((wY b h Y).set 2 (b 2, .inl (h 2, 60, .inl (upd (r_nm (y_r Y)) (ix e) v))))) : va_D A (wY b h (Y_q Y (fun r => u_nm r e v))) := g0
theorem cP_Y_ph {D : va_G} {H : Heap} {b : Nat → Nat} {h : Nat → ClassId} {Y : zY} {e : Int32} {v : Int32} (g0 : va_P D vwCl ((wY b h Y).set 6 (b 6, .inl (h 6, 60, .inl (upd (r_ph (y_r Y)) (ix e) v)))) H) : va_P D vwCl (wY b h (Y_q Y (fun r => u_ph r e v))) H := g0
theorem cD_Y_ph {A : Nat → Prop} {b : Nat → Nat} {h : Nat → ClassId} {Y : zY} {e : Int32} {v : Int32} (g0 : va_D A ((wY b h Y).set 6 (b 6, .inl (h 6, 60, .inl (upd (r_ph (y_r Y)) (ix e) v))))) : va_D A (wY b h (Y_q Y (fun r => u_ph r e v))) := g0
theorem cP_Y_va {D : va_G} {H : Heap} {b : Nat → Nat} {h : Nat → ClassId} {Y : zY} {e : Int32} {v : Int32} (g0 : va_P D vwCl ((wY b h Y).set 8 (b 8, .inl (h 8, 8, .inl (upd (g_va (r_g (y_r Y))) (ix e) v)))) H) : va_P D vwCl (wY b h (Y_q Y (fun r => u_g r (h_va (r_g r) e v)))) H := g0
theorem cD_Y_va {A : Nat → Prop} {b : Nat → Nat} {h : Nat → ClassId} {Y : zY} {e : Int32} {v : Int32} (g0 : va_D A ((wY b h Y).set 8 (b 8, .inl (h 8, 8, .inl (upd (g_va (r_g (y_r Y))) (ix e) v))))) : va_D A (wY b h (Y_q Y (fun r => u_g r (h_va (r_g r) e v)))) := g0
theorem cP_Y_sk {D : va_G} {H : Heap} {b : Nat → Nat} {h : Nat → ClassId} {Y : zY} {e : Int32} {v : Int32} (g0 : va_P D vwCl ((wY b h Y).set 10 (b 10, .inl (h 10, 16, .inl (upd (r_sk (y_r Y)) (ix e) v)))) H) : va_P D vwCl (wY b h (Y_q Y (fun r => u_sk r e v))) H := g0
theorem cD_Y_sk {A : Nat → Prop} {b : Nat → Nat} {h : Nat → ClassId} {Y : zY} {e : Int32} {v : Int32} (g0 : va_D A ((wY b h Y).set 10 (b 10, .inl (h 10, 16, .inl (upd (r_sk (y_r Y)) (ix e) v))))) : va_D A (wY b h (Y_q Y (fun r => u_sk r e v))) := g0
theorem cP_Y_gv {D : va_G} {H : Heap} {b : Nat → Nat} {h : Nat → ClassId} {Y : zY} {v : Int32} (g0 : va_P D vwCl ((wY b h Y).set 0 (b 0, .inr (3, ([.int (y_n Y), .ref (b 1), .ref (b 2), .ref (b 3), .ref (b 4), .ref (b 5), .ref (b 6), .ref (b 7), .ref (b 8), .ref (b 9), .int (g_wc (r_g (y_r Y))), .int (y_b Y), .int (y_e Y), .int (t_f (y_T Y)), .int (g_sp (r_g (y_r Y))), .int (y_l Y), .ref (b 10), .int (r_tp (y_r Y)), .int (r_gv (y_r Y)), .int (r_er (y_r Y))]).set 18 (.int (v))))) H) : va_P D vwCl (wY b h (Y_q Y (fun r => u_gv r v))) H := g0
theorem cD_Y_gv {A : Nat → Prop} {b : Nat → Nat} {h : Nat → ClassId} {Y : zY} {v : Int32} (g0 : va_D A ((wY b h Y).set 0 (b 0, .inr (3, ([.int (y_n Y), .ref (b 1), .ref (b 2), .ref (b 3), .ref (b 4), .ref (b 5), .ref (b 6), .ref (b 7), .ref (b 8), .ref (b 9), .int (g_wc (r_g (y_r Y))), .int (y_b Y), .int (y_e Y), .int (t_f (y_T Y)), .int (g_sp (r_g (y_r Y))), .int (y_l Y), .ref (b 10), .int (r_tp (y_r Y)), .int (r_gv (y_r Y)), .int (r_er (y_r Y))]).set 18 (.int (v)))))) : va_D A (wY b h (Y_q Y (fun r => u_gv r v))) := g0
theorem cP_Y_er {D : va_G} {H : Heap} {b : Nat → Nat} {h : Nat → ClassId} {Y : zY} {v : Int32} (g0 : va_P D vwCl ((wY b h Y).set 0 (b 0, .inr (3, ([.int (y_n Y), .ref (b 1), .ref (b 2), .ref (b 3), .ref (b 4), .ref (b 5), .ref (b 6), .ref (b 7), .ref (b 8), .ref (b 9), .int (g_wc (r_g (y_r Y))), .int (y_b Y), .int (y_e Y), .int (t_f (y_T Y)), .int (g_sp (r_g (y_r Y))), .int (y_l Y), .ref (b 10), .int (r_tp (y_r Y)), .int (r_gv (y_r Y)), .int (r_er (y_r Y))]).set 19 (.int (v))))) H) : va_P D vwCl (wY b h (Y_q Y (fun r => u_er r v))) H := g0
theorem cD_Y_er {A : Nat → Prop} {b : Nat → Nat} {h : Nat → ClassId} {Y : zY} {v : Int32} (g0 : va_D A ((wY b h Y).set 0 (b 0, .inr (3, ([.int (y_n Y), .ref (b 1), .ref (b 2), .ref (b 3), .ref (b 4), .ref (b 5), .ref (b 6), .ref (b 7), .ref (b 8), .ref (b 9), .int (g_wc (r_g (y_r Y))), .int (y_b Y), .int (y_e Y), .int (t_f (y_T Y)), .int (g_sp (r_g (y_r Y))), .int (y_l Y), .ref (b 10), .int (r_tp (y_r Y)), .int (r_gv (y_r Y)), .int (r_er (y_r Y))]).set 19 (.int (v)))))) : va_D A (wY b h (Y_q Y (fun r => u_er r v))) := g0
theorem cP_Y_tp {D : va_G} {H : Heap} {b : Nat → Nat} {h : Nat → ClassId} {Y : zY} {v : Int32} (g0 : va_P D vwCl ((wY b h Y).set 0 (b 0, .inr (3, ([.int (y_n Y), .ref (b 1), .ref (b 2), .ref (b 3), .ref (b 4), .ref (b 5), .ref (b 6), .ref (b 7), .ref (b 8), .ref (b 9), .int (g_wc (r_g (y_r Y))), .int (y_b Y), .int (y_e Y), .int (t_f (y_T Y)), .int (g_sp (r_g (y_r Y))), .int (y_l Y), .ref (b 10), .int (r_tp (y_r Y)), .int (r_gv (y_r Y)), .int (r_er (y_r Y))]).set 17 (.int (v))))) H) : va_P D vwCl (wY b h (Y_q Y (fun r => u_tp r v))) H := g0
theorem cD_Y_tp {A : Nat → Prop} {b : Nat → Nat} {h : Nat → ClassId} {Y : zY} {v : Int32} (g0 : va_D A ((wY b h Y).set 0 (b 0, .inr (3, ([.int (y_n Y), .ref (b 1), .ref (b 2), .ref (b 3), .ref (b 4), .ref (b 5), .ref (b 6), .ref (b 7), .ref (b 8), .ref (b 9), .int (g_wc (r_g (y_r Y))), .int (y_b Y), .int (y_e Y), .int (t_f (y_T Y)), .int (g_sp (r_g (y_r Y))), .int (y_l Y), .ref (b 10), .int (r_tp (y_r Y)), .int (r_gv (y_r Y)), .int (r_er (y_r Y))]).set 17 (.int (v)))))) : va_D A (wY b h (Y_q Y (fun r => u_tp r v))) := g0
theorem cP_Y_k {D : va_G} {H : Heap} {b : Nat → Nat} {h : Nat → ClassId} {Y : zY} {e : Int32} {v : Int32} (g0 : va_P D vwCl ((wY b h Y).set 1 (b 1, .inl (h 1, 60, .inl (upd (t_k (y_T Y)) (ix e) v)))) H) : va_P D vwCl (wY b h (Y_k Y e v)) H := g0
theorem cD_Y_k {A : Nat → Prop} {b : Nat → Nat} {h : Nat → ClassId} {Y : zY} {e : Int32} {v : Int32} (g0 : va_D A ((wY b h Y).set 1 (b 1, .inl (h 1, 60, .inl (upd (t_k (y_T Y)) (ix e) v))))) : va_D A (wY b h (Y_k Y e v)) := g0
theorem cP_Y_p {D : va_G} {H : Heap} {b : Nat → Nat} {h : Nat → ClassId} {Y : zY} {e : Int32} {v : Int32} (g0 : va_P D vwCl ((wY b h Y).set 3 (b 3, .inl (h 3, 180, .inl (upd (t_p (y_T Y)) (ix e) v)))) H) : va_P D vwCl (wY b h (Y_p Y e v)) H := g0
theorem cD_Y_p {A : Nat → Prop} {b : Nat → Nat} {h : Nat → ClassId} {Y : zY} {e : Int32} {v : Int32} (g0 : va_D A ((wY b h Y).set 3 (b 3, .inl (h 3, 180, .inl (upd (t_p (y_T Y)) (ix e) v))))) : va_D A (wY b h (Y_p Y e v)) := g0
theorem cP_Y_d {D : va_G} {H : Heap} {b : Nat → Nat} {h : Nat → ClassId} {Y : zY} {e : Int32} {v : Int32} (g0 : va_P D vwCl ((wY b h Y).set 4 (b 4, .inl (h 4, 60, .inl (upd (y_d Y) (ix e) v)))) H) : va_P D vwCl (wY b h (Y_d Y e v)) H := g0
theorem cD_Y_d {A : Nat → Prop} {b : Nat → Nat} {h : Nat → ClassId} {Y : zY} {e : Int32} {v : Int32} (g0 : va_D A ((wY b h Y).set 4 (b 4, .inl (h 4, 60, .inl (upd (y_d Y) (ix e) v))))) : va_D A (wY b h (Y_d Y e v)) := g0
theorem cP_Y_u {D : va_G} {H : Heap} {b : Nat → Nat} {h : Nat → ClassId} {Y : zY} {e : Int32} {v : Int32} (g0 : va_P D vwCl ((wY b h Y).set 5 (b 5, .inl (h 5, 60, .inl (upd (y_u Y) (ix e) v)))) H) : va_P D vwCl (wY b h (Y_u Y e v)) H := g0
theorem cD_Y_u {A : Nat → Prop} {b : Nat → Nat} {h : Nat → ClassId} {Y : zY} {e : Int32} {v : Int32} (g0 : va_D A ((wY b h Y).set 5 (b 5, .inl (h 5, 60, .inl (upd (y_u Y) (ix e) v))))) : va_D A (wY b h (Y_u Y e v)) := g0
theorem cP_Y_n {D : va_G} {H : Heap} {b : Nat → Nat} {h : Nat → ClassId} {Y : zY} {v : Int32} (g0 : va_P D vwCl ((wY b h Y).set 0 (b 0, .inr (3, ([.int (y_n Y), .ref (b 1), .ref (b 2), .ref (b 3), .ref (b 4), .ref (b 5), .ref (b 6), .ref (b 7), .ref (b 8), .ref (b 9), .int (g_wc (r_g (y_r Y))), .int (y_b Y), .int (y_e Y), .int (t_f (y_T Y)), .int (g_sp (r_g (y_r Y))), .int (y_l Y), .ref (b 10), .int (r_tp (y_r Y)), .int (r_gv (y_r Y)), .int (r_er (y_r Y))]).set 0 (.int (v))))) H) : va_P D vwCl (wY b h (Y_n Y v)) H := g0
theorem cD_Y_n {A : Nat → Prop} {b : Nat → Nat} {h : Nat → ClassId} {Y : zY} {v : Int32} (g0 : va_D A ((wY b h Y).set 0 (b 0, .inr (3, ([.int (y_n Y), .ref (b 1), .ref (b 2), .ref (b 3), .ref (b 4), .ref (b 5), .ref (b 6), .ref (b 7), .ref (b 8), .ref (b 9), .int (g_wc (r_g (y_r Y))), .int (y_b Y), .int (y_e Y), .int (t_f (y_T Y)), .int (g_sp (r_g (y_r Y))), .int (y_l Y), .ref (b 10), .int (r_tp (y_r Y)), .int (r_gv (y_r Y)), .int (r_er (y_r Y))]).set 0 (.int (v)))))) : va_D A (wY b h (Y_n Y v)) := g0
theorem cP_Y_b {D : va_G} {H : Heap} {b : Nat → Nat} {h : Nat → ClassId} {Y : zY} {v : Int32} (g0 : va_P D vwCl ((wY b h Y).set 0 (b 0, .inr (3, ([.int (y_n Y), .ref (b 1), .ref (b 2), .ref (b 3), .ref (b 4), .ref (b 5), .ref (b 6), .ref (b 7), .ref (b 8), .ref (b 9), .int (g_wc (r_g (y_r Y))), .int (y_b Y), .int (y_e Y), .int (t_f (y_T Y)), .int (g_sp (r_g (y_r Y))), .int (y_l Y), .ref (b 10), .int (r_tp (y_r Y)), .int (r_gv (y_r Y)), .int (r_er (y_r Y))]).set 11 (.int (v))))) H) : va_P D vwCl (wY b h (Y_b Y v)) H := g0
theorem cD_Y_b {A : Nat → Prop} {b : Nat → Nat} {h : Nat → ClassId} {Y : zY} {v : Int32} (g0 : va_D A ((wY b h Y).set 0 (b 0, .inr (3, ([.int (y_n Y), .ref (b 1), .ref (b 2), .ref (b 3), .ref (b 4), .ref (b 5), .ref (b 6), .ref (b 7), .ref (b 8), .ref (b 9), .int (g_wc (r_g (y_r Y))), .int (y_b Y), .int (y_e Y), .int (t_f (y_T Y)), .int (g_sp (r_g (y_r Y))), .int (y_l Y), .ref (b 10), .int (r_tp (y_r Y)), .int (r_gv (y_r Y)), .int (r_er (y_r Y))]).set 11 (.int (v)))))) : va_D A (wY b h (Y_b Y v)) := g0
theorem cP_Y_e {D : va_G} {H : Heap} {b : Nat → Nat} {h : Nat → ClassId} {Y : zY} {v : Int32} (g0 : va_P D vwCl ((wY b h Y).set 0 (b 0, .inr (3, ([.int (y_n Y), .ref (b 1), .ref (b 2), .ref (b 3), .ref (b 4), .ref (b 5), .ref (b 6), .ref (b 7), .ref (b 8), .ref (b 9), .int (g_wc (r_g (y_r Y))), .int (y_b Y), .int (y_e Y), .int (t_f (y_T Y)), .int (g_sp (r_g (y_r Y))), .int (y_l Y), .ref (b 10), .int (r_tp (y_r Y)), .int (r_gv (y_r Y)), .int (r_er (y_r Y))]).set 12 (.int (v))))) H) : va_P D vwCl (wY b h (Y_e Y v)) H := g0
theorem cD_Y_e {A : Nat → Prop} {b : Nat → Nat} {h : Nat → ClassId} {Y : zY} {v : Int32} (g0 : va_D A ((wY b h Y).set 0 (b 0, .inr (3, ([.int (y_n Y), .ref (b 1), .ref (b 2), .ref (b 3), .ref (b 4), .ref (b 5), .ref (b 6), .ref (b 7), .ref (b 8), .ref (b 9), .int (g_wc (r_g (y_r Y))), .int (y_b Y), .int (y_e Y), .int (t_f (y_T Y)), .int (g_sp (r_g (y_r Y))), .int (y_l Y), .ref (b 10), .int (r_tp (y_r Y)), .int (r_gv (y_r Y)), .int (r_er (y_r Y))]).set 12 (.int (v)))))) : va_D A (wY b h (Y_e Y v)) := g0
theorem cP_Y_f {D : va_G} {H : Heap} {b : Nat → Nat} {h : Nat → ClassId} {Y : zY} {v : Int32} (g0 : va_P D vwCl ((wY b h Y).set 0 (b 0, .inr (3, ([.int (y_n Y), .ref (b 1), .ref (b 2), .ref (b 3), .ref (b 4), .ref (b 5), .ref (b 6), .ref (b 7), .ref (b 8), .ref (b 9), .int (g_wc (r_g (y_r Y))), .int (y_b Y), .int (y_e Y), .int (t_f (y_T Y)), .int (g_sp (r_g (y_r Y))), .int (y_l Y), .ref (b 10), .int (r_tp (y_r Y)), .int (r_gv (y_r Y)), .int (r_er (y_r Y))]).set 13 (.int (v))))) H) : va_P D vwCl (wY b h (Y_f Y v)) H := g0
theorem cD_Y_f {A : Nat → Prop} {b : Nat → Nat} {h : Nat → ClassId} {Y : zY} {v : Int32} (g0 : va_D A ((wY b h Y).set 0 (b 0, .inr (3, ([.int (y_n Y), .ref (b 1), .ref (b 2), .ref (b 3), .ref (b 4), .ref (b 5), .ref (b 6), .ref (b 7), .ref (b 8), .ref (b 9), .int (g_wc (r_g (y_r Y))), .int (y_b Y), .int (y_e Y), .int (t_f (y_T Y)), .int (g_sp (r_g (y_r Y))), .int (y_l Y), .ref (b 10), .int (r_tp (y_r Y)), .int (r_gv (y_r Y)), .int (r_er (y_r Y))]).set 13 (.int (v)))))) : va_D A (wY b h (Y_f Y v)) := g0
theorem cP_Y_l {D : va_G} {H : Heap} {b : Nat → Nat} {h : Nat → ClassId} {Y : zY} {v : Int32} (g0 : va_P D vwCl ((wY b h Y).set 0 (b 0, .inr (3, ([.int (y_n Y), .ref (b 1), .ref (b 2), .ref (b 3), .ref (b 4), .ref (b 5), .ref (b 6), .ref (b 7), .ref (b 8), .ref (b 9), .int (g_wc (r_g (y_r Y))), .int (y_b Y), .int (y_e Y), .int (t_f (y_T Y)), .int (g_sp (r_g (y_r Y))), .int (y_l Y), .ref (b 10), .int (r_tp (y_r Y)), .int (r_gv (y_r Y)), .int (r_er (y_r Y))]).set 15 (.int (v))))) H) : va_P D vwCl (wY b h (Y_l Y v)) H := g0
theorem cD_Y_l {A : Nat → Prop} {b : Nat → Nat} {h : Nat → ClassId} {Y : zY} {v : Int32} (g0 : va_D A ((wY b h Y).set 0 (b 0, .inr (3, ([.int (y_n Y), .ref (b 1), .ref (b 2), .ref (b 3), .ref (b 4), .ref (b 5), .ref (b 6), .ref (b 7), .ref (b 8), .ref (b 9), .int (g_wc (r_g (y_r Y))), .int (y_b Y), .int (y_e Y), .int (t_f (y_T Y)), .int (g_sp (r_g (y_r Y))), .int (y_l Y), .ref (b 10), .int (r_tp (y_r Y)), .int (r_gv (y_r Y)), .int (r_er (y_r Y))]).set 15 (.int (v)))))) : va_D A (wY b h (Y_l Y v)) := g0
theorem cP_Y_co {D : va_G} {H : Heap} {b : Nat → Nat} {h : Nat → ClassId} {Y : zY} {v : Int32} (g0 : va_P D vwCl ((wY b h Y).set 0 (b 0, .inr (3, ([.int (y_n Y), .ref (b 1), .ref (b 2), .ref (b 3), .ref (b 4), .ref (b 5), .ref (b 6), .ref (b 7), .ref (b 8), .ref (b 9), .int (g_wc (r_g (y_r Y))), .int (y_b Y), .int (y_e Y), .int (t_f (y_T Y)), .int (g_sp (r_g (y_r Y))), .int (y_l Y), .ref (b 10), .int (r_tp (y_r Y)), .int (r_gv (y_r Y)), .int (r_er (y_r Y))]).set 14 (.int (v))))) H) : va_P D vwCl (wY b h (Y_q Y (fun r => u_g r (h_c (r_g r) v)))) H := g0
theorem cD_Y_co {A : Nat → Prop} {b : Nat → Nat} {h : Nat → ClassId} {Y : zY} {v : Int32} (g0 : va_D A ((wY b h Y).set 0 (b 0, .inr (3, ([.int (y_n Y), .ref (b 1), .ref (b 2), .ref (b 3), .ref (b 4), .ref (b 5), .ref (b 6), .ref (b 7), .ref (b 8), .ref (b 9), .int (g_wc (r_g (y_r Y))), .int (y_b Y), .int (y_e Y), .int (t_f (y_T Y)), .int (g_sp (r_g (y_r Y))), .int (y_l Y), .ref (b 10), .int (r_tp (y_r Y)), .int (r_gv (y_r Y)), .int (r_er (y_r Y))]).set 14 (.int (v)))))) : va_D A (wY b h (Y_q Y (fun r => u_g r (h_c (r_g r) v)))) := g0
theorem cP_Y_tc {D : va_G} {H : Heap} {b : Nat → Nat} {h : Nat → ClassId} {Y : zY} {v : Int32} (g0 : va_P D vwCl ((wY b h Y).set 0 (b 0, .inr (3, ([.int (y_n Y), .ref (b 1), .ref (b 2), .ref (b 3), .ref (b 4), .ref (b 5), .ref (b 6), .ref (b 7), .ref (b 8), .ref (b 9), .int (g_wc (r_g (y_r Y))), .int (y_b Y), .int (y_e Y), .int (t_f (y_T Y)), .int (g_sp (r_g (y_r Y))), .int (y_l Y), .ref (b 10), .int (r_tp (y_r Y)), .int (r_gv (y_r Y)), .int (r_er (y_r Y))]).set 10 (.int (v))))) H) : va_P D vwCl (wY b h (Y_q Y (fun r => u_g r (h_wc (r_g r) v)))) H := g0
theorem cD_Y_tc {A : Nat → Prop} {b : Nat → Nat} {h : Nat → ClassId} {Y : zY} {v : Int32} (g0 : va_D A ((wY b h Y).set 0 (b 0, .inr (3, ([.int (y_n Y), .ref (b 1), .ref (b 2), .ref (b 3), .ref (b 4), .ref (b 5), .ref (b 6), .ref (b 7), .ref (b 8), .ref (b 9), .int (g_wc (r_g (y_r Y))), .int (y_b Y), .int (y_e Y), .int (t_f (y_T Y)), .int (g_sp (r_g (y_r Y))), .int (y_l Y), .ref (b 10), .int (r_tp (y_r Y)), .int (r_gv (y_r Y)), .int (r_er (y_r Y))]).set 10 (.int (v)))))) : va_D A (wY b h (Y_q Y (fun r => u_g r (h_wc (r_g r) v)))) := g0
theorem cP_Y_r {D : va_G} {H : Heap} {b : Nat → Nat} {h : Nat → ClassId} {Y : zY} {r : zR} (g : va_P D vwCl (wR b h Y r) H) : va_P D vwCl (wY b h (Y_r Y r)) H := g
end
section
set_option maxRecDepth 100000 in
set_option maxHeartbeats 4000000 in
theorem c_S_start (l : Launch) (dC : Nat → ClassId) (dI : Nat → Nat → Nat) (a : Nat → Nat) (k : Nat → ClassId) (X : zX) (s : zC) (e : Int32) (he : vp_in e 60) (hW : Wk s) : MetV l y_S_start w_S_start (rmN (0)) dC dI (yX k) (wS a k X) [.ref (a 1), .int e] s (fun u => u = s_st s e 0 ∧ Wk u) := by
  refine metV_of (cc := b_S_start) (maxL := 2) (ret := none) (by decide) rfl (Nat.le_of_ble_eq_true rfl) ?_
  intro p e9 s9 m args below meth c A ls hx hb hr hts hown hlocks hml hA hP hK hD hS hN hl
  have ht : ∀ w ∈ lw_g, w.before args s9 = true := fun w h => hts w (List.mem_cons_of_mem _ h)
  have hl : lv_has ls 2 [(0, .ref (a 1)), (1, .int e)] := hl
  refine lv_aload_n hx hb d_S_start_0 rfl (lv_at hl 0 rfl) ?_
  refine va_get (D := (dC, dI)) (ci := 1) (v := .ref (a 10)) (C := R_S) (T := T_S) (N := 12) hx hb ht in_S hown hK hP 1 rfl rfl 1 (by decide) (ht _ k_63) (fun _ h => h) rfl d_S_start_1 ?_
  refine lv_iload_n hx hb d_S_start_4 rfl (lv_at hl 1 rfl) ?_
  refine lv_iconst (v := 0) hx hb d_S_start_5 (by decide) ?_
  refine va_iast hx hb hK hP hD hS 10 7 rfl rfl he d_S_start_6 (fun H locs hP hD hS => ?_)
  have hP : va_P (dC, dI) vwCl (wS a k X (s_st s e 0)) H := cP_S_st hP
  have hD : va_D A (wS a k X (s_st s e 0)) := cD_S_st hD
  exact ret_v hx hb hr hlocks hP hK hD hS d_S_start_7 ⟨rfl, (wk_st hW)⟩
set_option maxRecDepth 100000 in
set_option maxHeartbeats 4000000 in
theorem c_S_give (l : Launch) (dC : Nat → ClassId) (dI : Nat → Nat → Nat) (a : Nat → Nat) (k : Nat → ClassId) (X : zX) (s : zC) (e : Int32) (v : Int32) (he : vp_in e 60) (hW : Wk s) : MetI l y_S_give w_S_give (rmN (0)) dC dI (yX k) (wS a k X) [.ref (a 1), .int e, .int v] s (fun r u => p_give e v s = (r, u) ∧ Wk u) := by
  refine metI_of (cc := b_S_give) (maxL := 3) (ret := (some .int)) (by decide) rfl (Nat.le_of_ble_eq_true rfl) ?_
  intro p e9 s9 m args below meth c A ls hx hb hr hts hown hlocks hml hA hP hK hD hS hN hl
  have ht : ∀ w ∈ lw_g, w.before args s9 = true := fun w h => hts w (List.mem_cons_of_mem _ h)
  have hl : lv_has ls 3 [(0, .ref (a 1)), (1, .int e), (2, .int v)] := hl
  refine lv_aload_n hx hb d_S_give_0 rfl (lv_at hl 0 rfl) ?_
  refine va_get (D := (dC, dI)) (ci := 1) (v := .ref (a 11)) (C := R_S) (T := T_S) (N := 12) hx hb ht in_S hown hK hP 1 rfl rfl 2 (by decide) (ht _ k_64) (fun _ h => h) rfl d_S_give_1 ?_
  refine lv_iload_n hx hb d_S_give_4 rfl (lv_at hl 1 rfl) ?_
  refine lv_iload_n hx hb d_S_give_5 rfl (lv_at hl 2 rfl) ?_
  refine va_iast hx hb hK hP hD hS 11 8 rfl rfl he d_S_give_6 (fun H locs hP hD hS => ?_)
  have hP : va_P (dC, dI) vwCl (wS a k X (s_rs s e v)) H := cP_S_rs hP
  have hD : va_D A (wS a k X (s_rs s e v)) := cD_S_rs hD
  refine lv_iconst (v := 1) hx hb d_S_give_7 (by decide) ?_
  exact ret_i hx hb hr hlocks hP hK hD hS d_S_give_8 ⟨by simp [p_give], (wk_rs hW)⟩
set_option maxRecDepth 100000 in
set_option maxHeartbeats 4000000 in
theorem c_S_giveForFuel (l : Launch) (dC : Nat → ClassId) (dI : Nat → Nat → Nat) (a : Nat → Nat) (k : Nat → ClassId) (X : zX) (s : zC) (e : Int32) (v : Int32) (he : vp_in e 60) (hW : Wk s) : MetI l y_S_giveForFuel w_S_giveForFuel (rmN (1)) dC dI (yX k) (wS a k X) [.ref (a 1), .int e, .int v] s (fun r u => p_fuel (x_F X) e v s = (r, u) ∧ Wk u) := by
  refine metI_of (cc := b_S_giveForFuel) (maxL := 3) (ret := (some .int)) (by decide) rfl (Nat.le_of_ble_eq_true rfl) ?_
  intro p e9 s9 m args below meth c A ls hx hb hr hts hown hlocks hml hA hP hK hD hS hN hl
  have ht : ∀ w ∈ lw_g, w.before args s9 = true := fun w h => hts w (List.mem_cons_of_mem _ h)
  have hl : lv_has ls 3 [(0, .ref (a 1)), (1, .int e), (2, .int v)] := hl
  refine lv_aload_n hx hb d_S_giveForFuel_0 rfl (lv_at hl 0 rfl) ?_
  refine va_get (D := (dC, dI)) (ci := 1) (v := .int (g_sp (c_g s))) (C := R_S) (T := T_S) (N := 12) hx hb ht in_S hown hK hP 1 rfl rfl 7 (by decide) (ht _ k_72) (fun _ h => h) rfl d_S_giveForFuel_1 ?_
  refine lv_aload_n hx hb d_S_giveForFuel_4 rfl (lv_at hl 0 rfl) ?_
  refine va_get (D := (dC, dI)) (ci := 1) (v := .int (f_f (x_F X))) (C := R_S) (T := T_S) (N := 12) hx hb ht in_S hown hK hP 1 rfl rfl 9 (by decide) (ht _ k_76) (fun _ h => h) rfl d_S_giveForFuel_5 ?_
  refine lv_icmp_lt (tgt := 14) hx hb d_S_giveForFuel_8 (by decide) (fun c1 => ?_) (fun c1 => ?_)
  · have c1 : g_sp (c_g s) < f_f (x_F X) := c1
    refine lv_aload_n hx hb d_S_giveForFuel_14 rfl (lv_at hl 0 rfl) ?_
    refine lv_dup hx hb d_S_giveForFuel_15 rfl ?_
    refine va_get (D := (dC, dI)) (ci := 1) (v := .int (g_sp (c_g s))) (C := R_S) (T := T_S) (N := 12) hx hb ht in_S hown hK hP 1 rfl rfl 7 (by decide) (ht _ k_72) (fun _ h => h) rfl d_S_giveForFuel_16 ?_
    refine lv_iconst (v := 1) hx hb d_S_giveForFuel_19 (by decide) ?_
    refine lv_iadd hx hb d_S_giveForFuel_20 ?_
    refine va_put (D := (dC, dI)) (ci := 1) (v := .int (g_sp (c_g s) + 1)) (ty := .int) (C := R_S) (T := T_S) (N := 12) hx hb ht in_S t_S t_S_ok n_S hown hK hP hD hS 1 rfl rfl 7 (by decide) (ht _ k_72) (fun _ h => h) rfl (by decide +kernel) rfl rfl (Nat.le_of_ble_eq_true rfl) d_S_giveForFuel_21 (fun H locs hP hD hS => ?_)
    have hP : va_P (dC, dI) vwCl (wS a k X (s_g s (h_sp (c_g s)))) H := cP_S_sp hP
    have hD : va_D A (wS a k X (s_g s (h_sp (c_g s)))) := cD_S_sp hD
    refine lv_aload_n hx hb d_S_giveForFuel_24 rfl (lv_at hl 0 rfl) ?_
    refine lv_iload_n hx hb d_S_giveForFuel_25 rfl (lv_at hl 1 rfl) ?_
    refine lv_iload_n hx hb d_S_giveForFuel_26 rfl (lv_at hl 2 rfl) ?_
    refine call_i (As := [.int e, .int v]) (rest := []) (ci := 1) (q0 := 1) (c_S_give l dC dI a k X (s_g s (h_sp (c_g s))) e v he (wk_sp hW)) k_209 k_211 s_S_give k_2 k_212 ⟨rfl, pc_S_give.1, pc_S_give.2, pd_S_give⟩ rfl rfl rfl rfl rfl (rm_le (by omega) (by decide)) (Nat.le_of_ble_eq_true rfl) rfl hx hb hml hown ht hl.1 hP hK hD hS hA hN d_S_giveForFuel_27 (fun r2 u3 H locs q4 hP hD hS => ?_)
    obtain ⟨q4, hW4⟩ := q4
    have hP : va_P (dC, dI) vwCl (wS a k X u3) H := hP
    have hD : va_D A (wS a k X u3) := hD
    exact ret_i hx hb hr hlocks hP hK hD hS d_S_giveForFuel_30 ⟨by simp [p_fuel, c1, q4], hW4⟩
  · have c1 : ¬ g_sp (c_g s) < f_f (x_F X) := c1
    refine lv_bipush (v := (-5)) hx hb d_S_giveForFuel_11 (by decide) ?_
    exact ret_i hx hb hr hlocks hP hK hD hS d_S_giveForFuel_13 ⟨by simp [p_fuel, c1], hW⟩
set_option maxRecDepth 100000 in
set_option maxHeartbeats 4000000 in
theorem c_S_handUp (l : Launch) (dC : Nat → ClassId) (dI : Nat → Nat → Nat) (a : Nat → Nat) (k : Nat → ClassId) (X : zX) (s : zC) (e : Int32) (x : Int32) (v : Int32) (he : vp_in e 60) (hx0 : vp_in x 60) (hW : Wk s) : MetI l y_S_handUp w_S_handUp (rmN (1)) dC dI (yX k) (wS a k X) [.ref (a 1), .int e, .int x, .int v] s (fun r u => p_up e x (v, s) = (r, u) ∧ Wk u) := by
  refine metI_of (cc := b_S_handUp) (maxL := 4) (ret := (some .int)) (by decide) rfl (Nat.le_of_ble_eq_true rfl) ?_
  intro p e9 s9 m args below meth c A ls hx hb hr hts hown hlocks hml hA hP hK hD hS hN hl
  have ht : ∀ w ∈ lw_g, w.before args s9 = true := fun w h => hts w (List.mem_cons_of_mem _ h)
  have hl : lv_has ls 4 [(0, .ref (a 1)), (1, .int e), (2, .int x), (3, .int v)] := hl
  refine lv_iload_n hx hb d_S_handUp_0 rfl (lv_at hl 3 rfl) ?_
  refine lv_iconst (v := 1) hx hb d_S_handUp_1 (by decide) ?_
  refine lv_icmp_ne (tgt := 19) hx hb d_S_handUp_2 (by decide) (fun c1 => ?_) (fun c1 => ?_)
  · have c1 : ¬ v = 1 := c1
    refine lv_iload_n hx hb d_S_handUp_19 rfl (lv_at hl 3 rfl) ?_
    exact ret_i hx hb hr hlocks hP hK hD hS d_S_handUp_20 ⟨by simp [p_up, c1], hW⟩
  · have c1 : v = 1 := c1
    refine lv_aload_n hx hb d_S_handUp_5 rfl (lv_at hl 0 rfl) ?_
    refine lv_iload_n hx hb d_S_handUp_6 rfl (lv_at hl 1 rfl) ?_
    refine lv_aload_n hx hb d_S_handUp_7 rfl (lv_at hl 0 rfl) ?_
    refine va_get (D := (dC, dI)) (ci := 1) (v := .ref (a 11)) (C := R_S) (T := T_S) (N := 12) hx hb ht in_S hown hK hP 1 rfl rfl 2 (by decide) (ht _ k_64) (fun _ h => h) rfl d_S_handUp_8 ?_
    refine lv_iload_n hx hb d_S_handUp_11 rfl (lv_at hl 2 rfl) ?_
    refine va_iald hx hb hK hP 11 8 rfl rfl hx0 d_S_handUp_12 ?_
    refine call_i (As := [.int e, .int (c_rs s (ix x))]) (rest := []) (ci := 1) (q0 := 1) (c_S_give l dC dI a k X s e (c_rs s (ix x)) he hW) k_209 k_211 s_S_give k_2 k_212 ⟨rfl, pc_S_give.1, pc_S_give.2, pd_S_give⟩ rfl rfl rfl rfl rfl (rm_le (by omega) (by decide)) (Nat.le_of_ble_eq_true rfl) rfl hx hb hml hown ht hl.1 hP hK hD hS hA hN d_S_handUp_13 (fun r2 u3 H locs q4 hP hD hS => ?_)
    obtain ⟨q4, hW4⟩ := q4
    have hP : va_P (dC, dI) vwCl (wS a k X u3) H := hP
    have hD : va_D A (wS a k X u3) := hD
    refine lv_goto (tgt := 20) hx hb d_S_handUp_16 (by decide) ?_
    exact ret_i hx hb hr hlocks hP hK hD hS d_S_handUp_20 ⟨by simp [p_up, c1, q4], hW4⟩
set_option maxRecDepth 100000 in
set_option maxHeartbeats 4000000 in
theorem c_S_askLeaf (l : Launch) (dC : Nat → ClassId) (dI : Nat → Nat → Nat) (a : Nat → Nat) (k : Nat → ClassId) (X : zX) (s : zC) (e : Int32) (v : Int32) (he : vp_in e 60) (hW : Wk s) : MetI l y_S_askLeaf w_S_askLeaf (rmN (2)) dC dI (yX k) (wS a k X) [.ref (a 1), .int e, .int v] s (fun r u => p_leaf (x_F X) e v s = (r, u) ∧ Wk u) := by
  refine metI_of (cc := b_S_askLeaf) (maxL := 3) (ret := (some .int)) (by decide) rfl (Nat.le_of_ble_eq_true rfl) ?_
  intro p e9 s9 m args below meth c A ls hx hb hr hts hown hlocks hml hA hP hK hD hS hN hl
  have ht : ∀ w ∈ lw_g, w.before args s9 = true := fun w h => hts w (List.mem_cons_of_mem _ h)
  have hl : lv_has ls 3 [(0, .ref (a 1)), (1, .int e), (2, .int v)] := hl
  refine lv_aload_n hx hb d_S_askLeaf_0 rfl (lv_at hl 0 rfl) ?_
  refine va_get (D := (dC, dI)) (ci := 1) (v := .ref (a 10)) (C := R_S) (T := T_S) (N := 12) hx hb ht in_S hown hK hP 1 rfl rfl 1 (by decide) (ht _ k_63) (fun _ h => h) rfl d_S_askLeaf_1 ?_
  refine lv_iload_n hx hb d_S_askLeaf_4 rfl (lv_at hl 1 rfl) ?_
  refine va_iald hx hb hK hP 10 7 rfl rfl he d_S_askLeaf_5 ?_
  refine lv_if_eq (tgt := 11) hx hb d_S_askLeaf_6 (by decide) (fun c1 => ?_) (fun c1 => ?_)
  · have c1 : c_st s (ix e) = 0 := c1
    refine lv_aload_n hx hb d_S_askLeaf_11 rfl (lv_at hl 0 rfl) ?_
    refine va_get (D := (dC, dI)) (ci := 1) (v := .ref (a 10)) (C := R_S) (T := T_S) (N := 12) hx hb ht in_S hown hK hP 1 rfl rfl 1 (by decide) (ht _ k_63) (fun _ h => h) rfl d_S_askLeaf_12 ?_
    refine lv_iload_n hx hb d_S_askLeaf_15 rfl (lv_at hl 1 rfl) ?_
    refine lv_iconst (v := 5) hx hb d_S_askLeaf_16 (by decide) ?_
    refine va_iast hx hb hK hP hD hS 10 7 rfl rfl he d_S_askLeaf_17 (fun H locs hP hD hS => ?_)
    have hP : va_P (dC, dI) vwCl (wS a k X (s_st s e 5)) H := cP_S_st hP
    have hD : va_D A (wS a k X (s_st s e 5)) := cD_S_st hD
    refine lv_aload_n hx hb d_S_askLeaf_18 rfl (lv_at hl 0 rfl) ?_
    refine lv_iload_n hx hb d_S_askLeaf_19 rfl (lv_at hl 1 rfl) ?_
    refine lv_iload_n hx hb d_S_askLeaf_20 rfl (lv_at hl 2 rfl) ?_
    refine call_i (As := [.int e, .int v]) (rest := []) (ci := 1) (q0 := 1) (c_S_giveForFuel l dC dI a k X (s_st s e 5) e v he (wk_st hW)) k_205 k_207 s_S_giveForFuel k_2 k_208 ⟨rfl, pc_S_giveForFuel.1, pc_S_giveForFuel.2, pd_S_giveForFuel⟩ rfl rfl rfl rfl rfl (rm_le (by omega) (by decide)) (Nat.le_of_ble_eq_true rfl) rfl hx hb hml hown ht hl.1 hP hK hD hS hA hN d_S_askLeaf_21 (fun r2 u3 H locs q4 hP hD hS => ?_)
    obtain ⟨q4, hW4⟩ := q4
    have hP : va_P (dC, dI) vwCl (wS a k X u3) H := hP
    have hD : va_D A (wS a k X u3) := hD
    exact ret_i hx hb hr hlocks hP hK hD hS d_S_askLeaf_24 ⟨by simp [p_leaf, c1, q4], hW4⟩
  · have c1 : ¬ c_st s (ix e) = 0 := c1
    refine lv_iconst (v := 0) hx hb d_S_askLeaf_9 (by decide) ?_
    exact ret_i hx hb hr hlocks hP hK hD hS d_S_askLeaf_10 ⟨by simp [p_leaf, c1], hW⟩
set_option maxRecDepth 100000 in
set_option maxHeartbeats 4000000 in
theorem c_S_tryOnce (l : Launch) (dC : Nat → ClassId) (dI : Nat → Nat → Nat) (a : Nat → Nat) (k : Nat → ClassId) (X : zX) (T : zT) (M d : Nat) (hAsk : AskOK l dC dI a k X T M d) (s : zC) (e : Int32) (te : Tr (x_F X) T d e) (hW : Wk s) : MetI l y_S_tryOnce w_S_tryOnce (rmN (5 * d + 4)) dC dI (yX k) (wS a k X) [.ref (a 1), .int e] s (fun r u => p_try (p_all (x_F X) M d) e s = (r, u) ∧ Wk u) := by
  refine metI_of (cc := b_S_tryOnce) (maxL := 2) (ret := (some .int)) (by decide) rfl (Nat.le_of_ble_eq_true rfl) ?_
  intro p e9 s9 m args below meth c A ls hx hb hr hts hown hlocks hml hA hP hK hD hS hN hl
  have ht : ∀ w ∈ lw_g, w.before args s9 = true := fun w h => hts w (List.mem_cons_of_mem _ h)
  have hl : lv_has ls 2 [(0, .ref (a 1)), (1, .int e)] := hl
  refine lv_aload_n hx hb d_S_tryOnce_0 rfl (lv_at hl 0 rfl) ?_
  refine lv_iload_n hx hb d_S_tryOnce_1 rfl (lv_at hl 1 rfl) ?_
  refine call_v (As := [.int e]) (rest := []) (ci := 1) (q0 := 1) (c_S_start l dC dI a k X s e (Tr_in te) hW) k_185 k_187 s_S_start k_2 k_188 ⟨rfl, pc_S_start.1, pc_S_start.2, pd_S_start⟩ rfl rfl rfl rfl rfl (rm_le (by omega) (by decide)) (Nat.le_of_ble_eq_true rfl) rfl hx hb hml hown ht hl.1 hP hK hD hS hA hN d_S_tryOnce_2 (fun u2 H locs q3 hP hD hS => ?_)
  obtain ⟨rfl, hW3⟩ := q3
  have hP : va_P (dC, dI) vwCl (wS a k X (s_st s e 0)) H := hP
  have hD : va_D A (wS a k X (s_st s e 0)) := hD
  refine lv_aload_n hx hb d_S_tryOnce_5 rfl (lv_at hl 0 rfl) ?_
  refine lv_iload_n hx hb d_S_tryOnce_6 rfl (lv_at hl 1 rfl) ?_
  refine call_i (As := [.int e]) (rest := []) (ci := 1) (q0 := 1) (hAsk e (s_st s e 0) te hW3) k_197 k_199 s_S_ask k_2 k_200 ⟨rfl, pc_S_ask.1, pc_S_ask.2, pd_S_ask⟩ rfl rfl rfl rfl rfl (rm_le (by omega) (by decide)) (Nat.le_of_ble_eq_true rfl) rfl hx hb hml hown ht hl.1 hP hK hD hS hA hN d_S_tryOnce_7 (fun r4 u5 H locs q6 hP hD hS => ?_)
  obtain ⟨q6, hW6⟩ := q6
  have hP : va_P (dC, dI) vwCl (wS a k X u5) H := hP
  have hD : va_D A (wS a k X u5) := hD
  exact ret_i hx hb hr hlocks hP hK hD hS d_S_tryOnce_10 ⟨by simp [p_try, q6], hW6⟩
set_option maxRecDepth 100000 in
set_option maxHeartbeats 4000000 in
theorem c_S_askX (l : Launch) (dC : Nat → ClassId) (dI : Nat → Nat → Nat) (a : Nat → Nat) (k : Nat → ClassId) (X : zX) (T : zT) (M d : Nat) (hAsk : AskOK l dC dI a k X T M d) (s : zC) (e : Int32) (he : vp_in e 60) (tx : Tr (x_F X) T d (f_x (x_F X) (ix e))) (hW : Wk s) : MetI l y_S_askX w_S_askX (rmN (5 * d + 4)) dC dI (yX k) (wS a k X) [.ref (a 1), .int e] s (fun r u => p_x (x_F X) (p_all (x_F X) M d) e s = (r, u) ∧ Wk u) := by
  refine metI_of (cc := b_S_askX) (maxL := 2) (ret := (some .int)) (by decide) rfl (Nat.le_of_ble_eq_true rfl) ?_
  intro p e9 s9 m args below meth c A ls hx hb hr hts hown hlocks hml hA hP hK hD hS hN hl
  have ht : ∀ w ∈ lw_g, w.before args s9 = true := fun w h => hts w (List.mem_cons_of_mem _ h)
  have hl : lv_has ls 2 [(0, .ref (a 1)), (1, .int e)] := hl
  refine lv_aload_n hx hb d_S_askX_0 rfl (lv_at hl 0 rfl) ?_
  refine va_get (D := (dC, dI)) (ci := 1) (v := .ref (a 10)) (C := R_S) (T := T_S) (N := 12) hx hb ht in_S hown hK hP 1 rfl rfl 1 (by decide) (ht _ k_63) (fun _ h => h) rfl d_S_askX_1 ?_
  refine lv_iload_n hx hb d_S_askX_4 rfl (lv_at hl 1 rfl) ?_
  refine va_iald hx hb hK hP 10 7 rfl rfl he d_S_askX_5 ?_
  refine lv_if_ne (tgt := 22) hx hb d_S_askX_6 (by decide) (fun c1 => ?_) (fun c1 => ?_)
  · have c1 : ¬ c_st s (ix e) = 0 := c1
    refine lv_aload_n hx hb d_S_askX_22 rfl (lv_at hl 0 rfl) ?_
    refine va_get (D := (dC, dI)) (ci := 1) (v := .ref (a 10)) (C := R_S) (T := T_S) (N := 12) hx hb ht in_S hown hK hP 1 rfl rfl 1 (by decide) (ht _ k_63) (fun _ h => h) rfl d_S_askX_23 ?_
    refine lv_iload_n hx hb d_S_askX_26 rfl (lv_at hl 1 rfl) ?_
    refine lv_iconst (v := 1) hx hb d_S_askX_27 (by decide) ?_
    refine va_iast hx hb hK hP hD hS 10 7 rfl rfl he d_S_askX_28 (fun H locs hP hD hS => ?_)
    have hP : va_P (dC, dI) vwCl (wS a k X (s_st s e 1)) H := cP_S_st hP
    have hD : va_D A (wS a k X (s_st s e 1)) := cD_S_st hD
    refine lv_aload_n hx hb d_S_askX_29 rfl (lv_at hl 0 rfl) ?_
    refine lv_aload_n hx hb d_S_askX_30 rfl (lv_at hl 0 rfl) ?_
    refine va_get (D := (dC, dI)) (ci := 1) (v := .ref (a 2)) (C := R_S) (T := T_S) (N := 12) hx hb ht in_S hown hK hP 1 rfl rfl 0 (by decide) (ht _ k_61) (fun _ h => h) rfl d_S_askX_31 ?_
    refine va_get (D := (dC, dI)) (ci := 0) (v := .ref (a 5)) (C := R_F) (T := T_F) (N := 8) hx hb ht in_F hown hK hP 2 rfl rfl 2 (by decide) (ht _ k_31) (fun _ h => h) rfl d_S_askX_34 ?_
    refine lv_iload_n hx hb d_S_askX_37 rfl (lv_at hl 1 rfl) ?_
    refine va_iald hx hb hK hP 5 2 rfl rfl he d_S_askX_38 ?_
    refine call_i (As := [.int (f_x (x_F X) (ix e))]) (rest := []) (ci := 1) (q0 := 1) (hAsk (f_x (x_F X) (ix e)) (s_st s e 1) tx (wk_st hW)) k_197 k_199 s_S_ask k_2 k_200 ⟨rfl, pc_S_ask.1, pc_S_ask.2, pd_S_ask⟩ rfl rfl rfl rfl rfl (rm_le (by omega) (by decide)) (Nat.le_of_ble_eq_true rfl) rfl hx hb hml hown ht hl.1 hP hK hD hS hA hN d_S_askX_39 (fun r2 u3 H locs q4 hP hD hS => ?_)
    obtain ⟨q4, hW4⟩ := q4
    have hP : va_P (dC, dI) vwCl (wS a k X u3) H := hP
    have hD : va_D A (wS a k X u3) := hD
    exact ret_i hx hb hr hlocks hP hK hD hS d_S_askX_42 ⟨by simp [p_x, c1, q4], hW4⟩
  · have c1 : c_st s (ix e) = 0 := c1
    refine lv_aload_n hx hb d_S_askX_9 rfl (lv_at hl 0 rfl) ?_
    refine lv_aload_n hx hb d_S_askX_10 rfl (lv_at hl 0 rfl) ?_
    refine va_get (D := (dC, dI)) (ci := 1) (v := .ref (a 2)) (C := R_S) (T := T_S) (N := 12) hx hb ht in_S hown hK hP 1 rfl rfl 0 (by decide) (ht _ k_61) (fun _ h => h) rfl d_S_askX_11 ?_
    refine va_get (D := (dC, dI)) (ci := 0) (v := .ref (a 5)) (C := R_F) (T := T_F) (N := 8) hx hb ht in_F hown hK hP 2 rfl rfl 2 (by decide) (ht _ k_31) (fun _ h => h) rfl d_S_askX_14 ?_
    refine lv_iload_n hx hb d_S_askX_17 rfl (lv_at hl 1 rfl) ?_
    refine va_iald hx hb hK hP 5 2 rfl rfl he d_S_askX_18 ?_
    refine call_v (As := [.int (f_x (x_F X) (ix e))]) (rest := []) (ci := 1) (q0 := 1) (c_S_start l dC dI a k X s (f_x (x_F X) (ix e)) (Tr_in tx) hW) k_185 k_187 s_S_start k_2 k_188 ⟨rfl, pc_S_start.1, pc_S_start.2, pd_S_start⟩ rfl rfl rfl rfl rfl (rm_le (by omega) (by decide)) (Nat.le_of_ble_eq_true rfl) rfl hx hb hml hown ht hl.1 hP hK hD hS hA hN d_S_askX_19 (fun u6 H locs q7 hP hD hS => ?_)
    obtain ⟨rfl, hW7⟩ := q7
    have hP : va_P (dC, dI) vwCl (wS a k X (s_st s (f_x (x_F X) (ix e)) 0)) H := hP
    have hD : va_D A (wS a k X (s_st s (f_x (x_F X) (ix e)) 0)) := hD
    refine lv_aload_n hx hb d_S_askX_22 rfl (lv_at hl 0 rfl) ?_
    refine va_get (D := (dC, dI)) (ci := 1) (v := .ref (a 10)) (C := R_S) (T := T_S) (N := 12) hx hb ht in_S hown hK hP 1 rfl rfl 1 (by decide) (ht _ k_63) (fun _ h => h) rfl d_S_askX_23 ?_
    refine lv_iload_n hx hb d_S_askX_26 rfl (lv_at hl 1 rfl) ?_
    refine lv_iconst (v := 1) hx hb d_S_askX_27 (by decide) ?_
    refine va_iast hx hb hK hP hD hS 10 7 rfl rfl he d_S_askX_28 (fun H locs hP hD hS => ?_)
    have hP : va_P (dC, dI) vwCl (wS a k X (s_st (s_st s (f_x (x_F X) (ix e)) 0) e 1)) H := cP_S_st hP
    have hD : va_D A (wS a k X (s_st (s_st s (f_x (x_F X) (ix e)) 0) e 1)) := cD_S_st hD
    refine lv_aload_n hx hb d_S_askX_29 rfl (lv_at hl 0 rfl) ?_
    refine lv_aload_n hx hb d_S_askX_30 rfl (lv_at hl 0 rfl) ?_
    refine va_get (D := (dC, dI)) (ci := 1) (v := .ref (a 2)) (C := R_S) (T := T_S) (N := 12) hx hb ht in_S hown hK hP 1 rfl rfl 0 (by decide) (ht _ k_61) (fun _ h => h) rfl d_S_askX_31 ?_
    refine va_get (D := (dC, dI)) (ci := 0) (v := .ref (a 5)) (C := R_F) (T := T_F) (N := 8) hx hb ht in_F hown hK hP 2 rfl rfl 2 (by decide) (ht _ k_31) (fun _ h => h) rfl d_S_askX_34 ?_
    refine lv_iload_n hx hb d_S_askX_37 rfl (lv_at hl 1 rfl) ?_
    refine va_iald hx hb hK hP 5 2 rfl rfl he d_S_askX_38 ?_
    refine call_i (As := [.int (f_x (x_F X) (ix e))]) (rest := []) (ci := 1) (q0 := 1) (hAsk (f_x (x_F X) (ix e)) (s_st (s_st s (f_x (x_F X) (ix e)) 0) e 1) tx (wk_st hW7)) k_197 k_199 s_S_ask k_2 k_200 ⟨rfl, pc_S_ask.1, pc_S_ask.2, pd_S_ask⟩ rfl rfl rfl rfl rfl (rm_le (by omega) (by decide)) (Nat.le_of_ble_eq_true rfl) rfl hx hb hml hown ht hl.1 hP hK hD hS hA hN d_S_askX_39 (fun r8 u9 H locs q10 hP hD hS => ?_)
    obtain ⟨q10, hW10⟩ := q10
    have hP : va_P (dC, dI) vwCl (wS a k X u9) H := hP
    have hD : va_D A (wS a k X u9) := hD
    exact ret_i hx hb hr hlocks hP hK hD hS d_S_askX_42 ⟨by simp [p_x, c1, q10], hW10⟩
end
