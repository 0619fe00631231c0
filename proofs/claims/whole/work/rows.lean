section
/-! Pure pictures of both sides, in the raw numbers of the bytecode: Int32, Int64, rows as functions of Nat. -/
abbrev ix (i : Int32) : Nat := i.toNatClampNeg
/-- shared by both sides: variables, written values, how many, the cost -/
abbrev zG : Type := (Nat → Int32) × (Nat → Int32) × Int32 × Int32
/-- the search: stage, result, counter, shared -/
abbrev zC : Type := (Nat → Int32) × (Nat → Int32) × (Nat → Int64) × zG
/-- the forest as a search sees it: kind, number, three parts, the fuel -/
abbrev zF : Type := (Nat → Int32) × (Nat → Int32) × (Nat → Int32) × (Nat → Int32) × (Nat → Int32) × Int32
def f_k (F : zF) : Nat → Int32 := F.1
def f_n (F : zF) : Nat → Int32 := F.2.1
def f_x (F : zF) : Nat → Int32 := F.2.2.1
def f_y (F : zF) : Nat → Int32 := F.2.2.2.1
def f_z (F : zF) : Nat → Int32 := F.2.2.2.2.1
def f_f (F : zF) : Int32 := F.2.2.2.2.2
def c_st (s : zC) : Nat → Int32 := s.1
def c_rs (s : zC) : Nat → Int32 := s.2.1
def c_ct (s : zC) : Nat → Int64 := s.2.2.1
def c_g (s : zC) : zG := s.2.2.2
def g_va (g : zG) : Nat → Int32 := g.1
def g_wr (g : zG) : Nat → Int32 := g.2.1
def g_wc (g : zG) : Int32 := g.2.2.1
def g_sp (g : zG) : Int32 := g.2.2.2
def s_st (s : zC) (e v : Int32) : zC := (upd s.1 (ix e) v, s.2)
def s_rs (s : zC) (e v : Int32) : zC := (s.1, upd s.2.1 (ix e) v, s.2.2)
def s_ct (s : zC) (e : Int32) (v : Int64) : zC := (s.1, s.2.1, vp_updL s.2.2.1 (ix e) v, s.2.2.2)
def s_g (s : zC) (g : zG) : zC := (s.1, s.2.1, s.2.2.1, g)
def h_va (g : zG) (k v : Int32) : zG := (upd g.1 (ix k) v, g.2)
def h_wr (g : zG) (v : Int32) : zG := (g.1, upd g.2.1 (ix g.2.2.1) v, g.2.2.1 + 1, g.2.2.2)
def h_w0 (g : zG) (i v : Int32) : zG := (g.1, upd g.2.1 (ix i) v, g.2.2)
def h_w1 (g : zG) : zG := (g.1, g.2.1, g.2.2.1 + 1, g.2.2.2)
def h_sp (g : zG) : zG := (g.1, g.2.1, g.2.2.1, g.2.2.2 + 1)
-- one method a function; A is the question to a part
def p_give (e v : Int32) (s : zC) : Int32 × zC := (1, s_rs s e v)
def p_fuel (F : zF) (e v : Int32) (s : zC) : Int32 × zC := if g_sp (c_g s) < f_f F then p_give e v (s_g s (h_sp (c_g s))) else (-5, s)
def p_up (e x : Int32) (q : Int32 × zC) : Int32 × zC := if q.1 = 1 then p_give e (c_rs q.2 (ix x)) q.2 else q
def p_leaf (F : zF) (e v : Int32) (s : zC) : Int32 × zC := if c_st s (ix e) = 0 then p_fuel F e v (s_st s e 5) else (0, s)
def p_try (A : Int32 → zC → Int32 × zC) (x : Int32) (s : zC) : Int32 × zC := A x (s_st s x 0)
def p_x (F : zF) (A : Int32 → zC → Int32 × zC) (e : Int32) (s : zC) : Int32 × zC :=
  A (f_x F (ix e)) (s_st (if c_st s (ix e) = 0 then s_st s (f_x F (ix e)) 0 else s) e 1)
def p_assign (F : zF) (A : Int32 → zC → Int32 × zC) (e : Int32) (s : zC) : Int32 × zC :=
  let q := p_up e (f_x F (ix e)) (p_x F A e s)
  if q.1 = 1 then (q.1, s_g q.2 (h_va (c_g q.2) (f_n F (ix e)) (c_rs q.2 (ix e)))) else q
def p_write (F : zF) (A : Int32 → zC → Int32 × zC) (e : Int32) (s : zC) : Int32 × zC :=
  let q := p_up e (f_x F (ix e)) (p_x F A e s)
  if q.1 = 1 then if g_wc (c_g q.2) < 32 then (1, s_g q.2 (h_wr (c_g q.2) (c_rs q.2 (ix e)))) else (-6, q.2) else q
def p_not (F : zF) (A : Int32 → zC → Int32 × zC) (e : Int32) (s : zC) : Int32 × zC :=
  if c_st s (ix e) = 0 then
    let q := p_try A (f_x F (ix e)) (s_st s e 5)
    if q.1 = 1 then (0, q.2) else if q.1 = 0 then p_give e 0 q.2 else q
  else (0, s)
def p_again (F : zF) (A : Int32 → zC → Int32 × zC) (e : Int32) (s : zC) : Int32 × zC :=
  let q := p_x F A e s
  p_up e (f_x F (ix e)) (if q.1 = 0 then if c_st s (ix e) = 0 then q else p_try A (f_x F (ix e)) q.2 else q)
def p_either (F : zF) (A : Int32 → zC → Int32 × zC) (e : Int32) (s : zC) : Int32 × zC :=
  if c_st s (ix e) = 2 then p_up e (f_y F (ix e)) (A (f_y F (ix e)) s) else
    let q := p_x F A e s
    if q.1 = 0 then p_up e (f_y F (ix e)) (A (f_y F (ix e)) (s_st (s_st q.2 e 2) (f_y F (ix e)) 0)) else p_up e (f_x F (ix e)) q
/-- the loop of askPair, t turns left -/
def p_pairL (F : zF) (A : Int32 → zC → Int32 × zC) (e : Int32) : Nat → zC → Int32 × zC
  | 0, s => (0, s)
  | t + 1, s =>
    if c_st s (ix e) = 2 then
      let q := A (f_y F (ix e)) s
      if q.1 = 0 then p_pairL F A e t (s_st q.2 e 1) else q
    else
      let q := p_x F A e s
      if q.1 = 1 then
        let q2 := A (f_y F (ix e)) (s_st (s_st q.2 e 2) (f_y F (ix e)) 0)
        if q2.1 = 0 then p_pairL F A e t (s_st q2.2 e 1) else q2
      else q
def p_calc (k : Int32) (r s : Int64) : Int64 := if k = 8 then r + s else if k = 9 then r - s else r * s
def p_arith (F : zF) (A : Int32 → zC → Int32 × zC) (T : Nat) (e : Int32) (s : zC) : Int32 × zC :=
  let q := p_pairL F A e T s
  if q.1 = 1 then
    let v := p_calc (f_k F (ix e)) (c_rs q.2 (ix (f_x F (ix e)))).toInt64 (c_rs q.2 (ix (f_y F (ix e)))).toInt64
    if v = v.toInt32.toInt64 then p_give e v.toInt32 q.2 else (-4, q.2)
  else q
def p_holds (k r s : Int32) : Bool := if k = 11 then decide (r < s) else decide ((k = 12) = (r = s))
def p_compL (F : zF) (A : Int32 → zC → Int32 × zC) (T : Nat) (e : Int32) : Nat → zC → Int32 × zC
  | 0, s => (0, s)
  | t + 1, s =>
    let q := p_pairL F A e T s
    if q.1 = 1 then
      if p_holds (f_k F (ix e)) (c_rs q.2 (ix (f_x F (ix e)))) (c_rs q.2 (ix (f_y F (ix e)))) = true then p_give e (c_rs q.2 (ix (f_y F (ix e)))) q.2
      else p_compL F A T e t q.2
    else q
def p_bound (F : zF) (A : Int32 → zC → Int32 × zC) (e : Int32) (s : zC) : Int32 × zC :=
  let q := A (f_y F (ix e)) (if c_st s (ix e) = 0 then s_st s (f_y F (ix e)) 0 else s)
  (q.1, s_ct q.2 e (c_rs q.2 (ix (f_y F (ix e)))).toInt64)
def p_limitL (F : zF) (A : Int32 → zC → Int32 × zC) (e : Int32) : Nat → zC → Int32 × zC
  | 0, s => (0, s)
  | t + 1, s =>
    let go := fun s1 : zC =>
      if 0 < c_ct s1 (ix e) then
        let q := A (f_x F (ix e)) (s_ct s1 e (c_ct s1 (ix e) - 1))
        if q.1 = 0 then p_limitL F A e t (s_st q.2 e 2) else p_up e (f_x F (ix e)) q
      else p_limitL F A e t (s_st s1 e 2)
    if c_st s (ix e) = 1 then go s else
      let q := p_bound F A e s
      if q.1 = 1 then go (s_st (s_st q.2 e 1) (f_x F (ix e)) 0) else q
def p_everyL (F : zF) (A : Int32 → zC → Int32 × zC) (e : Int32) : Nat → zC → Int32 × zC
  | 0, s => (0, s)
  | t + 1, s =>
    let q := if f_k F (ix e) = 16 then p_try A (f_x F (ix e)) s else p_x F A e s
    if q.1 = 1 then
      let q2 := p_try A (f_y F (ix e)) q.2
      if q2.1 < 0 then q2 else p_everyL F A e t q2.2
    else q
def p_then (F : zF) (A : Int32 → zC → Int32 × zC) (e : Int32) (s : zC) : Int32 × zC :=
  if c_st s (ix e) = 0 then
    let q := p_try A (f_x F (ix e)) s
    if q.1 < 0 then q else p_up e (f_y F (ix e)) (A (f_y F (ix e)) (s_st (s_st q.2 e 2) (f_y F (ix e)) 0))
  else p_up e (f_y F (ix e)) (A (f_y F (ix e)) s)
def p_branch (F : zF) (e : Int32) (s : zC) : Int32 := if c_st s (ix e) = 2 then f_y F (ix e) else f_z F (ix e)
def p_if (F : zF) (A : Int32 → zC → Int32 × zC) (e : Int32) (s : zC) : Int32 × zC :=
  let go := fun s1 : zC => p_up e (p_branch F e s1) (A (p_branch F e s1) s1)
  if c_st s (ix e) = 0 then
    let q := p_try A (f_x F (ix e)) s
    if q.1 < 0 then q else
      let s1 := s_st q.2 e (if q.1 = 1 then 2 else 3)
      go (s_st s1 (p_branch F e s1) 0)
  else go s
def p_tripleL (F : zF) (A : Int32 → zC → Int32 × zC) (T : Nat) (e : Int32) : Nat → zC → Int32 × zC
  | 0, s => (0, s)
  | t + 1, s =>
    if c_st s (ix e) = 3 then
      let q := A (f_z F (ix e)) s
      if q.1 = 0 then p_tripleL F A T e t (s_st q.2 e 2) else q
    else
      let q := p_pairL F A e T s
      if q.1 = 1 then
        let q2 := A (f_z F (ix e)) (s_st (s_st q.2 e 3) (f_z F (ix e)) 0)
        if q2.1 = 0 then p_tripleL F A T e t (s_st q2.2 e 2) else q2
      else q
def p_upto (F : zF) (e : Int32) (s : zC) : Bool :=
  if 0 < c_rs s (ix (f_z F (ix e))) then decide (¬ (c_rs s (ix (f_y F (ix e)))).toInt64 < c_ct s (ix e)) else decide (¬ c_ct s (ix e) < (c_rs s (ix (f_y F (ix e)))).toInt64)
def p_toL (F : zF) (A : Int32 → zC → Int32 × zC) (T : Nat) (e : Int32) : Nat → zC → Int32 × zC
  | 0, s => (0, s)
  | t + 1, s =>
    let go := fun s1 : zC => if p_upto F e s1 = true then p_fuel F e (c_ct s1 (ix e)).toInt32 s1 else p_toL F A T e t (s_st s1 e 3)
    if c_st s (ix e) = 4 then go (s_ct s e (c_ct s (ix e) + (c_rs s (ix (f_z F (ix e)))).toInt64)) else
      let q := p_tripleL F A T e T s
      if q.1 = 1 then
        if c_rs q.2 (ix (f_z F (ix e))) = 0 then (-3, q.2)
        else go (s_st (s_ct q.2 e (c_rs q.2 (ix (f_x F (ix e)))).toInt64) e 4)
      else q
/-- what `ask` answers, over the answers A of its parts -/
def p_ask (F : zF) (A : Int32 → zC → Int32 × zC) (T : Nat) (e : Int32) (s : zC) : Int32 × zC :=
  let k := f_k F (ix e)
  if k = 0 then p_leaf F e (f_n F (ix e)) s
  else if k = 1 then p_leaf F e (g_va (c_g s) (ix (f_n F (ix e)))) s
  else if k = 2 then p_assign F A e s
  else if k = 3 then p_write F A e s
  else if k = 4 then p_not F A e s
  else if k = 5 then p_again F A e s
  else if k = 6 then p_either F A e s
  else if k = 7 then p_up e (f_y F (ix e)) (p_pairL F A e T s)
  else if k = 8 ∨ k = 9 ∨ k = 10 then p_arith F A T e s
  else if k = 11 ∨ k = 12 ∨ k = 13 then p_compL F A T e T s
  else if k = 14 then p_limitL F A e T s
  else if k = 15 ∨ k = 16 then p_everyL F A e T s
  else if k = 17 then p_then F A e s
  else if k = 18 then p_toL F A T e T s
  else if k = 19 then p_if F A e s
  else (0, s)
/-- the whole question, the depth counted down -/
def p_all (F : zF) (T : Nat) : Nat → Int32 → zC → Int32 × zC
  | 0, _, s => (0, s)
  | d + 1, e, s => p_ask F (p_all F T d) T e s
end
section
/-! The other side, step by step. -/
/-- phase, kept, number, shared, given, error, stack, top -/
abbrev zR : Type := (Nat → Int32) × (Nat → Int64) × (Nat → Int32) × zG × Int32 × Int32 × (Nat → Int32) × Int32
/-- kind, part, fuel -/
abbrev zT : Type := (Nat → Int32) × (Nat → Int32) × Int32
def t_k (T : zT) : Nat → Int32 := T.1
def t_p (T : zT) : Nat → Int32 := T.2.1
def t_f (T : zT) : Int32 := T.2.2
def r_ph (s : zR) : Nat → Int32 := s.1
def r_kp (s : zR) : Nat → Int64 := s.2.1
def r_nm (s : zR) : Nat → Int32 := s.2.2.1
def r_g (s : zR) : zG := s.2.2.2.1
def r_gv (s : zR) : Int32 := s.2.2.2.2.1
def r_er (s : zR) : Int32 := s.2.2.2.2.2.1
def r_sk (s : zR) : Nat → Int32 := s.2.2.2.2.2.2.1
def r_tp (s : zR) : Int32 := s.2.2.2.2.2.2.2
def u_ph (s : zR) (e v : Int32) : zR := (upd s.1 (ix e) v, s.2)
def u_kp (s : zR) (i : Int32) (v : Int64) : zR := (s.1, vp_updL s.2.1 (ix i) v, s.2.2)
def u_nm (s : zR) (e v : Int32) : zR := (s.1, s.2.1, upd s.2.2.1 (ix e) v, s.2.2.2)
def u_g (s : zR) (g : zG) : zR := (s.1, s.2.1, s.2.2.1, g, s.2.2.2.2)
def u_gv (s : zR) (v : Int32) : zR := (s.1, s.2.1, s.2.2.1, s.2.2.2.1, v, s.2.2.2.2.2)
def u_er (s : zR) (v : Int32) : zR := (s.1, s.2.1, s.2.2.1, s.2.2.2.1, s.2.2.2.2.1, v, s.2.2.2.2.2.2)
def u_sk (s : zR) (i v : Int32) : zR := (s.1, s.2.1, s.2.2.1, s.2.2.2.1, s.2.2.2.2.1, s.2.2.2.2.2.1, upd s.2.2.2.2.2.2.1 (ix i) v, s.2.2.2.2.2.2.2)
def u_tp (s : zR) (v : Int32) : zR := (s.1, s.2.1, s.2.2.1, s.2.2.2.1, s.2.2.2.2.1, s.2.2.2.2.2.1, s.2.2.2.2.2.2.1, v)
def q_give (v : Int32) (s : zR) : Int32 × zR := (1, u_gv s v)
def q_paid (T : zT) (v : Int32) (s : zR) : Int32 × zR := if g_sp (r_g s) = t_f T then (0, u_er s (-5)) else q_give v (u_g s (h_sp (r_g s)))
def q_ask (T : zT) (e i th : Int32) (s : zR) : Int32 × zR :=
  let s1 := u_ph s e th
  let s2 := u_sk s1 (r_tp s1) (t_p T (ix (3 * e + i)))
  (2, u_tp s2 (r_tp s2 + 1))
def q_first (T : zT) (e i th : Int32) (s : zR) : Int32 × zR := q_ask T e i th (u_ph s (t_p T (ix (3 * e + i))) 0)
def q_leaf (T : zT) (e : Int32) (s : zR) : Int32 × zR :=
  if r_ph s (ix e) = 1 then (0, s) else
    let s1 := u_ph s e 1
    q_paid T (if t_k T (ix e) = 0 then r_nm s1 (ix e) else g_va (r_g s1) (ix (r_nm s1 (ix e)))) s1
def q_unary (T : zT) (e w : Int32) (s : zR) : Int32 × zR :=
  let k := t_k T (ix e) - 10
  if k = 2 then
    if r_ph s (ix e) = 2 then (0, s) else
    if w = 0 then q_first T e 0 1 s else
      let s1 := u_ph s e 2
      if w = 1 then (0, s1) else q_give 0 s1
  else if w = 0 then
    if r_ph s (ix e) = 1 then q_ask T e 0 1 s else q_first T e 0 1 (u_kp s (3 * e) 0)
  else if w = 2 then
    if k = 3 then if r_kp s (ix (3 * e)) = 0 then (0, s) else q_first T e 0 1 (u_kp s (3 * e) 0) else (0, s)
  else
    let s1 := u_kp s (3 * e) 1
    let s2 := if k = 0 then u_g s1 (h_va (r_g s1) (r_nm s1 (ix e)) (r_gv s1)) else s1
    if k = 1 then if g_wc (r_g s2) = 32 then (0, u_er s2 (-6)) else (1, u_g s2 (h_wr (r_g s2) (r_gv s2))) else (1, s2)
def q_pair (T : zT) (e w : Int32) (s : zR) : Int32 × zR :=
  if w = 0 then if r_ph s (ix e) = 0 then q_first T e 0 1 s else q_ask T e 1 2 s
  else if r_ph s (ix e) = 1 then
    if w = 2 then (0, s) else q_first T e 1 2 (u_kp s (3 * e) (r_gv s).toInt64)
  else if w = 2 then q_ask T e 0 1 s
  else
    let k := t_k T (ix e) - 20
    let r := r_kp s (ix (3 * e))
    let v := (r_gv s).toInt64
    if 5 ≤ k then
      if (if k = 5 then decide (r < v) else if k = 6 then decide (r = v) else decide (¬ r = v)) = true then (1, s) else q_ask T e 1 2 s
    else if k = 1 then (1, s) else
      let z := if k = 2 then r + v else if k = 3 then r - v else r * v
      if z = z.toInt32.toInt64 then q_give z.toInt32 s else (0, u_er s (-4))
def q_limit (T : zT) (e w : Int32) (s : zR) : Int32 × zR :=
  if w = 0 then
    if r_ph s (ix e) = 0 then q_first T e 1 1 s
    else if 0 < r_kp s (ix (3 * e)) then q_ask T e 0 2 s else q_ask T e 1 1 s
  else if r_ph s (ix e) = 2 then
    if w = 2 then q_ask T e 1 1 s else (1, u_kp s (3 * e) (r_kp s (ix (3 * e)) - 1))
  else if w = 2 then (0, s)
  else
    let s1 := u_kp s (3 * e) (r_gv s).toInt64
    if 0 < r_gv s1 then q_first T e 0 2 s1 else q_ask T e 1 1 s1
def q_binary (T : zT) (e w : Int32) (s : zR) : Int32 × zR :=
  let k := t_k T (ix e) - 20
  let p := r_ph s (ix e)
  if k = 0 then
    if w = 0 then if p = 0 then q_first T e 0 1 s else q_ask T e (p - 1) p s
    else if w = 1 then (1, s) else if p = 1 then q_first T e 1 2 s else (0, s)
  else if k = 8 then q_limit T e w s
  else if k = 9 then
    if w = 0 then q_first T e 0 1 s else if p = 2 then q_ask T e 0 1 s else if w = 1 then q_first T e 1 2 s else (0, s)
  else if k = 10 then
    if w = 0 then q_first T e 0 1 s else if p = 2 then q_first T e 0 1 s else if w = 1 then q_first T e 1 2 s else (0, s)
  else if w = 0 then if p = 0 then q_first T e 0 1 s else q_ask T e 1 2 s
  else if p = 1 then q_first T e 1 2 s
  else if w = 1 then (1, s) else (0, s)
def q_on (T : zT) (e : Int32) (s : zR) : Int32 × zR :=
  let v := r_kp s (ix (3 * e))
  let c := r_kp s (ix (3 * e + 2))
  let b := r_kp s (ix (3 * e + 1))
  if (if 0 < c then decide (b < v) else decide (v < b)) = true then q_ask T e 2 3 s
  else q_paid T v.toInt32 (u_kp (u_ph s e 4) (3 * e) (v + c))
def q_to (T : zT) (e w : Int32) (s : zR) : Int32 × zR :=
  let p := r_ph s (ix e)
  if w = 0 then if p = 0 then q_first T e 0 1 s else q_on T e s
  else if w = 2 then if p = 1 then (0, s) else q_ask T e (p - 2) (p - 1) s
  else if p = 1 then q_first T e 1 2 (u_nm s e (r_gv s))
  else
    let s1 := u_kp s (3 * e + p - 1) (r_gv s).toInt64
    if p = 2 then q_first T e 2 3 s1
    else if r_gv s1 = 0 then (0, u_er s1 (-3))
    else q_on T e (u_kp s1 (3 * e) (r_nm s1 (ix e)).toInt64)
def q_if (T : zT) (e w : Int32) (s : zR) : Int32 × zR :=
  let p := r_ph s (ix e)
  if w = 0 then if p = 0 then q_first T e 0 1 s else q_ask T e (p - 1) p s
  else if p = 1 then if w = 1 then q_first T e 1 2 s else q_first T e 2 3 s
  else if w = 1 then (1, s) else (0, s)
def q_step (T : zT) (e w : Int32) (s : zR) : Int32 × zR :=
  let k := t_k T (ix e)
  if k < 10 then q_leaf T e s
  else if k < 20 then q_unary T e w s
  else if 21 ≤ k ∧ k ≤ 27 then q_pair T e w s
  else if k < 40 then q_binary T e w s
  else if k = 40 then q_to T e w s else q_if T e w s
/-- one turn of next's loop that met no error: the state and the news -/
def q_turn (T : zT) (a : zR × Int32) : zR × Int32 :=
  let q := q_step T (r_sk a.1 (ix (r_tp a.1 - 1))) a.2 a.1
  if q.1 = 2 then (q.2, 0) else (u_tp q.2 (r_tp q.2 - 1), if q.1 = 1 then 1 else 2)
end
section
/-! Trees of parts, what two live nodes have to do with each other, steps in a row. -/
theorem ix_nI {n : Nat} (h : n < 2 ^ 31) : ix (nI n) = n := nI_clamp h
theorem ix_lt {e : Int32} {n : Nat} (h : vp_in e n) : ix e < n := Nat.not_le.mp fun q => h (Or.inr q)
theorem ix_3 {e : Int32} (h : vp_in e 60) (i : Nat) (hi : i < 3) : ix (3 * e + nI i) = 3 * ix e + i := by
  obtain ⟨j, hj, rfl⟩ := vp_in_of h (by decide)
  have h3 : (3 : Int32) = nI 3 := rfl
  rw [h3, pk_mul, nI_add, ix_nI (by omega), ix_nI (by omega)]
theorem ix_30 {e : Int32} (h : vp_in e 60) : ix (3 * e) = 3 * ix e := by
  obtain ⟨j, hj, rfl⟩ := vp_in_of h (by decide)
  have h3 : (3 : Int32) = nI 3 := rfl
  rw [h3, pk_mul, ix_nI (by omega), ix_nI (by omega)]
theorem ix_31 {e : Int32} (h : vp_in e 60) : ix (3 * e + 1) = 3 * ix e + 1 := ix_3 h 1 (by decide)
theorem ix_32 {e : Int32} (h : vp_in e 60) : ix (3 * e + 2) = 3 * ix e + 2 := ix_3 h 2 (by decide)
def f_a (F : zF) (e : Int32) : Nat := if f_k F (ix e) < 2 then 0 else if f_k F (ix e) < 6 then 1 else if f_k F (ix e) < 18 then 2 else 3
def t_kc (k : Int32) : Int32 := if k < 2 then k else if k < 6 then k + 8 else if k < 18 then k + 14 else k + 22
/-- the numbers of the parts, parts of parts .. of e, e among them -/
def Sb (F : zF) : Nat → Int32 → Nat → Prop
  | 0, _, _ => False
  | d + 1, e, j => j = ix e ∨ (1 ≤ f_a F e ∧ Sb F d (f_x F (ix e)) j) ∨ (2 ≤ f_a F e ∧ Sb F d (f_y F (ix e)) j) ∨ (3 ≤ f_a F e ∧ Sb F d (f_z F (ix e)) j)
def Tr (F : zF) (T : zT) : Nat → Int32 → Prop
  | 0, _ => False
  | d + 1, e => vp_in e 60 ∧ (∃ k : Nat, k < 20 ∧ f_k F (ix e) = nI k) ∧ t_k T (ix e) = t_kc (f_k F (ix e)) ∧ (f_k F (ix e) = 1 ∨ f_k F (ix e) = 2 → vp_in (f_n F (ix e)) 8) ∧
    (1 ≤ f_a F e → Tr F T d (f_x F (ix e)) ∧ t_p T (ix (3 * e + 0)) = f_x F (ix e) ∧ ¬ Sb F d (f_x F (ix e)) (ix e)) ∧
    (2 ≤ f_a F e → Tr F T d (f_y F (ix e)) ∧ t_p T (ix (3 * e + 1)) = f_y F (ix e) ∧ ¬ Sb F d (f_y F (ix e)) (ix e) ∧ ∀ j, Sb F d (f_x F (ix e)) j → ¬ Sb F d (f_y F (ix e)) j) ∧
    (3 ≤ f_a F e → Tr F T d (f_z F (ix e)) ∧ t_p T (ix (3 * e + 2)) = f_z F (ix e) ∧ ¬ Sb F d (f_z F (ix e)) (ix e) ∧ (∀ j, Sb F d (f_x F (ix e)) j → ¬ Sb F d (f_z F (ix e)) j) ∧ ∀ j, Sb F d (f_y F (ix e)) j → ¬ Sb F d (f_z F (ix e)) j)
theorem Tr_self {F : zF} {T : zT} {d : Nat} {e : Int32} (h : Tr F T d e) : Sb F d e (ix e) := by
  cases d with
  | zero => exact h.elim
  | succ d => exact Or.inl rfl
theorem Tr_in {F : zF} {T : zT} {d : Nat} {e : Int32} (h : Tr F T d e) : vp_in e 60 := by
  cases d with
  | zero => exact h.elim
  | succ d => exact h.1
/-- a node that has given a result since it was started, on both sides; p: the steps that are laid by for it -/
def Lv (F : zF) : Nat → Int32 → zC → zR → Nat → Prop
  | 0, _, _, _, _ => False
  | d + 1, e, c, r, p =>
    if f_k F (ix e) < 2 then c_st c (ix e) = 5 ∧ r_ph r (ix e) = 1 ∧ p = 4
    else if f_k F (ix e) < 6 then
      if f_k F (ix e) < 4 then c_st c (ix e) = 1 ∧ r_ph r (ix e) = 1 ∧ ∃ p1, Lv F d (f_x F (ix e)) c r p1 ∧ p = p1 + 4
      else if f_k F (ix e) = 4 then c_st c (ix e) = 5 ∧ r_ph r (ix e) = 2 ∧ p = 4
      else c_st c (ix e) = 1 ∧ r_ph r (ix e) = 1 ∧ r_kp r (3 * ix e) = 1 ∧ ∃ p1, Lv F d (f_x F (ix e)) c r p1 ∧ p = p1 + 4
    else if f_k F (ix e) < 18 then
      if f_k F (ix e) = 6 then (c_st c (ix e) = 1 ∧ r_ph r (ix e) = 1 ∧ ∃ p1, Lv F d (f_x F (ix e)) c r p1 ∧ p = p1 + 4) ∨ (c_st c (ix e) = 2 ∧ r_ph r (ix e) = 2 ∧ ∃ p1, Lv F d (f_y F (ix e)) c r p1 ∧ p = p1 + 4)
      else if f_k F (ix e) < 14 then c_st c (ix e) = 2 ∧ r_ph r (ix e) = 2 ∧ r_kp r (3 * ix e) = (c_rs c (ix (f_x F (ix e)))).toInt64 ∧ ∃ p1 p2, Lv F d (f_x F (ix e)) c r p1 ∧ Lv F d (f_y F (ix e)) c r p2 ∧ p = p1 + p2 + 4
      else if f_k F (ix e) = 14 then c_st c (ix e) = 1 ∧ r_ph r (ix e) = 2 ∧ r_kp r (3 * ix e) = c_ct c (ix e) ∧ ∃ p1 p2, Lv F d (f_x F (ix e)) c r p1 ∧ Lv F d (f_y F (ix e)) c r p2 ∧ p = p1 + p2 + 4
      else if f_k F (ix e) < 17 then False
      else c_st c (ix e) = 2 ∧ r_ph r (ix e) = 2 ∧ ∃ p1, Lv F d (f_y F (ix e)) c r p1 ∧ p = p1 + 4
    else if f_k F (ix e) = 18 then c_st c (ix e) = 4 ∧ r_ph r (ix e) = 4 ∧ r_nm r (ix e) = c_rs c (ix (f_x F (ix e))) ∧ r_kp r (3 * ix e + 1) = (c_rs c (ix (f_y F (ix e)))).toInt64 ∧ r_kp r (3 * ix e + 2) = (c_rs c (ix (f_z F (ix e)))).toInt64 ∧ r_kp r (3 * ix e) = c_ct c (ix e) + (c_rs c (ix (f_z F (ix e)))).toInt64 ∧ ∃ p1 p2 p3, Lv F d (f_x F (ix e)) c r p1 ∧ Lv F d (f_y F (ix e)) c r p2 ∧ Lv F d (f_z F (ix e)) c r p3 ∧ p = p1 + p2 + p3 + 4
    else (c_st c (ix e) = 2 ∧ r_ph r (ix e) = 2 ∧ ∃ p1, Lv F d (f_y F (ix e)) c r p1 ∧ p = p1 + 4) ∨ (c_st c (ix e) = 3 ∧ r_ph r (ix e) = 3 ∧ ∃ p1, Lv F d (f_z F (ix e)) c r p1 ∧ p = p1 + 4)
theorem Lv_self {F : zF} {d : Nat} {e : Int32} {c : zC} {r : zR} {p : Nat} (h : Lv F d e c r p) : Sb F d e (ix e) := by
  cases d with
  | zero => exact h.elim
  | succ d => exact Or.inl rfl
/-- the rows of a set of nodes are alike -/
def Ag (D : Nat → Prop) (c c' : zC) (r r' : zR) : Prop := ∀ j, D j → c_st c' j = c_st c j ∧ c_rs c' j = c_rs c j ∧ c_ct c' j = c_ct c j ∧ r_ph r' j = r_ph r j ∧ r_nm r' j = r_nm r j ∧ r_kp r' (3 * j) = r_kp r (3 * j) ∧ r_kp r' (3 * j + 1) = r_kp r (3 * j + 1) ∧ r_kp r' (3 * j + 2) = r_kp r (3 * j + 2)
theorem f_a1 {F : zF} {e : Int32} (h : ¬ f_k F (ix e) < 2) : 1 ≤ f_a F e := by
  unfold f_a; rw [if_neg h]; split
  · exact Nat.le_refl _
  · split <;> decide
theorem f_a2 {F : zF} {e : Int32} (h : ¬ f_k F (ix e) < 2) (h1 : ¬ f_k F (ix e) < 6) : 2 ≤ f_a F e := by
  unfold f_a; rw [if_neg h, if_neg h1]; split <;> decide
theorem f_a3 {F : zF} {e : Int32} (h : ¬ f_k F (ix e) < 2) (h1 : ¬ f_k F (ix e) < 6) (h2 : ¬ f_k F (ix e) < 18) : 3 ≤ f_a F e := by
  unfold f_a; rw [if_neg h, if_neg h1, if_neg h2]; decide
theorem Lv_cong {F : zF} {c c' : zC} {r r' : zR} : ∀ (d : Nat) (e : Int32) (p : Nat), Ag (Sb F d e) c c' r r' → Lv F d e c r p → Lv F d e c' r' p
  | 0, _, _, _, h => h
  | d + 1, e, p, hA, h => by
    obtain ⟨e1, e2, e3, e4, e5, e6, e7, e8⟩ := hA (ix e) (Or.inl rfl)
    have hx : 1 ≤ f_a F e → Ag (Sb F d (f_x F (ix e))) c c' r r' := fun a j hj => hA j (Or.inr (Or.inl ⟨a, hj⟩))
    have hy : 2 ≤ f_a F e → Ag (Sb F d (f_y F (ix e))) c c' r r' := fun a j hj => hA j (Or.inr (Or.inr (Or.inl ⟨a, hj⟩)))
    have hz : 3 ≤ f_a F e → Ag (Sb F d (f_z F (ix e))) c c' r r' := fun a j hj => hA j (Or.inr (Or.inr (Or.inr ⟨a, hj⟩)))
    simp only [Lv] at h ⊢
    simp only [e1, e3, e4, e5, e6, e7, e8]
    by_cases k1 : f_k F (ix e) < 2
    · simp only [if_pos k1] at h ⊢; exact h
    have a1 := f_a1 k1
    simp only [if_neg k1] at h ⊢
    by_cases k2 : f_k F (ix e) < 6
    · simp only [if_pos k2] at h ⊢
      by_cases k3 : f_k F (ix e) < 4
      · simp only [if_pos k3] at h ⊢
        obtain ⟨h1, h2, p1, h3, h4⟩ := h
        exact ⟨h1, h2, p1, Lv_cong d _ _ (hx a1) h3, h4⟩
      simp only [if_neg k3] at h ⊢
      by_cases k4 : f_k F (ix e) = 4
      · simp only [if_pos k4] at h ⊢; exact h
      simp only [if_neg k4] at h ⊢
      obtain ⟨h1, h2, h5, p1, h3, h4⟩ := h
      exact ⟨h1, h2, h5, p1, Lv_cong d _ _ (hx a1) h3, h4⟩
    have a2 := f_a2 k1 k2
    simp only [if_neg k2] at h ⊢
    by_cases k5 : f_k F (ix e) < 18
    · simp only [if_pos k5] at h ⊢
      by_cases k6 : f_k F (ix e) = 6
      · simp only [if_pos k6] at h ⊢
        rcases h with ⟨h1, h2, p1, h3, h4⟩ | ⟨h1, h2, p1, h3, h4⟩
        · exact Or.inl ⟨h1, h2, p1, Lv_cong d _ _ (hx a1) h3, h4⟩
        · exact Or.inr ⟨h1, h2, p1, Lv_cong d _ _ (hy a2) h3, h4⟩
      simp only [if_neg k6] at h ⊢
      by_cases k7 : f_k F (ix e) < 14
      · simp only [if_pos k7] at h ⊢
        obtain ⟨h1, h2, h5, p1, p2, h3, h3', h4⟩ := h
        exact ⟨h1, h2, by rw [(hx a1 _ (Lv_self h3)).2.1]; exact h5, p1, p2, Lv_cong d _ _ (hx a1) h3, Lv_cong d _ _ (hy a2) h3', h4⟩
      simp only [if_neg k7] at h ⊢
      by_cases k8 : f_k F (ix e) = 14
      · simp only [if_pos k8] at h ⊢
        obtain ⟨h1, h2, h5, p1, p2, h3, h3', h4⟩ := h
        exact ⟨h1, h2, h5, p1, p2, Lv_cong d _ _ (hx a1) h3, Lv_cong d _ _ (hy a2) h3', h4⟩
      simp only [if_neg k8] at h ⊢
      by_cases k9 : f_k F (ix e) < 17
      · simp only [if_pos k9] at h
      simp only [if_neg k9] at h ⊢
      obtain ⟨h1, h2, p1, h3, h4⟩ := h
      exact ⟨h1, h2, p1, Lv_cong d _ _ (hy a2) h3, h4⟩
    have a3 := f_a3 k1 k2 k5
    simp only [if_neg k5] at h ⊢
    by_cases k6 : f_k F (ix e) = 18
    · simp only [if_pos k6] at h ⊢
      obtain ⟨h1, h2, h5, h6, h7, h8, p1, p2, p3, g1, g2, g3, h4⟩ := h
      have x1 := (hx a1 _ (Lv_self g1)).2.1
      have x2 := (hy a2 _ (Lv_self g2)).2.1
      have x3 := (hz a3 _ (Lv_self g3)).2.1
      refine ⟨h1, h2, ?_, ?_, ?_, ?_, p1, p2, p3, Lv_cong d _ _ (hx a1) g1, Lv_cong d _ _ (hy a2) g2, Lv_cong d _ _ (hz a3) g3, h4⟩
      · rw [x1]; exact h5
      · rw [x2]; exact h6
      · rw [x3]; exact h7
      · rw [x3]; exact h8
    simp only [if_neg k6] at h ⊢
    rcases h with ⟨h1, h2, p1, h3, h4⟩ | ⟨h1, h2, p1, h3, h4⟩
    · exact Or.inl ⟨h1, h2, p1, Lv_cong d _ _ (hy a2) h3, h4⟩
    · exact Or.inr ⟨h1, h2, p1, Lv_cong d _ _ (hz a3) h3, h4⟩
-- a node of known kind
theorem Lv_0 {F : zF} {d : Nat} {e : Int32} {c : zC} {r : zR} {p : Nat} (h : f_k F (ix e) = 0) : Lv F (d + 1) e c r p ↔ (c_st c (ix e) = 5 ∧ r_ph r (ix e) = 1 ∧ p = 4) := by simp [Lv, h]
theorem Lv_1 {F : zF} {d : Nat} {e : Int32} {c : zC} {r : zR} {p : Nat} (h : f_k F (ix e) = 1) : Lv F (d + 1) e c r p ↔ (c_st c (ix e) = 5 ∧ r_ph r (ix e) = 1 ∧ p = 4) := by simp [Lv, h]
theorem Lv_2 {F : zF} {d : Nat} {e : Int32} {c : zC} {r : zR} {p : Nat} (h : f_k F (ix e) = 2) : Lv F (d + 1) e c r p ↔ (c_st c (ix e) = 1 ∧ r_ph r (ix e) = 1 ∧ ∃ p1, Lv F d (f_x F (ix e)) c r p1 ∧ p = p1 + 4) := by simp [Lv, h]
theorem Lv_3 {F : zF} {d : Nat} {e : Int32} {c : zC} {r : zR} {p : Nat} (h : f_k F (ix e) = 3) : Lv F (d + 1) e c r p ↔ (c_st c (ix e) = 1 ∧ r_ph r (ix e) = 1 ∧ ∃ p1, Lv F d (f_x F (ix e)) c r p1 ∧ p = p1 + 4) := by simp [Lv, h]
theorem Lv_4 {F : zF} {d : Nat} {e : Int32} {c : zC} {r : zR} {p : Nat} (h : f_k F (ix e) = 4) : Lv F (d + 1) e c r p ↔ (c_st c (ix e) = 5 ∧ r_ph r (ix e) = 2 ∧ p = 4) := by simp [Lv, h]
theorem Lv_5 {F : zF} {d : Nat} {e : Int32} {c : zC} {r : zR} {p : Nat} (h : f_k F (ix e) = 5) : Lv F (d + 1) e c r p ↔ (c_st c (ix e) = 1 ∧ r_ph r (ix e) = 1 ∧ r_kp r (3 * ix e) = 1 ∧ ∃ p1, Lv F d (f_x F (ix e)) c r p1 ∧ p = p1 + 4) := by simp [Lv, h]
theorem Lv_6 {F : zF} {d : Nat} {e : Int32} {c : zC} {r : zR} {p : Nat} (h : f_k F (ix e) = 6) : Lv F (d + 1) e c r p ↔ ((c_st c (ix e) = 1 ∧ r_ph r (ix e) = 1 ∧ ∃ p1, Lv F d (f_x F (ix e)) c r p1 ∧ p = p1 + 4) ∨ (c_st c (ix e) = 2 ∧ r_ph r (ix e) = 2 ∧ ∃ p1, Lv F d (f_y F (ix e)) c r p1 ∧ p = p1 + 4)) := by simp [Lv, h]
theorem Lv_7 {F : zF} {d : Nat} {e : Int32} {c : zC} {r : zR} {p : Nat} (h : f_k F (ix e) = 7) : Lv F (d + 1) e c r p ↔ (c_st c (ix e) = 2 ∧ r_ph r (ix e) = 2 ∧ r_kp r (3 * ix e) = (c_rs c (ix (f_x F (ix e)))).toInt64 ∧ ∃ p1 p2, Lv F d (f_x F (ix e)) c r p1 ∧ Lv F d (f_y F (ix e)) c r p2 ∧ p = p1 + p2 + 4) := by simp [Lv, h]
theorem Lv_8 {F : zF} {d : Nat} {e : Int32} {c : zC} {r : zR} {p : Nat} (h : f_k F (ix e) = 8) : Lv F (d + 1) e c r p ↔ (c_st c (ix e) = 2 ∧ r_ph r (ix e) = 2 ∧ r_kp r (3 * ix e) = (c_rs c (ix (f_x F (ix e)))).toInt64 ∧ ∃ p1 p2, Lv F d (f_x F (ix e)) c r p1 ∧ Lv F d (f_y F (ix e)) c r p2 ∧ p = p1 + p2 + 4) := by simp [Lv, h]
theorem Lv_9 {F : zF} {d : Nat} {e : Int32} {c : zC} {r : zR} {p : Nat} (h : f_k F (ix e) = 9) : Lv F (d + 1) e c r p ↔ (c_st c (ix e) = 2 ∧ r_ph r (ix e) = 2 ∧ r_kp r (3 * ix e) = (c_rs c (ix (f_x F (ix e)))).toInt64 ∧ ∃ p1 p2, Lv F d (f_x F (ix e)) c r p1 ∧ Lv F d (f_y F (ix e)) c r p2 ∧ p = p1 + p2 + 4) := by simp [Lv, h]
theorem Lv_10 {F : zF} {d : Nat} {e : Int32} {c : zC} {r : zR} {p : Nat} (h : f_k F (ix e) = 10) : Lv F (d + 1) e c r p ↔ (c_st c (ix e) = 2 ∧ r_ph r (ix e) = 2 ∧ r_kp r (3 * ix e) = (c_rs c (ix (f_x F (ix e)))).toInt64 ∧ ∃ p1 p2, Lv F d (f_x F (ix e)) c r p1 ∧ Lv F d (f_y F (ix e)) c r p2 ∧ p = p1 + p2 + 4) := by simp [Lv, h]
theorem Lv_11 {F : zF} {d : Nat} {e : Int32} {c : zC} {r : zR} {p : Nat} (h : f_k F (ix e) = 11) : Lv F (d + 1) e c r p ↔ (c_st c (ix e) = 2 ∧ r_ph r (ix e) = 2 ∧ r_kp r (3 * ix e) = (c_rs c (ix (f_x F (ix e)))).toInt64 ∧ ∃ p1 p2, Lv F d (f_x F (ix e)) c r p1 ∧ Lv F d (f_y F (ix e)) c r p2 ∧ p = p1 + p2 + 4) := by simp [Lv, h]
theorem Lv_12 {F : zF} {d : Nat} {e : Int32} {c : zC} {r : zR} {p : Nat} (h : f_k F (ix e) = 12) : Lv F (d + 1) e c r p ↔ (c_st c (ix e) = 2 ∧ r_ph r (ix e) = 2 ∧ r_kp r (3 * ix e) = (c_rs c (ix (f_x F (ix e)))).toInt64 ∧ ∃ p1 p2, Lv F d (f_x F (ix e)) c r p1 ∧ Lv F d (f_y F (ix e)) c r p2 ∧ p = p1 + p2 + 4) := by simp [Lv, h]
theorem Lv_13 {F : zF} {d : Nat} {e : Int32} {c : zC} {r : zR} {p : Nat} (h : f_k F (ix e) = 13) : Lv F (d + 1) e c r p ↔ (c_st c (ix e) = 2 ∧ r_ph r (ix e) = 2 ∧ r_kp r (3 * ix e) = (c_rs c (ix (f_x F (ix e)))).toInt64 ∧ ∃ p1 p2, Lv F d (f_x F (ix e)) c r p1 ∧ Lv F d (f_y F (ix e)) c r p2 ∧ p = p1 + p2 + 4) := by simp [Lv, h]
theorem Lv_14 {F : zF} {d : Nat} {e : Int32} {c : zC} {r : zR} {p : Nat} (h : f_k F (ix e) = 14) : Lv F (d + 1) e c r p ↔ (c_st c (ix e) = 1 ∧ r_ph r (ix e) = 2 ∧ r_kp r (3 * ix e) = c_ct c (ix e) ∧ ∃ p1 p2, Lv F d (f_x F (ix e)) c r p1 ∧ Lv F d (f_y F (ix e)) c r p2 ∧ p = p1 + p2 + 4) := by simp [Lv, h]
theorem Lv_15 {F : zF} {d : Nat} {e : Int32} {c : zC} {r : zR} {p : Nat} (h : f_k F (ix e) = 15) : Lv F (d + 1) e c r p ↔ (False) := by simp [Lv, h]
theorem Lv_16 {F : zF} {d : Nat} {e : Int32} {c : zC} {r : zR} {p : Nat} (h : f_k F (ix e) = 16) : Lv F (d + 1) e c r p ↔ (False) := by simp [Lv, h]
theorem Lv_17 {F : zF} {d : Nat} {e : Int32} {c : zC} {r : zR} {p : Nat} (h : f_k F (ix e) = 17) : Lv F (d + 1) e c r p ↔ (c_st c (ix e) = 2 ∧ r_ph r (ix e) = 2 ∧ ∃ p1, Lv F d (f_y F (ix e)) c r p1 ∧ p = p1 + 4) := by simp [Lv, h]
theorem Lv_18 {F : zF} {d : Nat} {e : Int32} {c : zC} {r : zR} {p : Nat} (h : f_k F (ix e) = 18) : Lv F (d + 1) e c r p ↔ (c_st c (ix e) = 4 ∧ r_ph r (ix e) = 4 ∧ r_nm r (ix e) = c_rs c (ix (f_x F (ix e))) ∧ r_kp r (3 * ix e + 1) = (c_rs c (ix (f_y F (ix e)))).toInt64 ∧ r_kp r (3 * ix e + 2) = (c_rs c (ix (f_z F (ix e)))).toInt64 ∧ r_kp r (3 * ix e) = c_ct c (ix e) + (c_rs c (ix (f_z F (ix e)))).toInt64 ∧ ∃ p1 p2 p3, Lv F d (f_x F (ix e)) c r p1 ∧ Lv F d (f_y F (ix e)) c r p2 ∧ Lv F d (f_z F (ix e)) c r p3 ∧ p = p1 + p2 + p3 + 4) := by simp [Lv, h]
theorem Lv_19 {F : zF} {d : Nat} {e : Int32} {c : zC} {r : zR} {p : Nat} (h : f_k F (ix e) = 19) : Lv F (d + 1) e c r p ↔ ((c_st c (ix e) = 2 ∧ r_ph r (ix e) = 2 ∧ ∃ p1, Lv F d (f_y F (ix e)) c r p1 ∧ p = p1 + 4) ∨ (c_st c (ix e) = 3 ∧ r_ph r (ix e) = 3 ∧ ∃ p1, Lv F d (f_z F (ix e)) c r p1 ∧ p = p1 + 4)) := by simp [Lv, h]
-- frames
def FrC (D : Nat → Prop) (c c' : zC) : Prop := ∀ j, ¬ D j → c_st c' j = c_st c j ∧ c_rs c' j = c_rs c j ∧ c_ct c' j = c_ct c j
def FrR (D : Nat → Prop) (r r' : zR) : Prop := ∀ j, ¬ D j → r_ph r' j = r_ph r j ∧ r_nm r' j = r_nm r j ∧ r_kp r' (3 * j) = r_kp r (3 * j) ∧ r_kp r' (3 * j + 1) = r_kp r (3 * j + 1) ∧ r_kp r' (3 * j + 2) = r_kp r (3 * j + 2)
theorem FrC.rf {D : Nat → Prop} {c : zC} : FrC D c c := fun _ _ => ⟨rfl, rfl, rfl⟩
theorem FrR.rf {D : Nat → Prop} {r : zR} : FrR D r r := fun _ _ => ⟨rfl, rfl, rfl, rfl, rfl⟩
theorem FrC.tr {D : Nat → Prop} {a b c : zC} (h : FrC D a b) (g : FrC D b c) : FrC D a c := fun j hj => ⟨(g j hj).1.trans (h j hj).1, (g j hj).2.1.trans (h j hj).2.1, (g j hj).2.2.trans (h j hj).2.2⟩
theorem FrR.tr {D : Nat → Prop} {a b c : zR} (h : FrR D a b) (g : FrR D b c) : FrR D a c := fun j hj => ⟨(g j hj).1.trans (h j hj).1, (g j hj).2.1.trans (h j hj).2.1, (g j hj).2.2.1.trans (h j hj).2.2.1, (g j hj).2.2.2.1.trans (h j hj).2.2.2.1, (g j hj).2.2.2.2.trans (h j hj).2.2.2.2⟩
theorem FrC.wk {D E : Nat → Prop} {a b : zC} (h : FrC D a b) (s : ∀ j, D j → E j) : FrC E a b := fun j hj => h j fun q => hj (s j q)
theorem FrR.wk {D E : Nat → Prop} {a b : zR} (h : FrR D a b) (s : ∀ j, D j → E j) : FrR E a b := fun j hj => h j fun q => hj (s j q)
theorem Ag.of {S D E : Nat → Prop} {c c' : zC} {r r' : zR} (hC : FrC D c c') (hR : FrR E r r') (h : ∀ j, S j → ¬ D j) (h2 : ∀ j, S j → ¬ E j) : Ag S c c' r r' := fun j hj => ⟨(hC j (h j hj)).1, (hC j (h j hj)).2.1, (hC j (h j hj)).2.2, (hR j (h2 j hj)).1, (hR j (h2 j hj)).2.1, (hR j (h2 j hj)).2.2.1, (hR j (h2 j hj)).2.2.2.1, (hR j (h2 j hj)).2.2.2.2⟩
theorem Ag.tr {S : Nat → Prop} {c c1 c2 : zC} {r r1 r2 : zR} (h : Ag S c c1 r r1) (g : Ag S c1 c2 r1 r2) : Ag S c c2 r r2 := fun j hj => by
  obtain ⟨h1, h2, h3, h4, h5, h6, h7, h8⟩ := h j hj
  obtain ⟨g1, g2, g3, g4, g5, g6, g7, g8⟩ := g j hj
  exact ⟨g1.trans h1, g2.trans h2, g3.trans h3, g4.trans h4, g5.trans h5, g6.trans h6, g7.trans h7, g8.trans h8⟩
theorem fc_st {D : Nat → Prop} {c : zC} {e v : Int32} (h : D (ix e)) : FrC D c (s_st c e v) := fun j hj => ⟨pk_un fun q => hj (q ▸ h), rfl, rfl⟩
theorem fc_rs {D : Nat → Prop} {c : zC} {e v : Int32} (h : D (ix e)) : FrC D c (s_rs c e v) := fun j hj => ⟨rfl, pk_un fun q => hj (q ▸ h), rfl⟩
theorem fc_ct {D : Nat → Prop} {c : zC} {e : Int32} {v : Int64} (h : D (ix e)) : FrC D c (s_ct c e v) := fun j hj => ⟨rfl, rfl, pk_uLn fun q => hj (q ▸ h)⟩
theorem fc_g {D : Nat → Prop} {c : zC} {g : zG} : FrC D c (s_g c g) := fun _ _ => ⟨rfl, rfl, rfl⟩
theorem fr_ph {D : Nat → Prop} {r : zR} {e v : Int32} (h : D (ix e)) : FrR D r (u_ph r e v) := fun j hj => ⟨pk_un fun q => hj (q ▸ h), rfl, rfl, rfl, rfl⟩
theorem fr_nm {D : Nat → Prop} {r : zR} {e v : Int32} (h : D (ix e)) : FrR D r (u_nm r e v) := fun j hj => ⟨rfl, pk_un fun q => hj (q ▸ h), rfl, rfl, rfl⟩
theorem fr_kp {D : Nat → Prop} {r : zR} {i : Int32} {k b : Nat} {v : Int64} (h : D k) (hb : b < 3) (hi : ix i = 3 * k + b) : FrR D r (u_kp r i v) := fun j hj => by
  have hjk : j ≠ k := fun q => hj (q ▸ h)
  exact ⟨rfl, rfl, pk_uLn (by omega), pk_uLn (by omega), pk_uLn (by omega)⟩
theorem fr_g {D : Nat → Prop} {r : zR} {g : zG} : FrR D r (u_g r g) := fun _ _ => ⟨rfl, rfl, rfl, rfl, rfl⟩
theorem fr_gv {D : Nat → Prop} {r : zR} {v : Int32} : FrR D r (u_gv r v) := fun _ _ => ⟨rfl, rfl, rfl, rfl, rfl⟩
theorem fr_tp {D : Nat → Prop} {r : zR} {v : Int32} : FrR D r (u_tp r v) := fun _ _ => ⟨rfl, rfl, rfl, rfl, rfl⟩
end
section
/-! One question to the recursion is a row of steps of the machine. -/
def q_ok (T : zT) (e w : Int32) (s : zR) : Prop :=
  (∃ n : Nat, n ≤ 32 ∧ g_wc (r_g s) = nI n) ∧ (t_k T (ix e) < 10 → ¬ t_k T (ix e) = 0 → vp_in (r_nm s (ix e)) 8) ∧ (t_k T (ix e) - 10 = 0 → vp_in (r_nm s (ix e)) 8) ∧
  (¬ t_k T (ix e) < 10 → vp_in (t_p T (ix (3 * e + 0))) 60) ∧ (¬ t_k T (ix e) < 20 → vp_in (t_p T (ix (3 * e + 1))) 60) ∧ (¬ t_k T (ix e) < 40 → vp_in (t_p T (ix (3 * e + 2))) 60) ∧
  (t_k T (ix e) - 20 = 0 → w = 0 → r_ph s (ix e) = 0 ∨ r_ph s (ix e) = 1 ∨ r_ph s (ix e) = 2 ∨ r_ph s (ix e) = 3) ∧
  (¬ t_k T (ix e) < 40 → ¬ t_k T (ix e) = 40 → w = 0 → r_ph s (ix e) = 0 ∨ r_ph s (ix e) = 1 ∨ r_ph s (ix e) = 2 ∨ r_ph s (ix e) = 3) ∧
  (t_k T (ix e) = 40 → ¬ w = 0 → r_ph s (ix e) = 1 ∨ r_ph s (ix e) = 2 ∨ r_ph s (ix e) = 3)
def q_safe (T : zT) (a : zR × Int32) : Prop := ∃ t : Nat, t < 15 ∧ r_tp a.1 = nI (t + 1) ∧ vp_in (r_sk a.1 t) 60 ∧ q_ok T (r_sk a.1 t) a.2 a.1
def Go (T : zT) : Nat → zR × Int32 → zR × Int32 → Prop
  | 0, a, b => a = b
  | m + 1, a, b => q_safe T a ∧ r_er (q_turn T a).1 = 0 ∧ Go T m (q_turn T a) b
theorem Go_trans {T : zT} : ∀ (m n : Nat) (a b c : zR × Int32), Go T m a b → Go T n b c → Go T (m + n) a c
  | 0, n, a, b, c, h, g => by rw [Nat.zero_add]; cases h; exact g
  | m + 1, n, a, b, c, h, g => by
    rw [Nat.succ_add]
    exact ⟨h.1, h.2.1, Go_trans m n _ b c h.2.2 g⟩
/-- the step that ends in an error: its number, and what stays -/
def Bad (T : zT) (a : zR × Int32) (v : Int32) (g : zG) : Prop :=
  q_safe T a ∧ r_er (q_step T (r_sk a.1 (ix (r_tp a.1 - 1))) a.2 a.1).2 = v ∧ r_g (q_step T (r_sk a.1 (ix (r_tp a.1 - 1))) a.2 a.1).2 = g
def Nm (F : zF) (r : zR) : Prop := ∀ j, ¬ f_k F j = 18 → r_nm r j = f_n F j
def Gk (f : Nat) (g : zG) (n : Nat) : Prop := g_sp g = nI n ∧ n ≤ f ∧ ∃ w : Nat, w ≤ 32 ∧ g_wc g = nI w
/-- e is on top, at place t, and both sides have one world -/
def zUp (F : zF) (f t : Nat) (e : Int32) (c : zC) (r : zR) (n : Nat) : Prop :=
  Nm F r ∧ r_g r = c_g c ∧ Gk f (c_g c) n ∧ r_er r = 0 ∧ r_tp r = nI (t + 1) ∧ r_sk r t = e
/-- the same when it has gone -/
def Dn (F : zF) (f t : Nat) (c : zC) (r r0 : zR) (n : Nat) : Prop :=
  Nm F r ∧ r_g r = c_g c ∧ Gk f (c_g c) n ∧ r_er r = 0 ∧ r_tp r = nI t ∧ ∀ j, j < t → r_sk r j = r_sk r0 j
def zK (d n : Nat) : Nat := 20 * d * n
theorem zK_s (d n : Nat) : zK (d + 1) n = zK d n + 20 * n := by unfold zK; rw [Nat.mul_add, Nat.add_mul]
def Idl (F : zF) (d : Nat) (e : Int32) (c : zC) (r : zR) (p : Nat) : Prop := (c_st c (ix e) = 0 ∧ r_ph r (ix e) = 0 ∧ p = 0) ∨ Lv F d e c r p
/-- what a question to e comes to -/
def Out (F : zF) (T : zT) (f d t : Nat) (e : Int32) (c : zC) (r : zR) (p n : Nat) (q : Int32 × zC) : Prop :=
  ∃ n', n ≤ n' ∧ FrC (Sb F d e) c q.2 ∧
    ((q.1 = 1 ∧ n < n' ∧ ∃ m r' p', Go T m (r, 0) (r', 1) ∧ Dn F f t q.2 r' r n' ∧ FrR (Sb F d e) r r' ∧ r_gv r' = c_rs q.2 (ix e) ∧ Lv F d e q.2 r' p' ∧ m + p' + zK d n ≤ p + zK d n') ∨
     (q.1 = 0 ∧ (c_st c (ix e) = 0 → n < n') ∧ ∃ m r', Go T m (r, 0) (r', 2) ∧ Dn F f t q.2 r' r n' ∧ FrR (Sb F d e) r r' ∧ m + zK d n ≤ p + zK d n') ∨
     (q.1 < 0 ∧ Gk f (c_g q.2) n' ∧ ∃ m r' w, Go T m (r, 0) (r', w) ∧ Bad T (r', w) q.1 (c_g q.2) ∧ m + zK d n ≤ p + zK d n' + 4 * d))
def zSim (F : zF) (T : zT) (M f d : Nat) : Prop := ∀ (t : Nat) (e : Int32) (c : zC) (r : zR) (p n : Nat), Tr F T d e → t + d < 16 → zUp F f t e c r n → Idl F d e c r p → Out F T f d t e c r p n (p_all F M d e c)
/-- a part is laid on the stack -/
def pu (r : zR) (e th : Int32) (t : Nat) (x : Int32) : zR := (upd r.1 (ix e) th, r.2.1, r.2.2.1, r.2.2.2.1, r.2.2.2.2.1, r.2.2.2.2.2.1, upd r.2.2.2.2.2.2.1 (t + 1) x, nI (t + 2))
theorem ix_pr {t : Nat} (h : t < 15) : ix (nI (t + 1) - 1) = t := by rw [nI_pred, ix_nI (by omega)]
theorem q_ask_eq {T : zT} {e i th : Int32} {r : zR} {t : Nat} (h : r_tp r = nI (t + 1)) (ht : t < 15) : q_ask T e i th r = (2, pu r e th t (t_p T (ix (3 * e + i)))) := by
  have h1 : r.2.2.2.2.2.2.2 = nI (t + 1) := h
  have h2 : ix (nI (t + 1)) = t + 1 := ix_nI (by omega)
  have h3 : nI (t + 1) + 1 = nI (t + 2) := (nI_succ (t + 1)).symm
  simp only [q_ask, pu, u_ph, u_sk, u_tp, r_tp, h1, h2, h3]
theorem q_first_eq {T : zT} {e i th x : Int32} {r : zR} (hx : t_p T (ix (3 * e + i)) = x) : q_first T e i th r = q_ask T e i th (u_ph r x 0) := by
  unfold q_first; rw [hx]
theorem go_push {T : zT} {e w i th x : Int32} {r r0 : zR} {t : Nat} (hs : q_safe T (r, w)) (ht : t < 15) (htp : r_tp r = nI (t + 1)) (hsk : r_sk r t = e) (hq : q_step T e w r = q_ask T e i th r0) (h0 : r_tp r0 = nI (t + 1)) (he : r_er r0 = 0) (hx : t_p T (ix (3 * e + i)) = x) : Go T 1 (r, w) (pu r0 e th t x, 0) := by
  have h1 : q_turn T (r, w) = (pu r0 e th t x, 0) := by
    simp only [q_turn]
    rw [htp, ix_pr ht, hsk, hq, q_ask_eq h0 ht, hx]
    rfl
  exact ⟨hs, by rw [h1]; exact he, by rw [h1]; rfl⟩
theorem go_pop {T : zT} {e w v : Int32} {r r0 : zR} {t : Nat} (hs : q_safe T (r, w)) (ht : t < 15) (htp : r_tp r = nI (t + 1)) (hsk : r_sk r t = e) (hq : q_step T e w r = (v, r0)) (hv : ¬ v = 2) (h0 : r_tp r0 = nI (t + 1)) (he : r_er r0 = 0) : Go T 1 (r, w) (u_tp r0 (nI t), if v = 1 then 1 else 2) := by
  have h1 : q_turn T (r, w) = (u_tp r0 (nI t), if v = 1 then 1 else 2) := by
    simp only [q_turn]
    rw [htp, ix_pr ht, hsk, hq]
    simp only [if_neg hv, h0, nI_pred]
  exact ⟨hs, by rw [h1]; exact he, by rw [h1]; rfl⟩
theorem bad_of {T : zT} {e w v : Int32} {r : zR} {g : zG} {t : Nat} {q : Int32 × zR} (hs : q_safe T (r, w)) (ht : t < 15) (htp : r_tp r = nI (t + 1)) (hsk : r_sk r t = e) (hq : q_step T e w r = q) (he : r_er q.2 = v) (hg : r_g q.2 = g) : Bad T (r, w) v g := by
  refine ⟨hs, ?_, ?_⟩ <;> dsimp only <;> rw [htp, ix_pr ht, hsk, hq]
  · exact he
  · exact hg
/-- a node whose kind is known has its parts in place -/
theorem safe_of {F : zF} {T : zT} {f d t n : Nat} {e w : Int32} {c : zC} {r : zR} (hT : Tr F T (d + 1) e) (ht : t < 15) (hU : zUp F f t e c r n)
    (h1 : f_k F (ix e) = 6 ∨ f_k F (ix e) = 19 → w = 0 → r_ph r (ix e) = 0 ∨ r_ph r (ix e) = 1 ∨ r_ph r (ix e) = 2 ∨ r_ph r (ix e) = 3)
    (h2 : f_k F (ix e) = 18 → ¬ w = 0 → r_ph r (ix e) = 1 ∨ r_ph r (ix e) = 2 ∨ r_ph r (ix e) = 3) : q_safe T (r, w) := by
  obtain ⟨hN, hg, ⟨-, -, hw⟩, -, htp, hsk⟩ := hU
  obtain ⟨hv, ⟨k, hk, hke⟩, htk, hnm, ha1, ha2, ha3⟩ := hT
  refine ⟨t, ht, htp, by rw [hsk]; exact hv, ?_⟩
  rw [hsk]
  have hk' : k = 0 ∨ k = 1 ∨ k = 2 ∨ k = 3 ∨ k = 4 ∨ k = 5 ∨ k = 6 ∨ k = 7 ∨ k = 8 ∨ k = 9 ∨ k = 10 ∨ k = 11 ∨ k = 12 ∨ k = 13 ∨ k = 14 ∨ k = 15 ∨ k = 16 ∨ k = 17 ∨ k = 18 ∨ k = 19 := by omega
  have x1 : 1 ≤ f_a F e → vp_in (t_p T (ix (3 * e + 0))) 60 := fun h => by rw [(ha1 h).2.1]; exact Tr_in (ha1 h).1
  have x2 : 2 ≤ f_a F e → vp_in (t_p T (ix (3 * e + 1))) 60 := fun h => by rw [(ha2 h).2.1]; exact Tr_in (ha2 h).1
  have x3 : 3 ≤ f_a F e → vp_in (t_p T (ix (3 * e + 2))) 60 := fun h => by rw [(ha3 h).2.1]; exact Tr_in (ha3 h).1
  have hn : ¬ f_k F (ix e) = 18 → r_nm r (ix e) = f_n F (ix e) := hN (ix e)
  refine ⟨by rw [hg]; exact hw, ?_, ?_, ?_, ?_, ?_, ?_, ?_, ?_⟩ <;> rw [htk] <;> rcases hk' with rfl | rfl | rfl | rfl | rfl | rfl | rfl | rfl | rfl | rfl | rfl | rfl | rfl | rfl | rfl | rfl | rfl | rfl | rfl | rfl <;> simp [hke, nI, t_kc, f_a] at * <;> simp_all
/-- a part is asked: what is seen from above -/
theorem child {F : zF} {T : zT} {M f d t n p : Nat} {e x th : Int32} {c c1 : zC} {r0 : zR} (hS : zSim F T M f d) (hx : Tr F T d x) (hne : ¬ Sb F d x (ix e)) (hU : zUp F f t e c r0 n) (ht : t + (d + 1) < 16) (hg : c_g c1 = c_g c) (hI : Idl F d x c1 (pu r0 e th t x) p) {q : Int32 × zC} (hq : p_all F M d x c1 = q) :
    ∃ n', n ≤ n' ∧ FrC (Sb F d x) c1 q.2 ∧
    ((q.1 = 1 ∧ n < n' ∧ ∃ m r' p', Go T m (pu r0 e th t x, 0) (r', 1) ∧ zUp F f t e q.2 r' n' ∧ r_ph r' (ix e) = th ∧ (∀ j, j < t → r_sk r' j = r_sk r0 j) ∧ FrR (Sb F d x) (pu r0 e th t x) r' ∧ r_gv r' = c_rs q.2 (ix x) ∧ Lv F d x q.2 r' p' ∧ m + p' + zK d n ≤ p + zK d n') ∨
     (q.1 = 0 ∧ (c_st c1 (ix x) = 0 → n < n') ∧ ∃ m r', Go T m (pu r0 e th t x, 0) (r', 2) ∧ zUp F f t e q.2 r' n' ∧ r_ph r' (ix e) = th ∧ (∀ j, j < t → r_sk r' j = r_sk r0 j) ∧ FrR (Sb F d x) (pu r0 e th t x) r' ∧ m + zK d n ≤ p + zK d n') ∨
     (q.1 < 0 ∧ Gk f (c_g q.2) n' ∧ ∃ m r' w, Go T m (pu r0 e th t x, 0) (r', w) ∧ Bad T (r', w) q.1 (c_g q.2) ∧ m + zK d n ≤ p + zK d n' + 4 * d)) := by
  obtain ⟨hN, hgr, hG, her, htp, hsk⟩ := hU
  have hU1 : zUp F f (t + 1) x c1 (pu r0 e th t x) n := ⟨hN, by rw [hg]; exact hgr, by rw [hg]; exact hG, her, rfl, pk_us⟩
  obtain ⟨n', hn, hF, h⟩ := hS (t + 1) x c1 (pu r0 e th t x) p n hx (by omega) hU1 hI
  rw [hq] at hF h
  have low : ∀ r' : zR, (∀ j, j < t + 1 → r_sk r' j = r_sk (pu r0 e th t x) j) → r_sk r' t = e ∧ ∀ j, j < t → r_sk r' j = r_sk r0 j := fun r' h => ⟨(h t (by omega)).trans ((pk_un (by omega)).trans hsk), fun j hj => (h j (by omega)).trans (pk_un (by omega))⟩
  have ph : ∀ r' : zR, FrR (Sb F d x) (pu r0 e th t x) r' → r_ph r' (ix e) = th := fun r' h => (h _ hne).1.trans pk_us
  refine ⟨n', hn, hF, ?_⟩
  rcases h with ⟨h1, h2, m, r', p', hGo, ⟨k1, k2, k3, k4, k5, k6⟩, hR, hv, hL, hb⟩ | ⟨h1, h2, m, r', hGo, ⟨k1, k2, k3, k4, k5, k6⟩, hR, hb⟩ | h
  · exact Or.inl ⟨h1, h2, m, r', p', hGo, ⟨k1, k2, k3, k4, k5, (low r' k6).1⟩, ph r' hR, (low r' k6).2, hR, hv, hL, hb⟩
  · exact Or.inr (Or.inl ⟨h1, h2, m, r', hGo, ⟨k1, k2, k3, k4, k5, (low r' k6).1⟩, ph r' hR, (low r' k6).2, hR, hb⟩)
  · exact Or.inr (Or.inr h)
end
section
/-! Kind by kind: leaves and kinds of one part. -/
theorem zK_m (d : Nat) {a b : Nat} (h : a ≤ b) : zK d a ≤ zK d b := Nat.mul_le_mul_left _ h
theorem go_pop1 {T : zT} {e w : Int32} {r r0 : zR} {t : Nat} (hs : q_safe T (r, w)) (ht : t < 15) (htp : r_tp r = nI (t + 1)) (hsk : r_sk r t = e) (hq : q_step T e w r = (1, r0)) (h0 : r_tp r0 = nI (t + 1)) (he : r_er r0 = 0) : Go T 1 (r, w) (u_tp r0 (nI t), 1) := by
  have h := go_pop hs ht htp hsk hq (by decide) h0 he
  rw [if_pos rfl] at h
  exact h
theorem go_pop0 {T : zT} {e w : Int32} {r r0 : zR} {t : Nat} (hs : q_safe T (r, w)) (ht : t < 15) (htp : r_tp r = nI (t + 1)) (hsk : r_sk r t = e) (hq : q_step T e w r = (0, r0)) (h0 : r_tp r0 = nI (t + 1)) (he : r_er r0 = 0) : Go T 1 (r, w) (u_tp r0 (nI t), 2) := by
  have h := go_pop hs ht htp hsk hq (by decide) h0 he
  rw [if_neg (by decide)] at h
  exact h
/-- the numbers that hold throughout: the fuel, the turns of a loop -/
def Ok (F : zF) (T : zT) (M f : Nat) : Prop := f_f F = nI f ∧ t_f T = nI f ∧ f ≤ 2000 ∧ 3000 ≤ M
theorem sm_leaf {F : zF} {T : zT} {M f d t n p : Nat} {e v : Int32} {c : zC} {r : zR} (hO : Ok F T M f) (hT : Tr F T (d + 1) e) (hk : f_k F (ix e) = 0 ∨ f_k F (ix e) = 1) (ht : t + (d + 1) < 16) (hU : zUp F f t e c r n) (hI : Idl F (d + 1) e c r p) (hv : v = if f_k F (ix e) = 0 then f_n F (ix e) else g_va (c_g c) (ix (f_n F (ix e)))) : Out F T f (d + 1) t e c r p n (p_leaf F e v c) := by
  obtain ⟨hf1, hf2, hf3, -⟩ := hO
  have hs : q_safe T (r, 0) := safe_of hT (by omega) hU (fun h => by rcases hk with h1 | h1 <;> rw [h1] at h <;> simp at h) (fun h => by rcases hk with h1 | h1 <;> rw [h1] at h <;> simp at h)
  obtain ⟨hN, hg, ⟨hsp, hnf, w, hw, hwc⟩, her, htp, hsk⟩ := hU
  have htk : t_k T (ix e) = f_k F (ix e) := by
    rw [hT.2.2.1]; unfold t_kc; rw [if_pos (by rcases hk with h | h <;> rw [h] <;> decide)]
  have hnm : r_nm r (ix e) = f_n F (ix e) := hN _ (by rcases hk with h | h <;> rw [h] <;> decide)
  have hst : q_step T e 0 r = q_leaf T e r := by
    unfold q_step; simp only [htk]; rw [if_pos (by rcases hk with h | h <;> rw [h] <;> decide)]
  have hm := zK_m d (Nat.le_add_right n 1)
  rcases hI with ⟨h1, h2, rfl⟩ | hL
  · have hq : q_leaf T e r = q_paid T v (u_ph r e 1) := by
      unfold q_leaf; rw [if_neg (by rw [h2]; decide)]
      show q_paid T (if t_k T (ix e) = 0 then r_nm r (ix e) else g_va (r_g r) (ix (r_nm r (ix e)))) (u_ph r e 1) = _
      rw [htk, hnm, hg, ← hv]
    have hp : p_leaf F e v c = p_fuel F e v (s_st c e 5) := by unfold p_leaf; rw [if_pos h1]
    by_cases hn : n = f
    · have e1 : p_fuel F e v (s_st c e 5) = (-5, s_st c e 5) := by
        unfold p_fuel; rw [if_neg]; show ¬ g_sp (c_g c) < f_f F; rw [hf1, hsp, hn]; exact Int32.lt_irrefl
      have e2 : q_paid T v (u_ph r e 1) = (0, u_er (u_ph r e 1) (-5)) := by
        unfold q_paid; rw [if_pos]; show g_sp (r_g r) = t_f T; rw [hg, hsp, hf2, hn]
      rw [hp, e1]
      exact ⟨n, Nat.le_refl _, fc_st (Or.inl rfl), Or.inr (Or.inr ⟨(show (-5 : Int32) < 0 by decide), ⟨hsp, hnf, w, hw, hwc⟩, 0, r, 0, rfl, bad_of hs (by omega) htp hsk (hst.trans (hq.trans e2)) rfl hg, by omega⟩)⟩
    · have e1 : p_fuel F e v (s_st c e 5) = (1, s_rs (s_g (s_st c e 5) (h_sp (c_g c))) e v) := by
        unfold p_fuel
        rw [if_pos]
        · rfl
        · show g_sp (c_g c) < f_f F
          rw [hf1, hsp, nI_ltI (by omega) (by omega)]; omega
      have e2 : q_paid T v (u_ph r e 1) = (1, u_gv (u_g (u_ph r e 1) (h_sp (r_g r))) v) := by
        unfold q_paid
        rw [if_neg]
        · rfl
        · show ¬ g_sp (r_g r) = t_f T
          rw [hg, hsp, hf2, nI_eq (by omega) (by omega)]; exact hn
      rw [hp, e1]
      refine ⟨n + 1, by omega, ((fc_st (Or.inl rfl)).tr fc_g).tr (fc_rs (Or.inl rfl)), Or.inl ⟨rfl, by omega, 1, _, 4, go_pop1 hs (by omega) htp hsk (hst.trans (hq.trans e2)) htp her, ⟨hN, ?_, ⟨?_, by omega, w, hw, hwc⟩, her, rfl, fun _ _ => rfl⟩, ((fr_ph (Or.inl rfl)).tr fr_g).tr (fr_gv.tr fr_tp), ?_, ?_, ?_⟩⟩
      · show h_sp (r_g r) = h_sp (c_g c); rw [hg]
      · show g_sp (c_g c) + 1 = nI (n + 1); rw [hsp, nI_succ]
      · exact (pk_us (f := c_rs (s_g (s_st c e 5) (h_sp (c_g c))))).symm
      · rcases hk with h | h
        · exact (Lv_0 h).mpr ⟨pk_us, pk_us, rfl⟩
        · exact (Lv_1 h).mpr ⟨pk_us, pk_us, rfl⟩
      · rw [zK_s, zK_s]; omega
  · have hL' : c_st c (ix e) = 5 ∧ r_ph r (ix e) = 1 ∧ p = 4 := by
      rcases hk with h | h
      · exact (Lv_0 h).mp hL
      · exact (Lv_1 h).mp hL
    obtain ⟨h1, h2, rfl⟩ := hL'
    have hq : q_leaf T e r = (0, r) := by unfold q_leaf; rw [if_pos h2]
    have hp : p_leaf F e v c = (0, c) := by unfold p_leaf; rw [if_neg (by rw [h1]; decide)]
    rw [hp]
    exact ⟨n, Nat.le_refl _, FrC.rf, Or.inr (Or.inl ⟨rfl, fun h => absurd (h.symm.trans h1) (by decide), 1, _, go_pop0 hs (by omega) htp hsk (hst.trans hq) htp her, ⟨hN, hg, ⟨hsp, hnf, w, hw, hwc⟩, her, rfl, fun _ _ => rfl⟩, fr_tp, by omega⟩)⟩
theorem fr_pu {D : Nat → Prop} {r : zR} {e th x : Int32} {t : Nat} (h : D (ix e)) : FrR D r (pu r e th t x) := fun j hj => ⟨pk_un fun q => hj (q ▸ h), rfl, rfl, rfl, rfl⟩
theorem ne_of {F : zF} {T : zT} {d : Nat} {x e : Int32} (hx : Tr F T d x) (hne : ¬ Sb F d x (ix e)) : ix x ≠ ix e := fun q => hne (q ▸ Tr_self hx)
theorem id_fresh {F : zF} {T : zT} {d t : Nat} {e x th : Int32} {c1 : zC} {r : zR} (hx : Tr F T d x) (hne : ¬ Sb F d x (ix e)) (hc : c_st c1 (ix x) = 0) : Idl F d x c1 (pu (u_ph r x 0) e th t x) 0 :=
  have hxe : ix x ≠ ix e := fun q => hne (q ▸ Tr_self hx)
  Or.inl ⟨hc, (pk_un hxe).trans pk_us, rfl⟩
theorem id_live {F : zF} {d t p : Nat} {e x th : Int32} {c c1 : zC} {r : zR} (hne : ¬ Sb F d x (ix e)) (hL : Lv F d x c r p) (hC : FrC (fun j => j = ix e) c c1) : Idl F d x c1 (pu r e th t x) p :=
  Or.inr (Lv_cong d x p (Ag.of hC (fr_pu (D := fun j => j = ix e) rfl) (fun _ h q => hne (q ▸ h)) (fun _ h q => hne (q ▸ h))) hL)
theorem neg1 {v : Int32} (h : v < 0) : ¬ v = 1 := fun q => by rw [q] at h; exact absurd h (by decide)
theorem neg0 {v : Int32} (h : v < 0) : ¬ v = 0 := fun q => by rw [q] at h; exact absurd h (by decide)
/-- on the way through e: m turns are done, e is on top again with news w -/
def Mid (F : zF) (T : zT) (f d t : Nat) (e : Int32) (c : zC) (r : zR) (n : Nat) (c' : zC) (r' : zR) (w : Int32) (n' m : Nat) : Prop :=
  Go T m (r, 0) (r', w) ∧ zUp F f t e c' r' n' ∧ (∀ j, j < t → r_sk r' j = r_sk r j) ∧ FrC (Sb F (d + 1) e) c c' ∧ FrR (Sb F (d + 1) e) r r' ∧ n ≤ n'
theorem mid_0 {F : zF} {T : zT} {f d t n : Nat} {e : Int32} {c : zC} {r : zR} (hU : zUp F f t e c r n) : Mid F T f d t e c r n c r 0 n 0 := ⟨rfl, hU, fun _ _ => rfl, FrC.rf, FrR.rf, Nat.le_refl _⟩
theorem mid_c {F : zF} {T : zT} {f d t n n' m : Nat} {e w : Int32} {c c' c2 : zC} {r r' : zR} (h : Mid F T f d t e c r n c' r' w n' m) (hF : FrC (Sb F (d + 1) e) c' c2) (hg : c_g c2 = c_g c') : Mid F T f d t e c r n c2 r' w n' m := by
  obtain ⟨h1, ⟨k1, k2, k3, k4, k5, k6⟩, h3, h4, h5, h6⟩ := h
  exact ⟨h1, ⟨k1, k2.trans hg.symm, by rw [hg]; exact k3, k4, k5, k6⟩, h3, h4.tr hF, h5, h6⟩
/-- r0 is r but for rows of nodes -/
def Ro (r r0 : zR) : Prop := r_g r0 = r_g r ∧ r_er r0 = r_er r ∧ r_tp r0 = r_tp r ∧ r_sk r0 = r_sk r
/-- what asking the part x from the way through e comes to -/
def Asked (F : zF) (T : zT) (f d t : Nat) (e x th : Int32) (c : zC) (r : zR) (p n : Nat) (c1 : zC) (r1 r0 : zR) (n1 m p1 : Nat) (q : Int32 × zC) : Prop :=
  FrC (Sb F d x) c1 q.2 ∧
  ((q.1 = 1 ∧ ∃ n2 m2 r2 p2, n1 < n2 ∧ Mid F T f d t e c r n q.2 r2 1 n2 (m + 1 + m2) ∧ r_ph r2 (ix e) = th ∧ r_nm r2 (ix e) = r_nm r0 (ix e) ∧ r_kp r2 (3 * ix e) = r_kp r0 (3 * ix e) ∧ r_kp r2 (3 * ix e + 1) = r_kp r0 (3 * ix e + 1) ∧ r_kp r2 (3 * ix e + 2) = r_kp r0 (3 * ix e + 2) ∧
      FrR (fun j => j = ix e ∨ Sb F d x j) r1 r2 ∧ r_gv r2 = c_rs q.2 (ix x) ∧ Lv F d x q.2 r2 p2 ∧ m2 + p2 + zK d n1 ≤ p1 + zK d n2) ∨
   (q.1 = 0 ∧ ∃ n2 m2 r2, n1 ≤ n2 ∧ (c_st c1 (ix x) = 0 → n1 < n2) ∧ Mid F T f d t e c r n q.2 r2 2 n2 (m + 1 + m2) ∧ r_ph r2 (ix e) = th ∧ r_nm r2 (ix e) = r_nm r0 (ix e) ∧ r_kp r2 (3 * ix e) = r_kp r0 (3 * ix e) ∧ r_kp r2 (3 * ix e + 1) = r_kp r0 (3 * ix e + 1) ∧ r_kp r2 (3 * ix e + 2) = r_kp r0 (3 * ix e + 2) ∧
      FrR (fun j => j = ix e ∨ Sb F d x j) r1 r2 ∧ m2 + zK d n1 ≤ p1 + zK d n2) ∨
   (q.1 < 0 ∧ ∃ n2, n1 ≤ n2 ∧ ∀ c3 v, c_g c3 = c_g q.2 → v = q.1 → FrC (Sb F (d + 1) e) c c3 → m + p1 + zK d n + 20 * n ≤ p + zK d n1 + 20 * n1 + 3 → Out F T f (d + 1) t e c r p n (v, c3)))
theorem mid_ask {F : zF} {T : zT} {M f d t n n1 m p p1 : Nat} {e x w i th : Int32} {c c1 : zC} {r r1 : zR} (r0 : zR) (hS : zSim F T M f d) (ht : t + (d + 1) < 16) (hM : Mid F T f d t e c r n c1 r1 w n1 m) (hs : q_safe T (r1, w)) (hx : Tr F T d x) (hne : ¬ Sb F d x (ix e)) (hsub : ∀ j, Sb F d x j → Sb F (d + 1) e j)
    (hq : q_step T e w r1 = q_ask T e i th r0) (hpx : t_p T (ix (3 * e + i)) = x) (hR : Ro r1 r0) (hN : Nm F r0) (hF : FrR (fun j => j = ix e ∨ Sb F d x j) r1 r0) (hI : Idl F d x c1 (pu r0 e th t x) p1) : Asked F T f d t e x th c r p n c1 r1 r0 n1 m p1 (p_all F M d x c1) := by
  obtain ⟨h1, ⟨k1, k2, k3, k4, k5, k6⟩, h3, h4, h5, h6⟩ := hM
  obtain ⟨g1, g2, g3, g4⟩ := hR
  have hU0 : zUp F f t e c1 r0 n1 := ⟨hN, g1.trans k2, k3, g2.trans k4, g3.trans k5, (congrFun g4 t).trans k6⟩
  have hgo := go_push hs (by omega) k5 k6 hq hU0.2.2.2.2.1 hU0.2.2.2.1 hpx
  have hin : ∀ j, (j = ix e ∨ Sb F d x j) → Sb F (d + 1) e j := fun j h => by
    rcases h with h | h
    · exact Or.inl h
    · exact hsub j h
  obtain ⟨n2, hn, hFc, h⟩ := child hS hx hne hU0 ht rfl hI rfl
  generalize p_all F M d x c1 = q at hFc h ⊢
  refine ⟨hFc, ?_⟩
  have rows : ∀ r2 : zR, FrR (Sb F d x) (pu r0 e th t x) r2 → r_nm r2 (ix e) = r_nm r0 (ix e) ∧ r_kp r2 (3 * ix e) = r_kp r0 (3 * ix e) ∧ r_kp r2 (3 * ix e + 1) = r_kp r0 (3 * ix e + 1) ∧ r_kp r2 (3 * ix e + 2) = r_kp r0 (3 * ix e + 2) := fun r2 h => (h _ hne).2
  have fall : ∀ r2 : zR, FrR (Sb F d x) (pu r0 e th t x) r2 → FrR (fun j => j = ix e ∨ Sb F d x j) r1 r2 := fun r2 h => hF.tr ((fr_pu (Or.inl rfl)).tr (h.wk fun _ q => Or.inr q))
  rcases h with ⟨a1, a2, m2, r2, p2, b1, b2, b3, b4, b5, b6, b7, b8⟩ | ⟨a1, a2, m2, r2, b1, b2, b3, b4, b5, b8⟩ | ⟨a1, a2, m2, r2, w2, b1, b2, b3⟩
  · obtain ⟨e1, e2, e3, e4⟩ := rows r2 b5
    exact Or.inl ⟨a1, n2, m2, r2, p2, a2, ⟨Go_trans _ _ _ _ _ (Go_trans _ _ _ _ _ h1 hgo) b1, b2, fun j hj => (b4 j hj).trans ((congrFun g4 j).trans (h3 j hj)), h4.tr (hFc.wk hsub), h5.tr ((fall r2 b5).wk hin), by omega⟩, b3, e1, e2, e3, e4, fall r2 b5, b6, b7, b8⟩
  · obtain ⟨e1, e2, e3, e4⟩ := rows r2 b5
    exact Or.inr (Or.inl ⟨a1, n2, m2, r2, hn, a2, ⟨Go_trans _ _ _ _ _ (Go_trans _ _ _ _ _ h1 hgo) b1, b2, fun j hj => (b4 j hj).trans ((congrFun g4 j).trans (h3 j hj)), h4.tr (hFc.wk hsub), h5.tr ((fall r2 b5).wk hin), by omega⟩, b3, e1, e2, e3, e4, fall r2 b5, b8⟩)
  · refine Or.inr (Or.inr ⟨a1, n2, hn, fun c3 v hg hv hF3 hb => ?_⟩)
    subst hv
    refine ⟨n2, by omega, hF3, Or.inr (Or.inr ⟨a1, by rw [hg]; exact a2, m + 1 + m2, r2, w2, Go_trans _ _ _ _ _ (Go_trans _ _ _ _ _ h1 hgo) b1, by rw [hg]; exact b2, ?_⟩)⟩
    have := zK_m d hn
    rw [zK_s, zK_s]; omega
/-- the way ends with a result -/
theorem mid_one {F : zF} {T : zT} {f d t n n1 m p p' : Nat} {e w : Int32} {c c1 c2 : zC} {r r1 : zR} (r0 : zR) (ht : t + (d + 1) < 16) (hM : Mid F T f d t e c r n c1 r1 w n1 m) (hs : q_safe T (r1, w)) (hq : q_step T e w r1 = (1, r0)) (h0 : r_er r0 = r_er r1 ∧ r_tp r0 = r_tp r1 ∧ r_sk r0 = r_sk r1) (hN : Nm F r0) (hg : r_g r0 = c_g c2) (hG : Gk f (c_g c2) n1)
    (hF : FrR (Sb F (d + 1) e) r1 r0) (hC : FrC (Sb F (d + 1) e) c1 c2) (hv : r_gv r0 = c_rs c2 (ix e)) (hL : Lv F (d + 1) e c2 (u_tp r0 (nI t)) p') (hn : n < n1) (hb : m + 1 + p' + zK (d + 1) n ≤ p + zK (d + 1) n1) : Out F T f (d + 1) t e c r p n (1, c2) := by
  obtain ⟨h1, ⟨k1, k2, k3, k4, k5, k6⟩, h3, h4, h5, h6⟩ := hM
  obtain ⟨g2, g3, g4⟩ := h0
  exact ⟨n1, h6, h4.tr hC, Or.inl ⟨rfl, hn, m + 1, _, p', Go_trans _ _ _ _ _ h1 (go_pop1 hs (by omega) k5 k6 hq (g3.trans k5) (g2.trans k4)), ⟨hN, hg, hG, g2.trans k4, rfl, fun j hj => (congrFun g4 j).trans (h3 j hj)⟩, h5.tr (hF.tr fr_tp), hv, hL, hb⟩⟩
/-- the way ends: it fails -/
theorem mid_zero {F : zF} {T : zT} {f d t n n1 m p : Nat} {e w : Int32} {c c1 c2 : zC} {r r1 : zR} (r0 : zR) (ht : t + (d + 1) < 16) (hM : Mid F T f d t e c r n c1 r1 w n1 m) (hs : q_safe T (r1, w)) (hq : q_step T e w r1 = (0, r0)) (hR : Ro r1 r0) (hN : Nm F r0) (hF : FrR (Sb F (d + 1) e) r1 r0) (hC : FrC (Sb F (d + 1) e) c1 c2) (hg : c_g c2 = c_g c1)
    (hn : c_st c (ix e) = 0 → n < n1) (hb : m + 1 + zK (d + 1) n ≤ p + zK (d + 1) n1) : Out F T f (d + 1) t e c r p n (0, c2) := by
  obtain ⟨h1, ⟨k1, k2, k3, k4, k5, k6⟩, h3, h4, h5, h6⟩ := hM
  obtain ⟨g1, g2, g3, g4⟩ := hR
  exact ⟨n1, h6, h4.tr hC, Or.inr (Or.inl ⟨rfl, hn, m + 1, _, Go_trans _ _ _ _ _ h1 (go_pop0 hs (by omega) k5 k6 hq (g3.trans k5) (g2.trans k4)), ⟨hN, g1.trans (k2.trans hg.symm), by rw [hg]; exact k3, g2.trans k4, rfl, fun j hj => (congrFun g4 j).trans (h3 j hj)⟩, h5.tr (hF.tr fr_tp), hb⟩)⟩
/-- the way ends: an error of e's own -/
theorem mid_bad {F : zF} {T : zT} {f d t n n1 m p : Nat} {e w v : Int32} {c c1 c2 : zC} {r r1 : zR} {q : Int32 × zR} (ht : t + (d + 1) < 16) (hM : Mid F T f d t e c r n c1 r1 w n1 m) (hs : q_safe T (r1, w)) (hq : q_step T e w r1 = q) (he : r_er q.2 = v) (hv : v < 0) (hg : r_g q.2 = c_g c2) (hG : Gk f (c_g c2) n1) (hC : FrC (Sb F (d + 1) e) c1 c2)
    (hb : m + zK (d + 1) n ≤ p + zK (d + 1) n1 + 4 * (d + 1)) : Out F T f (d + 1) t e c r p n (v, c2) := by
  obtain ⟨h1, ⟨k1, k2, k3, k4, k5, k6⟩, h3, h4, h5, h6⟩ := hM
  exact ⟨n1, h6, h4.tr hC, Or.inr (Or.inr ⟨hv, hG, m, r1, w, h1, bad_of hs (by omega) k5 k6 hq he hg, hb⟩)⟩
end
section
/-! Kinds of one part. -/
theorem un_enter {F : zF} {T : zT} {f d t n p : Nat} {e : Int32} {c : zC} {r : zR} (hT : Tr F T (d + 1) e) (hk : f_k F (ix e) = 2 ∨ f_k F (ix e) = 3 ∨ f_k F (ix e) = 5) (hU : zUp F f t e c r n) (hI : Idl F (d + 1) e c r p) :
    ∃ r0 p1 p2, q_step T e 0 r = q_ask T e 0 1 r0 ∧ Ro r r0 ∧ Nm F r0 ∧ FrR (fun j => j = ix e ∨ Sb F d (f_x F (ix e)) j) r r0 ∧ Idl F d (f_x F (ix e)) (s_st (if c_st c (ix e) = 0 then s_st c (f_x F (ix e)) 0 else c) e 1) (pu r0 e 1 t (f_x F (ix e))) p1 ∧ p = p1 + p2 ∧
      (c_st c (ix e) = 0 ∧ p2 = 0 ∧ r_kp r0 (3 * ix e) = 0 ∨ ¬ c_st c (ix e) = 0 ∧ p2 = 4 ∧ (f_k F (ix e) = 5 → r_kp r0 (3 * ix e) = 1)) := by
  have hst : q_step T e 0 r = (if r_ph r (ix e) = 1 then q_ask T e 0 1 r else q_first T e 0 1 (u_kp r (3 * e) 0)) := by
    rcases hk with h | h | h <;> simp [q_step, q_unary, hT.2.2.1, h, t_kc]
  have a1 : 1 ≤ f_a F e := by rcases hk with h | h | h <;> simp [f_a, h]
  obtain ⟨hx, hpx, hne⟩ := hT.2.2.2.2.1 a1
  have hxe : ix (f_x F (ix e)) ≠ ix e := ne_of hx hne
  rcases hI with ⟨h1, h2, rfl⟩ | hL
  · refine ⟨u_ph (u_kp r (3 * e) 0) (f_x F (ix e)) 0, 0, 0, ?_, ⟨rfl, rfl, rfl, rfl⟩, hU.1, (fr_kp (k := ix e) (b := 0) (Or.inl rfl) (by decide) (ix_30 hT.1)).tr (fr_ph (Or.inr (Tr_self hx))), id_fresh hx hne ?_, rfl, Or.inl ⟨h1, rfl, ?_⟩⟩
    · rw [hst, if_neg (by rw [h2]; decide), q_first_eq hpx]
    · rw [if_pos h1]
      exact (pk_un hxe).trans pk_us
    · show vp_updL (r_kp r) (ix (3 * e)) 0 (3 * ix e) = 0
      rw [ix_30 hT.1]; exact pk_uLs
  · have hL' : c_st c (ix e) = 1 ∧ r_ph r (ix e) = 1 ∧ (f_k F (ix e) = 5 → r_kp r (3 * ix e) = 1) ∧ ∃ p1, Lv F d (f_x F (ix e)) c r p1 ∧ p = p1 + 4 := by
      rcases hk with h | h | h
      · obtain ⟨g1, g2, g3⟩ := (Lv_2 h).mp hL
        exact ⟨g1, g2, fun q => absurd (h.symm.trans q) (by decide), g3⟩
      · obtain ⟨g1, g2, g3⟩ := (Lv_3 h).mp hL
        exact ⟨g1, g2, fun q => absurd (h.symm.trans q) (by decide), g3⟩
      · obtain ⟨g1, g2, g4, g3⟩ := (Lv_5 h).mp hL
        exact ⟨g1, g2, fun _ => g4, g3⟩
    obtain ⟨h1, h2, h5, p1, hL1, rfl⟩ := hL'
    have h10 : ¬ c_st c (ix e) = 0 := by rw [h1]; decide
    refine ⟨r, p1, 4, by rw [hst, if_pos h2], ⟨rfl, rfl, rfl, rfl⟩, hU.1, FrR.rf, ?_, rfl, Or.inr ⟨h10, rfl, h5⟩⟩
    rw [if_neg h10]
    exact id_live hne hL1 (fc_st (D := fun j => j = ix e) rfl)
/-- the state from which askX asks -/
def p_x1 (F : zF) (e : Int32) (c : zC) : zC := s_st (if c_st c (ix e) = 0 then s_st c (f_x F (ix e)) 0 else c) e 1
theorem p_x_eq (F : zF) (A : Int32 → zC → Int32 × zC) (e : Int32) (c : zC) : p_x F A e c = A (f_x F (ix e)) (p_x1 F e c) := rfl
theorem x1_g (F : zF) (e : Int32) (c : zC) : c_g (p_x1 F e c) = c_g c := by
  unfold p_x1; show c_g (if _ then _ else _) = _; split <;> rfl
theorem x1_F {F : zF} {e : Int32} {c : zC} {D : Nat → Prop} (h1 : D (ix e)) (h2 : D (ix (f_x F (ix e)))) : FrC D c (p_x1 F e c) := by
  unfold p_x1
  refine FrC.tr ?_ (fc_st h1)
  split
  · exact fc_st h2
  · exact FrC.rf
theorem x1_st (F : zF) (e : Int32) (c : zC) : c_st (p_x1 F e c) (ix e) = 1 := pk_us
theorem x1_f {F : zF} {e : Int32} {c : zC} (hxe : ix (f_x F (ix e)) ≠ ix e) (h : c_st c (ix e) = 0) : c_st (p_x1 F e c) (ix (f_x F (ix e))) = 0 := by
  unfold p_x1; rw [if_pos h]; exact (pk_un hxe).trans pk_us
theorem sm_assign {F : zF} {T : zT} {M f d t n p : Nat} {e : Int32} {c : zC} {r : zR} (hS : zSim F T M f d) (hT : Tr F T (d + 1) e) (hk : f_k F (ix e) = 2) (ht : t + (d + 1) < 16) (hU : zUp F f t e c r n) (hI : Idl F (d + 1) e c r p) : Out F T f (d + 1) t e c r p n (p_assign F (p_all F M d) e c) := by
  have a1 : 1 ≤ f_a F e := by simp [f_a, hk]
  obtain ⟨hx, hpx, hne⟩ := hT.2.2.2.2.1 a1
  have hxe : ix (f_x F (ix e)) ≠ ix e := ne_of hx hne
  have hsub : ∀ j, Sb F d (f_x F (ix e)) j → Sb F (d + 1) e j := fun j h => Or.inr (Or.inl ⟨a1, h⟩)
  have hs : ∀ {c : zC} {r : zR} {n : Nat} {w : Int32}, zUp F f t e c r n → q_safe T (r, w) := fun hU => safe_of hT (by omega) hU (fun h => by rw [hk] at h; simp at h) (fun h => by rw [hk] at h; simp at h)
  obtain ⟨r0, p1, p2, hq0, hR0, hN0, hF0, hI0, rfl, hp2⟩ := un_enter hT (Or.inl hk) hU hI
  have hp4 : p2 ≤ 4 := by rcases hp2 with h | h <;> omega
  have hA := mid_ask (p := p1 + p2) r0 hS ht (mid_c (mid_0 (T := T) (d := d) hU) (x1_F (Or.inl rfl) (hsub _ (Tr_self hx))) (x1_g F e c)) (hs hU) hx hne hsub hq0 hpx hR0 hN0 hF0 hI0
  have hpe := p_x_eq F (p_all F M d) e c
  generalize p_all F M d (f_x F (ix e)) (p_x1 F e c) = q at hA hpe
  obtain ⟨v, c2⟩ := q
  obtain ⟨hFc, ⟨hv, n2, m2, r2, p3, hn, hM, hph, -, -, -, -, hFr, hgv, hL, hb⟩ | ⟨hv, n2, m2, r2, hn, hfr, hM, hph, -, -, -, -, hFr, hb⟩ | ⟨hv, n2, hn, herr⟩⟩ := hA
  · dsimp only at hv; subst hv
    have hp : p_assign F (p_all F M d) e c = (1, s_g (s_rs c2 e (c_rs c2 (ix (f_x F (ix e))))) (h_va (c_g c2) (f_n F (ix e)) (c_rs c2 (ix (f_x F (ix e)))))) := by
      simp only [p_assign, hpe, p_up, p_give, if_true]
      rw [show c_rs (s_rs c2 e (c_rs c2 (ix (f_x F (ix e))))) (ix e) = c_rs c2 (ix (f_x F (ix e))) from pk_us]
      rfl
    have hq1 : q_step T e 1 r2 = (1, u_g (u_kp r2 (3 * e) 1) (h_va (r_g r2) (r_nm r2 (ix e)) (r_gv r2))) := by
      simp [q_step, q_unary, hT.2.2.1, hk, t_kc] <;> rfl
    have hUm := hM.2.1
    rw [hp]
    refine mid_one _ ht hM (hs hUm) hq1 ⟨rfl, rfl, rfl⟩ hUm.1 ?_ ⟨hUm.2.2.1.1, hUm.2.2.1.2.1, hUm.2.2.1.2.2⟩ ((fr_kp (k := ix e) (b := 0) (Or.inl rfl) (by decide) (ix_30 hT.1)).tr fr_g) ((fc_rs (Or.inl rfl)).tr fc_g) (hgv.trans (pk_us (f := c_rs c2)).symm) ((Lv_2 hk).mpr ⟨(hFc _ hne).1.trans (x1_st F e c), hph, p3, ?_, rfl⟩) (by omega) ?_
    · show h_va (r_g r2) (r_nm r2 (ix e)) (r_gv r2) = h_va (c_g c2) (f_n F (ix e)) (c_rs c2 (ix (f_x F (ix e))))
      rw [hUm.2.1, hUm.1 _ (by rw [hk]; decide), hgv]
    · exact Lv_cong d _ _ (Ag.of (D := fun j => j = ix e) (E := fun j => j = ix e) ((fc_rs (D := fun j => j = ix e) rfl).tr fc_g) ((fr_kp (D := fun j => j = ix e) (k := ix e) (b := 0) rfl (by decide) (ix_30 hT.1)).tr (fr_g.tr fr_tp)) (fun _ h q => hne (q ▸ h)) (fun _ h q => hne (q ▸ h))) hL
    · rw [zK_s, zK_s]; omega
  · dsimp only at hv; subst hv
    have hp : p_assign F (p_all F M d) e c = (0, c2) := by simp [p_assign, hpe, p_up]
    have hq1 : q_step T e 2 r2 = (0, r2) := by simp [q_step, q_unary, hT.2.2.1, hk, t_kc]
    have hfr' : c_st c (ix e) = 0 → n < n2 := fun h0 => hfr (x1_f hxe h0)
    rw [hp]
    refine mid_zero _ ht hM (hs hM.2.1) hq1 ⟨rfl, rfl, rfl, rfl⟩ hM.2.1.1 FrR.rf FrC.rf rfl hfr' ?_
    rw [zK_s, zK_s]
    rcases hp2 with ⟨h0, h2, -⟩ | ⟨h0, h2, -⟩
    · have := hfr' h0; omega
    · omega
  · have hp : p_assign F (p_all F M d) e c = (v, c2) := by simp [p_assign, hpe, p_up, neg1 hv]
    rw [hp]
    exact herr c2 v rfl rfl ((x1_F (Or.inl rfl) (hsub _ (Tr_self hx))).tr (hFc.wk hsub)) (by omega)
theorem sm_write {F : zF} {T : zT} {M f d t n p : Nat} {e : Int32} {c : zC} {r : zR} (hS : zSim F T M f d) (hT : Tr F T (d + 1) e) (hk : f_k F (ix e) = 3) (ht : t + (d + 1) < 16) (hU : zUp F f t e c r n) (hI : Idl F (d + 1) e c r p) : Out F T f (d + 1) t e c r p n (p_write F (p_all F M d) e c) := by
  have a1 : 1 ≤ f_a F e := by simp [f_a, hk]
  obtain ⟨hx, hpx, hne⟩ := hT.2.2.2.2.1 a1
  have hxe : ix (f_x F (ix e)) ≠ ix e := ne_of hx hne
  have hsub : ∀ j, Sb F d (f_x F (ix e)) j → Sb F (d + 1) e j := fun j h => Or.inr (Or.inl ⟨a1, h⟩)
  have hs : ∀ {c : zC} {r : zR} {n : Nat} {w : Int32}, zUp F f t e c r n → q_safe T (r, w) := fun hU => safe_of hT (by omega) hU (fun h => by rw [hk] at h; simp at h) (fun h => by rw [hk] at h; simp at h)
  obtain ⟨r0, p1, p2, hq0, hR0, hN0, hF0, hI0, rfl, hp2⟩ := un_enter hT (Or.inr (Or.inl hk)) hU hI
  have hp4 : p2 ≤ 4 := by rcases hp2 with h | h <;> omega
  have hA := mid_ask (p := p1 + p2) r0 hS ht (mid_c (mid_0 (T := T) (d := d) hU) (x1_F (Or.inl rfl) (hsub _ (Tr_self hx))) (x1_g F e c)) (hs hU) hx hne hsub hq0 hpx hR0 hN0 hF0 hI0
  have hpe := p_x_eq F (p_all F M d) e c
  generalize p_all F M d (f_x F (ix e)) (p_x1 F e c) = q at hA hpe
  obtain ⟨v, c2⟩ := q
  obtain ⟨hFc, ⟨hv, n2, m2, r2, p3, hn, hM, hph, -, -, -, -, hFr, hgv, hL, hb⟩ | ⟨hv, n2, m2, r2, hn, hfr, hM, hph, -, -, -, -, hFr, hb⟩ | ⟨hv, n2, hn, herr⟩⟩ := hA
  · dsimp only at hv; subst hv
    have hUm := hM.2.1
    obtain ⟨gsp, gnf, w0, gw, gwc⟩ := hUm.2.2.1
    have hq1 : q_step T e 1 r2 = if g_wc (r_g r2) = 32 then (0, u_er (u_kp r2 (3 * e) 1) (-6)) else (1, u_g (u_kp r2 (3 * e) 1) (h_wr (r_g r2) (r_gv r2))) := by
      simp [q_step, q_unary, hT.2.2.1, hk, t_kc] <;> rfl
    by_cases h32 : w0 = 32
    · have hp : p_write F (p_all F M d) e c = (-6, s_rs c2 e (c_rs c2 (ix (f_x F (ix e))))) := by
        simp only [p_write, hpe, p_up, p_give, if_true]
        rw [if_neg]
        show ¬ g_wc (c_g c2) < 32
        rw [gwc, h32]; decide
      rw [if_pos (by rw [hUm.2.1, gwc, h32]; rfl)] at hq1
      rw [hp]
      refine mid_bad ht hM (hs hUm) hq1 rfl (by decide) hUm.2.1 hUm.2.2.1 (fc_rs (Or.inl rfl)) ?_
      rw [zK_s, zK_s]; omega
    · have hp : p_write F (p_all F M d) e c = (1, s_g (s_rs c2 e (c_rs c2 (ix (f_x F (ix e))))) (h_wr (c_g c2) (c_rs c2 (ix (f_x F (ix e)))))) := by
        simp only [p_write, hpe, p_up, p_give, if_true]
        rw [if_pos]
        · rw [show c_rs (s_rs c2 e (c_rs c2 (ix (f_x F (ix e))))) (ix e) = c_rs c2 (ix (f_x F (ix e))) from pk_us]
          rfl
        · show g_wc (c_g c2) < 32
          rw [gwc]
          exact nI_lt (b := 32) (by omega) (by decide)
      rw [if_neg (by rw [hUm.2.1, gwc]; exact fun q => h32 ((nI_eq (by omega) (by decide)).mp q))] at hq1
      rw [hp]
      refine mid_one _ ht hM (hs hUm) hq1 ⟨rfl, rfl, rfl⟩ hUm.1 ?_ ⟨gsp, gnf, w0 + 1, by omega, ?_⟩ ((fr_kp (k := ix e) (b := 0) (Or.inl rfl) (by decide) (ix_30 hT.1)).tr fr_g) ((fc_rs (Or.inl rfl)).tr fc_g) (hgv.trans (pk_us (f := c_rs c2)).symm) ((Lv_3 hk).mpr ⟨(hFc _ hne).1.trans (x1_st F e c), hph, p3, ?_, rfl⟩) (by omega) ?_
      · show h_wr (r_g r2) (r_gv r2) = h_wr (c_g c2) (c_rs c2 (ix (f_x F (ix e))))
        rw [hUm.2.1, hgv]
      · show g_wc (c_g c2) + 1 = nI (w0 + 1)
        rw [gwc, nI_succ]
      · exact Lv_cong d _ _ (Ag.of (D := fun j => j = ix e) (E := fun j => j = ix e) ((fc_rs (D := fun j => j = ix e) rfl).tr fc_g) ((fr_kp (D := fun j => j = ix e) (k := ix e) (b := 0) rfl (by decide) (ix_30 hT.1)).tr (fr_g.tr fr_tp)) (fun _ h q => hne (q ▸ h)) (fun _ h q => hne (q ▸ h))) hL
      · rw [zK_s, zK_s]; omega
  · dsimp only at hv; subst hv
    have hp : p_write F (p_all F M d) e c = (0, c2) := by simp [p_write, hpe, p_up]
    have hq1 : q_step T e 2 r2 = (0, r2) := by simp [q_step, q_unary, hT.2.2.1, hk, t_kc]
    have hfr' : c_st c (ix e) = 0 → n < n2 := fun h0 => hfr (x1_f hxe h0)
    rw [hp]
    refine mid_zero _ ht hM (hs hM.2.1) hq1 ⟨rfl, rfl, rfl, rfl⟩ hM.2.1.1 FrR.rf FrC.rf rfl hfr' ?_
    rw [zK_s, zK_s]
    rcases hp2 with ⟨h0, h2, -⟩ | ⟨h0, h2, -⟩
    · have := hfr' h0; omega
    · omega
  · have hp : p_write F (p_all F M d) e c = (v, c2) := by simp [p_write, hpe, p_up, neg1 hv]
    rw [hp]
    exact herr c2 v rfl rfl ((x1_F (Or.inl rfl) (hsub _ (Tr_self hx))).tr (hFc.wk hsub)) (by omega)
theorem sm_not {F : zF} {T : zT} {M f d t n p : Nat} {e : Int32} {c : zC} {r : zR} (hS : zSim F T M f d) (hT : Tr F T (d + 1) e) (hk : f_k F (ix e) = 4) (ht : t + (d + 1) < 16) (hU : zUp F f t e c r n) (hI : Idl F (d + 1) e c r p) : Out F T f (d + 1) t e c r p n (p_not F (p_all F M d) e c) := by
  have a1 : 1 ≤ f_a F e := by simp [f_a, hk]
  obtain ⟨hx, hpx, hne⟩ := hT.2.2.2.2.1 a1
  have hxe : ix (f_x F (ix e)) ≠ ix e := ne_of hx hne
  have hsub : ∀ j, Sb F d (f_x F (ix e)) j → Sb F (d + 1) e j := fun j h => Or.inr (Or.inl ⟨a1, h⟩)
  have hs : ∀ {c : zC} {r : zR} {n : Nat} {w : Int32}, zUp F f t e c r n → q_safe T (r, w) := fun hU => safe_of hT (by omega) hU (fun h => by rw [hk] at h; simp at h) (fun h => by rw [hk] at h; simp at h)
  rcases hI with ⟨h1, h2, rfl⟩ | hL
  · have hq0 : q_step T e 0 r = q_ask T e 0 1 (u_ph r (f_x F (ix e)) 0) := by
      rw [← q_first_eq hpx]
      simp [q_step, q_unary, hT.2.2.1, hk, t_kc, h2]
    have hst : c_st (s_st (s_st c e 5) (f_x F (ix e)) 0) (ix e) = 5 := (pk_un (Ne.symm hxe)).trans pk_us
    have hst0 : c_st (s_st (s_st c e 5) (f_x F (ix e)) 0) (ix (f_x F (ix e))) = 0 := pk_us
    have hF1 : FrC (Sb F (d + 1) e) c (s_st (s_st c e 5) (f_x F (ix e)) 0) := (fc_st (Or.inl rfl)).tr (fc_st (hsub _ (Tr_self hx)))
    have hA := mid_ask (p := 0) (u_ph r (f_x F (ix e)) 0) hS ht (mid_c (mid_0 (T := T) (d := d) hU) hF1 rfl) (hs hU) hx hne hsub hq0 hpx ⟨rfl, rfl, rfl, rfl⟩ hU.1 (fr_ph (Or.inr (Tr_self hx))) (id_fresh hx hne hst0)
    have hpe : p_not F (p_all F M d) e c = (let q := p_all F M d (f_x F (ix e)) (s_st (s_st c e 5) (f_x F (ix e)) 0); if q.1 = 1 then (0, q.2) else if q.1 = 0 then p_give e 0 q.2 else q) := by
      unfold p_not; rw [if_pos h1]; rfl
    generalize p_all F M d (f_x F (ix e)) (s_st (s_st c e 5) (f_x F (ix e)) 0) = q at hA hpe
    obtain ⟨v, c2⟩ := q
    obtain ⟨hFc, ⟨hv, n2, m2, r2, p3, hn, hM, hph, -, -, -, -, hFr, hgv, hL, hb⟩ | ⟨hv, n2, m2, r2, hn, hfr, hM, hph, -, -, -, -, hFr, hb⟩ | ⟨hv, n2, hn, herr⟩⟩ := hA
    · dsimp only at hv; subst hv
      have hq1 : q_step T e 1 r2 = (0, u_ph r2 e 2) := by simp [q_step, q_unary, hT.2.2.1, hk, t_kc, hph]
      rw [hpe]
      simp only [if_true]
      refine mid_zero _ ht hM (hs hM.2.1) hq1 ⟨rfl, rfl, rfl, rfl⟩ hM.2.1.1 (fr_ph (Or.inl rfl)) FrC.rf rfl (fun _ => hn) ?_
      rw [zK_s, zK_s]; omega
    · dsimp only at hv; subst hv
      have hn' : n < n2 := hfr hst0
      have hq1 : q_step T e 2 r2 = (1, u_gv (u_ph r2 e 2) 0) := by simp [q_step, q_unary, hT.2.2.1, hk, t_kc, hph, q_give]
      have hp : p_not F (p_all F M d) e c = (1, s_rs c2 e 0) := by rw [hpe]; simp [p_give]
      rw [hp]
      refine mid_one _ ht hM (hs hM.2.1) hq1 ⟨rfl, rfl, rfl⟩ hM.2.1.1 hM.2.1.2.1 hM.2.1.2.2.1 ((fr_ph (Or.inl rfl)).tr fr_gv) (fc_rs (Or.inl rfl)) (pk_us (f := c_rs c2)).symm ((Lv_4 hk).mpr ⟨(hFc _ hne).1.trans hst, pk_us, rfl⟩) hn' ?_
      rw [zK_s, zK_s]; omega
    · have hp : p_not F (p_all F M d) e c = (v, c2) := by rw [hpe]; simp [neg1 hv, neg0 hv]
      rw [hp]
      exact herr c2 v rfl rfl (hF1.tr (hFc.wk hsub)) (by omega)
  · obtain ⟨h1, h2, rfl⟩ := (Lv_4 hk).mp hL
    have hp : p_not F (p_all F M d) e c = (0, c) := by unfold p_not; rw [if_neg (by rw [h1]; decide)]
    have hq1 : q_step T e 0 r = (0, r) := by simp [q_step, q_unary, hT.2.2.1, hk, t_kc, h2]
    rw [hp]
    exact mid_zero _ ht (mid_0 hU) (hs hU) hq1 ⟨rfl, rfl, rfl, rfl⟩ hU.1 FrR.rf FrC.rf rfl (fun h => absurd (h.symm.trans h1) (by decide)) (by omega)
theorem sm_again {F : zF} {T : zT} {M f d t n p : Nat} {e : Int32} {c : zC} {r : zR} (hS : zSim F T M f d) (hT : Tr F T (d + 1) e) (hk : f_k F (ix e) = 5) (ht : t + (d + 1) < 16) (hU : zUp F f t e c r n) (hI : Idl F (d + 1) e c r p) : Out F T f (d + 1) t e c r p n (p_again F (p_all F M d) e c) := by
  have a1 : 1 ≤ f_a F e := by simp [f_a, hk]
  obtain ⟨hx, hpx, hne⟩ := hT.2.2.2.2.1 a1
  have hxe : ix (f_x F (ix e)) ≠ ix e := ne_of hx hne
  have hsub : ∀ j, Sb F d (f_x F (ix e)) j → Sb F (d + 1) e j := fun j h => Or.inr (Or.inl ⟨a1, h⟩)
  have hs : ∀ {c : zC} {r : zR} {n : Nat} {w : Int32}, zUp F f t e c r n → q_safe T (r, w) := fun hU => safe_of hT (by omega) hU (fun h => by rw [hk] at h; simp at h) (fun h => by rw [hk] at h; simp at h)
  have hq1 : ∀ r2 : zR, q_step T e 1 r2 = (1, u_kp r2 (3 * e) 1) := fun r2 => by simp [q_step, q_unary, hT.2.2.1, hk, t_kc]
  have hq2 : ∀ r2 : zR, q_step T e 2 r2 = if r_kp r2 (ix (3 * e)) = 0 then (0, r2) else q_first T e 0 1 (u_kp r2 (3 * e) 0) := fun r2 => by simp [q_step, q_unary, hT.2.2.1, hk, t_kc]
  obtain ⟨r0, p1, p2, hq0, hR0, hN0, hF0, hI0, rfl, hp2⟩ := un_enter hT (Or.inr (Or.inr hk)) hU hI
  have hp4 : p2 ≤ 4 := by rcases hp2 with h | h <;> omega
  -- a result of the part is one of e
  have fin : ∀ (c1 c2 : zC) (r2 : zR) (n2 m p3 : Nat), Mid F T f d t e c r n c2 r2 1 n2 m → n < n2 → r_gv r2 = c_rs c2 (ix (f_x F (ix e))) → Lv F d (f_x F (ix e)) c2 r2 p3 → c_st c2 (ix e) = 1 → r_ph r2 (ix e) = 1 → m + 1 + (p3 + 4) + zK (d + 1) n ≤ p1 + p2 + zK (d + 1) n2 → Out F T f (d + 1) t e c r (p1 + p2) n (1, s_rs c2 e (c_rs c2 (ix (f_x F (ix e))))) := by
    intro c1 c2 r2 n2 m p3 hM hn hgv hL hst hph hb
    refine mid_one _ ht hM (hs hM.2.1) (hq1 r2) ⟨rfl, rfl, rfl⟩ hM.2.1.1 hM.2.1.2.1 hM.2.1.2.2.1 (fr_kp (k := ix e) (b := 0) (Or.inl rfl) (by decide) (ix_30 hT.1)) (fc_rs (Or.inl rfl)) (hgv.trans (pk_us (f := c_rs c2)).symm) ((Lv_5 hk).mpr ⟨hst, hph, ?_, p3, ?_, rfl⟩) hn hb
    · show vp_updL (r_kp r2) (ix (3 * e)) 1 (3 * ix e) = 1
      rw [ix_30 hT.1]; exact pk_uLs
    · exact Lv_cong d _ _ (Ag.of (D := fun j => j = ix e) (E := fun j => j = ix e) (fc_rs (D := fun j => j = ix e) rfl) ((fr_kp (D := fun j => j = ix e) (k := ix e) (b := 0) rfl (by decide) (ix_30 hT.1)).tr fr_tp) (fun _ h q => hne (q ▸ h)) (fun _ h q => hne (q ▸ h))) hL
  have hA := mid_ask (p := p1 + p2) r0 hS ht (mid_c (mid_0 (T := T) (d := d) hU) (x1_F (Or.inl rfl) (hsub _ (Tr_self hx))) (x1_g F e c)) (hs hU) hx hne hsub hq0 hpx hR0 hN0 hF0 hI0
  have hpe := p_x_eq F (p_all F M d) e c
  generalize p_all F M d (f_x F (ix e)) (p_x1 F e c) = q at hA hpe
  obtain ⟨v, c2⟩ := q
  obtain ⟨hFc, ⟨hv, n2, m2, r2, p3, hn, hM, hph, -, -, -, -, hFr, hgv, hL, hb⟩ | ⟨hv, n2, m2, r2, hn, hfr, hM, hph, -, hk0, -, -, hFr, hb⟩ | ⟨hv, n2, hn, herr⟩⟩ := hA
  · dsimp only at hv; subst hv
    have hp : p_again F (p_all F M d) e c = (1, s_rs c2 e (c_rs c2 (ix (f_x F (ix e))))) := by simp [p_again, hpe, p_up, p_give]
    rw [hp]
    exact fin c c2 r2 n2 _ p3 hM hn hgv hL ((hFc _ hne).1.trans (x1_st F e c)) hph (by rw [zK_s, zK_s]; omega)
  · dsimp only at hv; subst hv
    have hfr' : c_st c (ix e) = 0 → n < n2 := fun h0 => hfr (x1_f hxe h0)
    have hst2 : c_st c2 (ix e) = 1 := (hFc _ hne).1.trans (x1_st F e c)
    rcases hp2 with ⟨h0, h2, h3⟩ | ⟨h0, h2, h3⟩
    · have hp : p_again F (p_all F M d) e c = (0, c2) := by simp [p_again, hpe, p_up, h0]
      have hq3 : q_step T e 2 r2 = (0, r2) := by rw [hq2, ix_30 hT.1, hk0, h3]; rfl
      have := hfr' h0
      rw [hp]
      refine mid_zero _ ht hM (hs hM.2.1) hq3 ⟨rfl, rfl, rfl, rfl⟩ hM.2.1.1 FrR.rf FrC.rf rfl hfr' ?_
      rw [zK_s, zK_s]; omega
    · -- once more
      have hq3 : q_step T e 2 r2 = q_ask T e 0 1 (u_ph (u_kp r2 (3 * e) 0) (f_x F (ix e)) 0) := by
        rw [hq2, ix_30 hT.1, hk0, h3 hk, if_neg (by decide), q_first_eq hpx]
      have hF3 : FrC (Sb F (d + 1) e) c2 (s_st c2 (f_x F (ix e)) 0) := fc_st (hsub _ (Tr_self hx))
      have hst0 : c_st (s_st c2 (f_x F (ix e)) 0) (ix (f_x F (ix e))) = 0 := pk_us
      have hst3 : c_st (s_st c2 (f_x F (ix e)) 0) (ix e) = 1 := (pk_un (Ne.symm hxe)).trans hst2
      have hB := mid_ask (p := p1 + p2) (u_ph (u_kp r2 (3 * e) 0) (f_x F (ix e)) 0) hS ht (mid_c hM hF3 rfl) (hs hM.2.1) hx hne hsub hq3 hpx ⟨rfl, rfl, rfl, rfl⟩ hM.2.1.1 ((fr_kp (k := ix e) (b := 0) (Or.inl rfl) (by decide) (ix_30 hT.1)).tr (fr_ph (Or.inr (Tr_self hx)))) (id_fresh hx hne hst0)
      have hpe2 : p_again F (p_all F M d) e c = p_up e (f_x F (ix e)) (p_all F M d (f_x F (ix e)) (s_st c2 (f_x F (ix e)) 0)) := by simp [p_again, hpe, h0, p_try]
      generalize p_all F M d (f_x F (ix e)) (s_st c2 (f_x F (ix e)) 0) = q at hB hpe2
      obtain ⟨v, c3⟩ := q
      have hk00 : r_kp (u_ph (u_kp r2 (3 * e) 0) (f_x F (ix e)) 0) (3 * ix e) = 0 := by
        show vp_updL (r_kp r2) (ix (3 * e)) 0 (3 * ix e) = 0
        rw [ix_30 hT.1]; exact pk_uLs
      obtain ⟨hFd, ⟨hv, n3, m3, r3, p4, hn3, hM3, hph3, -, hk3, -, -, hFr3, hgv3, hL3, hb3⟩ | ⟨hv, n3, m3, r3, hn3, hfr3, hM3, hph3, -, hk3, -, -, hFr3, hb3⟩ | ⟨hv, n3, hn3, herr⟩⟩ := hB
      · dsimp only at hv; subst hv
        have hp : p_again F (p_all F M d) e c = (1, s_rs c3 e (c_rs c3 (ix (f_x F (ix e))))) := by rw [hpe2]; simp [p_up, p_give]
        rw [hp]
        exact fin c c3 r3 n3 _ p4 hM3 (by omega) hgv3 hL3 ((hFd _ hne).1.trans hst3) hph3 (by rw [zK_s, zK_s]; omega)
      · dsimp only at hv; subst hv
        have := hfr3 hst0
        have hp : p_again F (p_all F M d) e c = (0, c3) := by rw [hpe2]; simp [p_up]
        have hq4 : q_step T e 2 r3 = (0, r3) := by rw [hq2, ix_30 hT.1, hk3, hk00]; rfl
        rw [hp]
        refine mid_zero _ ht hM3 (hs hM3.2.1) hq4 ⟨rfl, rfl, rfl, rfl⟩ hM3.2.1.1 FrR.rf FrC.rf rfl (fun h => absurd h h0) ?_
        rw [zK_s, zK_s]; omega
      · have hp : p_again F (p_all F M d) e c = (v, c3) := by rw [hpe2]; simp [p_up, neg1 hv]
        rw [hp]
        exact herr c3 v rfl rfl (((x1_F (Or.inl rfl) (hsub _ (Tr_self hx))).tr (hFc.wk hsub)).tr (hF3.tr (hFd.wk hsub))) (by omega)
  · have hp : p_again F (p_all F M d) e c = (v, c2) := by simp [p_again, hpe, p_up, neg1 hv, neg0 hv]
    rw [hp]
    exact herr c2 v rfl rfl ((x1_F (Or.inl rfl) (hsub _ (Tr_self hx))).tr (hFc.wk hsub)) (by omega)
end
section
/-! Kinds that hand one part's results up: EITHER, THEN, IF. -/
theorem mid_tail {F : zF} {T : zT} {M f d t n n1 m p p1 : Nat} {e y w i th st : Int32} {c c1 : zC} {r r1 : zR} (r0 : zR) (hS : zSim F T M f d) (ht : t + (d + 1) < 16) (hs : ∀ (c : zC) (r : zR) (n : Nat) (w : Int32), zUp F f t e c r n → ¬ w = 0 → q_safe T (r, w)) (hy : Tr F T d y) (hne : ¬ Sb F d y (ix e)) (hsub : ∀ j, Sb F d y j → Sb F (d + 1) e j) (hpy : t_p T (ix (3 * e + i)) = y)
    (hq1 : ∀ r2 : zR, r_ph r2 (ix e) = th → q_step T e 1 r2 = (1, r2)) (hq2 : ∀ r2 : zR, r_ph r2 (ix e) = th → q_step T e 2 r2 = (0, r2)) (hLv : ∀ (c : zC) (r : zR) (p : Nat), c_st c (ix e) = st → r_ph r (ix e) = th → Lv F d y c r p → Lv F (d + 1) e c r (p + 4))
    (hM : Mid F T f d t e c r n c1 r1 w n1 m) (hs1 : q_safe T (r1, w)) (hq : q_step T e w r1 = q_ask T e i th r0) (hR : Ro r1 r0) (hN : Nm F r0) (hF : FrR (fun j => j = ix e ∨ Sb F d y j) r1 r0) (hI : Idl F d y c1 (pu r0 e th t y) p1) (hst : c_st c1 (ix e) = st) (hfr : c_st c (ix e) = 0 → c_st c1 (ix y) = 0)
    (hb1 : m + p1 + zK d n + 20 * n ≤ p + zK d n1 + 20 * n1 + 3) (hb2 : c_st c1 (ix y) = 0 ∨ m + p1 + 2 + zK d n + 20 * n ≤ p + zK d n1 + 20 * n1) : Out F T f (d + 1) t e c r p n (p_up e y (p_all F M d y c1)) := by
  have hF1 := hM.2.2.2.1
  have hA := mid_ask (p := p) r0 hS ht hM hs1 hy hne hsub hq hpy hR hN hF hI
  generalize p_all F M d y c1 = q at hA
  obtain ⟨v, c2⟩ := q
  obtain ⟨hFc, ⟨hv, n2, m2, r2, p3, hn, hM2, hph, -, -, -, -, hFr, hgv, hL, hb⟩ | ⟨hv, n2, m2, r2, hn, hfr2, hM2, hph, -, -, -, -, hFr, hb⟩ | ⟨hv, n2, hn, herr⟩⟩ := hA
  · dsimp only at hv; subst hv
    have hn0 := hM.2.2.2.2.2
    have hp : p_up e y ((1 : Int32), c2) = (1, s_rs c2 e (c_rs c2 (ix y))) := by simp [p_up, p_give]
    rw [hp]
    refine mid_one _ ht hM2 (hs _ _ _ _ hM2.2.1 (by decide)) (hq1 r2 hph) ⟨rfl, rfl, rfl⟩ hM2.2.1.1 hM2.2.1.2.1 hM2.2.1.2.2.1 FrR.rf (fc_rs (Or.inl rfl)) (hgv.trans (pk_us (f := c_rs c2)).symm) (hLv _ _ p3 ((hFc _ hne).1.trans hst) hph ?_) (by omega) ?_
    · exact Lv_cong d _ _ (Ag.of (D := fun j => j = ix e) (E := fun j => j = ix e) (fc_rs (D := fun j => j = ix e) rfl) fr_tp (fun _ h q => hne (q ▸ h)) (fun _ h q => hne (q ▸ h))) hL
    · rw [zK_s, zK_s]; omega
  · dsimp only at hv; subst hv
    have hn0 := hM.2.2.2.2.2
    have hp : p_up e y ((0 : Int32), c2) = (0, c2) := by simp [p_up]
    rw [hp]
    refine mid_zero _ ht hM2 (hs _ _ _ _ hM2.2.1 (by decide)) (hq2 r2 hph) ⟨rfl, rfl, rfl, rfl⟩ hM2.2.1.1 FrR.rf FrC.rf rfl (fun h => by have := hfr2 (hfr h); omega) ?_
    rw [zK_s, zK_s]
    rcases hb2 with h | h
    · have := hfr2 h; omega
    · omega
  · have hp : p_up e y (v, c2) = (v, c2) := by simp [p_up, neg1 hv]
    rw [hp]
    exact herr c2 v rfl rfl (hF1.tr (hFc.wk hsub)) hb1
theorem sm_either {F : zF} {T : zT} {M f d t n p : Nat} {e : Int32} {c : zC} {r : zR} (hS : zSim F T M f d) (hT : Tr F T (d + 1) e) (hk : f_k F (ix e) = 6) (ht : t + (d + 1) < 16) (hU : zUp F f t e c r n) (hI : Idl F (d + 1) e c r p) : Out F T f (d + 1) t e c r p n (p_either F (p_all F M d) e c) := by
  have a1 : 1 ≤ f_a F e := by simp [f_a, hk]
  have a2 : 2 ≤ f_a F e := by simp [f_a, hk]
  obtain ⟨hx, hpx, hne⟩ := hT.2.2.2.2.1 a1
  obtain ⟨hy, hpy, hney, -⟩ := hT.2.2.2.2.2.1 a2
  have hxe : ix (f_x F (ix e)) ≠ ix e := ne_of hx hne
  have hye : ix (f_y F (ix e)) ≠ ix e := ne_of hy hney
  have hsub : ∀ j, Sb F d (f_x F (ix e)) j → Sb F (d + 1) e j := fun j h => Or.inr (Or.inl ⟨a1, h⟩)
  have hsuby : ∀ j, Sb F d (f_y F (ix e)) j → Sb F (d + 1) e j := fun j h => Or.inr (Or.inr (Or.inl ⟨a2, h⟩))
  have hs : ∀ (c : zC) (r : zR) (n : Nat) (w : Int32), zUp F f t e c r n → ¬ w = 0 → q_safe T (r, w) := fun c r n w hU hw => safe_of hT (by omega) hU (fun _ h => absurd h hw) (fun h => by rw [hk] at h; simp at h)
  have hq1 : ∀ r2 : zR, q_step T e 1 r2 = (1, r2) := fun r2 => by simp [q_step, q_binary, hT.2.2.1, hk, t_kc]
  have hq2 : ∀ r2 : zR, q_step T e 2 r2 = if r_ph r2 (ix e) = 1 then q_first T e 1 2 r2 else (0, r2) := fun r2 => by simp [q_step, q_binary, hT.2.2.1, hk, t_kc]
  have hq0 : q_step T e 0 r = if r_ph r (ix e) = 0 then q_first T e 0 1 r else q_ask T e (r_ph r (ix e) - 1) (r_ph r (ix e)) r := by simp [q_step, q_binary, hT.2.2.1, hk, t_kc]
  have hLx : ∀ (c : zC) (r : zR) (p : Nat), c_st c (ix e) = 1 → r_ph r (ix e) = 1 → Lv F d (f_x F (ix e)) c r p → Lv F (d + 1) e c r (p + 4) := fun c r p h1 h2 h3 => (Lv_6 hk).mpr (Or.inl ⟨h1, h2, p, h3, rfl⟩)
  have hLy : ∀ (c : zC) (r : zR) (p : Nat), c_st c (ix e) = 2 → r_ph r (ix e) = 2 → Lv F d (f_y F (ix e)) c r p → Lv F (d + 1) e c r (p + 4) := fun c r p h1 h2 h3 => (Lv_6 hk).mpr (Or.inr ⟨h1, h2, p, h3, rfl⟩)
  have hqy2 : ∀ r2 : zR, r_ph r2 (ix e) = 2 → q_step T e 2 r2 = (0, r2) := fun r2 h => by rw [hq2, h]; rfl
  -- the way by x
  have goX : ∀ (r0 : zR) (p1 p2 : Nat), ¬ c_st c (ix e) = 2 → q_safe T (r, 0) → q_step T e 0 r = q_ask T e 0 1 r0 → Ro r r0 → Nm F r0 → FrR (fun j => j = ix e ∨ Sb F d (f_x F (ix e)) j) r r0 → Idl F d (f_x F (ix e)) (p_x1 F e c) (pu r0 e 1 t (f_x F (ix e))) p1 → p = p1 + p2 → p2 ≤ 4 → Out F T f (d + 1) t e c r p n (p_either F (p_all F M d) e c) := by
    intro r0 p1 p2 hst hs0 hq hR hN hF hI9 hp2 hp4
    subst hp2
    have hA := mid_ask (p := p1 + p2) r0 hS ht (mid_c (mid_0 (T := T) (d := d) hU) (x1_F (Or.inl rfl) (hsub _ (Tr_self hx))) (x1_g F e c)) hs0 hx hne hsub hq hpx hR hN hF hI9
    have hpe := p_x_eq F (p_all F M d) e c
    generalize p_all F M d (f_x F (ix e)) (p_x1 F e c) = q at hA hpe
    obtain ⟨v, c2⟩ := q
    obtain ⟨hFc, ⟨hv, n2, m2, r2, p3, hn, hM, hph, -, -, -, -, hFr, hgv, hL, hb⟩ | ⟨hv, n2, m2, r2, hn, hfr, hM, hph, -, -, -, -, hFr, hb⟩ | ⟨hv, n2, hn, herr⟩⟩ := hA
    · dsimp only at hv; subst hv
      have hp : p_either F (p_all F M d) e c = (1, s_rs c2 e (c_rs c2 (ix (f_x F (ix e))))) := by simp [p_either, hpe, p_up, p_give, hst]
      rw [hp]
      refine mid_one _ ht hM (hs _ _ _ _ hM.2.1 (by decide)) (hq1 r2) ⟨rfl, rfl, rfl⟩ hM.2.1.1 hM.2.1.2.1 hM.2.1.2.2.1 FrR.rf (fc_rs (Or.inl rfl)) (hgv.trans (pk_us (f := c_rs c2)).symm) (hLx _ _ p3 ((hFc _ hne).1.trans (x1_st F e c)) hph ?_) hn ?_
      · exact Lv_cong d _ _ (Ag.of (D := fun j => j = ix e) (E := fun j => j = ix e) (fc_rs (D := fun j => j = ix e) rfl) fr_tp (fun _ h q => hne (q ▸ h)) (fun _ h q => hne (q ▸ h))) hL
      · rw [zK_s, zK_s]; omega
    · dsimp only at hv; subst hv
      have hp : p_either F (p_all F M d) e c = p_up e (f_y F (ix e)) (p_all F M d (f_y F (ix e)) (s_st (s_st c2 e 2) (f_y F (ix e)) 0)) := by simp [p_either, hpe, hst]
      rw [hp]
      have hq3 : q_step T e 2 r2 = q_ask T e 1 2 (u_ph r2 (f_y F (ix e)) 0) := by rw [hq2, if_pos hph, q_first_eq hpy]
      have hst0 : c_st (s_st (s_st c2 e 2) (f_y F (ix e)) 0) (ix (f_y F (ix e))) = 0 := pk_us
      exact mid_tail (p1 := 0) (st := 2) (u_ph r2 (f_y F (ix e)) 0) hS ht hs hy hney hsuby hpy (fun r2 _ => hq1 r2) hqy2 hLy (mid_c hM ((fc_st (Or.inl rfl)).tr (fc_st (hsuby _ (Tr_self hy)))) rfl) (hs _ _ _ _ hM.2.1 (by decide)) hq3 ⟨rfl, rfl, rfl, rfl⟩ hM.2.1.1 (fr_ph (Or.inr (Tr_self hy))) (id_fresh hy hney hst0) ((pk_un (Ne.symm hye)).trans pk_us) (fun _ => hst0) (by omega) (Or.inl hst0)
    · have hp : p_either F (p_all F M d) e c = (v, c2) := by simp [p_either, hpe, p_up, hst, neg1 hv, neg0 hv]
      rw [hp]
      exact herr c2 v rfl rfl ((x1_F (Or.inl rfl) (hsub _ (Tr_self hx))).tr (hFc.wk hsub)) (by omega)
  rcases hI with ⟨h1, h2, rfl⟩ | hL
  · have hs0 : q_safe T (r, 0) := safe_of hT (by omega) hU (fun _ _ => Or.inl h2) (fun h => by rw [hk] at h; simp at h)
    refine goX (u_ph r (f_x F (ix e)) 0) 0 0 (by rw [h1]; decide) hs0 (by rw [hq0, if_pos h2, q_first_eq hpx]) ⟨rfl, rfl, rfl, rfl⟩ hU.1 (fr_ph (Or.inr (Tr_self hx))) (id_fresh hx hne (x1_f hxe h1)) rfl (by omega)
  · rcases (Lv_6 hk).mp hL with ⟨h1, h2, p1, hL1, rfl⟩ | ⟨h1, h2, p1, hL1, rfl⟩
    · have hs0 : q_safe T (r, 0) := safe_of hT (by omega) hU (fun _ _ => Or.inr (Or.inl h2)) (fun h => by rw [hk] at h; simp at h)
      refine goX r p1 4 (by rw [h1]; decide) hs0 (by rw [hq0, h2]; rfl) ⟨rfl, rfl, rfl, rfl⟩ hU.1 FrR.rf ?_ rfl (by omega)
      unfold p_x1; rw [if_neg (by rw [h1]; decide)]
      exact id_live hne hL1 (fc_st (D := fun j => j = ix e) rfl)
    · have hs0 : q_safe T (r, 0) := safe_of hT (by omega) hU (fun _ _ => Or.inr (Or.inr (Or.inl h2))) (fun h => by rw [hk] at h; simp at h)
      have hp : p_either F (p_all F M d) e c = p_up e (f_y F (ix e)) (p_all F M d (f_y F (ix e)) c) := by simp [p_either, h1]
      rw [hp]
      exact mid_tail (st := 2) r hS ht hs hy hney hsuby hpy (fun r2 _ => hq1 r2) hqy2 hLy (mid_0 hU) hs0 (by rw [hq0, h2]; rfl) ⟨rfl, rfl, rfl, rfl⟩ hU.1 FrR.rf (id_live hney hL1 FrC.rf) h1 (fun h => absurd (h.symm.trans h1) (by decide)) (by omega) (Or.inr (by omega))
theorem sm_then {F : zF} {T : zT} {M f d t n p : Nat} {e : Int32} {c : zC} {r : zR} (hS : zSim F T M f d) (hT : Tr F T (d + 1) e) (hk : f_k F (ix e) = 17) (ht : t + (d + 1) < 16) (hU : zUp F f t e c r n) (hI : Idl F (d + 1) e c r p) : Out F T f (d + 1) t e c r p n (p_then F (p_all F M d) e c) := by
  have a1 : 1 ≤ f_a F e := by simp [f_a, hk]
  have a2 : 2 ≤ f_a F e := by simp [f_a, hk]
  obtain ⟨hx, hpx, hne⟩ := hT.2.2.2.2.1 a1
  obtain ⟨hy, hpy, hney, -⟩ := hT.2.2.2.2.2.1 a2
  have hxe : ix (f_x F (ix e)) ≠ ix e := ne_of hx hne
  have hye : ix (f_y F (ix e)) ≠ ix e := ne_of hy hney
  have hsub : ∀ j, Sb F d (f_x F (ix e)) j → Sb F (d + 1) e j := fun j h => Or.inr (Or.inl ⟨a1, h⟩)
  have hsuby : ∀ j, Sb F d (f_y F (ix e)) j → Sb F (d + 1) e j := fun j h => Or.inr (Or.inr (Or.inl ⟨a2, h⟩))
  have hs : ∀ (c : zC) (r : zR) (n : Nat) (w : Int32), zUp F f t e c r n → q_safe T (r, w) := fun c r n w hU => safe_of hT (by omega) hU (fun h => by rw [hk] at h; simp at h) (fun h => by rw [hk] at h; simp at h)
  have hq0 : q_step T e 0 r = if r_ph r (ix e) = 0 then q_first T e 0 1 r else q_ask T e 1 2 r := by simp [q_step, q_binary, hT.2.2.1, hk, t_kc]
  have hqw : ∀ (r2 : zR) (w : Int32), ¬ w = 0 → r_ph r2 (ix e) = 1 → q_step T e w r2 = q_first T e 1 2 r2 := fun r2 w hw h => by simp [q_step, q_binary, hT.2.2.1, hk, t_kc, hw, h]
  have hq1 : ∀ r2 : zR, r_ph r2 (ix e) = 2 → q_step T e 1 r2 = (1, r2) := fun r2 h => by simp [q_step, q_binary, hT.2.2.1, hk, t_kc, h]
  have hq2 : ∀ r2 : zR, r_ph r2 (ix e) = 2 → q_step T e 2 r2 = (0, r2) := fun r2 h => by simp [q_step, q_binary, hT.2.2.1, hk, t_kc, h]
  have hLy : ∀ (c : zC) (r : zR) (p : Nat), c_st c (ix e) = 2 → r_ph r (ix e) = 2 → Lv F d (f_y F (ix e)) c r p → Lv F (d + 1) e c r (p + 4) := fun c r p h1 h2 h3 => (Lv_17 hk).mpr ⟨h1, h2, p, h3, rfl⟩
  rcases hI with ⟨h1, h2, rfl⟩ | hL
  · have hF1 : FrC (Sb F (d + 1) e) c (s_st c (f_x F (ix e)) 0) := fc_st (hsub _ (Tr_self hx))
    have hA := mid_ask (p := 0) (u_ph r (f_x F (ix e)) 0) hS ht (mid_c (mid_0 (T := T) (d := d) hU) hF1 rfl) (hs _ _ _ _ hU) hx hne hsub (by rw [hq0, if_pos h2, q_first_eq hpx]) hpx ⟨rfl, rfl, rfl, rfl⟩ hU.1 (fr_ph (Or.inr (Tr_self hx))) (id_fresh hx hne pk_us)
    have hpe : p_then F (p_all F M d) e c = (let q := p_all F M d (f_x F (ix e)) (s_st c (f_x F (ix e)) 0); if q.1 < 0 then q else p_up e (f_y F (ix e)) (p_all F M d (f_y F (ix e)) (s_st (s_st q.2 e 2) (f_y F (ix e)) 0))) := by
      unfold p_then; rw [if_pos h1]; rfl
    generalize p_all F M d (f_x F (ix e)) (s_st c (f_x F (ix e)) 0) = q at hA hpe
    obtain ⟨v, c2⟩ := q
    have hst0 : c_st (s_st (s_st c2 e 2) (f_y F (ix e)) 0) (ix (f_y F (ix e))) = 0 := pk_us
    -- both ways out of x go on with y
    have goY : ∀ (r2 : zR) (w : Int32) (n2 m : Nat), ¬ w = 0 → ¬ v < 0 → Mid F T f d t e c r n c2 r2 w n2 m → r_ph r2 (ix e) = 1 → m + 0 + zK d n + 20 * n ≤ 0 + zK d n2 + 20 * n2 + 3 → Out F T f (d + 1) t e c r 0 n (p_then F (p_all F M d) e c) := by
      intro r2 w n2 m hw hv hM hph hb
      rw [hpe]
      simp only [if_neg hv]
      exact mid_tail (p1 := 0) (st := 2) (u_ph r2 (f_y F (ix e)) 0) hS ht (fun c r n w h _ => hs c r n w h) hy hney hsuby hpy hq1 hq2 hLy (mid_c hM ((fc_st (Or.inl rfl)).tr (fc_st (hsuby _ (Tr_self hy)))) rfl) (hs _ _ _ _ hM.2.1) (by rw [hqw r2 w hw hph, q_first_eq hpy]) ⟨rfl, rfl, rfl, rfl⟩ hM.2.1.1 (fr_ph (Or.inr (Tr_self hy))) (id_fresh hy hney hst0) ((pk_un (Ne.symm hye)).trans pk_us) (fun _ => hst0) hb (Or.inl hst0)
    obtain ⟨hFc, ⟨hv, n2, m2, r2, p3, hn, hM, hph, -, -, -, -, hFr, hgv, hL, hb⟩ | ⟨hv, n2, m2, r2, hn, hfr, hM, hph, -, -, -, -, hFr, hb⟩ | ⟨hv, n2, hn, herr⟩⟩ := hA
    · dsimp only at hv
      exact goY r2 1 n2 _ (by decide) (by rw [hv]; decide) hM hph (by omega)
    · dsimp only at hv
      exact goY r2 2 n2 _ (by decide) (by rw [hv]; decide) hM hph (by omega)
    · have hp : p_then F (p_all F M d) e c = (v, c2) := by rw [hpe]; simp only [if_pos hv]
      rw [hp]
      exact herr c2 v rfl rfl (hF1.tr (hFc.wk hsub)) (by omega)
  · obtain ⟨h1, h2, p1, hL1, rfl⟩ := (Lv_17 hk).mp hL
    have hp : p_then F (p_all F M d) e c = p_up e (f_y F (ix e)) (p_all F M d (f_y F (ix e)) c) := by simp [p_then, h1]
    rw [hp]
    exact mid_tail (st := 2) r hS ht (fun c r n w h _ => hs c r n w h) hy hney hsuby hpy hq1 hq2 hLy (mid_0 hU) (hs _ _ _ _ hU) (by rw [hq0, h2]; rfl) ⟨rfl, rfl, rfl, rfl⟩ hU.1 FrR.rf (id_live hney hL1 FrC.rf) h1 (fun h => absurd (h.symm.trans h1) (by decide)) (by omega) (Or.inr (by omega))
theorem sm_if {F : zF} {T : zT} {M f d t n p : Nat} {e : Int32} {c : zC} {r : zR} (hS : zSim F T M f d) (hT : Tr F T (d + 1) e) (hk : f_k F (ix e) = 19) (ht : t + (d + 1) < 16) (hU : zUp F f t e c r n) (hI : Idl F (d + 1) e c r p) : Out F T f (d + 1) t e c r p n (p_if F (p_all F M d) e c) := by
  have a1 : 1 ≤ f_a F e := by simp [f_a, hk]
  have a2 : 2 ≤ f_a F e := by simp [f_a, hk]
  have a3 : 3 ≤ f_a F e := by simp [f_a, hk]
  obtain ⟨hx, hpx, hne⟩ := hT.2.2.2.2.1 a1
  obtain ⟨hy, hpy, hney, -⟩ := hT.2.2.2.2.2.1 a2
  obtain ⟨hz, hpz, hnez, -⟩ := hT.2.2.2.2.2.2 a3
  have hxe : ix (f_x F (ix e)) ≠ ix e := ne_of hx hne
  have hye : ix (f_y F (ix e)) ≠ ix e := ne_of hy hney
  have hze : ix (f_z F (ix e)) ≠ ix e := ne_of hz hnez
  have hsub : ∀ j, Sb F d (f_x F (ix e)) j → Sb F (d + 1) e j := fun j h => Or.inr (Or.inl ⟨a1, h⟩)
  have hsuby : ∀ j, Sb F d (f_y F (ix e)) j → Sb F (d + 1) e j := fun j h => Or.inr (Or.inr (Or.inl ⟨a2, h⟩))
  have hsubz : ∀ j, Sb F d (f_z F (ix e)) j → Sb F (d + 1) e j := fun j h => Or.inr (Or.inr (Or.inr ⟨a3, h⟩))
  have hs : ∀ (c : zC) (r : zR) (n : Nat) (w : Int32), zUp F f t e c r n → ¬ w = 0 → q_safe T (r, w) := fun c r n w hU hw => safe_of hT (by omega) hU (fun _ h => absurd h hw) (fun h => by rw [hk] at h; simp at h)
  have hq0 : q_step T e 0 r = if r_ph r (ix e) = 0 then q_first T e 0 1 r else q_ask T e (r_ph r (ix e) - 1) (r_ph r (ix e)) r := by simp [q_step, q_if, hT.2.2.1, hk, t_kc]
  have hq11 : ∀ r2 : zR, r_ph r2 (ix e) = 1 → q_step T e 1 r2 = q_first T e 1 2 r2 := fun r2 h => by simp [q_step, q_if, hT.2.2.1, hk, t_kc, h]
  have hq12 : ∀ r2 : zR, r_ph r2 (ix e) = 1 → q_step T e 2 r2 = q_first T e 2 3 r2 := fun r2 h => by simp [q_step, q_if, hT.2.2.1, hk, t_kc, h]
  have hq1 : ∀ (r2 : zR) (th : Int32), ¬ th = 1 → r_ph r2 (ix e) = th → q_step T e 1 r2 = (1, r2) := fun r2 th h0 h => by simp [q_step, q_if, hT.2.2.1, hk, t_kc, h, h0]
  have hq2 : ∀ (r2 : zR) (th : Int32), ¬ th = 1 → r_ph r2 (ix e) = th → q_step T e 2 r2 = (0, r2) := fun r2 th h0 h => by simp [q_step, q_if, hT.2.2.1, hk, t_kc, h, h0]
  have hLy : ∀ (c : zC) (r : zR) (p : Nat), c_st c (ix e) = 2 → r_ph r (ix e) = 2 → Lv F d (f_y F (ix e)) c r p → Lv F (d + 1) e c r (p + 4) := fun c r p h1 h2 h3 => (Lv_19 hk).mpr (Or.inl ⟨h1, h2, p, h3, rfl⟩)
  have hLz : ∀ (c : zC) (r : zR) (p : Nat), c_st c (ix e) = 3 → r_ph r (ix e) = 3 → Lv F d (f_z F (ix e)) c r p → Lv F (d + 1) e c r (p + 4) := fun c r p h1 h2 h3 => (Lv_19 hk).mpr (Or.inr ⟨h1, h2, p, h3, rfl⟩)
  rcases hI with ⟨h1, h2, rfl⟩ | hL
  · have hs0 : q_safe T (r, 0) := safe_of hT (by omega) hU (fun _ _ => Or.inl h2) (fun h => by rw [hk] at h; simp at h)
    have hF1 : FrC (Sb F (d + 1) e) c (s_st c (f_x F (ix e)) 0) := fc_st (hsub _ (Tr_self hx))
    have hA := mid_ask (p := 0) (u_ph r (f_x F (ix e)) 0) hS ht (mid_c (mid_0 (T := T) (d := d) hU) hF1 rfl) hs0 hx hne hsub (by rw [hq0, if_pos h2, q_first_eq hpx]) hpx ⟨rfl, rfl, rfl, rfl⟩ hU.1 (fr_ph (Or.inr (Tr_self hx))) (id_fresh hx hne pk_us)
    have hpe : p_if F (p_all F M d) e c = (let q := p_all F M d (f_x F (ix e)) (s_st c (f_x F (ix e)) 0); if q.1 < 0 then q else
        let s1 := s_st q.2 e (if q.1 = 1 then 2 else 3)
        let s2 := s_st s1 (p_branch F e s1) 0
        p_up e (p_branch F e s2) (p_all F M d (p_branch F e s2) s2)) := by
      unfold p_if; rw [if_pos h1]; rfl
    generalize p_all F M d (f_x F (ix e)) (s_st c (f_x F (ix e)) 0) = q at hA hpe
    obtain ⟨v, c2⟩ := q
    obtain ⟨hFc, ⟨hv, n2, m2, r2, p3, hn, hM, hph, -, -, -, -, hFr, hgv, hL, hb⟩ | ⟨hv, n2, m2, r2, hn, hfr, hM, hph, -, -, -, -, hFr, hb⟩ | ⟨hv, n2, hn, herr⟩⟩ := hA
    · dsimp only at hv; subst hv
      have b1 : p_branch F e (s_st c2 e 2) = f_y F (ix e) := if_pos pk_us
      have st2 : c_st (s_st (s_st c2 e 2) (f_y F (ix e)) 0) (ix e) = 2 := (pk_un (Ne.symm hye)).trans pk_us
      have b2 : p_branch F e (s_st (s_st c2 e 2) (f_y F (ix e)) 0) = f_y F (ix e) := if_pos st2
      have hp : p_if F (p_all F M d) e c = p_up e (f_y F (ix e)) (p_all F M d (f_y F (ix e)) (s_st (s_st c2 e 2) (f_y F (ix e)) 0)) := by
        rw [hpe]; simp only [if_true, b1, b2]; rfl
      rw [hp]
      exact mid_tail (p1 := 0) (st := 2) (u_ph r2 (f_y F (ix e)) 0) hS ht hs hy hney hsuby hpy (fun r2 h => hq1 r2 2 (by decide) h) (fun r2 h => hq2 r2 2 (by decide) h) hLy (mid_c hM ((fc_st (Or.inl rfl)).tr (fc_st (hsuby _ (Tr_self hy)))) rfl) (hs _ _ _ _ hM.2.1 (by decide)) (by rw [hq11 r2 hph, q_first_eq hpy]) ⟨rfl, rfl, rfl, rfl⟩ hM.2.1.1 (fr_ph (Or.inr (Tr_self hy))) (id_fresh hy hney pk_us) st2 (fun _ => pk_us) (by omega) (Or.inl pk_us)
    · dsimp only at hv; subst hv
      have st3 : c_st (s_st c2 e 3) (ix e) = 3 := pk_us
      have b1 : p_branch F e (s_st c2 e 3) = f_z F (ix e) := if_neg (by rw [st3]; decide)
      have st2 : c_st (s_st (s_st c2 e 3) (f_z F (ix e)) 0) (ix e) = 3 := (pk_un (Ne.symm hze)).trans pk_us
      have b2 : p_branch F e (s_st (s_st c2 e 3) (f_z F (ix e)) 0) = f_z F (ix e) := if_neg (by rw [st2]; decide)
      have hp : p_if F (p_all F M d) e c = p_up e (f_z F (ix e)) (p_all F M d (f_z F (ix e)) (s_st (s_st c2 e 3) (f_z F (ix e)) 0)) := by
        rw [hpe]
        have e1 : (if (0 : Int32) = 1 then (2 : Int32) else 3) = 3 := if_neg (by decide)
        have e2 : ¬ (0 : Int32) < 0 := by decide
        simp only [e1, if_neg e2, b1, b2]
      rw [hp]
      exact mid_tail (p1 := 0) (st := 3) (u_ph r2 (f_z F (ix e)) 0) hS ht hs hz hnez hsubz hpz (fun r2 h => hq1 r2 3 (by decide) h) (fun r2 h => hq2 r2 3 (by decide) h) hLz (mid_c hM ((fc_st (Or.inl rfl)).tr (fc_st (hsubz _ (Tr_self hz)))) rfl) (hs _ _ _ _ hM.2.1 (by decide)) (by rw [hq12 r2 hph, q_first_eq hpz]) ⟨rfl, rfl, rfl, rfl⟩ hM.2.1.1 (fr_ph (Or.inr (Tr_self hz))) (id_fresh hz hnez pk_us) st2 (fun _ => pk_us) (by omega) (Or.inl pk_us)
    · have hp : p_if F (p_all F M d) e c = (v, c2) := by rw [hpe]; simp only [if_pos hv]
      rw [hp]
      exact herr c2 v rfl rfl (hF1.tr (hFc.wk hsub)) (by omega)
  · rcases (Lv_19 hk).mp hL with ⟨h1, h2, p1, hL1, rfl⟩ | ⟨h1, h2, p1, hL1, rfl⟩
    · have hs0 : q_safe T (r, 0) := safe_of hT (by omega) hU (fun _ _ => Or.inr (Or.inr (Or.inl h2))) (fun h => by rw [hk] at h; simp at h)
      have b : p_branch F e c = f_y F (ix e) := if_pos h1
      have hp : p_if F (p_all F M d) e c = p_up e (f_y F (ix e)) (p_all F M d (f_y F (ix e)) c) := by simp [p_if, h1, b]
      rw [hp]
      exact mid_tail (st := 2) r hS ht hs hy hney hsuby hpy (fun r2 h => hq1 r2 2 (by decide) h) (fun r2 h => hq2 r2 2 (by decide) h) hLy (mid_0 hU) hs0 (by rw [hq0, h2]; rfl) ⟨rfl, rfl, rfl, rfl⟩ hU.1 FrR.rf (id_live hney hL1 FrC.rf) h1 (fun h => absurd (h.symm.trans h1) (by decide)) (by omega) (Or.inr (by omega))
    · have hs0 : q_safe T (r, 0) := safe_of hT (by omega) hU (fun _ _ => Or.inr (Or.inr (Or.inr h2))) (fun h => by rw [hk] at h; simp at h)
      have b : p_branch F e c = f_z F (ix e) := if_neg (by rw [h1]; decide)
      have hp : p_if F (p_all F M d) e c = p_up e (f_z F (ix e)) (p_all F M d (f_z F (ix e)) c) := by simp [p_if, h1, b]
      rw [hp]
      exact mid_tail (st := 3) r hS ht hs hz hnez hsubz hpz (fun r2 h => hq1 r2 3 (by decide) h) (fun r2 h => hq2 r2 3 (by decide) h) hLz (mid_0 hU) hs0 (by rw [hq0, h2]; rfl) ⟨rfl, rfl, rfl, rfl⟩ hU.1 FrR.rf (id_live hnez hL1 FrC.rf) h1 (fun h => absurd (h.symm.trans h1) (by decide)) (by omega) (Or.inr (by omega))
end
section
/-! The loop over pairs, as both sides go through it. -/
def Prt (F : zF) (T : zT) (d : Nat) (e i x : Int32) : Prop := Tr F T d x ∧ t_p T (ix (3 * e + i)) = x ∧ ¬ Sb F d x (ix e) ∧ ∀ j, Sb F d x j → Sb F (d + 1) e j
/-- how the machine keeps the result of x in mind -/
def Mem (F : zF) (T : zT) (f t : Nat) (e : Int32) (mm : zR → zR) (MO : zR → Int32 → Prop) : Prop :=
  (∀ r, Ro r (mm r) ∧ (Nm F r → Nm F (mm r)) ∧ FrR (fun j => j = ix e) r (mm r) ∧ r_gv (mm r) = r_gv r ∧ MO (mm r) (r_gv r)) ∧ (∀ r r' v, r_nm r' (ix e) = r_nm r (ix e) → r_kp r' (3 * ix e) = r_kp r (3 * ix e) → MO r v → MO r' v) ∧
  (∀ r, r_ph r (ix e) = 1 → q_step T e 1 r = q_first T e 1 2 (mm r)) ∧ (∀ r, r_ph r (ix e) = 2 → q_step T e 2 r = q_ask T e 0 1 r) ∧ ∀ c r n w, zUp F f t e c r n → ¬ w = 0 → r_ph r (ix e) = 1 ∨ r_ph r (ix e) = 2 ∨ r_ph r (ix e) = 3 → q_safe T (r, w)
/-- what the loop comes to, from the way's state at n1, m1, with p1 laid by -/
def PairedS (sl : Nat) (F : zF) (T : zT) (f d t : Nat) (e : Int32) (MO : zR → Int32 → Prop) (c : zC) (r : zR) (p n n1 m1 p1 : Nat) (fr : Prop) (q : Int32 × zC) : Prop :=
  FrC (Sb F (d + 1) e) c q.2 ∧
  ((q.1 = 1 ∧ ∃ n2 m2 r2 px py, n1 < n2 ∧ Mid F T f d t e c r n q.2 r2 1 n2 m2 ∧ r_ph r2 (ix e) = 2 ∧ c_st q.2 (ix e) = 2 ∧ MO r2 (c_rs q.2 (ix (f_x F (ix e)))) ∧ r_gv r2 = c_rs q.2 (ix (f_y F (ix e))) ∧ Lv F d (f_x F (ix e)) q.2 r2 px ∧ Lv F d (f_y F (ix e)) q.2 r2 py ∧ m2 + px + py + sl + zK d n1 + 10 * n1 ≤ m1 + p1 + zK d n2 + 10 * n2) ∨
   (q.1 = 0 ∧ ∃ n2 m2 r2, n1 ≤ n2 ∧ (fr → n1 < n2) ∧ Mid F T f d t e c r n q.2 r2 2 n2 m2 ∧ r_ph r2 (ix e) = 1 ∧ m2 + sl + zK d n1 + 10 * n1 ≤ m1 + p1 + zK d n2 + 10 * n2 + 2) ∨
   (q.1 < 0 ∧ ∀ c3, c_g c3 = c_g q.2 → FrC (Sb F (d + 1) e) c c3 → Out F T f (d + 1) t e c r p n (q.1, c3)))
def Paired (F : zF) (T : zT) (f d t : Nat) (e : Int32) (MO : zR → Int32 → Prop) (c : zC) (r : zR) (p n n1 m1 p1 : Nat) (fr : Prop) (q : Int32 × zC) : Prop := PairedS 0 F T f d t e MO c r p n n1 m1 p1 fr q
theorem pS_0 {F : zF} {T : zT} {f d t : Nat} {e : Int32} {MO : zR → Int32 → Prop} {c : zC} {r : zR} {p n n1 m1 p1 : Nat} {fr : Prop} {q : Int32 × zC} (h : PairedS 1 F T f d t e MO c r p n n1 m1 p1 fr q) : Paired F T f d t e MO c r p n n1 m1 p1 fr q := by
  obtain ⟨hF9, ⟨h1, n9, m9, r9, px, py, h2, h3, h4, h5, h6, h7, h8, h9, hb9⟩ | ⟨h1, n9, m9, r9, h2, h3, h4, h5, hb9⟩ | ⟨h1, h2⟩⟩ := h
  · exact ⟨hF9, Or.inl ⟨h1, n9, m9, r9, px, py, h2, h3, h4, h5, h6, h7, h8, h9, by omega⟩⟩
  · exact ⟨hF9, Or.inr (Or.inl ⟨h1, n9, m9, r9, h2, h3, h4, h5, by omega⟩)⟩
  · exact ⟨hF9, Or.inr (Or.inr ⟨h1, h2⟩)⟩
/-- x is asked next -/
theorem pair_X1 {F : zF} {T : zT} {M f d t n p : Nat} {e : Int32} {c : zC} {r : zR} {mm : zR → zR} {MO : zR → Int32 → Prop} (hS : zSim F T M f d) (ht : t + (d + 1) < 16) (hX : Prt F T d e 0 (f_x F (ix e))) (hY : Prt F T d e 1 (f_y F (ix e))) (hD : ∀ j, Sb F d (f_x F (ix e)) j → ¬ Sb F d (f_y F (ix e)) j) (hm : Mem F T f t e mm MO) :
    ∀ (τ : Nat) (c1 : zC) (r1 r0 : zR) (w : Int32) (n1 m1 p1 : Nat), Mid F T f d t e c r n c1 r1 w n1 m1 → f + 1 ≤ n1 + τ → ¬ c_st c1 (ix e) = 2 → q_safe T (r1, w) → q_step T e w r1 = q_ask T e 0 1 r0 → Ro r1 r0 → Nm F r0 → FrR (fun j => j = ix e ∨ Sb F d (f_x F (ix e)) j) r1 r0 → Idl F d (f_x F (ix e)) (p_x1 F e c1) (pu r0 e 1 t (f_x F (ix e))) p1 → m1 + p1 + zK d n + 20 * n ≤ p + zK d n1 + 20 * n1 + 3 →
      PairedS 1 F T f d t e MO c r p n n1 m1 p1 (c_st c1 (ix e) = 0) (p_pairL F (p_all F M d) e τ c1) := by
  intro τ
  induction τ with
  | zero =>
    intro c1 r1 r0 w n1 m1 p1 hM hτ hst hs hq hR hN hF hI hE
    have := hM.2.1.2.2.1.2.1
    omega
  | succ τ ihτ =>
    intro c1 r1 r0 w n1 m1 p1 hM hτ hst hs hq hR hN hF hI hE
    obtain ⟨hx, hpx, hne, hsub⟩ := hX
    obtain ⟨hy, hpy, hney, hsuby⟩ := hY
    have hxe : ix (f_x F (ix e)) ≠ ix e := ne_of hx hne
    have hye : ix (f_y F (ix e)) ≠ ix e := ne_of hy hney
    have hxy : ¬ Sb F d (f_y F (ix e)) (ix (f_x F (ix e))) := hD _ (Tr_self hx)
    have hM1 := mid_c hM (x1_F (D := Sb F (d + 1) e) (Or.inl rfl) (hsub _ (Tr_self hx))) (x1_g F e c1)
    have hA := mid_ask (p := p) r0 hS ht hM1 hs hx hne hsub hq hpx hR hN hF hI
    have hpe : p_pairL F (p_all F M d) e (τ + 1) c1 = (let q := p_all F M d (f_x F (ix e)) (p_x1 F e c1); if q.1 = 1 then
        let q2 := p_all F M d (f_y F (ix e)) (s_st (s_st q.2 e 2) (f_y F (ix e)) 0)
        if q2.1 = 0 then p_pairL F (p_all F M d) e τ (s_st q2.2 e 1) else q2
      else q) := by
      show (if c_st c1 (ix e) = 2 then _ else _) = _
      rw [if_neg hst]; rfl
    generalize p_all F M d (f_x F (ix e)) (p_x1 F e c1) = q at hA hpe
    obtain ⟨v, c2⟩ := q
    obtain ⟨hFc, ⟨hv, n2, m2, r2, p3, hn, hM2, hph, -, -, -, -, hFr, hgv, hL, hb⟩ | ⟨hv, n2, m2, r2, hn, hfr, hM2, hph, -, -, -, -, hFr, hb⟩ | ⟨hv, n2, hn, herr⟩⟩ := hA
    · dsimp only at hv; subst hv
      simp only [if_true] at hpe
      obtain ⟨hmr, hmn, hmf, hmg, hmo⟩ := hm.1 r2
      have hF3 : FrC (Sb F (d + 1) e) c2 (s_st (s_st c2 e 2) (f_y F (ix e)) 0) := (fc_st (Or.inl rfl)).tr (fc_st (hsuby _ (Tr_self hy)))
      have hst3 : c_st (s_st (s_st c2 e 2) (f_y F (ix e)) 0) (ix e) = 2 := (pk_un (Ne.symm hye)).trans pk_us
      have hst0 : c_st (s_st (s_st c2 e 2) (f_y F (ix e)) 0) (ix (f_y F (ix e))) = 0 := pk_us
      have hB := mid_ask (p := p) (p1 := 0) (u_ph (mm r2) (f_y F (ix e)) 0) hS ht (mid_c hM2 hF3 rfl) (hm.2.2.2.2 _ _ _ _ hM2.2.1 (by decide) (Or.inl hph)) hy hney hsuby (by rw [hm.2.2.1 r2 hph, q_first_eq hpy]) hpy hmr (hmn hM2.2.1.1) ((hmf.wk fun _ h => Or.inl h).tr (fr_ph (Or.inr (Tr_self hy)))) (id_fresh hy hney hst0)
      generalize p_all F M d (f_y F (ix e)) (s_st (s_st c2 e 2) (f_y F (ix e)) 0) = q at hB hpe
      obtain ⟨v, c4⟩ := q
      -- x keeps its state while y is asked
      have keep : ∀ r4 : zR, FrC (Sb F d (f_y F (ix e))) (s_st (s_st c2 e 2) (f_y F (ix e)) 0) c4 → FrR (fun j => j = ix e ∨ Sb F d (f_y F (ix e)) j) r2 r4 → Lv F d (f_x F (ix e)) c4 r4 p3 ∧ c_rs c4 (ix (f_x F (ix e))) = c_rs c2 (ix (f_x F (ix e))) := fun r4 hC hR4 => by
        have hC' : FrC (fun j => j = ix e ∨ Sb F d (f_y F (ix e)) j) c2 c4 := ((fc_st (Or.inl rfl)).tr (fc_st (Or.inr (Tr_self hy)))).tr (hC.wk fun _ h => Or.inr h)
        have hout : ∀ j, Sb F d (f_x F (ix e)) j → ¬ (j = ix e ∨ Sb F d (f_y F (ix e)) j) := fun j hj h => by
          rcases h with h | h
          · exact hne (h ▸ hj)
          · exact hD j hj h
        exact ⟨Lv_cong d _ _ (Ag.of hC' hR4 hout hout) hL, (hC' _ (hout _ (Tr_self hx))).2.1⟩
      obtain ⟨hFd, ⟨hv, n3, m3, r3, p4, hn3, hM3, hph3, hnm3, hk3, -, -, hFr3, hgv3, hL3, hb3⟩ | ⟨hv, n3, m3, r3, hn3, hfr3, hM3, hph3, -, -, -, -, hFr3, hb3⟩ | ⟨hv, n3, hn3, herr⟩⟩ := hB
      · dsimp only at hv; subst hv
        have hp : p_pairL F (p_all F M d) e (τ + 1) c1 = (1, c4) := by rw [hpe]; simp
        obtain ⟨hLx, hrs⟩ := keep r3 hFd hFr3
        rw [hp]
        refine ⟨hM3.2.2.2.1, Or.inl ⟨rfl, n3, _, r3, p3, p4, by omega, hM3, hph3, (hFd _ hney).1.trans hst3, ?_, hgv3, hLx, hL3, by omega⟩⟩
        rw [hrs, ← hgv]
        exact hm.2.1 (mm r2) r3 _ hnm3 hk3 hmo
      · dsimp only at hv; subst hv
        have hn4 := hfr3 hst0
        have hp : p_pairL F (p_all F M d) e (τ + 1) c1 = p_pairL F (p_all F M d) e τ (s_st c4 e 1) := by rw [hpe]; simp
        obtain ⟨hLx, -⟩ := keep r3 hFd hFr3
        have hst5 : c_st (s_st c4 e 1) (ix e) = 1 := pk_us
        have hI5 : Idl F d (f_x F (ix e)) (p_x1 F e (s_st c4 e 1)) (pu r3 e 1 t (f_x F (ix e))) p3 := by
          unfold p_x1; rw [if_neg (by rw [hst5]; decide)]
          exact id_live hne hLx ((fc_st (D := fun j => j = ix e) rfl).tr (fc_st (D := fun j => j = ix e) rfl))
        have ih := ihτ (s_st c4 e 1) r3 r3 2 n3 _ p3 (mid_c hM3 (fc_st (Or.inl rfl)) rfl) (by omega) (by rw [hst5]; decide) (hm.2.2.2.2 _ _ _ _ hM3.2.1 (by decide) (Or.inr (Or.inl hph3))) (hm.2.2.2.1 r3 hph3) ⟨rfl, rfl, rfl, rfl⟩ hM3.2.1.1 FrR.rf hI5 (by omega)
        rw [hp]
        generalize p_pairL F (p_all F M d) e τ (s_st c4 e 1) = q at ih
        obtain ⟨hF9, ⟨h1, n9, m9, r9, px, py, h2, h3, h4, h5, h6, h7, h8, h9, hb9⟩ | ⟨h1, n9, m9, r9, h2, h3, h4, h5, hb9⟩ | ⟨h1, h2⟩⟩ := ih
        · exact ⟨hF9, Or.inl ⟨h1, n9, m9, r9, px, py, by omega, h3, h4, h5, h6, h7, h8, h9, by omega⟩⟩
        · exact ⟨hF9, Or.inr (Or.inl ⟨h1, n9, m9, r9, by omega, fun _ => by omega, h4, h5, by omega⟩)⟩
        · exact ⟨hF9, Or.inr (Or.inr ⟨h1, h2⟩)⟩
      · have hp : p_pairL F (p_all F M d) e (τ + 1) c1 = (v, c4) := by rw [hpe]; simp [neg0 hv]
        rw [hp]
        exact ⟨(hM2.2.2.2.1.tr hF3).tr (hFd.wk hsuby), Or.inr (Or.inr ⟨hv, fun c3 hg hF9 => herr c3 v hg rfl hF9 (by omega)⟩)⟩
    · dsimp only at hv; subst hv
      have hp : p_pairL F (p_all F M d) e (τ + 1) c1 = (0, c2) := by rw [hpe]; simp
      rw [hp]
      exact ⟨hM2.2.2.2.1, Or.inr (Or.inl ⟨rfl, n2, _, r2, hn, fun h => hfr (x1_f hxe h), hM2, hph, by omega⟩)⟩
    · have hp : p_pairL F (p_all F M d) e (τ + 1) c1 = (v, c2) := by rw [hpe]; simp [neg1 hv]
      rw [hp]
      exact ⟨hM1.2.2.2.1.tr (hFc.wk hsub), Or.inr (Or.inr ⟨hv, fun c3 hg hF9 => herr c3 v hg rfl hF9 (by omega)⟩)⟩
theorem pair_X {F : zF} {T : zT} {M f d t n p : Nat} {e : Int32} {c : zC} {r : zR} {mm : zR → zR} {MO : zR → Int32 → Prop} (hS : zSim F T M f d) (ht : t + (d + 1) < 16) (hX : Prt F T d e 0 (f_x F (ix e))) (hY : Prt F T d e 1 (f_y F (ix e))) (hD : ∀ j, Sb F d (f_x F (ix e)) j → ¬ Sb F d (f_y F (ix e)) j) (hm : Mem F T f t e mm MO) :
    ∀ (τ : Nat) (c1 : zC) (r1 r0 : zR) (w : Int32) (n1 m1 p1 : Nat), Mid F T f d t e c r n c1 r1 w n1 m1 → f + 1 ≤ n1 + τ → ¬ c_st c1 (ix e) = 2 → q_safe T (r1, w) → q_step T e w r1 = q_ask T e 0 1 r0 → Ro r1 r0 → Nm F r0 → FrR (fun j => j = ix e ∨ Sb F d (f_x F (ix e)) j) r1 r0 → Idl F d (f_x F (ix e)) (p_x1 F e c1) (pu r0 e 1 t (f_x F (ix e))) p1 → m1 + p1 + zK d n + 20 * n ≤ p + zK d n1 + 20 * n1 + 3 →
      Paired F T f d t e MO c r p n n1 m1 p1 (c_st c1 (ix e) = 0) (p_pairL F (p_all F M d) e τ c1) :=
  fun τ c1 r1 r0 w n1 m1 p1 a1 a2 a3 a4 a5 a6 a7 a8 a9 a10 => pS_0 (pair_X1 hS ht hX hY hD hm τ c1 r1 r0 w n1 m1 p1 a1 a2 a3 a4 a5 a6 a7 a8 a9 a10)
/-- y is asked next -/
theorem pair_Y {F : zF} {T : zT} {M f d t n p : Nat} {e : Int32} {c : zC} {r : zR} {mm : zR → zR} {MO : zR → Int32 → Prop} (hS : zSim F T M f d) (ht : t + (d + 1) < 16) (hX : Prt F T d e 0 (f_x F (ix e))) (hY : Prt F T d e 1 (f_y F (ix e))) (hD : ∀ j, Sb F d (f_x F (ix e)) j → ¬ Sb F d (f_y F (ix e)) j) (hm : Mem F T f t e mm MO)
    (τ : Nat) (c1 : zC) (r1 : zR) (w : Int32) (n1 m1 px py : Nat) (hM : Mid F T f d t e c r n c1 r1 w n1 m1) (hτ : f + 1 ≤ n1 + τ) (hst : c_st c1 (ix e) = 2) (hs : q_safe T (r1, w)) (hq : q_step T e w r1 = q_ask T e 1 2 r1) (hLx : Lv F d (f_x F (ix e)) c1 r1 px) (hLy : Lv F d (f_y F (ix e)) c1 r1 py) (hmo : MO r1 (c_rs c1 (ix (f_x F (ix e))))) (hE : m1 + px + py + zK d n + 20 * n ≤ p + zK d n1 + 20 * n1 + 2) :
      Paired F T f d t e MO c r p n n1 m1 (px + py) False (p_pairL F (p_all F M d) e (τ + 1) c1) := by
  obtain ⟨hx, hpx, hne, hsub⟩ := hX
  obtain ⟨hy, hpy, hney, hsuby⟩ := hY
  have hA := mid_ask (p := p) r1 hS ht hM hs hy hney hsuby hq hpy ⟨rfl, rfl, rfl, rfl⟩ hM.2.1.1 FrR.rf (id_live hney hLy FrC.rf)
  have hpe : p_pairL F (p_all F M d) e (τ + 1) c1 = (let q := p_all F M d (f_y F (ix e)) c1; if q.1 = 0 then p_pairL F (p_all F M d) e τ (s_st q.2 e 1) else q) := by
    show (if c_st c1 (ix e) = 2 then _ else _) = _
    rw [if_pos hst]
  generalize p_all F M d (f_y F (ix e)) c1 = q at hA hpe
  obtain ⟨v, c4⟩ := q
  have keep : ∀ r4 : zR, FrC (Sb F d (f_y F (ix e))) c1 c4 → FrR (fun j => j = ix e ∨ Sb F d (f_y F (ix e)) j) r1 r4 → Lv F d (f_x F (ix e)) c4 r4 px ∧ c_rs c4 (ix (f_x F (ix e))) = c_rs c1 (ix (f_x F (ix e))) := fun r4 hC hR4 => by
    have hout : ∀ j, Sb F d (f_x F (ix e)) j → ¬ (j = ix e ∨ Sb F d (f_y F (ix e)) j) := fun j hj h => by
      rcases h with h | h
      · exact hne (h ▸ hj)
      · exact hD j hj h
    exact ⟨Lv_cong d _ _ (Ag.of hC hR4 (fun j hj => hD j hj) hout) hLx, (hC _ (hD _ (Tr_self hx))).2.1⟩
  obtain ⟨hFd, ⟨hv, n3, m3, r3, p4, hn3, hM3, hph3, hnm3, hk3, -, -, hFr3, hgv3, hL3, hb3⟩ | ⟨hv, n3, m3, r3, hn3, hfr3, hM3, hph3, -, -, -, -, hFr3, hb3⟩ | ⟨hv, n3, hn3, herr⟩⟩ := hA
  · dsimp only at hv; subst hv
    have hp : p_pairL F (p_all F M d) e (τ + 1) c1 = (1, c4) := by rw [hpe]; simp
    obtain ⟨hLx4, hrs⟩ := keep r3 hFd hFr3
    rw [hp]
    refine ⟨hM3.2.2.2.1, Or.inl ⟨rfl, n3, _, r3, px, p4, hn3, hM3, hph3, (hFd _ hney).1.trans hst, ?_, hgv3, hLx4, hL3, by omega⟩⟩
    rw [hrs]
    exact hm.2.1 r1 r3 _ hnm3 hk3 hmo
  · dsimp only at hv; subst hv
    have hp : p_pairL F (p_all F M d) e (τ + 1) c1 = p_pairL F (p_all F M d) e τ (s_st c4 e 1) := by rw [hpe]; simp
    obtain ⟨hLx4, -⟩ := keep r3 hFd hFr3
    have hst5 : c_st (s_st c4 e 1) (ix e) = 1 := pk_us
    have hI5 : Idl F d (f_x F (ix e)) (p_x1 F e (s_st c4 e 1)) (pu r3 e 1 t (f_x F (ix e))) px := by
      unfold p_x1; rw [if_neg (by rw [hst5]; decide)]
      exact id_live hne hLx4 ((fc_st (D := fun j => j = ix e) rfl).tr (fc_st (D := fun j => j = ix e) rfl))
    have ih := pair_X1 hS ht ⟨hx, hpx, hne, hsub⟩ ⟨hy, hpy, hney, hsuby⟩ hD hm (n := n) (p := p) (c := c) (r := r) τ (s_st c4 e 1) r3 r3 2 n3 _ px (mid_c hM3 (fc_st (Or.inl rfl)) rfl) (by omega) (by rw [hst5]; decide) (hm.2.2.2.2 _ _ _ _ hM3.2.1 (by decide) (Or.inr (Or.inl hph3))) (hm.2.2.2.1 r3 hph3) ⟨rfl, rfl, rfl, rfl⟩ hM3.2.1.1 FrR.rf hI5 (by omega)
    rw [hp]
    generalize p_pairL F (p_all F M d) e τ (s_st c4 e 1) = q at ih
    obtain ⟨hF9, ⟨h1, n9, m9, r9, px9, py9, h2, h3, h4, h5, h6, h7, h8, h9, hb9⟩ | ⟨h1, n9, m9, r9, h2, h3, h4, h5, hb9⟩ | ⟨h1, h2⟩⟩ := ih
    · exact ⟨hF9, Or.inl ⟨h1, n9, m9, r9, px9, py9, by omega, h3, h4, h5, h6, h7, h8, h9, by omega⟩⟩
    · exact ⟨hF9, Or.inr (Or.inl ⟨h1, n9, m9, r9, by omega, fun h => h.elim, h4, h5, by omega⟩)⟩
    · exact ⟨hF9, Or.inr (Or.inr ⟨h1, h2⟩)⟩
  · have hp : p_pairL F (p_all F M d) e (τ + 1) c1 = (v, c4) := by rw [hpe]; simp [neg0 hv]
    rw [hp]
    exact ⟨hM.2.2.2.1.tr (hFd.wk hsuby), Or.inr (Or.inr ⟨hv, fun c3 hg hF9 => herr c3 v hg rfl hF9 (by omega)⟩)⟩
end
section
/-! Kinds over pairs: AND, PLUS, MINUS, TIMES, LESS, EQUAL, OTHER. -/
def m_pr (e : Int32) (r : zR) : zR := u_kp r (3 * e) (r_gv r).toInt64
def m_po (e : Int32) (r : zR) (v : Int32) : Prop := r_kp r (3 * ix e) = v.toInt64
def K7 (k : Int32) : Prop := k = 7 ∨ k = 8 ∨ k = 9 ∨ k = 10 ∨ k = 11 ∨ k = 12 ∨ k = 13
theorem pr_mem {F : zF} {T : zT} {f d t : Nat} {e : Int32} (hT : Tr F T (d + 1) e) (hk : K7 (f_k F (ix e))) (ht : t + (d + 1) < 16) : Mem F T f t e (m_pr e) (m_po e) := by
  refine ⟨fun r => ⟨⟨rfl, rfl, rfl, rfl⟩, fun h => h, fr_kp (k := ix e) (b := 0) rfl (by decide) (ix_30 hT.1), rfl, ?_⟩, fun r r' v _ h2 h3 => h2.trans h3, fun r h => ?_, fun r h => ?_, fun c r n w hU hw _ => ?_⟩
  · show vp_updL (r_kp r) (ix (3 * e)) (r_gv r).toInt64 (3 * ix e) = _
    rw [ix_30 hT.1]; exact pk_uLs
  · rcases hk with k | k | k | k | k | k | k <;> simp [q_step, q_pair, hT.2.2.1, k, t_kc, h, m_pr]
  · rcases hk with k | k | k | k | k | k | k <;> simp [q_step, q_pair, hT.2.2.1, k, t_kc, h]
  · refine safe_of hT (by omega) hU (fun h => ?_) (fun h => ?_) <;> rcases hk with k | k | k | k | k | k | k <;> rw [k] at h <;> simp at h
theorem pr_lv {F : zF} {d : Nat} {e : Int32} {c : zC} {r : zR} {p : Nat} (hk : K7 (f_k F (ix e))) : Lv F (d + 1) e c r p ↔ (c_st c (ix e) = 2 ∧ r_ph r (ix e) = 2 ∧ r_kp r (3 * ix e) = (c_rs c (ix (f_x F (ix e)))).toInt64 ∧ ∃ p1 p2, Lv F d (f_x F (ix e)) c r p1 ∧ Lv F d (f_y F (ix e)) c r p2 ∧ p = p1 + p2 + 4) := by
  rcases hk with k | k | k | k | k | k | k
  · exact Lv_7 k
  · exact Lv_8 k
  · exact Lv_9 k
  · exact Lv_10 k
  · exact Lv_11 k
  · exact Lv_12 k
  · exact Lv_13 k
theorem pr_parts {F : zF} {T : zT} {d : Nat} {e : Int32} (hT : Tr F T (d + 1) e) (a2 : 2 ≤ f_a F e) : Prt F T d e 0 (f_x F (ix e)) ∧ Prt F T d e 1 (f_y F (ix e)) ∧ ∀ j, Sb F d (f_x F (ix e)) j → ¬ Sb F d (f_y F (ix e)) j := by
  have a1 : 1 ≤ f_a F e := by omega
  obtain ⟨hx, hpx, hne⟩ := hT.2.2.2.2.1 a1
  obtain ⟨hy, hpy, hney, hD⟩ := hT.2.2.2.2.2.1 a2
  exact ⟨⟨hx, hpx, hne, fun j h => Or.inr (Or.inl ⟨a1, h⟩)⟩, ⟨hy, hpy, hney, fun j h => Or.inr (Or.inr (Or.inl ⟨a2, h⟩))⟩, hD⟩
theorem k7_a {F : zF} {e : Int32} (hk : K7 (f_k F (ix e))) : 2 ≤ f_a F e := by rcases hk with k | k | k | k | k | k | k <;> simp [f_a, k]
/-- the first run of the loop when e is asked -/
theorem pr_start {F : zF} {T : zT} {M f d t n p : Nat} {e : Int32} {c : zC} {r : zR} (hO : Ok F T M f) (hS : zSim F T M f d) (hT : Tr F T (d + 1) e) (hk : K7 (f_k F (ix e))) (ht : t + (d + 1) < 16) (hU : zUp F f t e c r n) (hI : Idl F (d + 1) e c r p) :
    ∃ p1 p2, p = p1 + p2 ∧ (c_st c (ix e) = 0 ∧ p2 = 0 ∨ ¬ c_st c (ix e) = 0 ∧ p2 = 4) ∧ Paired F T f d t e (m_po e) c r p n n 0 p1 (c_st c (ix e) = 0) (p_pairL F (p_all F M d) e M c) := by
  obtain ⟨hX, hY, hD⟩ := pr_parts hT (k7_a hk)
  have hm := pr_mem (f := f) hT hk ht
  obtain ⟨-, -, hf, hMM⟩ := hO
  have hs : q_safe T (r, 0) := safe_of hT (by omega) hU (fun h => by rcases hk with k | k | k | k | k | k | k <;> rw [k] at h <;> simp at h) (fun h => by rcases hk with k | k | k | k | k | k | k <;> rw [k] at h <;> simp at h)
  have hq0 : q_step T e 0 r = if r_ph r (ix e) = 0 then q_first T e 0 1 r else q_ask T e 1 2 r := by
    rcases hk with k | k | k | k | k | k | k <;> simp [q_step, q_pair, hT.2.2.1, k, t_kc]
  rcases hI with ⟨h1, h2, rfl⟩ | hL
  · refine ⟨0, 0, rfl, Or.inl ⟨h1, rfl⟩, ?_⟩
    have hxe : ix (f_x F (ix e)) ≠ ix e := ne_of hX.1 hX.2.2.1
    exact pair_X hS ht hX hY hD hm M c r (u_ph r (f_x F (ix e)) 0) 0 n 0 0 (mid_0 hU) (by omega) (by rw [h1]; decide) hs (by rw [hq0, if_pos h2, q_first_eq hX.2.1]) ⟨rfl, rfl, rfl, rfl⟩ hU.1 (fr_ph (Or.inr (Tr_self hX.1))) (id_fresh hX.1 hX.2.2.1 (x1_f hxe h1)) (by omega)
  · obtain ⟨h1, h2, h3, px, py, hLx, hLy, rfl⟩ := (pr_lv hk).mp hL
    have h10 : ¬ c_st c (ix e) = 0 := by rw [h1]; decide
    refine ⟨px + py, 4, by omega, Or.inr ⟨h10, rfl⟩, ?_⟩
    obtain ⟨M', rfl⟩ : ∃ M', M = M' + 1 := ⟨M - 1, by omega⟩
    obtain ⟨hF9, ⟨g1, g2⟩ | ⟨g1, n2, m2, r2, g2, -, g3⟩ | g⟩ := pair_Y hS ht hX hY hD hm M' c r 0 n 0 px py (mid_0 hU) (by omega) h1 hs (by rw [hq0, h2]; rfl) hLx hLy h3 (p := px + py + 4) (by omega)
    · exact ⟨hF9, Or.inl ⟨g1, g2⟩⟩
    · exact ⟨hF9, Or.inr (Or.inl ⟨g1, n2, m2, r2, g2, fun h => absurd h h10, g3⟩)⟩
    · exact ⟨hF9, Or.inr (Or.inr g)⟩
/-- x failed: all fails -/
theorem pr_zero {F : zF} {T : zT} {f d t n p n2 m2 : Nat} {e : Int32} {c c2 : zC} {r r2 : zR} (hT : Tr F T (d + 1) e) (hk : K7 (f_k F (ix e))) (ht : t + (d + 1) < 16) (hM : Mid F T f d t e c r n c2 r2 2 n2 m2) (hph : r_ph r2 (ix e) = 1) (hn : c_st c (ix e) = 0 → n < n2) (hb : m2 + 1 + zK d n + 20 * n ≤ p + zK d n2 + 20 * n2) : Out F T f (d + 1) t e c r p n (0, c2) := by
  have hs := (pr_mem (f := f) hT hk ht).2.2.2.2 _ _ _ 2 hM.2.1 (by decide) (Or.inl hph)
  have hq : q_step T e 2 r2 = (0, r2) := by rcases hk with k | k | k | k | k | k | k <;> simp [q_step, q_pair, hT.2.2.1, k, t_kc, hph]
  refine mid_zero _ ht hM hs hq ⟨rfl, rfl, rfl, rfl⟩ hM.2.1.1 FrR.rf FrC.rf rfl hn ?_
  rw [zK_s, zK_s]; omega
/-- a pair gave a result v -/
theorem pr_one {F : zF} {T : zT} {f d t n p n2 m2 px py : Nat} {e v : Int32} {c c2 : zC} {r r2 : zR} (r0 : zR) (hT : Tr F T (d + 1) e) (hk : K7 (f_k F (ix e))) (ht : t + (d + 1) < 16) (hM : Mid F T f d t e c r n c2 r2 1 n2 m2) (hq : q_step T e 1 r2 = (1, r0)) (h0 : r0 = r2 ∧ r_gv r2 = v ∨ r0 = u_gv r2 v) (hph : r_ph r2 (ix e) = 2) (hst : c_st c2 (ix e) = 2) (hmo : m_po e r2 (c_rs c2 (ix (f_x F (ix e))))) (hLx : Lv F d (f_x F (ix e)) c2 r2 px) (hLy : Lv F d (f_y F (ix e)) c2 r2 py) (hn : n < n2)
    (hb : m2 + px + py + 5 + zK d n + 20 * n ≤ p + zK d n2 + 20 * n2) : Out F T f (d + 1) t e c r p n (1, s_rs c2 e v) := by
  obtain ⟨hX, hY, hD⟩ := pr_parts hT (k7_a hk)
  have hs := (pr_mem (f := f) hT hk ht).2.2.2.2 _ _ _ 1 hM.2.1 (by decide) (Or.inr (Or.inl hph))
  have hxe : ix (f_x F (ix e)) ≠ ix e := ne_of hX.1 hX.2.2.1
  have hr : FrR (fun _ => False) r2 r0 ∧ Ro r2 r0 ∧ r_gv r0 = v := by
    rcases h0 with ⟨rfl, h⟩ | rfl
    · exact ⟨FrR.rf, ⟨rfl, rfl, rfl, rfl⟩, h⟩
    · exact ⟨fr_gv, ⟨rfl, rfl, rfl, rfl⟩, rfl⟩
  obtain ⟨hr1, hr2, hr3⟩ := hr
  have hag : ∀ x : Int32, ¬ Sb F d x (ix e) → Ag (Sb F d x) c2 (s_rs c2 e v) r2 (u_tp r0 (nI t)) := fun x hx => Ag.of (D := fun j => j = ix e) (E := fun _ => False) (fc_rs (D := fun j => j = ix e) rfl) (hr1.tr fr_tp) (fun _ h q => hx (q ▸ h)) (fun _ _ q => q)
  have hN : Nm F r0 := fun j hj => ((hr1 j (fun q => q)).2.1).trans (hM.2.1.1 j hj)
  refine mid_one r0 ht hM hs hq ⟨hr2.2.1, hr2.2.2.1, hr2.2.2.2⟩ hN (hr2.1.trans hM.2.1.2.1) hM.2.1.2.2.1 (hr1.wk fun _ h => h.elim) (fc_rs (Or.inl rfl)) (hr3.trans (pk_us (f := c_rs c2)).symm) ((pr_lv hk).mpr ⟨hst, ((hr1 _ (fun q => q)).1).trans hph, ?_, px, py, Lv_cong d _ _ (hag _ hX.2.2.1) hLx, Lv_cong d _ _ (hag _ hY.2.2.1) hLy, rfl⟩) hn ?_
  · show r_kp r0 (3 * ix e) = (upd (c_rs c2) (ix e) v (ix (f_x F (ix e)))).toInt64
    rw [pk_un hxe, (hr1 _ (fun q => q)).2.2.1]
    exact hmo
  · rw [zK_s, zK_s]; omega
theorem sm_and {F : zF} {T : zT} {M f d t n p : Nat} {e : Int32} {c : zC} {r : zR} (hO : Ok F T M f) (hS : zSim F T M f d) (hT : Tr F T (d + 1) e) (hk : f_k F (ix e) = 7) (ht : t + (d + 1) < 16) (hU : zUp F f t e c r n) (hI : Idl F (d + 1) e c r p) : Out F T f (d + 1) t e c r p n (p_up e (f_y F (ix e)) (p_pairL F (p_all F M d) e M c)) := by
  have hk7 : K7 (f_k F (ix e)) := Or.inl hk
  obtain ⟨p1, p2, rfl, hp2, hP⟩ := pr_start hO hS hT hk7 ht hU hI
  generalize p_pairL F (p_all F M d) e M c = q at hP
  obtain ⟨v, c2⟩ := q
  obtain ⟨hF9, ⟨hv, n2, m2, r2, px, py, hn, hM, hph, hst, hmo, hgv, hLx, hLy, hb⟩ | ⟨hv, n2, m2, r2, hn, hfr, hM, hph, hb⟩ | ⟨hv, herr⟩⟩ := hP
  · dsimp only at hv; subst hv
    have hp : p_up e (f_y F (ix e)) ((1 : Int32), c2) = (1, s_rs c2 e (c_rs c2 (ix (f_y F (ix e))))) := by simp [p_up, p_give]
    rw [hp]
    exact pr_one r2 hT hk7 ht hM (by simp [q_step, q_pair, hT.2.2.1, hk, t_kc, hph]) (Or.inl ⟨rfl, hgv⟩) hph hst hmo hLx hLy hn (by omega)
  · dsimp only at hv; subst hv
    have hp : p_up e (f_y F (ix e)) ((0 : Int32), c2) = (0, c2) := by simp [p_up]
    rw [hp]
    refine pr_zero hT hk7 ht hM hph hfr ?_
    rcases hp2 with ⟨h0, h2⟩ | ⟨h0, h2⟩
    · have := hfr h0; omega
    · omega
  · have hp : p_up e (f_y F (ix e)) (v, c2) = (v, c2) := by simp [p_up, neg1 hv]
    rw [hp]
    exact herr c2 rfl hF9
theorem sm_arith {F : zF} {T : zT} {M f d t n p : Nat} {e : Int32} {c : zC} {r : zR} (hO : Ok F T M f) (hS : zSim F T M f d) (hT : Tr F T (d + 1) e) (hk : f_k F (ix e) = 8 ∨ f_k F (ix e) = 9 ∨ f_k F (ix e) = 10) (ht : t + (d + 1) < 16) (hU : zUp F f t e c r n) (hI : Idl F (d + 1) e c r p) : Out F T f (d + 1) t e c r p n (p_arith F (p_all F M d) M e c) := by
  have hk7 : K7 (f_k F (ix e)) := by
    rcases hk with k | k | k
    · exact Or.inr (Or.inl k)
    · exact Or.inr (Or.inr (Or.inl k))
    · exact Or.inr (Or.inr (Or.inr (Or.inl k)))
  obtain ⟨p1, p2, rfl, hp2, hP⟩ := pr_start hO hS hT hk7 ht hU hI
  have hpe : p_arith F (p_all F M d) M e c = (let q := p_pairL F (p_all F M d) e M c; if q.1 = 1 then
      let v := p_calc (f_k F (ix e)) (c_rs q.2 (ix (f_x F (ix e)))).toInt64 (c_rs q.2 (ix (f_y F (ix e)))).toInt64
      if v = v.toInt32.toInt64 then p_give e v.toInt32 q.2 else (-4, q.2) else q) := rfl
  generalize p_pairL F (p_all F M d) e M c = q at hP hpe
  obtain ⟨v, c2⟩ := q
  obtain ⟨hF9, ⟨hv, n2, m2, r2, px, py, hn, hM, hph, hst, hmo, hgv, hLx, hLy, hb⟩ | ⟨hv, n2, m2, r2, hn, hfr, hM, hph, hb⟩ | ⟨hv, herr⟩⟩ := hP
  · dsimp only at hv; subst hv
    generalize hz : p_calc (f_k F (ix e)) (c_rs c2 (ix (f_x F (ix e)))).toInt64 (c_rs c2 (ix (f_y F (ix e)))).toInt64 = z at hpe
    have hq1 : q_step T e 1 r2 = if z = z.toInt32.toInt64 then (1, u_gv r2 z.toInt32) else (0, u_er r2 (-4)) := by
      have hmo' : r_kp r2 (ix (3 * e)) = (c_rs c2 (ix (f_x F (ix e)))).toInt64 := by rw [ix_30 hT.1]; exact hmo
      rw [← hz]
      rcases hk with k | k | k <;> simp [q_step, q_pair, hT.2.2.1, k, t_kc, hph, hmo', hgv, p_calc, q_give]
    by_cases hfit : z = z.toInt32.toInt64
    · have hp : p_arith F (p_all F M d) M e c = (1, s_rs c2 e z.toInt32) := by
        rw [hpe]; simp only [if_true, hz]; rw [if_pos hfit]; rfl
      rw [if_pos hfit] at hq1
      rw [hp]
      exact pr_one _ hT hk7 ht hM hq1 (Or.inr rfl) hph hst hmo hLx hLy hn (by omega)
    · have hp : p_arith F (p_all F M d) M e c = (-4, c2) := by
        rw [hpe]; simp only [if_true, hz]; rw [if_neg hfit]
      rw [if_neg hfit] at hq1
      rw [hp]
      refine mid_bad ht hM ((pr_mem (f := f) hT hk7 ht).2.2.2.2 _ _ _ 1 hM.2.1 (by decide) (Or.inr (Or.inl hph))) hq1 rfl (by decide) hM.2.1.2.1 hM.2.1.2.2.1 FrC.rf ?_
      rw [zK_s, zK_s]; omega
  · dsimp only at hv; subst hv
    have hp : p_arith F (p_all F M d) M e c = (0, c2) := by rw [hpe]; simp
    rw [hp]
    refine pr_zero hT hk7 ht hM hph hfr ?_
    rcases hp2 with ⟨h0, h2⟩ | ⟨h0, h2⟩
    · have := hfr h0; omega
    · omega
  · have hp : p_arith F (p_all F M d) M e c = (v, c2) := by rw [hpe]; simp [neg1 hv]
    rw [hp]
    exact herr c2 rfl hF9
theorem i64_lt (a b : Int32) : a.toInt64 < b.toInt64 ↔ a < b := by
  rw [Int64.lt_iff_toInt_lt, Int32.lt_iff_toInt_lt, Int32.toInt_toInt64, Int32.toInt_toInt64]
theorem i64_eq (a b : Int32) : a.toInt64 = b.toInt64 ↔ a = b := by
  rw [← Int64.toInt_inj, ← Int32.toInt_inj, Int32.toInt_toInt64, Int32.toInt_toInt64]
theorem i64_0 (a : Int32) : (0 : Int64) < a.toInt64 ↔ 0 < a := i64_lt 0 a
/-- from a run of the loop on: the comparison holds, or the next run -/
theorem cmp_L {F : zF} {T : zT} {M f d t n p : Nat} {e : Int32} {c : zC} {r : zR} (hO : Ok F T M f) (hS : zSim F T M f d) (hT : Tr F T (d + 1) e) (hk : f_k F (ix e) = 11 ∨ f_k F (ix e) = 12 ∨ f_k F (ix e) = 13) (ht : t + (d + 1) < 16) :
    ∀ (τ : Nat) (c1 : zC) (n1 m1 p1 : Nat) (fr : Prop), Paired F T f d t e (m_po e) c r p n n1 m1 p1 fr (p_pairL F (p_all F M d) e M c1) → f ≤ n1 + τ → n ≤ n1 → (c_st c (ix e) = 0 → n < n1 ∨ fr) → m1 + p1 + zK d n + 13 * n ≤ p + zK d n1 + 13 * n1 → n < n1 ∨ fr ∨ m1 + p1 + 4 + zK d n + 13 * n ≤ p + zK d n1 + 13 * n1 →
      Out F T f (d + 1) t e c r p n (p_compL F (p_all F M d) M e (τ + 1) c1) := by
  have hk7 : K7 (f_k F (ix e)) := by
    rcases hk with k | k | k
    · exact Or.inr (Or.inr (Or.inr (Or.inr (Or.inl k))))
    · exact Or.inr (Or.inr (Or.inr (Or.inr (Or.inr (Or.inl k)))))
    · exact Or.inr (Or.inr (Or.inr (Or.inr (Or.inr (Or.inr k)))))
  obtain ⟨hX, hY, hD⟩ := pr_parts hT (k7_a hk7)
  have hm := pr_mem (f := f) hT hk7 ht
  intro τ
  induction τ with
  | zero =>
    intro c1 n1 m1 p1 fr hP hτ hn1 hfr1 hb1 hb2
    have hpe : p_compL F (p_all F M d) M e (0 + 1) c1 = (let q := p_pairL F (p_all F M d) e M c1; if q.1 = 1 then
        if p_holds (f_k F (ix e)) (c_rs q.2 (ix (f_x F (ix e)))) (c_rs q.2 (ix (f_y F (ix e)))) = true then p_give e (c_rs q.2 (ix (f_y F (ix e)))) q.2 else p_compL F (p_all F M d) M e 0 q.2 else q) := rfl
    generalize p_pairL F (p_all F M d) e M c1 = q at hP hpe
    obtain ⟨v, c2⟩ := q
    obtain ⟨hF9, ⟨hv, n2, m2, r2, px, py, hn, hM, hph, hst, hmo, hgv, hLx, hLy, hb⟩ | ⟨hv, n2, m2, r2, hn, hfr, hM, hph, hb⟩ | ⟨hv, herr⟩⟩ := hP
    · have := hM.2.1.2.2.1.2.1
      omega
    · dsimp only at hv; subst hv
      have hp : p_compL F (p_all F M d) M e (0 + 1) c1 = (0, c2) := by rw [hpe]; simp
      rw [hp]
      refine pr_zero hT hk7 ht hM hph (fun h => ?_) ?_
      · rcases hfr1 h with h | h
        · omega
        · have := hfr h; omega
      · rcases hb2 with h | h | h
        · omega
        · have := hfr h; omega
        · omega
    · have hp : p_compL F (p_all F M d) M e (0 + 1) c1 = (v, c2) := by rw [hpe]; simp [neg1 hv]
      rw [hp]
      exact herr c2 rfl hF9
  | succ τ ih =>
    intro c1 n1 m1 p1 fr hP hτ hn1 hfr1 hb1 hb2
    have hpe : p_compL F (p_all F M d) M e (τ + 1 + 1) c1 = (let q := p_pairL F (p_all F M d) e M c1; if q.1 = 1 then
        if p_holds (f_k F (ix e)) (c_rs q.2 (ix (f_x F (ix e)))) (c_rs q.2 (ix (f_y F (ix e)))) = true then p_give e (c_rs q.2 (ix (f_y F (ix e)))) q.2 else p_compL F (p_all F M d) M e (τ + 1) q.2 else q) := rfl
    generalize p_pairL F (p_all F M d) e M c1 = q at hP hpe
    obtain ⟨v, c2⟩ := q
    obtain ⟨hF9, ⟨hv, n2, m2, r2, px, py, hn, hM, hph, hst, hmo, hgv, hLx, hLy, hb⟩ | ⟨hv, n2, m2, r2, hn, hfr, hM, hph, hb⟩ | ⟨hv, herr⟩⟩ := hP
    · dsimp only at hv; subst hv
      simp only [if_true] at hpe
      have hq1 : q_step T e 1 r2 = if p_holds (f_k F (ix e)) (c_rs c2 (ix (f_x F (ix e)))) (c_rs c2 (ix (f_y F (ix e)))) = true then (1, r2) else q_ask T e 1 2 r2 := by
        have hmo' : r_kp r2 (ix (3 * e)) = (c_rs c2 (ix (f_x F (ix e)))).toInt64 := by rw [ix_30 hT.1]; exact hmo
        rcases hk with k | k | k <;> simp [q_step, q_pair, hT.2.2.1, k, t_kc, hph, hmo', hgv, p_holds, i64_lt, i64_eq]
      by_cases hh : p_holds (f_k F (ix e)) (c_rs c2 (ix (f_x F (ix e)))) (c_rs c2 (ix (f_y F (ix e)))) = true
      · rw [if_pos hh] at hq1
        have hp : p_compL F (p_all F M d) M e (τ + 1 + 1) c1 = (1, s_rs c2 e (c_rs c2 (ix (f_y F (ix e))))) := by rw [hpe, if_pos hh]; rfl
        rw [hp]
        exact pr_one r2 hT hk7 ht hM hq1 (Or.inl ⟨rfl, hgv⟩) hph hst hmo hLx hLy (by omega) (by omega)
      · rw [if_neg hh] at hq1
        have hp : p_compL F (p_all F M d) M e (τ + 1 + 1) c1 = p_compL F (p_all F M d) M e (τ + 1) c2 := by rw [hpe, if_neg hh]
        rw [hp]
        obtain ⟨M', rfl⟩ : ∃ M', M = M' + 1 := ⟨M - 1, by have := hO.2.2.2; omega⟩
        have hfO := hO.2.2
        have hY2 := pair_Y hS ht hX hY hD hm M' c2 r2 1 n2 m2 px py hM (by omega) hst (hm.2.2.2.2 _ _ _ 1 hM.2.1 (by decide) (Or.inr (Or.inl hph))) hq1 hLx hLy hmo (p := p) (by omega)
        exact ih c2 n2 m2 (px + py) False hY2 (by omega) (by omega) (fun _ => Or.inl (by omega)) (by omega) (Or.inl (by omega))
    · dsimp only at hv; subst hv
      have hp : p_compL F (p_all F M d) M e (τ + 1 + 1) c1 = (0, c2) := by rw [hpe]; simp
      rw [hp]
      refine pr_zero hT hk7 ht hM hph (fun h => ?_) ?_
      · rcases hfr1 h with h | h
        · omega
        · have := hfr h; omega
      · rcases hb2 with h | h | h
        · omega
        · have := hfr h; omega
        · omega
    · have hp : p_compL F (p_all F M d) M e (τ + 1 + 1) c1 = (v, c2) := by rw [hpe]; simp [neg1 hv]
      rw [hp]
      exact herr c2 rfl hF9
theorem sm_comp {F : zF} {T : zT} {M f d t n p : Nat} {e : Int32} {c : zC} {r : zR} (hO : Ok F T M f) (hS : zSim F T M f d) (hT : Tr F T (d + 1) e) (hk : f_k F (ix e) = 11 ∨ f_k F (ix e) = 12 ∨ f_k F (ix e) = 13) (ht : t + (d + 1) < 16) (hU : zUp F f t e c r n) (hI : Idl F (d + 1) e c r p) : Out F T f (d + 1) t e c r p n (p_compL F (p_all F M d) M e M c) := by
  have hk7 : K7 (f_k F (ix e)) := by
    rcases hk with k | k | k
    · exact Or.inr (Or.inr (Or.inr (Or.inr (Or.inl k))))
    · exact Or.inr (Or.inr (Or.inr (Or.inr (Or.inr (Or.inl k)))))
    · exact Or.inr (Or.inr (Or.inr (Or.inr (Or.inr (Or.inr k)))))
  obtain ⟨p1, p2, rfl, hp2, hP⟩ := pr_start hO hS hT hk7 ht hU hI
  have hM := hO.2.2
  have h := cmp_L hO hS hT hk ht (M - 1) c n 0 p1 _ hP (by omega) (Nat.le_refl _) (fun h => Or.inr h) (by omega) (by
    rcases hp2 with ⟨h0, h2⟩ | ⟨h0, h2⟩
    · exact Or.inr (Or.inl h0)
    · exact Or.inr (Or.inr (by omega)))
  rw [show M - 1 + 1 = M by omega] at h
  exact h
end
section
/-! LIMIT, EVERY and WHILE. -/
theorem pr_g {α β γ δ : Type} (a b : α) (t : β × γ × δ) : (a, t).2.2.2 = (b, t).2.2.2 := rfl
theorem cg_st (s : zC) (e v : Int32) : c_g (s_st s e v) = c_g s := pr_g (upd s.1 (ix e) v) s.1 s.2
theorem lim_q {F : zF} {T : zT} {d : Nat} {e : Int32} (hT : Tr F T (d + 1) e) (hk : f_k F (ix e) = 14) (w : Int32) (r : zR) : q_step T e w r = q_limit T e w r := by simp [q_step, q_binary, hT.2.2.1, hk, t_kc]
/-- the limit's number is asked next -/
theorem lim_B {F : zF} {T : zT} {M f d t n p : Nat} {e : Int32} {c : zC} {r : zR} (hS : zSim F T M f d) (hT : Tr F T (d + 1) e) (hk : f_k F (ix e) = 14) (ht : t + (d + 1) < 16) :
    ∀ (τ : Nat) (c1 : zC) (r1 r0 : zR) (w : Int32) (n1 m1 p1 : Nat), Mid F T f d t e c r n c1 r1 w n1 m1 → f + 1 ≤ n1 + τ → ¬ c_st c1 (ix e) = 1 → q_step T e w r1 = q_ask T e 1 1 r0 → Ro r1 r0 → Nm F r0 → FrR (fun j => j = ix e ∨ Sb F d (f_y F (ix e)) j) r1 r0 → Idl F d (f_y F (ix e)) (if c_st c1 (ix e) = 0 then s_st c1 (f_y F (ix e)) 0 else c1) (pu r0 e 1 t (f_y F (ix e))) p1 →
      (c_st c (ix e) = 0 → n < n1 ∨ c_st c1 (ix e) = 0) → m1 + p1 + zK d n + 13 * n ≤ p + zK d n1 + 13 * n1 + 1 → n < n1 ∨ c_st c1 (ix e) = 0 ∨ m1 + p1 + 2 + zK d n + 13 * n ≤ p + zK d n1 + 13 * n1 →
      Out F T f (d + 1) t e c r p n (p_limitL F (p_all F M d) e τ c1) := by
  have a2 : 2 ≤ f_a F e := by simp [f_a, hk]
  obtain ⟨⟨hx, hpx, hne, hsub⟩, ⟨hy, hpy, hney, hsuby⟩, hD⟩ := pr_parts hT a2
  have hxe : ix (f_x F (ix e)) ≠ ix e := ne_of hx hne
  have hye : ix (f_y F (ix e)) ≠ ix e := ne_of hy hney
  have hs : ∀ (c : zC) (r : zR) (n : Nat) (w : Int32), zUp F f t e c r n → q_safe T (r, w) := fun c r n w hU => safe_of hT (by omega) hU (fun h => by rw [hk] at h; simp at h) (fun h => by rw [hk] at h; simp at h)
  intro τ
  induction τ with
  | zero =>
    intro c1 r1 r0 w n1 m1 p1 hM hτ
    have := hM.2.1.2.2.1.2.1
    omega
  | succ τ ih =>
    intro c1 r1 r0 w n1 m1 p1 hM hτ hst hq hR hN hF hI hfr1 hb1 hb2
    have hFb : FrC (Sb F (d + 1) e) c1 (if c_st c1 (ix e) = 0 then s_st c1 (f_y F (ix e)) 0 else c1) := by
      split
      · exact fc_st (hsuby _ (Tr_self hy))
      · exact FrC.rf
    have hgb : c_g (if c_st c1 (ix e) = 0 then s_st c1 (f_y F (ix e)) 0 else c1) = c_g c1 := by split <;> rfl
    have hA := mid_ask (p := p) r0 hS ht (mid_c hM hFb hgb) (hs _ _ _ _ hM.2.1) hy hney hsuby hq hpy hR hN hF hI
    have hpe : p_limitL F (p_all F M d) e (τ + 1) c1 = (let q0 := p_all F M d (f_y F (ix e)) (if c_st c1 (ix e) = 0 then s_st c1 (f_y F (ix e)) 0 else c1)
        let q : Int32 × zC := (q0.1, s_ct q0.2 e (c_rs q0.2 (ix (f_y F (ix e)))).toInt64)
        if q.1 = 1 then
          let s1 := s_st (s_st q.2 e 1) (f_x F (ix e)) 0
          if 0 < c_ct s1 (ix e) then
            let q := p_all F M d (f_x F (ix e)) (s_ct s1 e (c_ct s1 (ix e) - 1))
            if q.1 = 0 then p_limitL F (p_all F M d) e τ (s_st q.2 e 2) else p_up e (f_x F (ix e)) q
          else p_limitL F (p_all F M d) e τ (s_st s1 e 2)
        else q) := by
      show (if c_st c1 (ix e) = 1 then _ else _) = _
      rw [if_neg hst]; rfl
    have hstb : c_st c1 (ix e) = 0 → c_st (if c_st c1 (ix e) = 0 then s_st c1 (f_y F (ix e)) 0 else c1) (ix (f_y F (ix e))) = 0 := fun h => by rw [if_pos h]; exact pk_us
    generalize (if c_st c1 (ix e) = 0 then s_st c1 (f_y F (ix e)) 0 else c1) = cb at hA hpe hFb hgb hstb
    generalize p_all F M d (f_y F (ix e)) cb = q at hA hpe
    obtain ⟨v, c2⟩ := q
    have hn0 := hM.2.2.2.2.2
    obtain ⟨hFc, ⟨hv, n2, m2, r2, p3, hn, hM2, hph, -, -, -, -, hFr, hgv, hL, hb⟩ | ⟨hv, n2, m2, r2, hn, hfr, hM2, hph, -, -, -, -, hFr, hb⟩ | ⟨hv, n2, hn, herr⟩⟩ := hA
    · dsimp only at hv; subst hv
      simp only [if_true] at hpe
      -- the state behind the number
      generalize hs1 : s_st (s_st (s_ct c2 e (c_rs c2 (ix (f_y F (ix e)))).toInt64) e 1) (f_x F (ix e)) 0 = s1 at hpe
      have hct : c_ct s1 (ix e) = (c_rs c2 (ix (f_y F (ix e)))).toInt64 := by rw [← hs1]; exact pk_uLs
      have hF1 : FrC (fun j => j = ix e ∨ Sb F d (f_x F (ix e)) j) c2 s1 := by rw [← hs1]; exact ((fc_ct (Or.inl rfl)).tr (fc_st (Or.inl rfl))).tr (fc_st (Or.inr (Tr_self hx)))
      have hin : ∀ j, (j = ix e ∨ Sb F d (f_x F (ix e)) j) → Sb F (d + 1) e j := fun j h => by
        rcases h with h | h
        · exact Or.inl h
        · exact hsub j h
      have hg1 : c_g s1 = c_g c2 := by rw [← hs1]; rfl
      have hst1 : c_st s1 (ix e) = 1 := by rw [← hs1]; exact (pk_un (Ne.symm hxe)).trans pk_us
      have hst1x : c_st s1 (ix (f_x F (ix e))) = 0 := by rw [← hs1]; exact pk_us
      have houty : ∀ j, Sb F d (f_y F (ix e)) j → ¬ (j = ix e ∨ Sb F d (f_x F (ix e)) j) := fun j hj h => by
        rcases h with h | h
        · exact hney (h ▸ hj)
        · exact hD j h hj
      have hq1 : q_step T e 1 r2 = if 0 < r_gv r2 then q_first T e 0 2 (u_kp r2 (3 * e) (r_gv r2).toInt64) else q_ask T e 1 1 (u_kp r2 (3 * e) (r_gv r2).toInt64) := by
        rw [lim_q hT hk]; simp [q_limit, hph]; rfl
      have hRk : Ro r2 (u_kp r2 (3 * e) (r_gv r2).toInt64) := ⟨rfl, rfl, rfl, rfl⟩
      have hFk : FrR (fun j => j = ix e) r2 (u_kp r2 (3 * e) (r_gv r2).toInt64) := fr_kp (k := ix e) (b := 0) rfl (by decide) (ix_30 hT.1)
      by_cases hpos : 0 < c_rs c2 (ix (f_y F (ix e)))
      · have hpos' : 0 < c_ct s1 (ix e) := by rw [hct]; exact (i64_0 _).mpr hpos
        rw [if_pos hpos'] at hpe
        rw [if_pos (by rw [hgv]; exact hpos), q_first_eq hpx] at hq1
        have hFs : FrC (Sb F (d + 1) e) c2 (s_ct s1 e (c_ct s1 (ix e) - 1)) := (hF1.wk hin).tr (fc_ct (Or.inl rfl))
        have hB := mid_ask (p := p) (p1 := 0) (u_ph (u_kp r2 (3 * e) (r_gv r2).toInt64) (f_x F (ix e)) 0) hS ht (mid_c hM2 hFs hg1) (hs _ _ _ _ hM2.2.1) hx hne hsub hq1 hpx ⟨rfl, rfl, rfl, rfl⟩ hM2.2.1.1 ((hFk.wk fun _ h => Or.inl h).tr (fr_ph (Or.inr (Tr_self hx)))) (id_fresh hx hne hst1x)
        generalize hcs : s_ct s1 e (c_ct s1 (ix e) - 1) = cs at hB hpe hFs
        have hcts : c_ct cs (ix e) = (c_rs c2 (ix (f_y F (ix e)))).toInt64 - 1 := by rw [← hcs, ← hct]; exact pk_uLs
        have hsts : c_st cs (ix e) = 1 := by rw [← hcs]; exact hst1
        have hstx : c_st cs (ix (f_x F (ix e))) = 0 := by rw [← hcs]; exact hst1x
        have hFcs : FrC (fun j => j = ix e ∨ Sb F d (f_x F (ix e)) j) c2 cs := by rw [← hcs]; exact hF1.tr (fc_ct (Or.inl rfl))
        generalize p_all F M d (f_x F (ix e)) cs = q at hB hpe
        obtain ⟨v, c4⟩ := q
        have keep : ∀ r4 : zR, FrC (Sb F d (f_x F (ix e))) cs c4 → FrR (fun j => j = ix e ∨ Sb F d (f_x F (ix e)) j) r2 r4 → Lv F d (f_y F (ix e)) c4 r4 p3 := fun r4 hC hR4 =>
          Lv_cong d _ _ (Ag.of (hFcs.tr (hC.wk fun _ h => Or.inr h)) hR4 houty houty) hL
        obtain ⟨hFd, ⟨hv, n3, m3, r3, p4, hn3, hM3, hph3, -, hk3, -, -, hFr3, hgv3, hL3, hb3⟩ | ⟨hv, n3, m3, r3, hn3, hfr3, hM3, hph3, -, -, -, -, hFr3, hb3⟩ | ⟨hv, n3, hn3, herr⟩⟩ := hB
        · dsimp only at hv; subst hv
          have hp : p_limitL F (p_all F M d) e (τ + 1) c1 = (1, s_rs c4 e (c_rs c4 (ix (f_x F (ix e))))) := by rw [hpe]; simp [p_up, p_give]
          have hLy := keep r3 hFd hFr3
          have hkp : r_kp r3 (3 * ix e) = (c_rs c2 (ix (f_y F (ix e)))).toInt64 := by
            rw [hk3, ← hgv]
            show vp_updL (r_kp r2) (ix (3 * e)) _ (3 * ix e) = _
            rw [ix_30 hT.1]; exact pk_uLs
          have hq3 : q_step T e 1 r3 = (1, u_kp r3 (3 * e) (r_kp r3 (ix (3 * e)) - 1)) := by rw [lim_q hT hk]; simp [q_limit, hph3]
          have hag : ∀ x : Int32, ¬ Sb F d x (ix e) → Ag (Sb F d x) c4 (s_rs c4 e (c_rs c4 (ix (f_x F (ix e))))) r3 (u_tp (u_kp r3 (3 * e) (r_kp r3 (ix (3 * e)) - 1)) (nI t)) := fun x hx => Ag.of (D := fun j => j = ix e) (E := fun j => j = ix e) (fc_rs (D := fun j => j = ix e) rfl) ((fr_kp (D := fun j => j = ix e) (k := ix e) (b := 0) rfl (by decide) (ix_30 hT.1)).tr fr_tp) (fun _ h q => hx (q ▸ h)) (fun _ h q => hx (q ▸ h))
          rw [hp]
          refine mid_one _ ht hM3 (hs _ _ _ _ hM3.2.1) hq3 ⟨rfl, rfl, rfl⟩ hM3.2.1.1 hM3.2.1.2.1 hM3.2.1.2.2.1 (fr_kp (k := ix e) (b := 0) (Or.inl rfl) (by decide) (ix_30 hT.1)) (fc_rs (Or.inl rfl)) (hgv3.trans (pk_us (f := c_rs c4)).symm) ((Lv_14 hk).mpr ⟨(hFd _ hne).1.trans hsts, hph3, ?_, p4, p3, Lv_cong d _ _ (hag _ hne) hL3, Lv_cong d _ _ (hag _ hney) hLy, rfl⟩) (by omega) ?_
          · show vp_updL (r_kp r3) (ix (3 * e)) (r_kp r3 (ix (3 * e)) - 1) (3 * ix e) = c_ct c4 (ix e)
            rw [(hFd _ hne).2.2, hcts, ix_30 hT.1, pk_uLs, hkp]
          · rw [zK_s, zK_s]; omega
        · dsimp only at hv; subst hv
          have hn4 := hfr3 hstx
          have hp : p_limitL F (p_all F M d) e (τ + 1) c1 = p_limitL F (p_all F M d) e τ (s_st c4 e 2) := by rw [hpe]; simp
          have hLy := keep r3 hFd hFr3
          have hq3 : q_step T e 2 r3 = q_ask T e 1 1 r3 := by rw [lim_q hT hk]; simp [q_limit, hph3]
          have hst5 : c_st (s_st c4 e 2) (ix e) = 2 := pk_us
          rw [hp]
          refine ih (s_st c4 e 2) r3 r3 2 n3 _ p3 (mid_c hM3 (fc_st (Or.inl rfl)) rfl) (by omega) (by rw [hst5]; decide) hq3 ⟨rfl, rfl, rfl, rfl⟩ hM3.2.1.1 FrR.rf ?_ (fun _ => Or.inl (by omega)) (by omega) (Or.inl (by omega))
          rw [if_neg (by rw [hst5]; decide)]
          exact id_live hney hLy (fc_st (D := fun j => j = ix e) rfl)
        · have hp : p_limitL F (p_all F M d) e (τ + 1) c1 = (v, c4) := by rw [hpe]; simp [p_up, neg1 hv, neg0 hv]
          rw [hp]
          exact herr c4 v rfl rfl ((hM2.2.2.2.1.tr hFs).tr (hFd.wk hsub)) (by omega)
      · have hpos' : ¬ 0 < c_ct s1 (ix e) := by rw [hct]; exact fun h => hpos ((i64_0 _).mp h)
        rw [if_neg hpos'] at hpe
        rw [if_neg (by rw [hgv]; exact hpos)] at hq1
        have hst5 : c_st (s_st s1 e 2) (ix e) = 2 := pk_us
        rw [hpe]
        refine ih (s_st s1 e 2) r2 (u_kp r2 (3 * e) (r_gv r2).toInt64) 1 n2 _ p3 (mid_c hM2 ((hF1.wk hin).tr (fc_st (Or.inl rfl))) ((cg_st s1 e 2).trans hg1)) (by omega) (by rw [hst5]; decide) hq1 hRk hM2.2.1.1 (hFk.wk fun _ h => Or.inl h) ?_ (fun _ => Or.inl (by omega)) (by omega) (Or.inl (by omega))
        rw [if_neg (by rw [hst5]; decide)]
        refine Or.inr (Lv_cong d _ _ (Ag.of (hF1.tr (fc_st (Or.inl rfl))) ((hFk.tr (fr_pu (D := fun j => j = ix e) rfl)).wk fun _ h => Or.inl h) houty houty) hL)
    · dsimp only at hv; subst hv
      have hp : p_limitL F (p_all F M d) e (τ + 1) c1 = (0, s_ct c2 e (c_rs c2 (ix (f_y F (ix e)))).toInt64) := by rw [hpe]; simp
      have hq3 : q_step T e 2 r2 = (0, r2) := by rw [lim_q hT hk]; simp [q_limit, hph]
      rw [hp]
      refine mid_zero _ ht hM2 (hs _ _ _ _ hM2.2.1) hq3 ⟨rfl, rfl, rfl, rfl⟩ hM2.2.1.1 FrR.rf (fc_ct (Or.inl rfl)) rfl (fun h => ?_) ?_
      · rcases hfr1 h with h | h
        · omega
        · have := hfr (hstb h); omega
      · rw [zK_s, zK_s]
        rcases hb2 with h | h | h
        · omega
        · have := hfr (hstb h); omega
        · omega
    · have hp : p_limitL F (p_all F M d) e (τ + 1) c1 = (v, s_ct c2 e (c_rs c2 (ix (f_y F (ix e)))).toInt64) := by rw [hpe]; simp [neg1 hv]
      rw [hp]
      exact herr _ v rfl rfl ((hM.2.2.2.1.tr hFb).tr ((hFc.wk hsuby).tr (fc_ct (Or.inl rfl)))) (by omega)
theorem sm_limit {F : zF} {T : zT} {M f d t n p : Nat} {e : Int32} {c : zC} {r : zR} (hO : Ok F T M f) (hS : zSim F T M f d) (hT : Tr F T (d + 1) e) (hk : f_k F (ix e) = 14) (ht : t + (d + 1) < 16) (hU : zUp F f t e c r n) (hI : Idl F (d + 1) e c r p) : Out F T f (d + 1) t e c r p n (p_limitL F (p_all F M d) e M c) := by
  have a2 : 2 ≤ f_a F e := by simp [f_a, hk]
  obtain ⟨⟨hx, hpx, hne, hsub⟩, ⟨hy, hpy, hney, hsuby⟩, hD⟩ := pr_parts hT a2
  have hxe : ix (f_x F (ix e)) ≠ ix e := ne_of hx hne
  have hye : ix (f_y F (ix e)) ≠ ix e := ne_of hy hney
  obtain ⟨-, -, hf, hMM⟩ := hO
  have hs : ∀ (c : zC) (r : zR) (n : Nat) (w : Int32), zUp F f t e c r n → q_safe T (r, w) := fun c r n w hU => safe_of hT (by omega) hU (fun h => by rw [hk] at h; simp at h) (fun h => by rw [hk] at h; simp at h)
  rcases hI with ⟨h1, h2, rfl⟩ | hL
  · have hq0 : q_step T e 0 r = q_ask T e 1 1 (u_ph r (f_y F (ix e)) 0) := by rw [lim_q hT hk, ← q_first_eq hpy]; simp [q_limit, h2]
    refine lim_B hS hT hk ht M c r (u_ph r (f_y F (ix e)) 0) 0 n 0 0 (mid_0 hU) (by omega) (by rw [h1]; decide) hq0 ⟨rfl, rfl, rfl, rfl⟩ hU.1 (fr_ph (Or.inr (Tr_self hy))) ?_ (fun h => Or.inr h) (by omega) (Or.inr (Or.inl h1))
    rw [if_pos h1]
    exact id_fresh hy hney pk_us
  · obtain ⟨h1, h2, h3, px, py, hLx, hLy, rfl⟩ := (Lv_14 hk).mp hL
    obtain ⟨M', rfl⟩ : ∃ M', M = M' + 1 := ⟨M - 1, by omega⟩
    have hkp : r_kp r (ix (3 * e)) = c_ct c (ix e) := by rw [ix_30 hT.1]; exact h3
    have hq0 : q_step T e 0 r = if 0 < c_ct c (ix e) then q_ask T e 0 2 r else q_ask T e 1 1 r := by rw [lim_q hT hk]; simp [q_limit, h2, hkp]
    have hpe : p_limitL F (p_all F (M' + 1) d) e (M' + 1) c = (if 0 < c_ct c (ix e) then
            let q := p_all F (M' + 1) d (f_x F (ix e)) (s_ct c e (c_ct c (ix e) - 1))
            if q.1 = 0 then p_limitL F (p_all F (M' + 1) d) e M' (s_st q.2 e 2) else p_up e (f_x F (ix e)) q
          else p_limitL F (p_all F (M' + 1) d) e M' (s_st c e 2)) := by
      show (if c_st c (ix e) = 1 then _ else _) = _
      rw [if_pos h1]
    have houty : ∀ j, Sb F d (f_y F (ix e)) j → ¬ (j = ix e ∨ Sb F d (f_x F (ix e)) j) := fun j hj h => by
      rcases h with h | h
      · exact hney (h ▸ hj)
      · exact hD j h hj
    by_cases hpos : 0 < c_ct c (ix e)
    · rw [if_pos hpos] at hq0 hpe
      have hFs : FrC (fun j => j = ix e) c (s_ct c e (c_ct c (ix e) - 1)) := fc_ct rfl
      have hA := mid_ask (p := px + py + 4) r hS ht (mid_c (mid_0 (T := T) (d := d) hU) (hFs.wk fun j h => Or.inl h) rfl) (hs _ _ _ _ hU) hx hne hsub hq0 hpx ⟨rfl, rfl, rfl, rfl⟩ hU.1 FrR.rf (id_live hne hLx hFs)
      have hcts : c_ct (s_ct c e (c_ct c (ix e) - 1)) (ix e) = c_ct c (ix e) - 1 := pk_uLs
      have hsts : c_st (s_ct c e (c_ct c (ix e) - 1)) (ix e) = 1 := h1
      generalize s_ct c e (c_ct c (ix e) - 1) = cs at hA hpe hFs hcts hsts
      generalize p_all F (M' + 1) d (f_x F (ix e)) cs = q at hA hpe
      obtain ⟨v, c4⟩ := q
      have keep : ∀ r4 : zR, FrC (Sb F d (f_x F (ix e))) cs c4 → FrR (fun j => j = ix e ∨ Sb F d (f_x F (ix e)) j) r r4 → Lv F d (f_y F (ix e)) c4 r4 py := fun r4 hC hR4 =>
        Lv_cong d _ _ (Ag.of ((hFs.wk fun _ h => Or.inl h).tr (hC.wk fun _ h => Or.inr h)) hR4 houty houty) hLy
      obtain ⟨hFd, ⟨hv, n3, m3, r3, p4, hn3, hM3, hph3, -, hk3, -, -, hFr3, hgv3, hL3, hb3⟩ | ⟨hv, n3, m3, r3, hn3, hfr3, hM3, hph3, -, -, -, -, hFr3, hb3⟩ | ⟨hv, n3, hn3, herr⟩⟩ := hA
      · dsimp only at hv; subst hv
        have hp : p_limitL F (p_all F (M' + 1) d) e (M' + 1) c = (1, s_rs c4 e (c_rs c4 (ix (f_x F (ix e))))) := by rw [hpe]; simp [p_up, p_give]
        have hLy4 := keep r3 hFd hFr3
        have hq3 : q_step T e 1 r3 = (1, u_kp r3 (3 * e) (r_kp r3 (ix (3 * e)) - 1)) := by rw [lim_q hT hk]; simp [q_limit, hph3]
        have hag : ∀ x : Int32, ¬ Sb F d x (ix e) → Ag (Sb F d x) c4 (s_rs c4 e (c_rs c4 (ix (f_x F (ix e))))) r3 (u_tp (u_kp r3 (3 * e) (r_kp r3 (ix (3 * e)) - 1)) (nI t)) := fun x hx => Ag.of (D := fun j => j = ix e) (E := fun j => j = ix e) (fc_rs (D := fun j => j = ix e) rfl) ((fr_kp (D := fun j => j = ix e) (k := ix e) (b := 0) rfl (by decide) (ix_30 hT.1)).tr fr_tp) (fun _ h q => hx (q ▸ h)) (fun _ h q => hx (q ▸ h))
        rw [hp]
        refine mid_one _ ht hM3 (hs _ _ _ _ hM3.2.1) hq3 ⟨rfl, rfl, rfl⟩ hM3.2.1.1 hM3.2.1.2.1 hM3.2.1.2.2.1 (fr_kp (k := ix e) (b := 0) (Or.inl rfl) (by decide) (ix_30 hT.1)) (fc_rs (Or.inl rfl)) (hgv3.trans (pk_us (f := c_rs c4)).symm) ((Lv_14 hk).mpr ⟨(hFd _ hne).1.trans hsts, hph3, ?_, p4, py, Lv_cong d _ _ (hag _ hne) hL3, Lv_cong d _ _ (hag _ hney) hLy4, rfl⟩) hn3 ?_
        · show vp_updL (r_kp r3) (ix (3 * e)) (r_kp r3 (ix (3 * e)) - 1) (3 * ix e) = c_ct c4 (ix e)
          rw [(hFd _ hne).2.2, hcts, ix_30 hT.1, pk_uLs, hk3, h3]
        · rw [zK_s, zK_s]; omega
      · dsimp only at hv; subst hv
        have hp : p_limitL F (p_all F (M' + 1) d) e (M' + 1) c = p_limitL F (p_all F (M' + 1) d) e M' (s_st c4 e 2) := by rw [hpe]; simp
        have hLy4 := keep r3 hFd hFr3
        have hq3 : q_step T e 2 r3 = q_ask T e 1 1 r3 := by rw [lim_q hT hk]; simp [q_limit, hph3]
        have hst5 : c_st (s_st c4 e 2) (ix e) = 2 := pk_us
        have hm := zK_m d hn3
        rw [hp]
        refine lim_B hS hT hk ht M' (s_st c4 e 2) r3 r3 2 n3 _ py (mid_c hM3 (fc_st (Or.inl rfl)) rfl) (by omega) (by rw [hst5]; decide) hq3 ⟨rfl, rfl, rfl, rfl⟩ hM3.2.1.1 FrR.rf ?_ (fun h => absurd (h.symm.trans h1) (by decide)) (by omega) (Or.inr (Or.inr (by omega)))
        rw [if_neg (by rw [hst5]; decide)]
        exact id_live hney hLy4 (fc_st (D := fun j => j = ix e) rfl)
      · have hp : p_limitL F (p_all F (M' + 1) d) e (M' + 1) c = (v, c4) := by rw [hpe]; simp [p_up, neg1 hv, neg0 hv]
        rw [hp]
        exact herr c4 v rfl rfl ((hFs.wk fun j h => Or.inl h).tr (hFd.wk hsub)) (by omega)
    · rw [if_neg hpos] at hq0 hpe
      have hst5 : c_st (s_st c e 2) (ix e) = 2 := pk_us
      rw [hpe]
      refine lim_B hS hT hk ht M' (s_st c e 2) r r 0 n 0 py (mid_c (mid_0 hU) (fc_st (Or.inl rfl)) rfl) (by omega) (by rw [hst5]; decide) hq0 ⟨rfl, rfl, rfl, rfl⟩ hU.1 FrR.rf ?_ (fun h => absurd (h.symm.trans h1) (by decide)) (by omega) (Or.inr (Or.inr (by omega)))
      rw [if_neg (by rw [hst5]; decide)]
      exact id_live hney hLy (fc_st (D := fun j => j = ix e) rfl)
/-- the state from which EVERY and WHILE ask x -/
def p_e1 (F : zF) (e : Int32) (c : zC) : zC := if f_k F (ix e) = 16 then s_st c (f_x F (ix e)) 0 else p_x1 F e c
theorem ev_X {F : zF} {T : zT} {M f d t n p : Nat} {e : Int32} {c : zC} {r : zR} (hS : zSim F T M f d) (hT : Tr F T (d + 1) e) (hk : f_k F (ix e) = 15 ∨ f_k F (ix e) = 16) (ht : t + (d + 1) < 16) :
    ∀ (τ : Nat) (c1 : zC) (r1 r0 : zR) (w : Int32) (n1 m1 p1 : Nat), Mid F T f d t e c r n c1 r1 w n1 m1 → f + 1 ≤ n1 + τ → q_step T e w r1 = q_ask T e 0 1 r0 → Ro r1 r0 → Nm F r0 → FrR (fun j => j = ix e ∨ Sb F d (f_x F (ix e)) j) r1 r0 → Idl F d (f_x F (ix e)) (p_e1 F e c1) (pu r0 e 1 t (f_x F (ix e))) p1 →
      n < n1 ∨ c_st (p_e1 F e c1) (ix (f_x F (ix e))) = 0 → m1 + p1 + zK d n + 13 * n ≤ p + zK d n1 + 13 * n1 →
      Out F T f (d + 1) t e c r p n (p_everyL F (p_all F M d) e τ c1) := by
  have a2 : 2 ≤ f_a F e := by rcases hk with k | k <;> simp [f_a, k]
  obtain ⟨⟨hx, hpx, hne, hsub⟩, ⟨hy, hpy, hney, hsuby⟩, hD⟩ := pr_parts hT a2
  have hxe : ix (f_x F (ix e)) ≠ ix e := ne_of hx hne
  have hye : ix (f_y F (ix e)) ≠ ix e := ne_of hy hney
  have hs : ∀ (c : zC) (r : zR) (n : Nat) (w : Int32), zUp F f t e c r n → q_safe T (r, w) := fun c r n w hU => safe_of hT (by omega) hU (fun h => by rcases hk with k | k <;> rw [k] at h <;> simp at h) (fun h => by rcases hk with k | k <;> rw [k] at h <;> simp at h)
  have hq1 : ∀ r2 : zR, r_ph r2 (ix e) = 1 → q_step T e 1 r2 = q_first T e 1 2 r2 := fun r2 h => by rcases hk with k | k <;> simp [q_step, q_binary, hT.2.2.1, k, t_kc, h]
  have hq2 : ∀ r2 : zR, r_ph r2 (ix e) = 1 → q_step T e 2 r2 = (0, r2) := fun r2 h => by rcases hk with k | k <;> simp [q_step, q_binary, hT.2.2.1, k, t_kc, h]
  have hq3 : ∀ (r2 : zR) (w : Int32), ¬ w = 0 → r_ph r2 (ix e) = 2 → q_step T e w r2 = if f_k F (ix e) = 16 then q_first T e 0 1 r2 else q_ask T e 0 1 r2 := fun r2 w hw h => by rcases hk with k | k <;> simp [q_step, q_binary, hT.2.2.1, k, t_kc, h, hw]
  have hoX : ∀ j, Sb F d (f_x F (ix e)) j → ¬ (j = ix e ∨ Sb F d (f_y F (ix e)) j) := fun j hj h => by
    rcases h with h | h
    · exact hne (h ▸ hj)
    · exact hD j hj h
  intro τ
  induction τ with
  | zero =>
    intro c1 r1 r0 w n1 m1 p1 hM hτ
    have := hM.2.1.2.2.1.2.1
    omega
  | succ τ ih =>
    intro c1 r1 r0 w n1 m1 p1 hM hτ hq hR hN hF hI hfr1 hb1
    have hFe : FrC (Sb F (d + 1) e) c1 (p_e1 F e c1) := by
      unfold p_e1; split
      · exact fc_st (hsub _ (Tr_self hx))
      · exact x1_F (Or.inl rfl) (hsub _ (Tr_self hx))
    have hge : c_g (p_e1 F e c1) = c_g c1 := by
      unfold p_e1; split
      · rfl
      · exact x1_g F e c1
    have hste : ¬ f_k F (ix e) = 16 → c_st (p_e1 F e c1) (ix e) = 1 := fun h => by unfold p_e1; rw [if_neg h]; exact x1_st F e c1
    have hA := mid_ask (p := p) r0 hS ht (mid_c hM hFe hge) (hs _ _ _ _ hM.2.1) hx hne hsub hq hpx hR hN hF hI
    have hpe : p_everyL F (p_all F M d) e (τ + 1) c1 = (let q := p_all F M d (f_x F (ix e)) (p_e1 F e c1); if q.1 = 1 then
        let q2 := p_all F M d (f_y F (ix e)) (s_st q.2 (f_y F (ix e)) 0)
        if q2.1 < 0 then q2 else p_everyL F (p_all F M d) e τ q2.2
      else q) := by
      have h16 : (if f_k F (ix e) = 16 then p_try (p_all F M d) (f_x F (ix e)) c1 else p_x F (p_all F M d) e c1) = p_all F M d (f_x F (ix e)) (p_e1 F e c1) := by
        unfold p_e1
        split
        · rfl
        · exact p_x_eq F (p_all F M d) e c1
      show (let q := (if f_k F (ix e) = 16 then p_try (p_all F M d) (f_x F (ix e)) c1 else p_x F (p_all F M d) e c1); if q.1 = 1 then
        let q2 := p_try (p_all F M d) (f_y F (ix e)) q.2
        if q2.1 < 0 then q2 else p_everyL F (p_all F M d) e τ q2.2
        else q) = _
      rw [h16]
      rfl
    generalize p_e1 F e c1 = ce at hA hpe hFe hge hste hfr1
    generalize p_all F M d (f_x F (ix e)) ce = q at hA hpe
    obtain ⟨v, c2⟩ := q
    have hn0 := hM.2.2.2.2.2
    obtain ⟨hFc, ⟨hv, n2, m2, r2, p3, hn, hM2, hph, -, -, -, -, hFr, hgv, hL, hb⟩ | ⟨hv, n2, m2, r2, hn, hfr, hM2, hph, -, -, -, -, hFr, hb⟩ | ⟨hv, n2, hn, herr⟩⟩ := hA
    · dsimp only at hv; subst hv
      simp only [if_true] at hpe
      have hF3 : FrC (Sb F (d + 1) e) c2 (s_st c2 (f_y F (ix e)) 0) := fc_st (hsuby _ (Tr_self hy))
      have hst0 : c_st (s_st c2 (f_y F (ix e)) 0) (ix (f_y F (ix e))) = 0 := pk_us
      have hB := mid_ask (p := p) (p1 := 0) (u_ph r2 (f_y F (ix e)) 0) hS ht (mid_c hM2 hF3 rfl) (hs _ _ _ _ hM2.2.1) hy hney hsuby (by rw [hq1 r2 hph, q_first_eq hpy]) hpy ⟨rfl, rfl, rfl, rfl⟩ hM2.2.1.1 (fr_ph (Or.inr (Tr_self hy))) (id_fresh hy hney hst0)
      generalize p_all F M d (f_y F (ix e)) (s_st c2 (f_y F (ix e)) 0) = q at hB hpe
      obtain ⟨v, c4⟩ := q
      -- whatever came of y, x goes on
      have goX : ∀ (r3 : zR) (w3 : Int32) (n3 m3 : Nat), ¬ w3 = 0 → ¬ v < 0 → FrC (Sb F d (f_y F (ix e))) (s_st c2 (f_y F (ix e)) 0) c4 → FrR (fun j => j = ix e ∨ Sb F d (f_y F (ix e)) j) r2 r3 → Mid F T f d t e c r n c4 r3 w3 n3 m3 → r_ph r3 (ix e) = 2 → n2 < n3 → m3 + p3 + zK d n + 13 * n ≤ p + zK d n3 + 13 * n3 → Out F T f (d + 1) t e c r p n (p_everyL F (p_all F M d) e (τ + 1) c1) := by
        intro r3 w3 n3 m3 hw3 hv hFd hFr3 hM3 hph3 hn3 hb3
        have hp : p_everyL F (p_all F M d) e (τ + 1) c1 = p_everyL F (p_all F M d) e τ c4 := by rw [hpe]; simp only [if_neg hv]
        rw [hp]
        have hq4 := hq3 r3 w3 hw3 hph3
        by_cases h16 : f_k F (ix e) = 16
        · rw [if_pos h16, q_first_eq hpx] at hq4
          have hpz : p_e1 F e c4 = s_st c4 (f_x F (ix e)) 0 := if_pos h16
          exact ih c4 r3 (u_ph r3 (f_x F (ix e)) 0) w3 n3 m3 0 hM3 (by omega) hq4 ⟨rfl, rfl, rfl, rfl⟩ hM3.2.1.1 (fr_ph (Or.inr (Tr_self hx))) (by rw [hpz]; exact id_fresh hx hne pk_us) (Or.inl (by omega)) (by omega)
        · rw [if_neg h16] at hq4
          have hpz : p_e1 F e c4 = p_x1 F e c4 := if_neg h16
          have hst4 : c_st c4 (ix e) = 1 := (hFd _ hney).1.trans ((pk_un (Ne.symm hye)).trans ((hFc _ hne).1.trans (hste h16)))
          have hC' : FrC (fun j => j = ix e ∨ Sb F d (f_y F (ix e)) j) c2 c4 := (fc_st (Or.inr (Tr_self hy))).tr (hFd.wk fun _ h => Or.inr h)
          have hLx : Lv F d (f_x F (ix e)) c4 r3 p3 := Lv_cong d _ _ (Ag.of hC' hFr3 hoX hoX) hL
          refine ih c4 r3 r3 w3 n3 m3 p3 hM3 (by omega) hq4 ⟨rfl, rfl, rfl, rfl⟩ hM3.2.1.1 FrR.rf ?_ (Or.inl (by omega)) (by omega)
          rw [hpz]
          unfold p_x1; rw [if_neg (by rw [hst4]; decide)]
          exact id_live hne hLx (fc_st (D := fun j => j = ix e) rfl)
      obtain ⟨hFd, ⟨hv, n3, m3, r3, p4, hn3, hM3, hph3, -, -, -, -, hFr3, hgv3, hL3, hb3⟩ | ⟨hv, n3, m3, r3, hn3, hfr3, hM3, hph3, -, -, -, -, hFr3, hb3⟩ | ⟨hv, n3, hn3, herr⟩⟩ := hB
      · dsimp only at hv
        exact goX r3 1 n3 _ (by decide) (by rw [hv]; decide) hFd hFr3 hM3 hph3 hn3 (by omega)
      · dsimp only at hv
        have hn4 := hfr3 hst0
        exact goX r3 2 n3 _ (by decide) (by rw [hv]; decide) hFd hFr3 hM3 hph3 hn4 (by omega)
      · have hp : p_everyL F (p_all F M d) e (τ + 1) c1 = (v, c4) := by rw [hpe]; simp only [if_pos hv]
        rw [hp]
        exact herr c4 v rfl rfl ((hM2.2.2.2.1.tr hF3).tr (hFd.wk hsuby)) (by omega)
    · dsimp only at hv; subst hv
      have hp : p_everyL F (p_all F M d) e (τ + 1) c1 = (0, c2) := by rw [hpe]; simp
      have hlt : n < n2 := by
        rcases hfr1 with h | h
        · omega
        · have := hfr h; omega
      rw [hp]
      refine mid_zero _ ht hM2 (hs _ _ _ _ hM2.2.1) (hq2 r2 hph) ⟨rfl, rfl, rfl, rfl⟩ hM2.2.1.1 FrR.rf FrC.rf rfl (fun _ => hlt) ?_
      rw [zK_s, zK_s]; omega
    · have hp : p_everyL F (p_all F M d) e (τ + 1) c1 = (v, c2) := by rw [hpe]; simp [neg1 hv]
      rw [hp]
      exact herr c2 v rfl rfl ((hM.2.2.2.1.tr hFe).tr (hFc.wk hsub)) (by omega)
theorem sm_every {F : zF} {T : zT} {M f d t n p : Nat} {e : Int32} {c : zC} {r : zR} (hO : Ok F T M f) (hS : zSim F T M f d) (hT : Tr F T (d + 1) e) (hk : f_k F (ix e) = 15 ∨ f_k F (ix e) = 16) (ht : t + (d + 1) < 16) (hU : zUp F f t e c r n) (hI : Idl F (d + 1) e c r p) : Out F T f (d + 1) t e c r p n (p_everyL F (p_all F M d) e M c) := by
  have a1 : 1 ≤ f_a F e := by rcases hk with k | k <;> simp [f_a, k]
  obtain ⟨hx, hpx, hne⟩ := hT.2.2.2.2.1 a1
  have hxe : ix (f_x F (ix e)) ≠ ix e := ne_of hx hne
  obtain ⟨-, -, hf, hMM⟩ := hO
  have hq0 : q_step T e 0 r = q_ask T e 0 1 (u_ph r (f_x F (ix e)) 0) := by
    rw [← q_first_eq hpx]
    rcases hk with k | k <;> simp [q_step, q_binary, hT.2.2.1, k, t_kc]
  rcases hI with ⟨h1, h2, rfl⟩ | hL
  · have hst : c_st (p_e1 F e c) (ix (f_x F (ix e))) = 0 := by
      unfold p_e1; split
      · exact pk_us
      · exact x1_f hxe h1
    exact ev_X hS hT hk ht M c r (u_ph r (f_x F (ix e)) 0) 0 n 0 0 (mid_0 hU) (by omega) hq0 ⟨rfl, rfl, rfl, rfl⟩ hU.1 (fr_ph (Or.inr (Tr_self hx))) (id_fresh hx hne hst) (Or.inr hst) (by omega)
  · rcases hk with k | k
    · exact ((Lv_15 k).mp hL).elim
    · exact ((Lv_16 k).mp hL).elim
end
section
/-! TO. -/
def m_tr (e : Int32) (r : zR) : zR := u_nm r e (r_gv r)
def m_to (e : Int32) (r : zR) (v : Int32) : Prop := r_nm r (ix e) = v
theorem ix_321 {e : Int32} (h : vp_in e 60) : ix (3 * e + 2 - 1) = 3 * ix e + 1 := by
  obtain ⟨j, hj, rfl⟩ := vp_in_of h (by decide)
  have h3 : (3 : Int32) = nI 3 := rfl
  have h2 : (2 : Int32) = nI 2 := rfl
  rw [h3, h2, pk_mul, nI_add, show 3 * j + 2 = (3 * j + 1) + 1 by omega, nI_pred, ix_nI (by omega), ix_nI (by omega)]
theorem ix_331 {e : Int32} (h : vp_in e 60) : ix (3 * e + 3 - 1) = 3 * ix e + 2 := by
  obtain ⟨j, hj, rfl⟩ := vp_in_of h (by decide)
  have h3 : (3 : Int32) = nI 3 := rfl
  rw [h3, pk_mul, nI_add, show 3 * j + 3 = (3 * j + 2) + 1 by omega, nI_pred, ix_nI (by omega), ix_nI (by omega)]
theorem to_q {F : zF} {T : zT} {d : Nat} {e : Int32} (hT : Tr F T (d + 1) e) (hk : f_k F (ix e) = 18) (w : Int32) (r : zR) : q_step T e w r = q_to T e w r := by simp [q_step, hT.2.2.1, hk, t_kc]
theorem to_mem {F : zF} {T : zT} {f d t : Nat} {e : Int32} (hT : Tr F T (d + 1) e) (hk : f_k F (ix e) = 18) (ht : t + (d + 1) < 16) : Mem F T f t e (m_tr e) (m_to e) := by
  refine ⟨fun r => ⟨⟨rfl, rfl, rfl, rfl⟩, fun h j hj => ?_, fr_nm rfl, rfl, pk_us⟩, fun r r' v h1 _ h3 => h1.trans h3, fun r h => ?_, fun r h => ?_, fun c r n w hU hw hph => ?_⟩
  · have hne : j ≠ ix e := fun q => hj (by rw [q]; exact hk)
    exact (pk_un hne).trans (h j hj)
  · rw [to_q hT hk]; simp [q_to, h, m_tr]
  · rw [to_q hT hk]; simp [q_to, h]
  · exact safe_of hT (by omega) hU (fun h => by rw [hk] at h; simp at h) (fun _ _ => hph)
theorem to_q22 {F : zF} {T : zT} {d : Nat} {e : Int32} {r : zR} (hT : Tr F T (d + 1) e) (hk : f_k F (ix e) = 18) (h : r_ph r (ix e) = 3) : q_step T e 2 r = q_ask T e 1 2 r := by
  rw [to_q hT hk]
  unfold q_to
  dsimp only
  rw [if_neg (show ¬ (2 : Int32) = 0 by decide), if_pos (show (2 : Int32) = 2 from rfl), h, if_neg (show ¬ (3 : Int32) = 1 by decide)]
  rfl
theorem to_q12 {F : zF} {T : zT} {d : Nat} {e : Int32} {r : zR} (hT : Tr F T (d + 1) e) (hk : f_k F (ix e) = 18) (h : r_ph r (ix e) = 2) : q_step T e 1 r = q_first T e 2 3 (u_kp r (3 * e + 2 - 1) (r_gv r).toInt64) := by
  rw [to_q hT hk]
  unfold q_to
  dsimp only
  rw [if_neg (show ¬ (1 : Int32) = 0 by decide), if_neg (show ¬ (1 : Int32) = 2 by decide), h, if_neg (show ¬ (2 : Int32) = 1 by decide), if_pos (show (2 : Int32) = 2 from rfl)]
theorem to_q13 {F : zF} {T : zT} {d : Nat} {e : Int32} {r : zR} (hT : Tr F T (d + 1) e) (hk : f_k F (ix e) = 18) (h : r_ph r (ix e) = 3) : q_step T e 1 r = if r_gv r = 0 then (0, u_er (u_kp r (3 * e + 3 - 1) (r_gv r).toInt64) (-3)) else q_on T e (u_kp (u_kp r (3 * e + 3 - 1) (r_gv r).toInt64) (3 * e) (r_nm r (ix e)).toInt64) := by
  rw [to_q hT hk]
  unfold q_to
  dsimp only
  rw [if_neg (show ¬ (1 : Int32) = 0 by decide), if_neg (show ¬ (1 : Int32) = 2 by decide), h, if_neg (show ¬ (3 : Int32) = 1 by decide), if_neg (show ¬ (3 : Int32) = 2 by decide)]
  rfl
def TripledS (sl : Nat) (F : zF) (T : zT) (f d t : Nat) (e : Int32) (c : zC) (r : zR) (p n n1 m1 p1 b : Nat) (fr : Prop) (q : Int32 × zC) : Prop :=
  FrC (Sb F (d + 1) e) c q.2 ∧
  ((q.1 = 1 ∧ ∃ n2 m2 r2 px py pz, n1 < n2 ∧ Mid F T f d t e c r n q.2 r2 1 n2 m2 ∧ r_ph r2 (ix e) = 3 ∧ c_st q.2 (ix e) = 3 ∧ r_nm r2 (ix e) = c_rs q.2 (ix (f_x F (ix e))) ∧ r_kp r2 (3 * ix e + 1) = (c_rs q.2 (ix (f_y F (ix e)))).toInt64 ∧ r_gv r2 = c_rs q.2 (ix (f_z F (ix e))) ∧ Lv F d (f_x F (ix e)) q.2 r2 px ∧ Lv F d (f_y F (ix e)) q.2 r2 py ∧ Lv F d (f_z F (ix e)) q.2 r2 pz ∧ m2 + px + py + pz + sl + zK d n1 + 13 * n1 ≤ m1 + p1 + zK d n2 + 13 * n2) ∨
   (q.1 = 0 ∧ ∃ n2 m2 r2, n1 ≤ n2 ∧ (fr → n1 < n2) ∧ Mid F T f d t e c r n q.2 r2 2 n2 m2 ∧ r_ph r2 (ix e) = 1 ∧ m2 + zK d n1 + 13 * n1 ≤ m1 + p1 + zK d n2 + 13 * n2 + b) ∨
   (q.1 < 0 ∧ ∀ c3, c_g c3 = c_g q.2 → FrC (Sb F (d + 1) e) c c3 → Out F T f (d + 1) t e c r p n (q.1, c3)))
def Tripled (F : zF) (T : zT) (f d t : Nat) (e : Int32) (c : zC) (r : zR) (p n n1 m1 p1 b : Nat) (fr : Prop) (q : Int32 × zC) : Prop := TripledS 0 F T f d t e c r p n n1 m1 p1 b fr q
theorem tS_0 {F : zF} {T : zT} {f d t : Nat} {e : Int32} {c : zC} {r : zR} {p n n1 m1 p1 b : Nat} {fr : Prop} {q : Int32 × zC} (h : TripledS 1 F T f d t e c r p n n1 m1 p1 b fr q) : Tripled F T f d t e c r p n n1 m1 p1 b fr q := by
  obtain ⟨hF9, ⟨h1, n9, m9, r9, qx, qy, qz, h2, h3, h4, h5, h6, h7, h8, k1, k2, k3, hb9⟩ | ⟨h1, n9, m9, r9, h2, h3, h4, h5, hb9⟩ | ⟨h1, h2⟩⟩ := h
  · exact ⟨hF9, Or.inl ⟨h1, n9, m9, r9, qx, qy, qz, h2, h3, h4, h5, h6, h7, h8, k1, k2, k3, by omega⟩⟩
  · exact ⟨hF9, Or.inr (Or.inl ⟨h1, n9, m9, r9, h2, h3, h4, h5, hb9⟩)⟩
  · exact ⟨hF9, Or.inr (Or.inr ⟨h1, h2⟩)⟩
theorem to_parts {F : zF} {T : zT} {d : Nat} {e : Int32} (hT : Tr F T (d + 1) e) (hk : f_k F (ix e) = 18) : Prt F T d e 2 (f_z F (ix e)) ∧ (∀ j, Sb F d (f_x F (ix e)) j → ¬ Sb F d (f_z F (ix e)) j) ∧ ∀ j, Sb F d (f_y F (ix e)) j → ¬ Sb F d (f_z F (ix e)) j := by
  have a3 : 3 ≤ f_a F e := by simp [f_a, hk]
  obtain ⟨hz, hpz, hnez, hDx, hDy⟩ := hT.2.2.2.2.2.2 a3
  exact ⟨⟨hz, hpz, hnez, fun j h => Or.inr (Or.inr (Or.inr ⟨a3, h⟩))⟩, hDx, hDy⟩
/-- z's question, seen from x and y -/
theorem to_keep {F : zF} {T : zT} {d p : Nat} {e x z : Int32} {c c4 : zC} {r r4 : zR} (hx : Tr F T d x) (hne : ¬ Sb F d x (ix e)) (hD : ∀ j, Sb F d x j → ¬ Sb F d z j) (hC : FrC (fun j => j = ix e ∨ Sb F d z j) c c4) (hR : FrR (fun j => j = ix e ∨ Sb F d z j) r r4) (hL : Lv F d x c r p) : Lv F d x c4 r4 p ∧ c_rs c4 (ix x) = c_rs c (ix x) := by
  have hout : ∀ j, Sb F d x j → ¬ (j = ix e ∨ Sb F d z j) := fun j hj h => by
    rcases h with h | h
    · exact hne (h ▸ hj)
    · exact hD j hj h
  exact ⟨Lv_cong d _ _ (Ag.of hC hR hout hout) hL, (hC _ (hout _ (Tr_self hx))).2.1⟩
theorem tri_P1 {F : zF} {T : zT} {M f d t n p : Nat} {e : Int32} {c : zC} {r : zR} (hO : Ok F T M f) (hS : zSim F T M f d) (hT : Tr F T (d + 1) e) (hk : f_k F (ix e) = 18) (ht : t + (d + 1) < 16) :
    ∀ (τ : Nat) (c1 : zC) (n1 m1 p1 : Nat) (fr : Prop), Paired F T f d t e (m_to e) c r p n n1 m1 p1 fr (p_pairL F (p_all F M d) e M c1) → ¬ c_st c1 (ix e) = 3 → n1 ≤ f → f + 1 ≤ n1 + τ → m1 + p1 + zK d n + 20 * n ≤ p + zK d n1 + 20 * n1 + 2 →
      TripledS 1 F T f d t e c r p n n1 m1 p1 2 fr (p_tripleL F (p_all F M d) M e τ c1) := by
  have a2 : 2 ≤ f_a F e := by simp [f_a, hk]
  obtain ⟨hX, hY, hD⟩ := pr_parts hT a2
  obtain ⟨hZ, hDx, hDy⟩ := to_parts hT hk
  have hm := to_mem (f := f) hT hk ht
  have hze : ix (f_z F (ix e)) ≠ ix e := ne_of hZ.1 hZ.2.2.1
  intro τ
  induction τ with
  | zero => intro c1 n1 m1 p1 fr _ _ h1 h2; omega
  | succ τ ih =>
    intro c1 n1 m1 p1 fr hP hst hn1 hτ hE
    have hpe : p_tripleL F (p_all F M d) M e (τ + 1) c1 = (let q := p_pairL F (p_all F M d) e M c1; if q.1 = 1 then
        let q2 := p_all F M d (f_z F (ix e)) (s_st (s_st q.2 e 3) (f_z F (ix e)) 0)
        if q2.1 = 0 then p_tripleL F (p_all F M d) M e τ (s_st q2.2 e 2) else q2
      else q) := by
      show (if c_st c1 (ix e) = 3 then _ else _) = _
      rw [if_neg hst]
    generalize p_pairL F (p_all F M d) e M c1 = q at hP hpe
    obtain ⟨v, c2⟩ := q
    obtain ⟨hF9, ⟨hv, n2, m2, r2, px, py, hn, hM, hph, hst2, hmo, hgv, hLx, hLy, hb⟩ | ⟨hv, n2, m2, r2, hn, hfr, hM, hph, hb⟩ | ⟨hv, herr⟩⟩ := hP
    · dsimp only at hv; subst hv
      simp only [if_true] at hpe
      have hF3 : FrC (fun j => j = ix e ∨ Sb F d (f_z F (ix e)) j) c2 (s_st (s_st c2 e 3) (f_z F (ix e)) 0) := (fc_st (Or.inl rfl)).tr (fc_st (Or.inr (Tr_self hZ.1)))
      have hin : ∀ j, (j = ix e ∨ Sb F d (f_z F (ix e)) j) → Sb F (d + 1) e j := fun j h => by
        rcases h with h | h
        · exact Or.inl h
        · exact hZ.2.2.2 j h
      have hst3 : c_st (s_st (s_st c2 e 3) (f_z F (ix e)) 0) (ix e) = 3 := (pk_un (Ne.symm hze)).trans pk_us
      have hst0 : c_st (s_st (s_st c2 e 3) (f_z F (ix e)) 0) (ix (f_z F (ix e))) = 0 := pk_us
      have hkk : r_kp (u_ph (u_kp r2 (3 * e + 2 - 1) (r_gv r2).toInt64) (f_z F (ix e)) 0) (3 * ix e + 1) = (r_gv r2).toInt64 := by
        show vp_updL (r_kp r2) (ix (3 * e + 2 - 1)) (r_gv r2).toInt64 (3 * ix e + 1) = _
        rw [ix_321 hT.1]; exact pk_uLs
      have hB := mid_ask (p := p) (p1 := 0) (u_ph (u_kp r2 (3 * e + 2 - 1) (r_gv r2).toInt64) (f_z F (ix e)) 0) hS ht (mid_c hM (hF3.wk hin) rfl) (hm.2.2.2.2 _ _ _ 1 hM.2.1 (by decide) (Or.inr (Or.inl hph))) hZ.1 hZ.2.2.1 hZ.2.2.2 (by rw [to_q12 hT hk hph, q_first_eq hZ.2.1]) hZ.2.1 ⟨rfl, rfl, rfl, rfl⟩ hM.2.1.1 ((fr_kp (k := ix e) (b := 1) (Or.inl rfl) (by decide) (ix_321 hT.1)).tr (fr_ph (Or.inr (Tr_self hZ.1)))) (id_fresh hZ.1 hZ.2.2.1 hst0)
      generalize p_all F M d (f_z F (ix e)) (s_st (s_st c2 e 3) (f_z F (ix e)) 0) = q at hB hpe
      obtain ⟨v, c4⟩ := q
      obtain ⟨hFd, ⟨hv, n3, m3, r3, p4, hn3, hM3, hph3, hnm3, hk3, hk31, -, hFr3, hgv3, hL3, hb3⟩ | ⟨hv, n3, m3, r3, hn3, hfr3, hM3, hph3, hnm3, -, -, -, hFr3, hb3⟩ | ⟨hv, n3, hn3, herr⟩⟩ := hB
      · dsimp only at hv; subst hv
        have hp : p_tripleL F (p_all F M d) M e (τ + 1) c1 = (1, c4) := by rw [hpe]; simp
        have hC4 := hF3.tr (hFd.wk fun _ h => Or.inr h)
        obtain ⟨hLx4, hrx⟩ := to_keep hX.1 hX.2.2.1 hDx hC4 hFr3 hLx
        obtain ⟨hLy4, hry⟩ := to_keep hY.1 hY.2.2.1 hDy hC4 hFr3 hLy
        rw [hp]
        refine ⟨hM3.2.2.2.1, Or.inl ⟨rfl, n3, _, r3, px, py, p4, by omega, hM3, hph3, (hFd _ hZ.2.2.1).1.trans hst3, ?_, ?_, hgv3, hLx4, hLy4, hL3, by omega⟩⟩
        · rw [hrx, hnm3]; exact hmo
        · rw [hry, hk31, hkk, hgv]
      · dsimp only at hv; subst hv
        have hn4 := hfr3 hst0
        have hp : p_tripleL F (p_all F M d) M e (τ + 1) c1 = p_tripleL F (p_all F M d) M e τ (s_st c4 e 2) := by rw [hpe]; simp
        have hC4 := (hF3.tr (hFd.wk fun _ h => Or.inr h)).tr (fc_st (e := e) (v := 2) (Or.inl rfl))
        obtain ⟨hLx4, hrx⟩ := to_keep hX.1 hX.2.2.1 hDx hC4 hFr3 hLx
        obtain ⟨hLy4, hry⟩ := to_keep hY.1 hY.2.2.1 hDy hC4 hFr3 hLy
        have hst5 : c_st (s_st c4 e 2) (ix e) = 2 := pk_us
        obtain ⟨M', hM'⟩ : ∃ M', M = M' + 1 := ⟨M - 1, by have := hO.2.2.2; omega⟩
        have hfO := hO.2.2
        have hnf3 := hM3.2.1.2.2.1.2.1
        have hP2 := pair_Y hS ht hX hY hD hm M' (s_st c4 e 2) r3 2 n3 _ px py (mid_c hM3 (fc_st (Or.inl rfl)) rfl) (by omega) hst5 (hm.2.2.2.2 _ _ _ 2 hM3.2.1 (by decide) (Or.inr (Or.inr hph3))) (to_q22 hT hk hph3) hLx4 hLy4 (by rw [hrx]; exact hnm3.trans hmo) (p := p) (by omega)
        rw [← hM'] at hP2
        have h9 := ih (s_st c4 e 2) n3 _ (px + py) False hP2 (by rw [hst5]; decide) hnf3 (by omega) (by omega)
        rw [hp]
        generalize p_tripleL F (p_all F M d) M e τ (s_st c4 e 2) = q at h9
        obtain ⟨hF9, ⟨h1, n9, m9, r9, qx, qy, qz, h2, h3, h4, h5, h6, h7, h8, k1, k2, k3, hb9⟩ | ⟨h1, n9, m9, r9, h2, h3, h4, h5, hb9⟩ | ⟨h1, h2⟩⟩ := h9
        · exact ⟨hF9, Or.inl ⟨h1, n9, m9, r9, qx, qy, qz, by omega, h3, h4, h5, h6, h7, h8, k1, k2, k3, by omega⟩⟩
        · exact ⟨hF9, Or.inr (Or.inl ⟨h1, n9, m9, r9, by omega, fun _ => by omega, h4, h5, by omega⟩)⟩
        · exact ⟨hF9, Or.inr (Or.inr ⟨h1, h2⟩)⟩
      · have hp : p_tripleL F (p_all F M d) M e (τ + 1) c1 = (v, c4) := by rw [hpe]; simp [neg0 hv]
        rw [hp]
        exact ⟨(hM.2.2.2.1.tr (hF3.wk hin)).tr (hFd.wk hZ.2.2.2), Or.inr (Or.inr ⟨hv, fun c3 hg hF9 => herr c3 v hg rfl hF9 (by omega)⟩)⟩
    · dsimp only at hv; subst hv
      have hp : p_tripleL F (p_all F M d) M e (τ + 1) c1 = (0, c2) := by rw [hpe]; simp
      rw [hp]
      exact ⟨hF9, Or.inr (Or.inl ⟨rfl, n2, m2, r2, hn, hfr, hM, hph, by omega⟩)⟩
    · have hp : p_tripleL F (p_all F M d) M e (τ + 1) c1 = (v, c2) := by rw [hpe]; simp [neg1 hv]
      rw [hp]
      exact ⟨hF9, Or.inr (Or.inr ⟨hv, herr⟩)⟩
theorem tri_P {F : zF} {T : zT} {M f d t n p : Nat} {e : Int32} {c : zC} {r : zR} (hO : Ok F T M f) (hS : zSim F T M f d) (hT : Tr F T (d + 1) e) (hk : f_k F (ix e) = 18) (ht : t + (d + 1) < 16) :
    ∀ (τ : Nat) (c1 : zC) (n1 m1 p1 : Nat) (fr : Prop), Paired F T f d t e (m_to e) c r p n n1 m1 p1 fr (p_pairL F (p_all F M d) e M c1) → ¬ c_st c1 (ix e) = 3 → n1 ≤ f → f + 1 ≤ n1 + τ → m1 + p1 + zK d n + 20 * n ≤ p + zK d n1 + 20 * n1 + 2 →
      Tripled F T f d t e c r p n n1 m1 p1 2 fr (p_tripleL F (p_all F M d) M e τ c1) :=
  fun τ c1 n1 m1 p1 fr a1 a2 a3 a4 a5 => tS_0 (tri_P1 hO hS hT hk ht τ c1 n1 m1 p1 fr a1 a2 a3 a4 a5)
/-- z is asked next -/
theorem tri_Z {F : zF} {T : zT} {M f d t n p : Nat} {e : Int32} {c : zC} {r : zR} (hO : Ok F T M f) (hS : zSim F T M f d) (hT : Tr F T (d + 1) e) (hk : f_k F (ix e) = 18) (ht : t + (d + 1) < 16)
    (τ : Nat) (c1 : zC) (r1 r0 : zR) (w : Int32) (n1 m1 px py pz : Nat) (hM : Mid F T f d t e c r n c1 r1 w n1 m1) (hτ : f + 1 ≤ n1 + τ) (hst : c_st c1 (ix e) = 3) (hs : q_safe T (r1, w)) (hq : q_step T e w r1 = q_ask T e 2 3 r0) (hR : Ro r1 r0) (hN : Nm F r0) (hF : FrR (fun j => j = ix e) r1 r0) (hLx : Lv F d (f_x F (ix e)) c1 r1 px) (hLy : Lv F d (f_y F (ix e)) c1 r1 py) (hLz : Lv F d (f_z F (ix e)) c1 r1 pz)
    (hnm : r_nm r0 (ix e) = c_rs c1 (ix (f_x F (ix e)))) (hk1 : r_kp r0 (3 * ix e + 1) = (c_rs c1 (ix (f_y F (ix e)))).toInt64) (hE : m1 + px + py + pz + zK d n + 20 * n ≤ p + zK d n1 + 20 * n1) :
      Tripled F T f d t e c r p n n1 m1 (px + py + pz) 3 False (p_tripleL F (p_all F M d) M e (τ + 1) c1) := by
  have a2 : 2 ≤ f_a F e := by simp [f_a, hk]
  obtain ⟨hX, hY, hD⟩ := pr_parts hT a2
  obtain ⟨hZ, hDx, hDy⟩ := to_parts hT hk
  have hm := to_mem (f := f) hT hk ht
  have hIz : Idl F d (f_z F (ix e)) c1 (pu r0 e 3 t (f_z F (ix e))) pz := Or.inr (Lv_cong d _ _ (Ag.of (D := fun j => j = ix e) (E := fun j => j = ix e) FrC.rf (hF.tr (fr_pu (D := fun j => j = ix e) rfl)) (fun _ h q => hZ.2.2.1 (q ▸ h)) (fun _ h q => hZ.2.2.1 (q ▸ h))) hLz)
  have hA := mid_ask (p := p) r0 hS ht hM hs hZ.1 hZ.2.2.1 hZ.2.2.2 hq hZ.2.1 hR hN (hF.wk fun _ h => Or.inl h) hIz
  have hpe : p_tripleL F (p_all F M d) M e (τ + 1) c1 = (let q := p_all F M d (f_z F (ix e)) c1; if q.1 = 0 then p_tripleL F (p_all F M d) M e τ (s_st q.2 e 2) else q) := by
    show (if c_st c1 (ix e) = 3 then _ else _) = _
    rw [if_pos hst]
  generalize p_all F M d (f_z F (ix e)) c1 = q at hA hpe
  obtain ⟨v, c4⟩ := q
  obtain ⟨hFd, ⟨hv, n3, m3, r3, p4, hn3, hM3, hph3, hnm3, hk3, hk31, -, hFr3, hgv3, hL3, hb3⟩ | ⟨hv, n3, m3, r3, hn3, hfr3, hM3, hph3, hnm3, -, -, -, hFr3, hb3⟩ | ⟨hv, n3, hn3, herr⟩⟩ := hA
  · dsimp only at hv; subst hv
    have hp : p_tripleL F (p_all F M d) M e (τ + 1) c1 = (1, c4) := by rw [hpe]; simp
    have hC4 : FrC (fun j => j = ix e ∨ Sb F d (f_z F (ix e)) j) c1 c4 := hFd.wk fun _ h => Or.inr h
    obtain ⟨hLx4, hrx⟩ := to_keep hX.1 hX.2.2.1 hDx hC4 hFr3 hLx
    obtain ⟨hLy4, hry⟩ := to_keep hY.1 hY.2.2.1 hDy hC4 hFr3 hLy
    rw [hp]
    refine ⟨hM3.2.2.2.1, Or.inl ⟨rfl, n3, _, r3, px, py, p4, by omega, hM3, hph3, (hFd _ hZ.2.2.1).1.trans hst, ?_, ?_, hgv3, hLx4, hLy4, hL3, by omega⟩⟩
    · rw [hrx, hnm3]; exact hnm
    · rw [hry, hk31]; exact hk1
  · dsimp only at hv; subst hv
    have hp : p_tripleL F (p_all F M d) M e (τ + 1) c1 = p_tripleL F (p_all F M d) M e τ (s_st c4 e 2) := by rw [hpe]; simp
    have hC4 : FrC (fun j => j = ix e ∨ Sb F d (f_z F (ix e)) j) c1 (s_st c4 e 2) := (hFd.wk fun _ h => Or.inr h).tr (fc_st (Or.inl rfl))
    obtain ⟨hLx4, hrx⟩ := to_keep hX.1 hX.2.2.1 hDx hC4 hFr3 hLx
    obtain ⟨hLy4, hry⟩ := to_keep hY.1 hY.2.2.1 hDy hC4 hFr3 hLy
    have hst5 : c_st (s_st c4 e 2) (ix e) = 2 := pk_us
    obtain ⟨M', hM'⟩ : ∃ M', M = M' + 1 := ⟨M - 1, by have := hO.2.2.2; omega⟩
    have hfO := hO.2.2
    have hnf3 := hM3.2.1.2.2.1.2.1
    have hP2 := pair_Y hS ht hX hY hD hm M' (s_st c4 e 2) r3 2 n3 _ px py (mid_c hM3 (fc_st (Or.inl rfl)) rfl) (by omega) hst5 (hm.2.2.2.2 _ _ _ 2 hM3.2.1 (by decide) (Or.inr (Or.inr hph3))) (to_q22 hT hk hph3) hLx4 hLy4 (by rw [hrx]; exact hnm3.trans hnm) (p := p) (by omega)
    rw [← hM'] at hP2
    have h9 := tri_P1 hO hS hT hk ht τ (s_st c4 e 2) n3 _ (px + py) False hP2 (by rw [hst5]; decide) hnf3 (by omega) (by omega)
    rw [hp]
    generalize p_tripleL F (p_all F M d) M e τ (s_st c4 e 2) = q at h9
    obtain ⟨hF9, ⟨h1, n9, m9, r9, qx, qy, qz, h2, h3, h4, h5, h6, h7, h8, k1, k2, k3, hb9⟩ | ⟨h1, n9, m9, r9, h2, h3, h4, h5, hb9⟩ | ⟨h1, h2⟩⟩ := h9
    · exact ⟨hF9, Or.inl ⟨h1, n9, m9, r9, qx, qy, qz, by omega, h3, h4, h5, h6, h7, h8, k1, k2, k3, by omega⟩⟩
    · exact ⟨hF9, Or.inr (Or.inl ⟨h1, n9, m9, r9, by omega, fun h => h.elim, h4, h5, by omega⟩)⟩
    · exact ⟨hF9, Or.inr (Or.inr ⟨h1, h2⟩)⟩
  · have hp : p_tripleL F (p_all F M d) M e (τ + 1) c1 = (v, c4) := by rw [hpe]; simp [neg0 hv]
    rw [hp]
    exact ⟨hM.2.2.2.1.tr (hFd.wk hZ.2.2.2), Or.inr (Or.inr ⟨hv, fun c3 hg hF9 => herr c3 v hg rfl hF9 (by omega)⟩)⟩
/-- the next value of a TO, or none any more -/
theorem to_on {F : zF} {T : zT} {M f d t n p n2 m2 px py pz : Nat} {e w : Int32} {c c2 s1 : zC} {r r2 : zR} (r0 : zR) (hO : Ok F T M f) (hT : Tr F T (d + 1) e) (hk : f_k F (ix e) = 18) (ht : t + (d + 1) < 16) (hM : Mid F T f d t e c r n c2 r2 w n2 m2) (hs : q_safe T (r2, w)) (hq : q_step T e w r2 = q_on T e r0) (hR : Ro r2 r0) (hN : Nm F r0) (hF : FrR (fun j => j = ix e) r2 r0) (hC : FrC (fun j => j = ix e) c2 s1) (hg : c_g s1 = c_g c2) (hst : c_st s1 (ix e) = 4)
    (hnm : r_nm r0 (ix e) = c_rs s1 (ix (f_x F (ix e)))) (hk1 : r_kp r0 (3 * ix e + 1) = (c_rs s1 (ix (f_y F (ix e)))).toInt64) (hk2 : r_kp r0 (3 * ix e + 2) = (c_rs s1 (ix (f_z F (ix e)))).toInt64) (hk0 : r_kp r0 (3 * ix e) = c_ct s1 (ix e)) (hLx : Lv F d (f_x F (ix e)) c2 r2 px) (hLy : Lv F d (f_y F (ix e)) c2 r2 py) (hLz : Lv F d (f_z F (ix e)) c2 r2 pz) (hn : n ≤ n2)
    (hb : m2 + px + py + pz + zK d n + 20 * n ≤ p + zK d n2 + 20 * n2 + 4) :
    (p_upto F e s1 = true → Out F T f (d + 1) t e c r p n (p_fuel F e (c_ct s1 (ix e)).toInt32 s1)) ∧ (¬ p_upto F e s1 = true → q_step T e w r2 = q_ask T e 2 3 r0) := by
  have a2 : 2 ≤ f_a F e := by simp [f_a, hk]
  obtain ⟨hX, hY, hD⟩ := pr_parts hT a2
  obtain ⟨hZ, hDx, hDy⟩ := to_parts hT hk
  have hxe : ix (f_x F (ix e)) ≠ ix e := ne_of hX.1 hX.2.2.1
  have hye : ix (f_y F (ix e)) ≠ ix e := ne_of hY.1 hY.2.2.1
  have hze : ix (f_z F (ix e)) ≠ ix e := ne_of hZ.1 hZ.2.2.1
  have e0 : r_kp r0 (ix (3 * e)) = c_ct s1 (ix e) := by rw [ix_30 hT.1]; exact hk0
  have e1 : r_kp r0 (ix (3 * e + 1)) = (c_rs s1 (ix (f_y F (ix e)))).toInt64 := by rw [ix_31 hT.1]; exact hk1
  have e2 : r_kp r0 (ix (3 * e + 2)) = (c_rs s1 (ix (f_z F (ix e)))).toInt64 := by rw [ix_32 hT.1]; exact hk2
  have hon : q_on T e r0 = if p_upto F e s1 = true then q_paid T (c_ct s1 (ix e)).toInt32 (u_kp (u_ph r0 e 4) (3 * e) (c_ct s1 (ix e) + (c_rs s1 (ix (f_z F (ix e)))).toInt64)) else q_ask T e 2 3 r0 := by
    unfold q_on p_upto
    simp only [e0, e1, e2, i64_0]
    by_cases hp : 0 < c_rs s1 (ix (f_z F (ix e)))
    · simp only [if_pos hp, decide_eq_true_eq]
      by_cases hu : (c_rs s1 (ix (f_y F (ix e)))).toInt64 < c_ct s1 (ix e)
      · rw [if_pos hu, if_neg (fun q => q hu)]
      · rw [if_neg hu, if_pos hu]
    · simp only [if_neg hp, decide_eq_true_eq]
      by_cases hu : c_ct s1 (ix e) < (c_rs s1 (ix (f_y F (ix e)))).toInt64
      · rw [if_pos hu, if_neg (fun q => q hu)]
      · rw [if_neg hu, if_pos hu]
  refine ⟨fun hu => ?_, fun hu => by rw [hq, hon, if_neg hu]⟩
  rw [if_pos hu] at hon
  obtain ⟨hf1, hf2, hf3, -⟩ := hO
  have hUm := hM.2.1
  obtain ⟨hsp, hnf, w0, hw, hwc⟩ := hUm.2.2.1
  have hgr : r_g r0 = c_g s1 := hR.1.trans (hUm.2.1.trans hg.symm)
  have hCs : FrC (Sb F (d + 1) e) c2 s1 := hC.wk fun j h => Or.inl h
  by_cases hnf2 : n2 = f
  · have p1 : p_fuel F e (c_ct s1 (ix e)).toInt32 s1 = (-5, s1) := by
      unfold p_fuel; rw [if_neg]; rw [hf1, hg, hsp, hnf2]; exact Int32.lt_irrefl
    have q1 : q_paid T (c_ct s1 (ix e)).toInt32 (u_kp (u_ph r0 e 4) (3 * e) (c_ct s1 (ix e) + (c_rs s1 (ix (f_z F (ix e)))).toInt64)) = (0, u_er (u_kp (u_ph r0 e 4) (3 * e) (c_ct s1 (ix e) + (c_rs s1 (ix (f_z F (ix e)))).toInt64)) (-5)) := by
      unfold q_paid; rw [if_pos]; show g_sp (r_g r0) = t_f T; rw [hgr, hg, hsp, hf2, hnf2]
    rw [p1]
    refine mid_bad ht hM hs (hq.trans (hon.trans q1)) rfl (by decide) hgr (by rw [hg]; exact hUm.2.2.1) hCs ?_
    rw [zK_s, zK_s]; omega
  · have p1 : p_fuel F e (c_ct s1 (ix e)).toInt32 s1 = (1, s_rs (s_g s1 (h_sp (c_g s1))) e (c_ct s1 (ix e)).toInt32) := by
      unfold p_fuel
      rw [if_pos]
      · rfl
      · rw [hf1, hg, hsp, nI_ltI (by omega) (by omega)]; omega
    have q1 : q_paid T (c_ct s1 (ix e)).toInt32 (u_kp (u_ph r0 e 4) (3 * e) (c_ct s1 (ix e) + (c_rs s1 (ix (f_z F (ix e)))).toInt64)) = (1, u_gv (u_g (u_kp (u_ph r0 e 4) (3 * e) (c_ct s1 (ix e) + (c_rs s1 (ix (f_z F (ix e)))).toInt64)) (h_sp (r_g r0))) (c_ct s1 (ix e)).toInt32) := by
      unfold q_paid
      rw [if_neg]
      · rfl
      · show ¬ g_sp (r_g r0) = t_f T
        rw [hgr, hg, hsp, hf2, nI_eq (by omega) (by omega)]; exact hnf2
    have hgo := go_pop1 hs (by omega) hUm.2.2.2.2.1 hUm.2.2.2.2.2 (hq.trans (hon.trans q1)) (hR.2.2.1.trans hUm.2.2.2.2.1) (hR.2.1.trans hUm.2.2.2.1)
    have hFr : FrR (fun j => j = ix e) r2 (u_tp (u_gv (u_g (u_kp (u_ph r0 e 4) (3 * e) (c_ct s1 (ix e) + (c_rs s1 (ix (f_z F (ix e)))).toInt64)) (h_sp (r_g r0))) (c_ct s1 (ix e)).toInt32) (nI t)) := hF.tr ((fr_ph (D := fun j => j = ix e) rfl).tr ((fr_kp (D := fun j => j = ix e) (k := ix e) (b := 0) rfl (by decide) (ix_30 hT.1)).tr (fr_g.tr (fr_gv.tr fr_tp))))
    have hCr : FrC (fun j => j = ix e) c2 (s_rs (s_g s1 (h_sp (c_g s1))) e (c_ct s1 (ix e)).toInt32) := hC.tr (fc_g.tr (fc_rs (D := fun j => j = ix e) rfl))
    have hag : ∀ x : Int32, ¬ Sb F d x (ix e) → Ag (Sb F d x) c2 (s_rs (s_g s1 (h_sp (c_g s1))) e (c_ct s1 (ix e)).toInt32) r2 _ := fun x hx => Ag.of hCr hFr (fun _ h q => hx (q ▸ h)) (fun _ h q => hx (q ▸ h))
    rw [p1]
    have hm := zK_m d (Nat.le_add_right n2 1)
    refine ⟨n2 + 1, by omega, hM.2.2.2.1.tr (hCr.wk fun j h => Or.inl h), Or.inl ⟨rfl, by omega, m2 + 1, _, px + py + pz + 4, Go_trans _ _ _ _ _ hM.1 hgo, ⟨hN, ?_, ⟨?_, by omega, w0, hw, ?_⟩, hR.2.1.trans hUm.2.2.2.1, rfl, fun j hj => (congrFun hR.2.2.2 j).trans (hM.2.2.1 j hj)⟩, hM.2.2.2.2.1.tr (hFr.wk fun j h => Or.inl h), (pk_us (f := c_rs s1)).symm, (Lv_18 hk).mpr ⟨hst, pk_us, ?_, ?_, ?_, ?_, px, py, pz, Lv_cong d _ _ (hag _ hX.2.2.1) hLx, Lv_cong d _ _ (hag _ hY.2.2.1) hLy, Lv_cong d _ _ (hag _ hZ.2.2.1) hLz, rfl⟩, ?_⟩⟩
    · show h_sp (r_g r0) = h_sp (c_g s1); rw [hgr]
    · show g_sp (c_g s1) + 1 = nI (n2 + 1); rw [hg, hsp, nI_succ]
    · show g_wc (c_g s1) = nI w0; rw [hg]; exact hwc
    · show r_nm r0 (ix e) = upd (c_rs s1) (ix e) _ (ix (f_x F (ix e))); rw [pk_un hxe]; exact hnm
    · show vp_updL (r_kp r0) (ix (3 * e)) _ (3 * ix e + 1) = (upd (c_rs s1) (ix e) _ (ix (f_y F (ix e)))).toInt64
      rw [pk_un hye, ix_30 hT.1, pk_uLn (by omega)]; exact hk1
    · show vp_updL (r_kp r0) (ix (3 * e)) _ (3 * ix e + 2) = (upd (c_rs s1) (ix e) _ (ix (f_z F (ix e)))).toInt64
      rw [pk_un hze, ix_30 hT.1, pk_uLn (by omega)]; exact hk2
    · show vp_updL (r_kp r0) (ix (3 * e)) _ (3 * ix e) = c_ct s1 (ix e) + (upd (c_rs s1) (ix e) _ (ix (f_z F (ix e)))).toInt64
      rw [pk_un hze, ix_30 hT.1, pk_uLs]
    · rw [zK_s, zK_s]; omega
theorem to_L {F : zF} {T : zT} {M f d t n p : Nat} {e : Int32} {c : zC} {r : zR} (hO : Ok F T M f) (hS : zSim F T M f d) (hT : Tr F T (d + 1) e) (hk : f_k F (ix e) = 18) (ht : t + (d + 1) < 16) :
    ∀ (τ : Nat) (c1 : zC) (n1 m1 p1 b : Nat) (fr : Prop), Tripled F T f d t e c r p n n1 m1 p1 b fr (p_tripleL F (p_all F M d) M e M c1) → ¬ c_st c1 (ix e) = 4 → b ≤ 3 → n1 ≤ f → f + 1 ≤ n1 + τ → n ≤ n1 → (c_st c (ix e) = 0 → n < n1 ∨ fr) → m1 + p1 + zK d n + 16 * n ≤ p + zK d n1 + 16 * n1 → n < n1 ∨ fr ∨ m1 + p1 + 4 + zK d n + 16 * n ≤ p + zK d n1 + 16 * n1 →
      Out F T f (d + 1) t e c r p n (p_toL F (p_all F M d) M e τ c1) := by
  have a2 : 2 ≤ f_a F e := by simp [f_a, hk]
  obtain ⟨hX, hY, hD⟩ := pr_parts hT a2
  obtain ⟨hZ, hDx, hDy⟩ := to_parts hT hk
  have hm := to_mem (f := f) hT hk ht
  have hxe : ix (f_x F (ix e)) ≠ ix e := ne_of hX.1 hX.2.2.1
  intro τ
  induction τ with
  | zero => intro c1 n1 m1 p1 b fr _ _ _ h1 h2; omega
  | succ τ ih =>
    intro c1 n1 m1 p1 b fr hP hst hb3 hn1 hτ hn0 hfr1 hb1 hb2
    have hpe : p_toL F (p_all F M d) M e (τ + 1) c1 = (let q := p_tripleL F (p_all F M d) M e M c1; if q.1 = 1 then
        if c_rs q.2 (ix (f_z F (ix e))) = 0 then (-3, q.2) else
          let s1 := s_st (s_ct q.2 e (c_rs q.2 (ix (f_x F (ix e)))).toInt64) e 4
          if p_upto F e s1 = true then p_fuel F e (c_ct s1 (ix e)).toInt32 s1 else p_toL F (p_all F M d) M e τ (s_st s1 e 3)
      else q) := by
      show (if c_st c1 (ix e) = 4 then _ else _) = _
      rw [if_neg hst]
    generalize p_tripleL F (p_all F M d) M e M c1 = q at hP hpe
    obtain ⟨v, c2⟩ := q
    obtain ⟨hF9, ⟨hv, n2, m2, r2, px, py, pz, hn, hM, hph, hst2, hnm, hk1, hgv, hLx, hLy, hLz, hb⟩ | ⟨hv, n2, m2, r2, hn, hfr, hM, hph, hb⟩ | ⟨hv, herr⟩⟩ := hP
    · dsimp only at hv; subst hv
      simp only [if_true] at hpe
      have hs := hm.2.2.2.2 _ _ _ 1 hM.2.1 (by decide) (Or.inr (Or.inr hph))
      have hq1 := to_q13 hT hk hph
      by_cases hz0 : c_rs c2 (ix (f_z F (ix e))) = 0
      · rw [if_pos hz0] at hpe
        rw [if_pos (by rw [hgv]; exact hz0)] at hq1
        rw [hpe]
        refine mid_bad ht hM hs hq1 rfl (by decide) hM.2.1.2.1 hM.2.1.2.2.1 FrC.rf ?_
        rw [zK_s, zK_s]; omega
      · rw [if_neg hz0] at hpe
        rw [if_neg (by rw [hgv]; exact hz0)] at hq1
        generalize hs1 : s_st (s_ct c2 e (c_rs c2 (ix (f_x F (ix e)))).toInt64) e 4 = s1 at hpe
        have hC1 : FrC (fun j => j = ix e) c2 s1 := by rw [← hs1]; exact (fc_ct (D := fun j => j = ix e) rfl).tr (fc_st (D := fun j => j = ix e) rfl)
        have hg1 : c_g s1 = c_g c2 := by rw [← hs1]; rfl
        have hct : c_ct s1 (ix e) = (c_rs c2 (ix (f_x F (ix e)))).toInt64 := by rw [← hs1]; exact pk_uLs
        have hst4 : c_st s1 (ix e) = 4 := by rw [← hs1]; exact pk_us
        have hrs : c_rs s1 = c_rs c2 := by rw [← hs1]; rfl
        have hR0 : Ro r2 (u_kp (u_kp r2 (3 * e + 3 - 1) (r_gv r2).toInt64) (3 * e) (r_nm r2 (ix e)).toInt64) := ⟨rfl, rfl, rfl, rfl⟩
        have hFk : FrR (fun j => j = ix e) r2 (u_kp (u_kp r2 (3 * e + 3 - 1) (r_gv r2).toInt64) (3 * e) (r_nm r2 (ix e)).toInt64) := (fr_kp (D := fun j => j = ix e) (k := ix e) (b := 2) rfl (by decide) (ix_331 hT.1)).tr (fr_kp (D := fun j => j = ix e) (k := ix e) (b := 0) rfl (by decide) (ix_30 hT.1))
        have k1 : r_kp (u_kp (u_kp r2 (3 * e + 3 - 1) (r_gv r2).toInt64) (3 * e) (r_nm r2 (ix e)).toInt64) (3 * ix e + 1) = (c_rs s1 (ix (f_y F (ix e)))).toInt64 := by
          show vp_updL (vp_updL (r_kp r2) (ix (3 * e + 3 - 1)) _) (ix (3 * e)) _ (3 * ix e + 1) = _
          rw [ix_30 hT.1, ix_331 hT.1, pk_uLn (by omega), pk_uLn (by omega), hrs]; exact hk1
        have k2 : r_kp (u_kp (u_kp r2 (3 * e + 3 - 1) (r_gv r2).toInt64) (3 * e) (r_nm r2 (ix e)).toInt64) (3 * ix e + 2) = (c_rs s1 (ix (f_z F (ix e)))).toInt64 := by
          show vp_updL (vp_updL (r_kp r2) (ix (3 * e + 3 - 1)) _) (ix (3 * e)) _ (3 * ix e + 2) = _
          rw [ix_30 hT.1, ix_331 hT.1, pk_uLn (by omega), pk_uLs, hrs, hgv]
        have k0 : r_kp (u_kp (u_kp r2 (3 * e + 3 - 1) (r_gv r2).toInt64) (3 * e) (r_nm r2 (ix e)).toInt64) (3 * ix e) = c_ct s1 (ix e) := by
          show vp_updL (vp_updL (r_kp r2) (ix (3 * e + 3 - 1)) _) (ix (3 * e)) _ (3 * ix e) = _
          rw [ix_30 hT.1, pk_uLs, hct, hnm]
        obtain ⟨on1, on2⟩ := to_on (p := p) _ hO hT hk ht hM hs hq1 hR0 hM.2.1.1 hFk hC1 hg1 hst4 (by rw [hrs]; exact hnm) k1 k2 k0 hLx hLy hLz (by omega) (by omega)
        by_cases hu : p_upto F e s1 = true
        · rw [hpe, if_pos hu]
          exact on1 hu
        · rw [hpe, if_neg hu]
          have hst5 : c_st (s_st s1 e 3) (ix e) = 3 := pk_us
          have hC5 : FrC (fun j => j = ix e) c2 (s_st s1 e 3) := hC1.tr (fc_st (D := fun j => j = ix e) rfl)
          have hag : ∀ x : Int32, ¬ Sb F d x (ix e) → Ag (Sb F d x) c2 (s_st s1 e 3) r2 r2 := fun x hx => Ag.of (E := fun _ => False) hC5 FrR.rf (fun _ h q => hx (q ▸ h)) (fun _ _ q => q)
          obtain ⟨M', hM'⟩ : ∃ M', M = M' + 1 := ⟨M - 1, by have := hO.2.2.2; omega⟩
          have hfO := hO.2.2
          have hnf2 := hM.2.1.2.2.1.2.1
          have h9 := tri_Z hO hS hT hk ht M' (s_st s1 e 3) r2 _ 1 n2 m2 px py pz (mid_c hM (hC5.wk fun j h => Or.inl h) hg1) (by omega) hst5 hs (on2 hu) hR0 hM.2.1.1 hFk (Lv_cong d _ _ (hag _ hX.2.2.1) hLx) (Lv_cong d _ _ (hag _ hY.2.2.1) hLy) (Lv_cong d _ _ (hag _ hZ.2.2.1) hLz) (by show r_nm r2 (ix e) = c_rs s1 _; rw [hrs]; exact hnm) k1 (p := p) (by omega)
          rw [← hM'] at h9
          exact ih (s_st s1 e 3) n2 m2 (px + py + pz) 3 False h9 (by rw [hst5]; decide) (by omega) hnf2 (by omega) (by omega) (fun _ => Or.inl (by omega)) (by omega) (Or.inl (by omega))
    · dsimp only at hv; subst hv
      have hp : p_toL F (p_all F M d) M e (τ + 1) c1 = (0, c2) := by rw [hpe]; simp
      have hq2 : q_step T e 2 r2 = (0, r2) := by rw [to_q hT hk]; simp [q_to, hph]
      rw [hp]
      refine mid_zero _ ht hM (hm.2.2.2.2 _ _ _ 2 hM.2.1 (by decide) (Or.inl hph)) hq2 ⟨rfl, rfl, rfl, rfl⟩ hM.2.1.1 FrR.rf FrC.rf rfl (fun h => ?_) ?_
      · rcases hfr1 h with h | h
        · omega
        · have := hfr h; omega
      · rw [zK_s, zK_s]
        rcases hb2 with h | h | h
        · omega
        · have := hfr h; omega
        · omega
    · have hp : p_toL F (p_all F M d) M e (τ + 1) c1 = (v, c2) := by rw [hpe]; simp [neg1 hv]
      rw [hp]
      exact herr c2 rfl hF9
theorem sm_to {F : zF} {T : zT} {M f d t n p : Nat} {e : Int32} {c : zC} {r : zR} (hO : Ok F T M f) (hS : zSim F T M f d) (hT : Tr F T (d + 1) e) (hk : f_k F (ix e) = 18) (ht : t + (d + 1) < 16) (hU : zUp F f t e c r n) (hI : Idl F (d + 1) e c r p) : Out F T f (d + 1) t e c r p n (p_toL F (p_all F M d) M e M c) := by
  have a2 : 2 ≤ f_a F e := by simp [f_a, hk]
  obtain ⟨hX, hY, hD⟩ := pr_parts hT a2
  obtain ⟨hZ, hDx, hDy⟩ := to_parts hT hk
  have hm := to_mem (f := f) hT hk ht
  have hxe : ix (f_x F (ix e)) ≠ ix e := ne_of hX.1 hX.2.2.1
  have hs : q_safe T (r, 0) := safe_of hT (by omega) hU (fun h => by rw [hk] at h; simp at h) (fun _ h => absurd rfl h)
  have hfO := hO.2.2
  have hnf := hU.2.2.1.2.1
  have hq0 : q_step T e 0 r = if r_ph r (ix e) = 0 then q_first T e 0 1 r else q_on T e r := by rw [to_q hT hk]; simp [q_to]
  rcases hI with ⟨h1, h2, rfl⟩ | hL
  · have hP := pair_X hS ht hX hY hD hm M c r (u_ph r (f_x F (ix e)) 0) 0 n 0 0 (mid_0 hU) (by omega) (by rw [h1]; decide) hs (by rw [hq0, if_pos h2, q_first_eq hX.2.1]) ⟨rfl, rfl, rfl, rfl⟩ hU.1 (fr_ph (Or.inr (Tr_self hX.1))) (id_fresh hX.1 hX.2.2.1 (x1_f hxe h1)) (p := 0) (by omega)
    have h9 := tri_P hO hS hT hk ht M c n 0 0 _ hP (by rw [h1]; decide) hnf (by omega) (by omega)
    exact to_L hO hS hT hk ht M c n 0 0 2 _ h9 (by rw [h1]; decide) (by omega) hnf (by omega) (Nat.le_refl _) (fun h => Or.inr h) (by omega) (Or.inr (Or.inl h1))
  · obtain ⟨h1, h2, h3, h4, h5, h6, px, py, pz, hLx, hLy, hLz, rfl⟩ := (Lv_18 hk).mp hL
    rw [if_neg (by rw [h2]; decide)] at hq0
    obtain ⟨M', hM'⟩ : ∃ M', M = M' + 1 := ⟨M - 1, by omega⟩
    generalize hs1 : s_ct c e (c_ct c (ix e) + (c_rs c (ix (f_z F (ix e)))).toInt64) = s1
    have hC1 : FrC (fun j => j = ix e) c s1 := by rw [← hs1]; exact fc_ct rfl
    have hg1 : c_g s1 = c_g c := by rw [← hs1]; rfl
    have hct : c_ct s1 (ix e) = c_ct c (ix e) + (c_rs c (ix (f_z F (ix e)))).toInt64 := by rw [← hs1]; exact pk_uLs
    have hst4 : c_st s1 (ix e) = 4 := by rw [← hs1]; exact h1
    have hrs : c_rs s1 = c_rs c := by rw [← hs1]; rfl
    obtain ⟨on1, on2⟩ := to_on (p := px + py + pz + 4) r hO hT hk ht (mid_0 (T := T) hU) hs hq0 ⟨rfl, rfl, rfl, rfl⟩ hU.1 FrR.rf hC1 hg1 hst4 (by rw [hrs]; exact h3) (by rw [hrs]; exact h4) (by rw [hrs]; exact h5) (by rw [hct]; exact h6) hLx hLy hLz (Nat.le_refl _) (by omega)
    have hgoal : p_toL F (p_all F M d) M e M c = p_toL F (p_all F M d) M e (M' + 1) c := by rw [← hM']
    rw [hgoal, show p_toL F (p_all F M d) M e (M' + 1) c = if p_upto F e s1 = true then p_fuel F e (c_ct s1 (ix e)).toInt32 s1 else p_toL F (p_all F M d) M e M' (s_st s1 e 3) by
      show (if c_st c (ix e) = 4 then _ else _) = _
      rw [if_pos h1, hs1]]
    by_cases hu : p_upto F e s1 = true
    · rw [if_pos hu]; exact on1 hu
    · rw [if_neg hu]
      have hst5 : c_st (s_st s1 e 3) (ix e) = 3 := pk_us
      have hC5 : FrC (fun j => j = ix e) c (s_st s1 e 3) := hC1.tr (fc_st (D := fun j => j = ix e) rfl)
      have hag : ∀ x : Int32, ¬ Sb F d x (ix e) → Ag (Sb F d x) c (s_st s1 e 3) r r := fun x hx => Ag.of (E := fun _ => False) hC5 FrR.rf (fun _ h q => hx (q ▸ h)) (fun _ _ q => q)
      have h9 := tri_Z hO hS hT hk ht M' (s_st s1 e 3) r r 0 n 0 px py pz (mid_c (mid_0 (T := T) (d := d) hU) (hC5.wk fun j h => Or.inl h) hg1) (by omega) hst5 hs (on2 hu) ⟨rfl, rfl, rfl, rfl⟩ hU.1 FrR.rf (Lv_cong d _ _ (hag _ hX.2.2.1) hLx) (Lv_cong d _ _ (hag _ hY.2.2.1) hLy) (Lv_cong d _ _ (hag _ hZ.2.2.1) hLz) (by show r_nm r (ix e) = c_rs s1 _; rw [hrs]; exact h3) (by show r_kp r _ = (c_rs s1 _).toInt64; rw [hrs]; exact h4) (p := px + py + pz + 4) (by omega)
      rw [← hM'] at h9
      exact to_L hO hS hT hk ht M' (s_st s1 e 3) n 0 (px + py + pz) 3 False h9 (by rw [hst5]; decide) (by omega) hnf (by omega) (Nat.le_refl _) (fun h => absurd (h.symm.trans h1) (by decide)) (by omega) (Or.inr (Or.inr (by omega)))
/-- one question of the recursion is a row of turns of the machine -/
theorem sim_all {F : zF} {T : zT} {M f : Nat} (hO : Ok F T M f) : ∀ d : Nat, zSim F T M f d
  | 0 => fun t e c r p n hT => hT.elim
  | d + 1 => by
    intro t e c r p n hT ht hU hI
    have hS := sim_all hO d
    obtain ⟨k, hk, hke⟩ := hT.2.1
    have hall : p_all F M (d + 1) e c = p_ask F (p_all F M d) M e c := rfl
    rw [hall]
    have hk' : k = 0 ∨ k = 1 ∨ k = 2 ∨ k = 3 ∨ k = 4 ∨ k = 5 ∨ k = 6 ∨ k = 7 ∨ k = 8 ∨ k = 9 ∨ k = 10 ∨ k = 11 ∨ k = 12 ∨ k = 13 ∨ k = 14 ∨ k = 15 ∨ k = 16 ∨ k = 17 ∨ k = 18 ∨ k = 19 := by omega
    rcases hk' with rfl | rfl | rfl | rfl | rfl | rfl | rfl | rfl | rfl | rfl | rfl | rfl | rfl | rfl | rfl | rfl | rfl | rfl | rfl | rfl
    · have h : f_k F (ix e) = 0 := hke
      rw [show p_ask F (p_all F M d) M e c = p_leaf F e (f_n F (ix e)) c by simp [p_ask, h]]
      exact sm_leaf hO hT (Or.inl h) ht hU hI (by rw [if_pos h])
    · have h : f_k F (ix e) = 1 := hke
      rw [show p_ask F (p_all F M d) M e c = p_leaf F e (g_va (c_g c) (ix (f_n F (ix e)))) c by simp [p_ask, h]]
      exact sm_leaf hO hT (Or.inr h) ht hU hI (by rw [if_neg (by rw [h]; decide)])
    · have h : f_k F (ix e) = 2 := hke
      rw [show p_ask F (p_all F M d) M e c = p_assign F (p_all F M d) e c by simp [p_ask, h]]
      exact sm_assign hS hT h ht hU hI
    · have h : f_k F (ix e) = 3 := hke
      rw [show p_ask F (p_all F M d) M e c = p_write F (p_all F M d) e c by simp [p_ask, h]]
      exact sm_write hS hT h ht hU hI
    · have h : f_k F (ix e) = 4 := hke
      rw [show p_ask F (p_all F M d) M e c = p_not F (p_all F M d) e c by simp [p_ask, h]]
      exact sm_not hS hT h ht hU hI
    · have h : f_k F (ix e) = 5 := hke
      rw [show p_ask F (p_all F M d) M e c = p_again F (p_all F M d) e c by simp [p_ask, h]]
      exact sm_again hS hT h ht hU hI
    · have h : f_k F (ix e) = 6 := hke
      rw [show p_ask F (p_all F M d) M e c = p_either F (p_all F M d) e c by simp [p_ask, h]]
      exact sm_either hS hT h ht hU hI
    · have h : f_k F (ix e) = 7 := hke
      rw [show p_ask F (p_all F M d) M e c = p_up e (f_y F (ix e)) (p_pairL F (p_all F M d) e M c) by simp [p_ask, h]]
      exact sm_and hO hS hT h ht hU hI
    · have h : f_k F (ix e) = 8 := hke
      rw [show p_ask F (p_all F M d) M e c = p_arith F (p_all F M d) M e c by simp [p_ask, h]]
      exact sm_arith hO hS hT (Or.inl h) ht hU hI
    · have h : f_k F (ix e) = 9 := hke
      rw [show p_ask F (p_all F M d) M e c = p_arith F (p_all F M d) M e c by simp [p_ask, h]]
      exact sm_arith hO hS hT (Or.inr (Or.inl h)) ht hU hI
    · have h : f_k F (ix e) = 10 := hke
      rw [show p_ask F (p_all F M d) M e c = p_arith F (p_all F M d) M e c by simp [p_ask, h]]
      exact sm_arith hO hS hT (Or.inr (Or.inr h)) ht hU hI
    · have h : f_k F (ix e) = 11 := hke
      rw [show p_ask F (p_all F M d) M e c = p_compL F (p_all F M d) M e M c by simp [p_ask, h]]
      exact sm_comp hO hS hT (Or.inl h) ht hU hI
    · have h : f_k F (ix e) = 12 := hke
      rw [show p_ask F (p_all F M d) M e c = p_compL F (p_all F M d) M e M c by simp [p_ask, h]]
      exact sm_comp hO hS hT (Or.inr (Or.inl h)) ht hU hI
    · have h : f_k F (ix e) = 13 := hke
      rw [show p_ask F (p_all F M d) M e c = p_compL F (p_all F M d) M e M c by simp [p_ask, h]]
      exact sm_comp hO hS hT (Or.inr (Or.inr h)) ht hU hI
    · have h : f_k F (ix e) = 14 := hke
      rw [show p_ask F (p_all F M d) M e c = p_limitL F (p_all F M d) e M c by simp [p_ask, h]]
      exact sm_limit hO hS hT h ht hU hI
    · have h : f_k F (ix e) = 15 := hke
      rw [show p_ask F (p_all F M d) M e c = p_everyL F (p_all F M d) e M c by simp [p_ask, h]]
      exact sm_every hO hS hT (Or.inl h) ht hU hI
    · have h : f_k F (ix e) = 16 := hke
      rw [show p_ask F (p_all F M d) M e c = p_everyL F (p_all F M d) e M c by simp [p_ask, h]]
      exact sm_every hO hS hT (Or.inr h) ht hU hI
    · have h : f_k F (ix e) = 17 := hke
      rw [show p_ask F (p_all F M d) M e c = p_then F (p_all F M d) e c by simp [p_ask, h]]
      exact sm_then hS hT h ht hU hI
    · have h : f_k F (ix e) = 18 := hke
      rw [show p_ask F (p_all F M d) M e c = p_toL F (p_all F M d) M e M c by simp [p_ask, h]]
      exact sm_to hO hS hT h ht hU hI
    · have h : f_k F (ix e) = 19 := hke
      rw [show p_ask F (p_all F M d) M e c = p_if F (p_all F M d) e c by simp [p_ask, h]]
      exact sm_if hS hT h ht hU hI
end
section
/-! the cells -/
/-- forest, search, depth, free, count, latest, begun, last answer -/
abbrev zX : Type := zF × zC × (Nat → Int32) × (Nat → Int32) × Int32 × Int32 × Int32 × Int32
def x_F (X : zX) : zF := X.1
def x_c (X : zX) : zC := X.2.1
def x_d (X : zX) : Nat → Int32 := X.2.2.1
def x_f (X : zX) : Nat → Int32 := X.2.2.2.1
def x_n (X : zX) : Int32 := X.2.2.2.2.1
def x_l (X : zX) : Int32 := X.2.2.2.2.2.1
def x_b (X : zX) : Int32 := X.2.2.2.2.2.2.1
def x_a (X : zX) : Int32 := X.2.2.2.2.2.2.2
def X_c (X : zX) (s : zC) : zX := (X.1, s, X.2.2)
/-- cells: GoalSearch, Search, Forest, seven rows of the forest, five of the search; a: addresses, k: the rows' array sorts -/
def wX (a : Nat → Nat) (k : Nat → ClassId) (X : zX) : va_W := [(a 0, .inr (2, [.ref (a 1), .ref (a 2)])),
  (a 1, .inr (1, [.ref (a 2), .ref (a 10), .ref (a 11), .ref (a 12), .ref (a 13), .ref (a 14), .int (g_wc (c_g (x_c X))), .int (g_sp (c_g (x_c X))), .int (x_l X), .int (f_f (x_F X)), .int (x_b X), .int (x_a X)])),
  (a 2, .inr (0, [.ref (a 3), .ref (a 4), .ref (a 5), .ref (a 6), .ref (a 7), .ref (a 8), .ref (a 9), .int (x_n X)])),
  (a 3, .inl (k 3, 60, .inl (f_k (x_F X)))), (a 4, .inl (k 4, 60, .inl (f_n (x_F X)))), (a 5, .inl (k 5, 60, .inl (f_x (x_F X)))), (a 6, .inl (k 6, 60, .inl (f_y (x_F X)))), (a 7, .inl (k 7, 60, .inl (f_z (x_F X)))), (a 8, .inl (k 8, 60, .inl (x_d X))), (a 9, .inl (k 9, 60, .inl (x_f X))),
  (a 10, .inl (k 10, 60, .inl (c_st (x_c X)))), (a 11, .inl (k 11, 60, .inl (c_rs (x_c X)))), (a 12, .inl (k 12, 60, .inr (.inl (c_ct (x_c X))))), (a 13, .inl (k 13, 8, .inl (g_va (c_g (x_c X))))), (a 14, .inl (k 14, 32, .inl (g_wr (c_g (x_c X)))))]
def yX (k : Nat → ClassId) : List (ClassId × FieldType) := [(k 3, .int), (k 4, .int), (k 5, .int), (k 6, .int), (k 7, .int), (k 8, .int), (k 9, .boolean), (k 10, .int), (k 11, .int), (k 12, .long), (k 13, .int), (k 14, .int)]
def wS (a : Nat → Nat) (k : Nat → ClassId) (X : zX) (s : zC) : va_W := wX a k (X_c X s)
/-- the written count is in range -/
def Wk (s : zC) : Prop := ∃ n : Nat, n ≤ 32 ∧ g_wc (c_g s) = nI n
theorem wk_in {s : zC} (h : Wk s) (hc : g_wc (c_g s) < 32) : vp_in (g_wc (c_g s)) 32 := by
  obtain ⟨n, hn, e⟩ := h
  rw [e] at hc ⊢
  exact vp_in_nI ((nI_ltI (b := 32) (by omega) (by decide)).mp hc) (by decide)
theorem wk_up {s : zC} {i v : Int32} (h : Wk s) (hc : g_wc (c_g s) < 32) : Wk (s_g (s_g s (h_w0 (c_g s) i v)) (h_w1 (c_g (s_g s (h_w0 (c_g s) i v))))) := by
  obtain ⟨n, hn, e⟩ := h
  rw [e] at hc
  have h32 := (nI_ltI (b := 32) (by omega) (by decide)).mp hc
  refine ⟨n + 1, h32, ?_⟩
  show g_wc (c_g s) + 1 = nI (n + 1)
  rw [e, nI_succ]
theorem wr_eq (s : zC) (v : Int32) : s_g (s_g s (h_w0 (c_g s) (g_wc (c_g s)) v)) (h_w1 (c_g (s_g s (h_w0 (c_g s) (g_wc (c_g s)) v)))) = s_g s (h_wr (c_g s) v) := rfl
theorem tn_lt {n : Nat} (h : n < 1000000) : nI n < 1000000 := nI_lt h (by decide)
theorem tn_ge {n : Nat} (h : nI n < 1000000) (hn : n = 1000000) : False := by
  subst hn
  exact absurd h (by decide)
theorem i64_nle {x y : Int64} (h : ¬ x ≤ y) : y < x := by
  rw [Int64.le_iff_toInt_le] at h; rw [Int64.lt_iff_toInt_lt]; omega
theorem i64_nlt {x y : Int64} (h : x ≤ y) : ¬ y < x := by
  rw [Int64.le_iff_toInt_le] at h; rw [Int64.lt_iff_toInt_lt]; omega
theorem br_tr {F : zF} {T : zT} {d : Nat} {e : Int32} {s : zC} (hy : Tr F T d (f_y F (ix e))) (hz : Tr F T d (f_z F (ix e))) : Tr F T d (p_branch F e s) := by
  unfold p_branch; split
  · exact hy
  · exact hz
/-! The whole objects: pure pictures of the calls, one a method, on both sides. -/
abbrev mx (x y : Int32) : Int32 := if x < y then y else x
def h_c (g : zG) (v : Int32) : zG := (g.1, g.2.1, g.2.2.1, v)
def h_wc (g : zG) (v : Int32) : zG := (g.1, g.2.1, v, g.2.2.2)
def X_q (X : zX) (f : zC → zC) : zX := (X.1, f X.2.1, X.2.2)
def X_k (X : zX) (i v : Int32) : zX := ((upd X.1.1 (ix i) v, X.1.2), X.2)
def X_m (X : zX) (i v : Int32) : zX := ((X.1.1, upd X.1.2.1 (ix i) v, X.1.2.2), X.2)
def X_x (X : zX) (i v : Int32) : zX := ((X.1.1, X.1.2.1, upd X.1.2.2.1 (ix i) v, X.1.2.2.2), X.2)
def X_y (X : zX) (i v : Int32) : zX := ((X.1.1, X.1.2.1, X.1.2.2.1, upd X.1.2.2.2.1 (ix i) v, X.1.2.2.2.2), X.2)
def X_z (X : zX) (i v : Int32) : zX := ((X.1.1, X.1.2.1, X.1.2.2.1, X.1.2.2.2.1, upd X.1.2.2.2.2.1 (ix i) v, X.1.2.2.2.2.2), X.2)
def X_u (X : zX) (v : Int32) : zX := ((X.1.1, X.1.2.1, X.1.2.2.1, X.1.2.2.2.1, X.1.2.2.2.2.1, v), X.2)
def X_d (X : zX) (i v : Int32) : zX := (X.1, X.2.1, upd X.2.2.1 (ix i) v, X.2.2.2)
def X_f (X : zX) (i v : Int32) : zX := (X.1, X.2.1, X.2.2.1, upd X.2.2.2.1 (ix i) v, X.2.2.2.2)
def X_n (X : zX) (v : Int32) : zX := (X.1, X.2.1, X.2.2.1, X.2.2.2.1, v, X.2.2.2.2.2)
def X_l (X : zX) (v : Int32) : zX := (X.1, X.2.1, X.2.2.1, X.2.2.2.1, X.2.2.2.2.1, v, X.2.2.2.2.2.2)
def X_b (X : zX) (v : Int32) : zX := (X.1, X.2.1, X.2.2.1, X.2.2.2.1, X.2.2.2.2.1, X.2.2.2.2.2.1, v, X.2.2.2.2.2.2.2)
def X_a (X : zX) (v : Int32) : zX := (X.1, X.2.1, X.2.2.1, X.2.2.2.1, X.2.2.2.2.1, X.2.2.2.2.2.1, X.2.2.2.2.2.2.1, v)
def p_bel (x y : Int32) : Bool := if x < 0 then false else if x < y then true else false
def p_full (X : zX) : Bool := if x_n X < 60 then false else true
def p_over (X : zX) (x y z : Int32) : Int32 := 1 + mx (x_d X (ix x)) (mx (x_d X (ix y)) (x_d X (ix z)))
def p_leafX (X : zX) (kd v : Int32) : Int32 × zX := (x_n X, X_n (X_f (X_d (X_m (X_k X (x_n X) kd) (x_n X) v) (x_n X) 1) (x_n X) 1) (x_n X + 1))
def p_overX (X : zX) (kd v x y z : Int32) : Int32 × zX :=
  let q := p_leafX X kd v
  let U := X_z (X_y (X_x q.2 q.1 x) q.1 y) q.1 z
  (q.1, X_f (X_f (X_f (X_d U q.1 (p_over U x y z)) x 0) y 0) z 0)
def p_gleaf (X : zX) (kd v : Int32) : Int32 × zX :=
  if p_bel kd 2 = true then
    if 0 + kd = 1 then
      if p_bel v 8 = true then if p_full X = true then (-4, X) else p_leafX X (0 + kd) v else (-1, X)
    else if p_full X = true then (-4, X) else p_leafX X (0 + kd) v
  else (-1, X)
def p_join (X : zX) (kd v x y z tw : Int32) : Int32 × zX :=
  if p_bel x (x_n X) = true then
    if p_bel y (x_n X) = true then
      if p_bel z (x_n X) = true then
        if tw = 0 then
          if x_f X (ix x) = 0 then (-3, X)
          else if x_f X (ix y) = 0 then (-3, X)
          else if x_f X (ix z) = 0 then (-3, X)
          else if p_full X = true then (-4, X)
          else if 12 < p_over X x y z then (-5, X)
          else p_overX X kd v x y z
        else (-3, X)
      else (-2, X)
    else (-2, X)
  else (-2, X)
def p_gun (X : zX) (kd v x : Int32) : Int32 × zX :=
  if p_bel kd 4 = true then
    if 2 + kd = 2 then if p_bel v 8 = true then p_join X (2 + kd) v x x x 0 else (-1, X)
    else p_join X (2 + kd) v x x x 0
  else (-1, X)
def p_gbin (X : zX) (kd x y : Int32) : Int32 × zX := if p_bel kd 12 = true then if x = y then p_join X (6 + kd) 0 x y y 1 else p_join X (6 + kd) 0 x y y 0 else (-1, X)
def p_gter (X : zX) (kd x y z : Int32) : Int32 × zX :=
  if p_bel kd 2 = true then
    if x = y then p_join X (18 + kd) 0 x y z 1 else if y = z then p_join X (18 + kd) 0 x y z 1 else if x = z then p_join X (18 + kd) 0 x y z 1 else p_join X (18 + kd) 0 x y z 0
  else (-1, X)
def p_about (X : zX) (x : Int32) : Int32 := if p_bel x (x_n X) = true then if x_f X (ix x) = 0 then x_d X (ix x) + 0 else x_d X (ix x) + 32 else -2
def p_set (X : zX) (x v : Int32) : Int32 × zX := if p_bel x 8 = true then (g_va (c_g (x_c X)) (ix x), X_q X (fun s => s_g s (h_va (c_g s) x v))) else (0, X)
def p_var (X : zX) (x : Int32) : Int32 := if p_bel x 8 = true then g_va (c_g (x_c X)) (ix x) else 0
def p_open (X : zX) (x v : Int32) : zX := X_a (X_l (X_q (X_q (X_u (X_b (X_c X (s_st (x_c X) x 0)) x) v) (fun s => s_g s (h_c (c_g s) 0))) (fun s => s_g s (h_wc (c_g s) 0))) 0) 1
def p_begin (X : zX) (x v : Int32) : Int32 × zX :=
  if p_bel x (x_n X) = true then if x_f X (ix x) = 0 then (-3, X) else if p_bel v 2001 = true then (0, p_open X x v) else (-1, X) else (-2, X)
def p_proc (M : Nat) (X : zX) : Int32 × zX :=
  if x_a X = 1 then
    let q := p_all (x_F X) M 12 (x_b X) (x_c X)
    if q.1 = 1 then (q.1, X_l (X_a (X_c X q.2) q.1) (c_rs q.2 (ix (x_b X)))) else (q.1, X_a (X_c X q.2) q.1)
  else (x_a X, X)
def p_written (X : zX) (x : Int32) : Int64 := if p_bel x (g_wc (c_g (x_c X))) = true then (g_wr (c_g (x_c X)) (ix x)).toInt64 else 4294967296
/-- what the calls of the class rest on -/
def VX (X : zX) : Prop := (∃ n : Nat, n ≤ 60 ∧ x_n X = nI n) ∧ Wk (x_c X)
def VT (T : zT) (X : zX) : Prop := (∃ n : Nat, n ≤ 60 ∧ x_n X = nI n) ∧ Wk (x_c X) ∧ (x_a X = 1 → Tr (x_F X) T 12 (x_b X))
theorem bel_of {x y : Int32} {n : Nat} (h : p_bel x y = true) (hy : y = nI n) (hn : n < 2 ^ 31) : ∃ j : Nat, j < n ∧ x = nI j := by
  unfold p_bel at h
  by_cases h0 : x < 0
  · rw [if_pos h0] at h; exact absurd h (by decide)
  rw [if_neg h0] at h
  by_cases h1 : x < y
  · obtain ⟨j, hj, rfl⟩ := nI_of h0
    rw [hy] at h1
    exact ⟨j, (nI_ltI hj hn).mp h1, rfl⟩
  · rw [if_neg h1] at h; exact absurd h (by decide)
theorem bel_8 {x : Int32} (h : p_bel x 8 = true) : vp_in x 8 := by
  obtain ⟨j, hj, rfl⟩ := bel_of (n := 8) h rfl (by decide)
  exact vp_in_nI hj (by decide)
theorem bel_n {x y : Int32} (hn : ∃ n : Nat, n ≤ 60 ∧ y = nI n) (h : p_bel x y = true) : vp_in x 60 := by
  obtain ⟨n, hn, e⟩ := hn
  obtain ⟨j, hj, rfl⟩ := bel_of h e (by omega)
  exact vp_in_nI (by omega) (by decide)
theorem bel_w {x : Int32} {s : zC} (hw : Wk s) (h : p_bel x (g_wc (c_g s)) = true) : vp_in x 32 := by
  obtain ⟨n, hn, e⟩ := hw
  obtain ⟨j, hj, rfl⟩ := bel_of h e (by omega)
  exact vp_in_nI (by omega) (by decide)
theorem full_n {X : zX} (hn : ∃ n : Nat, n ≤ 60 ∧ x_n X = nI n) (h : p_full X = false) : vp_in (x_n X) 60 := by
  obtain ⟨n, hn, e⟩ := hn
  unfold p_full at h
  by_cases h1 : x_n X < 60
  · rw [e] at h1 ⊢
    exact vp_in_nI ((nI_ltI (b := 60) (by omega) (by decide)).mp h1) (by decide)
  · rw [if_neg h1] at h; exact absurd h (by decide)
theorem lf_in {X u : zX} {kd v r : Int32} (h : p_leafX X kd v = (r, u)) (hn : vp_in (x_n X) 60) : vp_in r 60 := by
  have : x_n X = r := congrArg Prod.fst h
  rw [← this]; exact hn
/-! the other side -/
/-- tables, step state, depth, used, count, begun, end, latest -/
abbrev zY : Type := zT × zR × (Nat → Int32) × (Nat → Int32) × Int32 × Int32 × Int32 × Int32
def y_T (Y : zY) : zT := Y.1
def y_r (Y : zY) : zR := Y.2.1
def y_d (Y : zY) : Nat → Int32 := Y.2.2.1
def y_u (Y : zY) : Nat → Int32 := Y.2.2.2.1
def y_n (Y : zY) : Int32 := Y.2.2.2.2.1
def y_b (Y : zY) : Int32 := Y.2.2.2.2.2.1
def y_e (Y : zY) : Int32 := Y.2.2.2.2.2.2.1
def y_l (Y : zY) : Int32 := Y.2.2.2.2.2.2.2
def Y_r (Y : zY) (r : zR) : zY := (Y.1, r, Y.2.2)
def Y_q (Y : zY) (f : zR → zR) : zY := (Y.1, f Y.2.1, Y.2.2)
def Y_k (Y : zY) (i v : Int32) : zY := ((upd Y.1.1 (ix i) v, Y.1.2), Y.2)
def Y_p (Y : zY) (i v : Int32) : zY := ((Y.1.1, upd Y.1.2.1 (ix i) v, Y.1.2.2), Y.2)
def Y_f (Y : zY) (v : Int32) : zY := ((Y.1.1, Y.1.2.1, v), Y.2)
def Y_d (Y : zY) (i v : Int32) : zY := (Y.1, Y.2.1, upd Y.2.2.1 (ix i) v, Y.2.2.2)
def Y_u (Y : zY) (i v : Int32) : zY := (Y.1, Y.2.1, Y.2.2.1, upd Y.2.2.2.1 (ix i) v, Y.2.2.2.2)
def Y_n (Y : zY) (v : Int32) : zY := (Y.1, Y.2.1, Y.2.2.1, Y.2.2.2.1, v, Y.2.2.2.2.2)
def Y_b (Y : zY) (v : Int32) : zY := (Y.1, Y.2.1, Y.2.2.1, Y.2.2.2.1, Y.2.2.2.2.1, v, Y.2.2.2.2.2.2)
def Y_e (Y : zY) (v : Int32) : zY := (Y.1, Y.2.1, Y.2.2.1, Y.2.2.2.1, Y.2.2.2.2.1, Y.2.2.2.2.2.1, v, Y.2.2.2.2.2.2.2)
def Y_l (Y : zY) (v : Int32) : zY := (Y.1, Y.2.1, Y.2.2.1, Y.2.2.2.1, Y.2.2.2.2.1, Y.2.2.2.2.2.1, Y.2.2.2.2.2.2.1, v)
def wY (b : Nat → Nat) (h : Nat → ClassId) (Y : zY) : va_W := [(b 0, .inr (3, [.int (y_n Y), .ref (b 1), .ref (b 2), .ref (b 3), .ref (b 4), .ref (b 5), .ref (b 6), .ref (b 7), .ref (b 8), .ref (b 9), .int (g_wc (r_g (y_r Y))), .int (y_b Y), .int (y_e Y), .int (t_f (y_T Y)), .int (g_sp (r_g (y_r Y))), .int (y_l Y), .ref (b 10), .int (r_tp (y_r Y)), .int (r_gv (y_r Y)), .int (r_er (y_r Y))])),
  (b 1, .inl (h 1, 60, .inl (t_k (y_T Y)))), (b 2, .inl (h 2, 60, .inl (r_nm (y_r Y)))), (b 3, .inl (h 3, 180, .inl (t_p (y_T Y)))), (b 4, .inl (h 4, 60, .inl (y_d Y))), (b 5, .inl (h 5, 60, .inl (y_u Y))),
  (b 6, .inl (h 6, 60, .inl (r_ph (y_r Y)))), (b 7, .inl (h 7, 180, .inr (.inl (r_kp (y_r Y))))), (b 8, .inl (h 8, 8, .inl (g_va (r_g (y_r Y))))), (b 9, .inl (h 9, 32, .inl (g_wr (r_g (y_r Y))))), (b 10, .inl (h 10, 16, .inl (r_sk (y_r Y))))]
def yY (h : Nat → ClassId) : List (ClassId × FieldType) := [(h 1, .int), (h 2, .int), (h 3, .int), (h 4, .int), (h 5, .boolean), (h 6, .int), (h 7, .long), (h 8, .int), (h 9, .int), (h 10, .int)]
def wR (b : Nat → Nat) (h : Nat → ClassId) (Y : zY) (r : zR) : va_W := wY b h (Y_r Y r)
def Tp (r : zR) : Prop := ∃ t : Nat, t < 15 ∧ r_tp r = nI (t + 1)
theorem tp_in {r : zR} (h : Tp r) : vp_in (r_tp r) 16 := by
  obtain ⟨t, ht, e⟩ := h
  rw [e]; exact vp_in_nI (by omega) (by decide)
theorem in_03 : vp_in (0 : Int32) 3 := vp_in_nI (n := 0) (by decide) (by decide)
theorem in_13 : vp_in (1 : Int32) 3 := vp_in_nI (n := 1) (by decide) (by decide)
theorem in_23 : vp_in (2 : Int32) 3 := vp_in_nI (n := 2) (by decide) (by decide)
theorem in3 {e i : Int32} (he : vp_in e 60) (hi : vp_in i 3) : vp_in (3 * e + i) 180 := by
  obtain ⟨a, ha, rfl⟩ := vp_in_of he (by decide)
  obtain ⟨c, hc, rfl⟩ := vp_in_of hi (by decide)
  have h3 : (3 : Int32) = nI 3 := rfl
  rw [h3, pk_mul, nI_add]
  exact vp_in_nI (by omega) (by decide)
theorem in3_0 {e : Int32} (he : vp_in e 60) : vp_in (3 * e) 180 := by
  obtain ⟨a, ha, rfl⟩ := vp_in_of he (by decide)
  have h3 : (3 : Int32) = nI 3 := rfl
  rw [h3, pk_mul]
  exact vp_in_nI (by omega) (by decide)
theorem in3_p {e i : Int32} (he : vp_in e 60) (hi : i = 1 ∨ i = 2 ∨ i = 3) : vp_in (3 * e + i - 1) 180 := by
  obtain ⟨a, ha, rfl⟩ := vp_in_of he (by decide)
  have h3 : (3 : Int32) = nI 3 := rfl
  have h1 : (1 : Int32) = nI 1 := rfl
  have h2 : (2 : Int32) = nI 2 := rfl
  rcases hi with rfl | rfl | rfl
  · rw [h3, pk_mul, h1, nI_add, pk_sub (by omega)]; exact vp_in_nI (by omega) (by decide)
  · rw [h3, pk_mul, h2, nI_add, h1, pk_sub (by omega)]; exact vp_in_nI (by omega) (by decide)
  · rw [h3, pk_mul, nI_add, h1, pk_sub (by omega)]; exact vp_in_nI (by omega) (by decide)
theorem ph_1 {v : Int32} (h : v = 0 ∨ v = 1 ∨ v = 2 ∨ v = 3) (h0 : ¬ v = 0) : vp_in (v - 1) 3 := by
  rcases h with h | h | h | h
  · exact absurd h h0
  · rw [h]; exact in_03
  · rw [h]; exact in_13
  · rw [h]; exact in_23
theorem ph_2 {v : Int32} (h : v = 1 ∨ v = 2 ∨ v = 3) (h0 : ¬ v = 1) : vp_in (v - 2) 3 := by
  rcases h with h | h | h
  · exact absurd h h0
  · rw [h]; exact in_03
  · rw [h]; exact in_13
theorem wr_in {c : Int32} (h : ∃ n : Nat, n ≤ 32 ∧ c = nI n) (h0 : ¬ c = 32) : vp_in c 32 := by
  obtain ⟨n, hn, rfl⟩ := h
  have : n ≠ 32 := fun q => h0 (by rw [q]; rfl)
  exact vp_in_nI (by omega) (by decide)
theorem neg_in : ¬ (-1 : Int32) < 0 → vp_in (-1) 60 := fun h => absurd (by decide) h
def p_with (x lo hi : Int32) : Bool := if x < lo then false else if hi < x then false else true
theorem with_of {x hi : Int32} {n : Nat} (h : p_with x 0 hi = true) (hh : hi = nI n) (hn : n < 2 ^ 31) : ∃ j : Nat, j ≤ n ∧ x = nI j := by
  unfold p_with at h
  by_cases h0 : x < 0
  · rw [if_pos h0] at h; exact absurd h (by decide)
  rw [if_neg h0] at h
  by_cases h1 : hi < x
  · rw [if_pos h1] at h; exact absurd h (by decide)
  · obtain ⟨j, hj, rfl⟩ := nI_of h0
    rw [hh] at h1
    refine ⟨j, ?_, rfl⟩
    exact Nat.not_lt.mp fun q => h1 ((nI_ltI hn hj).mpr q)
theorem with_8 {x : Int32} (h : p_with x 0 7 = true) : vp_in x 8 := by
  obtain ⟨j, hj, rfl⟩ := with_of (n := 7) h rfl (by decide)
  exact vp_in_nI (by omega) (by decide)
theorem with_lt {x y : Int32} {n : Nat} (h : p_with x 0 (y - 1) = true) (hy : y = nI n) (hn : n < 2 ^ 31) : ∃ j : Nat, j < n ∧ x = nI j := by
  cases n with
  | zero =>
    exfalso
    have e : y - 1 = -1 := by rw [hy]; decide
    rw [e] at h
    unfold p_with at h
    by_cases h0 : x < 0
    · rw [if_pos h0] at h; exact absurd h (by decide)
    rw [if_neg h0] at h
    by_cases h1 : -1 < x
    · rw [if_pos h1] at h; exact absurd h (by decide)
    · obtain ⟨j, hj, rfl⟩ := nI_of h0
      apply h1
      rw [Int32.lt_iff_toInt_lt, nI_toInt hj]
      have : (-1 : Int32).toInt = -1 := by decide
      omega
  | succ n =>
    rw [hy, nI_pred] at h
    obtain ⟨j, hj, e⟩ := with_of h rfl (by omega)
    exact ⟨j, by omega, e⟩
theorem with_n {x y : Int32} (hn : ∃ n : Nat, n ≤ 60 ∧ y = nI n) (h : p_with x 0 (y - 1) = true) : vp_in x 60 := by
  obtain ⟨n, hn, e⟩ := hn
  obtain ⟨j, hj, rfl⟩ := with_lt h e (by omega)
  exact vp_in_nI (by omega) (by decide)
theorem with_w {x y : Int32} (hn : ∃ n : Nat, n ≤ 32 ∧ y = nI n) (h : p_with x 0 (y - 1) = true) : vp_in x 32 := by
  obtain ⟨n, hn, e⟩ := hn
  obtain ⟨j, hj, rfl⟩ := with_lt h e (by omega)
  exact vp_in_nI (by omega) (by decide)
theorem cnt_in {y : Int32} (hn : ∃ n : Nat, n ≤ 60 ∧ y = nI n) (h : ¬ y = 60) : vp_in y 60 := by
  obtain ⟨n, hn, rfl⟩ := hn
  have : n ≠ 60 := fun q => h (by rw [q]; rfl)
  exact vp_in_nI (by omega) (by decide)
def VY (Y : zY) : Prop := (∃ n : Nat, n ≤ 60 ∧ y_n Y = nI n) ∧ ∃ n : Nat, n ≤ 32 ∧ g_wc (r_g (y_r Y)) = nI n
def m_make (Y : zY) (kd v x y z dp : Int32) : Int32 × zY :=
  let e := y_n Y
  let Y1 := Y_u (Y_d (Y_p (Y_p (Y_p (Y_q (Y_k (Y_n Y (e + 1)) e kd) (fun r => u_nm r e v)) (3 * e) x) (3 * e + 1) y) (3 * e + 2) z) e dp) e 0
  let Y2 := if x < 0 then Y1 else Y_u Y1 x 1
  let Y3 := if y < 0 then Y2 else Y_u Y2 y 1
  (e, if z < 0 then Y3 else Y_u Y3 z 1)
def m_leaf (Y : zY) (kd v : Int32) : Int32 × zY :=
  if p_with kd 0 1 = true then
    if kd = 1 then if p_with v 0 7 = true then if y_n Y = 60 then (-4, Y) else m_make Y kd v (-1) (-1) (-1) 1 else (-1, Y)
    else if y_n Y = 60 then (-4, Y) else m_make Y kd v (-1) (-1) (-1) 1
  else (-1, Y)
def m_un1 (Y : zY) (kd v x : Int32) : Int32 × zY :=
  if p_with x 0 (y_n Y - 1) = true then
    if y_u Y (ix x) = 0 then if y_n Y = 60 then (-4, Y) else if y_d Y (ix x) = 12 then (-5, Y) else m_make Y (10 + kd) v x (-1) (-1) (y_d Y (ix x) + 1)
    else (-3, Y)
  else (-2, Y)
def m_unary (Y : zY) (kd v x : Int32) : Int32 × zY :=
  if p_with kd 0 3 = true then if kd = 0 then if p_with v 0 7 = true then m_un1 Y kd v x else (-1, Y) else m_un1 Y kd v x
  else (-1, Y)
def m_binary (Y : zY) (kd x y : Int32) : Int32 × zY :=
  if p_with kd 0 11 = true then
    if p_with x 0 (y_n Y - 1) = true then
      if p_with y 0 (y_n Y - 1) = true then
        if y_u Y (ix x) = 0 then
          if y_u Y (ix y) = 0 then
            if x = y then (-3, Y)
            else if y_n Y = 60 then (-4, Y)
            else if y_d Y (ix y) < y_d Y (ix x) then if y_d Y (ix x) = 12 then (-5, Y) else m_make Y (20 + kd) 0 x y (-1) (y_d Y (ix x) + 1)
            else if y_d Y (ix y) = 12 then (-5, Y) else m_make Y (20 + kd) 0 x y (-1) (y_d Y (ix y) + 1)
          else (-3, Y)
        else (-3, Y)
      else (-2, Y)
    else (-2, Y)
  else (-1, Y)
def m_ter1 (Y : zY) (kd x y z d : Int32) : Int32 × zY := if d = 12 then (-5, Y) else m_make Y (40 + kd) 0 x y z (d + 1)
def m_ter2 (Y : zY) (kd x y z d : Int32) : Int32 × zY := if d < y_d Y (ix z) then m_ter1 Y kd x y z (y_d Y (ix z)) else m_ter1 Y kd x y z d
def m_ternary (Y : zY) (kd x y z : Int32) : Int32 × zY :=
  if p_with kd 0 1 = true then
    if p_with x 0 (y_n Y - 1) = true then
      if p_with y 0 (y_n Y - 1) = true then
        if p_with z 0 (y_n Y - 1) = true then
          if y_u Y (ix x) = 0 then
            if y_u Y (ix y) = 0 then
              if y_u Y (ix z) = 0 then
                if x = y then (-3, Y) else if x = z then (-3, Y) else if y = z then (-3, Y)
                else if y_n Y = 60 then (-4, Y)
                else if y_d Y (ix y) < y_d Y (ix x) then m_ter2 Y kd x y z (y_d Y (ix x)) else m_ter2 Y kd x y z (y_d Y (ix y))
              else (-3, Y)
            else (-3, Y)
          else (-3, Y)
        else (-2, Y)
      else (-2, Y)
    else (-2, Y)
  else (-1, Y)
def m_about (Y : zY) (x : Int32) : Int32 := if p_with x 0 (y_n Y - 1) = true then if y_u Y (ix x) = 0 then y_d Y (ix x) + 32 else y_d Y (ix x) + 0 else -2
def m_set (Y : zY) (x v : Int32) : Int32 × zY := if p_with x 0 7 = true then (g_va (r_g (y_r Y)) (ix x), Y_q Y (fun r => u_g r (h_va (r_g r) x v))) else (0, Y)
def m_var (Y : zY) (x : Int32) : Int32 := if p_with x 0 7 = true then g_va (r_g (y_r Y)) (ix x) else 0
def m_open (Y : zY) (x v : Int32) : zY := Y_q (Y_l (Y_q (Y_f (Y_e (Y_q (Y_b Y x) (fun r => u_ph r x 0)) 2) v) (fun r => u_g r (h_c (r_g r) 0))) 0) (fun r => u_g r (h_wc (r_g r) 0))
def m_begin (Y : zY) (x v : Int32) : Int32 × zY :=
  if p_with x 0 (y_n Y - 1) = true then if y_u Y (ix x) = 0 then if p_with v 0 2000 = true then (0, m_open Y x v) else (-1, Y) else (-3, Y) else (-2, Y)
def m_written (Y : zY) (x : Int32) : Int64 := if p_with x 0 (g_wc (r_g (y_r Y)) - 1) = true then (g_wr (r_g (y_r Y)) (ix x)).toInt64 else 4294967296
end
section
/-! What `next` of the other side comes to. -/
/-- a row of calls that each want a result: stopped at n or at the first that gave none -/
def Sk {S : Type} (sq : Nat → S) (an : Nat → Int32) (n r : Int32) (u : S) : Prop := ∃ j : Nat, r = nI j ∧ (∀ i, i < j → an i = 1 ∧ nI i < n) ∧ (¬ nI j < n ∧ u = sq j ∨ nI j < n ∧ ¬ an j = 1 ∧ u = sq (j + 1))
theorem with_100 {n : Int32} (h : p_with n 1 100 = true) : ¬ nI 100 < n := fun q => by
  unfold p_with at h
  by_cases h0 : n < 1
  · rw [if_pos h0] at h; exact absurd h (by decide)
  rw [if_neg h0, if_pos (show (100 : Int32) < n from q)] at h
  exact absurd h (by decide)
def r_0 (Y : zY) : zR := u_tp (u_sk (u_er (y_r Y) 0) 0 (y_b Y)) 1
def NxtE (Y : zY) (r : zR) (w v : Int32) (U : zY) : Prop :=
  (r_tp r = 0 ∧ (w = 2 ∧ v = 0 ∧ U = Y_e (Y_r Y r) 0 ∨ ¬ w = 2 ∧ v = 1 ∧ U = Y_l (Y_r Y r) (r_gv r))) ∨
  (q_safe (y_T Y) (r, w) ∧ ¬ v = 0 ∧ r_er (q_step (y_T Y) (r_sk r (ix (r_tp r - 1))) w r).2 = v ∧ U = Y_e (Y_r Y (q_step (y_T Y) (r_sk r (ix (r_tp r - 1))) w r).2) v)
def NxtY (Y : zY) (v : Int32) (U : zY) : Prop :=
  (y_b Y < 0 ∧ v = -1 ∧ U = Y) ∨ (¬ y_b Y < 0 ∧ ¬ y_e Y = 2 ∧ v = y_e Y ∧ U = Y) ∨
  (¬ y_b Y < 0 ∧ y_e Y = 2 ∧ ∃ (m : Nat) (r : zR) (w : Int32), m < 8000000 ∧ Go (y_T Y) m (r_0 Y, 0) (r, w) ∧ NxtE Y r w v U)
section NX
variable {Y U : zY} {v w : Int32} {r : zR}
theorem nx_a (h : NxtY Y v U) (c : y_b Y < 0) : -1 = v ∧ Y = U := by
  rcases h with ⟨_, h1, h2⟩ | ⟨h1, _⟩ | ⟨h1, _⟩
  · exact ⟨h1.symm, h2.symm⟩
  · exact absurd c h1
  · exact absurd c h1
theorem nx_b (h : NxtY Y v U) (c : ¬ y_b Y < 0) (c2 : ¬ y_e Y = 2) : y_e Y = v ∧ Y = U := by
  rcases h with ⟨h1, _⟩ | ⟨_, _, h1, h2⟩ | ⟨_, h1, _⟩
  · exact absurd h1 c
  · exact ⟨h1.symm, h2.symm⟩
  · exact absurd h1 c2
theorem nx_c (h : NxtY Y v U) (c : ¬ y_b Y < 0) (c2 : y_e Y = 2) : ∃ (m : Nat) (r : zR) (w : Int32), m < 8000000 ∧ Go (y_T Y) m (r_0 Y, 0) (r, w) ∧ NxtE Y r w v U := by
  rcases h with ⟨h1, _⟩ | ⟨_, h1, _⟩ | ⟨_, _, h⟩
  · exact absurd h1 c
  · exact absurd c2 h1
  · exact h
theorem go_end (h : NxtE Y r w v U) : r_tp r = 0 ∨ q_safe (y_T Y) (r, w) := by
  rcases h with ⟨h, _⟩ | ⟨h, _⟩
  · exact Or.inl h
  · exact Or.inr h
theorem tp_pr {t : Nat} (h : t < 15) (e : r_tp r = nI (t + 1)) : vp_in (r_tp r - 1) 16 := by
  rw [e, nI_pred]; exact vp_in_nI (by omega) (by decide)
theorem tp_pos {t : Nat} (h : t < 15) (e : r_tp r = nI (t + 1)) : 0 < r_tp r := by
  rw [e]; exact nI_lt (a := 0) (by omega) (by omega)
theorem tp_no (h : NxtE Y r w v U) (h0 : r_tp r = 0) : w = 2 ∧ v = 0 ∧ U = Y_e (Y_r Y r) 0 ∨ ¬ w = 2 ∧ v = 1 ∧ U = Y_l (Y_r Y r) (r_gv r) := by
  rcases h with ⟨_, h⟩ | ⟨⟨t, ht, htp, _⟩, _⟩
  · exact h
  · exfalso
    have := tp_pos (r := r) ht htp
    rw [h0] at this
    exact absurd this (by decide)
theorem nx_2 (h : NxtE Y r w v U) (h0 : r_tp r = 0) (c : w = 2) : 0 = v ∧ Y_e (Y_r Y r) 0 = U := by
  rcases tp_no h h0 with ⟨_, h1, h2⟩ | ⟨h1, _⟩
  · exact ⟨h1.symm, h2.symm⟩
  · exact absurd c h1
theorem nx_1 (h : NxtE Y r w v U) (h0 : r_tp r = 0) (c : ¬ w = 2) : 1 = v ∧ Y_l (Y_r Y r) (r_gv r) = U := by
  rcases tp_no h h0 with ⟨h1, _⟩ | ⟨_, h1, h2⟩
  · exact absurd h1 c
  · exact ⟨h1.symm, h2.symm⟩
theorem nx_st (h : NxtE Y r w v U) (hp : 0 < r_tp r) : ¬ v = 0 ∧ r_er (q_step (y_T Y) (r_sk r (ix (r_tp r - 1))) w r).2 = v ∧ U = Y_e (Y_r Y (q_step (y_T Y) (r_sk r (ix (r_tp r - 1))) w r).2) v := by
  rcases h with ⟨h, _⟩ | ⟨_, h⟩
  · rw [h] at hp; exact absurd hp (by decide)
  · exact h
theorem nx_er {a : Int32} {u : zR} (h : NxtE Y r w v U) (hp : 0 < r_tp r) (hq : q_step (y_T Y) (r_sk r (ix (r_tp r - 1))) w r = (a, u)) (c : r_er u = 0) : False := by
  obtain ⟨h1, h2, _⟩ := nx_st h hp
  rw [hq] at h2
  exact h1 (h2.symm.trans c)
theorem nx_bad {a : Int32} {u : zR} (h : NxtE Y r w v U) (hp : 0 < r_tp r) (hq : q_step (y_T Y) (r_sk r (ix (r_tp r - 1))) w r = (a, u)) : r_er u = v ∧ Y_e (Y_r Y u) (r_er u) = U := by
  obtain ⟨h1, h2, h3⟩ := nx_st h hp
  rw [hq] at h2 h3
  have h2 : r_er u = v := h2
  exact ⟨h2, by rw [h2]; exact h3.symm⟩
theorem rn_lt {n : Nat} (h : n < 10000000) : nI n < 10000000 := nI_lt h (by decide)
theorem qt_eq {T : zT} {a : Int32} {u : zR} (hq : q_step T (r_sk r (ix (r_tp r - 1))) w r = (a, u)) : q_turn T (r, w) = if a = 2 then (u, 0) else (u_tp u (r_tp u - 1), if a = 1 then 1 else 2) := by
  unfold q_turn; simp only [hq]
theorem qt_er {T : zT} {a : Int32} {u : zR} (hq : q_step T (r_sk r (ix (r_tp r - 1))) w r = (a, u)) (h : r_er (q_turn T (r, w)).1 = 0) : r_er u = 0 := by
  rw [qt_eq hq] at h
  by_cases h2 : a = 2
  · rw [if_pos h2] at h; exact h
  · rw [if_neg h2] at h; exact h
theorem qt_2 {T : zT} {a : Int32} {u : zR} {m : Nat} {z : zR × Int32} (hq : q_step T (r_sk r (ix (r_tp r - 1))) w r = (a, u)) (h : Go T m (q_turn T (r, w)) z) (c : a = 2) : Go T m (u, 0) z := by
  rw [qt_eq hq, if_pos c] at h; exact h
theorem qt_1 {T : zT} {a : Int32} {u : zR} {m : Nat} {z : zR × Int32} (hq : q_step T (r_sk r (ix (r_tp r - 1))) w r = (a, u)) (h : Go T m (q_turn T (r, w)) z) (c : ¬ a = 2) (c1 : a = 1) : Go T m (u_tp u (r_tp u - 1), 1) z := by
  rw [qt_eq hq, if_neg c, if_pos c1] at h; exact h
theorem qt_0 {T : zT} {a : Int32} {u : zR} {m : Nat} {z : zR × Int32} (hq : q_step T (r_sk r (ix (r_tp r - 1))) w r = (a, u)) (h : Go T m (q_turn T (r, w)) z) (c : ¬ a = 2) (c1 : ¬ a = 1) : Go T m (u_tp u (r_tp u - 1), 2) z := by
  rw [qt_eq hq, if_neg c, if_neg c1] at h; exact h
end NX
end
section
/-! Both forests: how trees stay when a node is added. -/
theorem Sb_s {F : zF} : ∀ (d : Nat) (e : Int32) (j : Nat), Sb F d e j → Sb F (d + 1) e j
  | 0, _, _, h => h.elim
  | d + 1, e, j, h => by
    rcases h with h | ⟨a, h⟩ | ⟨a, h⟩ | ⟨a, h⟩
    · exact Or.inl h
    · exact Or.inr (Or.inl ⟨a, Sb_s d _ _ h⟩)
    · exact Or.inr (Or.inr (Or.inl ⟨a, Sb_s d _ _ h⟩))
    · exact Or.inr (Or.inr (Or.inr ⟨a, Sb_s d _ _ h⟩))
theorem Sb_m {F : zF} {d d' : Nat} (h : d ≤ d') {e : Int32} {j : Nat} (hs : Sb F d e j) : Sb F d' e j := by
  induction h with
  | refl => exact hs
  | step _ ih => exact Sb_s _ _ _ ih
theorem Sb_b {F : zF} {T : zT} : ∀ (d : Nat) (e : Int32) (j : Nat), Tr F T d e → Sb F (d + 1) e j → Sb F d e j
  | 0, _, _, h, _ => h.elim
  | d + 1, e, j, hT, h => by
    rcases h with h | ⟨a, h⟩ | ⟨a, h⟩ | ⟨a, h⟩
    · exact Or.inl h
    · exact Or.inr (Or.inl ⟨a, Sb_b d _ _ (hT.2.2.2.2.1 a).1 h⟩)
    · exact Or.inr (Or.inr (Or.inl ⟨a, Sb_b d _ _ (hT.2.2.2.2.2.1 a).1 h⟩))
    · exact Or.inr (Or.inr (Or.inr ⟨a, Sb_b d _ _ (hT.2.2.2.2.2.2 a).1 h⟩))
theorem Tr_s {F : zF} {T : zT} : ∀ (d : Nat) (e : Int32), Tr F T d e → Tr F T (d + 1) e
  | 0, _, h => h.elim
  | d + 1, e, h => by
    obtain ⟨h1, h2, h3, h4, h5, h6, h7⟩ := h
    refine ⟨h1, h2, h3, h4, fun a => ?_, fun a => ?_, fun a => ?_⟩
    · obtain ⟨g1, g2, g3⟩ := h5 a
      exact ⟨Tr_s d _ g1, g2, fun q => g3 (Sb_b d _ _ g1 q)⟩
    · obtain ⟨g1, g2, g3, g4⟩ := h6 a
      obtain ⟨k1, -, -⟩ := h5 (by omega)
      exact ⟨Tr_s d _ g1, g2, fun q => g3 (Sb_b d _ _ g1 q), fun j q q' => g4 j (Sb_b d _ _ k1 q) (Sb_b d _ _ g1 q')⟩
    · obtain ⟨g1, g2, g3, g4, g5⟩ := h7 a
      obtain ⟨k1, -, -⟩ := h5 (by omega)
      obtain ⟨l1, -, -, -⟩ := h6 (by omega)
      exact ⟨Tr_s d _ g1, g2, fun q => g3 (Sb_b d _ _ g1 q), fun j q q' => g4 j (Sb_b d _ _ k1 q) (Sb_b d _ _ g1 q'), fun j q q' => g5 j (Sb_b d _ _ l1 q) (Sb_b d _ _ g1 q')⟩
theorem Tr_m {F : zF} {T : zT} {d d' : Nat} (h : d ≤ d') {e : Int32} (hs : Tr F T d e) : Tr F T d' e := by
  induction h with
  | refl => exact hs
  | step _ ih => exact Tr_s _ _ ih
theorem Sb_dn {F : zF} {T : zT} {d k : Nat} {e : Int32} {j : Nat} (hT : Tr F T d e) (h : Sb F (d + k) e j) : Sb F d e j := by
  induction k with
  | zero => exact h
  | succ k ih => exact ih (Sb_b (d + k) e j (Tr_m (Nat.le_add_right d k) hT) h)
/-- the tables are alike at the nodes D -/
def AgF (D : Nat → Prop) (F F' : zF) (T T' : zT) : Prop := ∀ j, D j → f_k F' j = f_k F j ∧ f_n F' j = f_n F j ∧ f_x F' j = f_x F j ∧ f_y F' j = f_y F j ∧ f_z F' j = f_z F j ∧ t_k T' j = t_k T j ∧ t_p T' (3 * j) = t_p T (3 * j) ∧ t_p T' (3 * j + 1) = t_p T (3 * j + 1) ∧ t_p T' (3 * j + 2) = t_p T (3 * j + 2)
theorem AgF.wk {D E : Nat → Prop} {F F' : zF} {T T' : zT} (h : AgF D F F' T T') (s : ∀ j, E j → D j) : AgF E F F' T T' := fun j hj => h j (s j hj)
theorem Sb_cong {F F' : zF} {T T' : zT} : ∀ (d : Nat) (e : Int32) (j : Nat), AgF (Sb F d e) F F' T T' → (Sb F' d e j ↔ Sb F d e j)
  | 0, _, _, _ => Iff.rfl
  | d + 1, e, j, hA => by
    obtain ⟨e1, e2, e3, e4, e5, -, -, -, -⟩ := hA (ix e) (Or.inl rfl)
    have fa : f_a F' e = f_a F e := by unfold f_a; rw [e1]
    have hx : 1 ≤ f_a F e → (Sb F' d (f_x F (ix e)) j ↔ Sb F d (f_x F (ix e)) j) := fun a => Sb_cong d _ _ (hA.wk fun q hq => Or.inr (Or.inl ⟨a, hq⟩))
    have hy : 2 ≤ f_a F e → (Sb F' d (f_y F (ix e)) j ↔ Sb F d (f_y F (ix e)) j) := fun a => Sb_cong d _ _ (hA.wk fun q hq => Or.inr (Or.inr (Or.inl ⟨a, hq⟩)))
    have hz : 3 ≤ f_a F e → (Sb F' d (f_z F (ix e)) j ↔ Sb F d (f_z F (ix e)) j) := fun a => Sb_cong d _ _ (hA.wk fun q hq => Or.inr (Or.inr (Or.inr ⟨a, hq⟩)))
    show (j = ix e ∨ (1 ≤ f_a F' e ∧ Sb F' d (f_x F' (ix e)) j) ∨ (2 ≤ f_a F' e ∧ Sb F' d (f_y F' (ix e)) j) ∨ (3 ≤ f_a F' e ∧ Sb F' d (f_z F' (ix e)) j)) ↔ (j = ix e ∨ (1 ≤ f_a F e ∧ Sb F d (f_x F (ix e)) j) ∨ (2 ≤ f_a F e ∧ Sb F d (f_y F (ix e)) j) ∨ (3 ≤ f_a F e ∧ Sb F d (f_z F (ix e)) j))
    rw [fa, e3, e4, e5]
    exact or_congr Iff.rfl (or_congr (and_congr_right hx) (or_congr (and_congr_right hy) (and_congr_right hz)))
theorem Tr_cong {F F' : zF} {T T' : zT} : ∀ (d : Nat) (e : Int32), AgF (Sb F d e) F F' T T' → Tr F T d e → Tr F' T' d e
  | 0, _, _, h => h
  | d + 1, e, hA, h => by
    obtain ⟨e1, e2, e3, e4, e5, e6, e7, e8, e9⟩ := hA (ix e) (Or.inl rfl)
    have fa : f_a F' e = f_a F e := by unfold f_a; rw [e1]
    have hx : 1 ≤ f_a F e → AgF (Sb F d (f_x F (ix e))) F F' T T' := fun a => hA.wk fun q hq => Or.inr (Or.inl ⟨a, hq⟩)
    have hy : 2 ≤ f_a F e → AgF (Sb F d (f_y F (ix e))) F F' T T' := fun a => hA.wk fun q hq => Or.inr (Or.inr (Or.inl ⟨a, hq⟩))
    have hz : 3 ≤ f_a F e → AgF (Sb F d (f_z F (ix e))) F F' T T' := fun a => hA.wk fun q hq => Or.inr (Or.inr (Or.inr ⟨a, hq⟩))
    obtain ⟨h1, h2, h3, h4, h5, h6, h7⟩ := h
    have i0 : ix (3 * e + 0) = 3 * ix e := ix_3 h1 0 (by decide)
    refine ⟨h1, by rw [e1]; exact h2, by rw [e6, e1]; exact h3, by rw [e1, e2]; exact h4, fun a => ?_, fun a => ?_, fun a => ?_⟩
    · rw [fa] at a
      obtain ⟨g1, g2, g3⟩ := h5 a
      rw [e3]
      exact ⟨Tr_cong d _ (hx a) g1, by rw [i0, e7]; rw [i0] at g2; exact g2, fun q => g3 ((Sb_cong d _ _ (hx a)).mp q)⟩
    · rw [fa] at a
      obtain ⟨g1, g2, g3, g4⟩ := h6 a
      have a1 : 1 ≤ f_a F e := by omega
      rw [e3, e4]
      exact ⟨Tr_cong d _ (hy a) g1, by rw [ix_31 h1, e8]; rw [ix_31 h1] at g2; exact g2, fun q => g3 ((Sb_cong d _ _ (hy a)).mp q), fun j q q' => g4 j ((Sb_cong d _ _ (hx a1)).mp q) ((Sb_cong d _ _ (hy a)).mp q')⟩
    · rw [fa] at a
      obtain ⟨g1, g2, g3, g4, g5⟩ := h7 a
      have a1 : 1 ≤ f_a F e := by omega
      have a2 : 2 ≤ f_a F e := by omega
      rw [e3, e4, e5]
      exact ⟨Tr_cong d _ (hz a) g1, by rw [ix_32 h1, e9]; rw [ix_32 h1] at g2; exact g2, fun q => g3 ((Sb_cong d _ _ (hz a)).mp q), fun j q q' => g4 j ((Sb_cong d _ _ (hx a1)).mp q) ((Sb_cong d _ _ (hz a)).mp q'), fun j q q' => g5 j ((Sb_cong d _ _ (hy a2)).mp q) ((Sb_cong d _ _ (hz a)).mp q')⟩
theorem Lv_congF {F F' : zF} {T T' : zT} {c : zC} {r : zR} : ∀ (d : Nat) (e : Int32) (p : Nat), AgF (Sb F d e) F F' T T' → Lv F d e c r p → Lv F' d e c r p
  | 0, _, _, _, h => h
  | d + 1, e, p, hA, h => by
    obtain ⟨e1, e2, e3, e4, e5, -, -, -, -⟩ := hA (ix e) (Or.inl rfl)
    have hx : 1 ≤ f_a F e → AgF (Sb F d (f_x F (ix e))) F F' T T' := fun a => hA.wk fun q hq => Or.inr (Or.inl ⟨a, hq⟩)
    have hy : 2 ≤ f_a F e → AgF (Sb F d (f_y F (ix e))) F F' T T' := fun a => hA.wk fun q hq => Or.inr (Or.inr (Or.inl ⟨a, hq⟩))
    have hz : 3 ≤ f_a F e → AgF (Sb F d (f_z F (ix e))) F F' T T' := fun a => hA.wk fun q hq => Or.inr (Or.inr (Or.inr ⟨a, hq⟩))
    simp only [Lv] at h ⊢
    simp only [e1, e3, e4, e5]
    by_cases k1 : f_k F (ix e) < 2
    · simp only [if_pos k1] at h ⊢; exact h
    have a1 := f_a1 k1
    simp only [if_neg k1] at h ⊢
    by_cases k2 : f_k F (ix e) < 6
    · simp only [if_pos k2] at h ⊢
      by_cases k3 : f_k F (ix e) < 4
      · simp only [if_pos k3] at h ⊢
        obtain ⟨h1, h2, p1, h3, h4⟩ := h
        exact ⟨h1, h2, p1, Lv_congF d _ _ (hx a1) h3, h4⟩
      simp only [if_neg k3] at h ⊢
      by_cases k4 : f_k F (ix e) = 4
      · simp only [if_pos k4] at h ⊢; exact h
      simp only [if_neg k4] at h ⊢
      obtain ⟨h1, h2, h5, p1, h3, h4⟩ := h
      exact ⟨h1, h2, h5, p1, Lv_congF d _ _ (hx a1) h3, h4⟩
    have a2 := f_a2 k1 k2
    simp only [if_neg k2] at h ⊢
    by_cases k5 : f_k F (ix e) < 18
    · simp only [if_pos k5] at h ⊢
      by_cases k6 : f_k F (ix e) = 6
      · simp only [if_pos k6] at h ⊢
        rcases h with ⟨h1, h2, p1, h3, h4⟩ | ⟨h1, h2, p1, h3, h4⟩
        · exact Or.inl ⟨h1, h2, p1, Lv_congF d _ _ (hx a1) h3, h4⟩
        · exact Or.inr ⟨h1, h2, p1, Lv_congF d _ _ (hy a2) h3, h4⟩
      simp only [if_neg k6] at h ⊢
      by_cases k7 : f_k F (ix e) < 14
      · simp only [if_pos k7] at h ⊢
        obtain ⟨h1, h2, h5, p1, p2, h3, h3', h4⟩ := h
        exact ⟨h1, h2, h5, p1, p2, Lv_congF d _ _ (hx a1) h3, Lv_congF d _ _ (hy a2) h3', h4⟩
      simp only [if_neg k7] at h ⊢
      by_cases k8 : f_k F (ix e) = 14
      · simp only [if_pos k8] at h ⊢
        obtain ⟨h1, h2, h5, p1, p2, h3, h3', h4⟩ := h
        exact ⟨h1, h2, h5, p1, p2, Lv_congF d _ _ (hx a1) h3, Lv_congF d _ _ (hy a2) h3', h4⟩
      simp only [if_neg k8] at h ⊢
      by_cases k9 : f_k F (ix e) < 17
      · simp only [if_pos k9] at h
      simp only [if_neg k9] at h ⊢
      obtain ⟨h1, h2, p1, h3, h4⟩ := h
      exact ⟨h1, h2, p1, Lv_congF d _ _ (hy a2) h3, h4⟩
    have a3 := f_a3 k1 k2 k5
    simp only [if_neg k5] at h ⊢
    by_cases k6 : f_k F (ix e) = 18
    · simp only [if_pos k6] at h ⊢
      obtain ⟨h1, h2, h5, h6, h7, h8, p1, p2, p3, g1, g2, g3, h4⟩ := h
      exact ⟨h1, h2, h5, h6, h7, h8, p1, p2, p3, Lv_congF d _ _ (hx a1) g1, Lv_congF d _ _ (hy a2) g2, Lv_congF d _ _ (hz a3) g3, h4⟩
    simp only [if_neg k6] at h ⊢
    rcases h with ⟨h1, h2, p1, h3, h4⟩ | ⟨h1, h2, p1, h3, h4⟩
    · exact Or.inl ⟨h1, h2, p1, Lv_congF d _ _ (hy a2) h3, h4⟩
    · exact Or.inr ⟨h1, h2, p1, Lv_congF d _ _ (hz a3) h3, h4⟩
/-- what is made so far, on both sides: dp, yd the depths; fr, yu: free, used -/
def Fo (F : zF) (T : zT) (n : Nat) (dp fr yd yu : Nat → Int32) : Prop :=
  (∀ i, i < n → (∃ d : Nat, 1 ≤ d ∧ d ≤ 12 ∧ dp i = nI d ∧ yd i = nI d ∧ Tr F T d (nI i)) ∧ (∀ j, Sb F 12 (nI i) j → j ≤ i) ∧ (fr i = 1 ∧ yu i = 0 ∨ fr i = 0 ∧ yu i = 1)) ∧
  ∀ i i', i < n → i' < n → i ≠ i' → fr i = 1 → fr i' = 1 → ∀ j, Sb F 12 (nI i) j → ¬ Sb F 12 (nI i') j
theorem fo_add {F F' : zF} {T T' : zT} {n : Nat} {dp fr yd yu dp' fr' yd' yu' : Nat → Int32} (h : Fo F T n dp fr yd yu) (hA : AgF (fun j => j < n) F F' T T') (hdp : ∀ i, i < n → dp' i = dp i ∧ yd' i = yd i)
    (hfr : ∀ i, i < n → fr' i = 1 ∧ yu' i = 0 ∨ fr' i = 0 ∧ yu' i = 1) (hfs : ∀ i, i < n → fr' i = 1 → fr i = 1) (hnew : ∃ d : Nat, 1 ≤ d ∧ d ≤ 12 ∧ dp' n = nI d ∧ yd' n = nI d ∧ Tr F' T' d (nI n)) (hSn : ∀ j, Sb F' 12 (nI n) j → j ≤ n) (hfn : fr' n = 1 ∧ yu' n = 0)
    (hdis : ∀ i, i < n → fr' i = 1 → ∀ q, Sb F' 12 (nI n) q → ¬ Sb F 12 (nI i) q) : Fo F' T' (n + 1) dp' fr' yd' yu' := by
  obtain ⟨h1, h2⟩ := h
  have hS : ∀ i, i < n → AgF (Sb F 12 (nI i)) F F' T T' := fun i hi => hA.wk fun j hj => Nat.lt_of_le_of_lt ((h1 i hi).2.1 j hj) hi
  have hc : ∀ i, i < n → ∀ j, Sb F' 12 (nI i) j ↔ Sb F 12 (nI i) j := fun i hi j => Sb_cong 12 _ _ (hS i hi)
  refine ⟨fun i hi => ?_, fun i i' hi hi' hne hf hf' j hj hj' => ?_⟩
  · by_cases hin : i = n
    · subst hin
      exact ⟨hnew, hSn, Or.inl hfn⟩
    have hi : i < n := by omega
    obtain ⟨⟨d, d1, d2, d3, d4, d5⟩, g2, -⟩ := h1 i hi
    exact ⟨⟨d, d1, d2, (hdp i hi).1.trans d3, (hdp i hi).2.trans d4, Tr_cong d _ ((hS i hi).wk fun j hj => Sb_m d2 hj) d5⟩, fun j hj => g2 j ((hc i hi j).mp hj), hfr i hi⟩
  · by_cases hin : i = n
    · subst hin
      have hi' : i' < i := by omega
      exact hdis i' hi' hf' j hj ((hc i' hi' j).mp hj')
    have hi : i < n := by omega
    by_cases hin' : i' = n
    · subst hin'
      exact hdis i hi hf j hj' ((hc i hi j).mp hj)
    have hi' : i' < n := by omega
    exact h2 i i' hi hi' hne (hfs i hi hf) (hfs i' hi' hf') j ((hc i hi j).mp hj) ((hc i' hi' j).mp hj')
/-- a part of the new node: it was free, and not deeper than d -/
def Prp (n d : Nat) (fr dp : Nat → Int32) (x tx : Int32) : Prop := ∃ i, i < n ∧ x = nI i ∧ tx = x ∧ fr i = 1 ∧ ∃ k : Nat, k ≤ d ∧ dp i = nI k
theorem tr_new {F F' : zF} {T T' : zT} {n d : Nat} {dp fr yd yu : Nat → Int32} (h : Fo F T n dp fr yd yu) (hA : AgF (fun j => j < n) F F' T T') (hn : n < 60) (hd : d ≤ 11) (hk : ∃ k : Nat, k < 20 ∧ f_k F' n = nI k) (htk : t_k T' n = t_kc (f_k F' n)) (hnm : f_k F' n = 1 ∨ f_k F' n = 2 → vp_in (f_n F' n) 8)
    (hx : 1 ≤ f_a F' (nI n) → Prp n d fr dp (f_x F' n) (t_p T' (3 * n))) (hy : 2 ≤ f_a F' (nI n) → Prp n d fr dp (f_y F' n) (t_p T' (3 * n + 1)) ∧ f_x F' n ≠ f_y F' n)
    (hz : 3 ≤ f_a F' (nI n) → Prp n d fr dp (f_z F' n) (t_p T' (3 * n + 2)) ∧ f_x F' n ≠ f_z F' n ∧ f_y F' n ≠ f_z F' n) :
    Tr F' T' (d + 1) (nI n) ∧ ∀ q, Sb F' 12 (nI n) q → q = n ∨ ∃ i, i < n ∧ fr i = 1 ∧ Sb F 12 (nI i) q ∧ (1 ≤ f_a F' (nI n) ∧ nI i = f_x F' n ∨ 2 ≤ f_a F' (nI n) ∧ nI i = f_y F' n ∨ 3 ≤ f_a F' (nI n) ∧ nI i = f_z F' n) := by
  obtain ⟨h1, h2⟩ := h
  have hin : ix (nI n) = n := ix_nI (by omega)
  have hv : vp_in (nI n) 60 := vp_in_nI hn (by decide)
  have i0 : ix (3 * nI n + 0) = 3 * n := (ix_3 hv 0 (by decide)).trans (by rw [hin]; rfl)
  have i1 : ix (3 * nI n + 1) = 3 * n + 1 := (ix_31 hv).trans (by rw [hin])
  have i2 : ix (3 * nI n + 2) = 3 * n + 2 := (ix_32 hv).trans (by rw [hin])
  have hS : ∀ i, i < n → AgF (Sb F 12 (nI i)) F F' T T' := fun i hi => hA.wk fun j hj => Nat.lt_of_le_of_lt ((h1 i hi).2.1 j hj) hi
  have hc : ∀ i, i < n → ∀ j, Sb F' 12 (nI i) j ↔ Sb F 12 (nI i) j := fun i hi j => Sb_cong 12 _ _ (hS i hi)
  -- a part as a tree of the new tables
  have pt : ∀ x tx : Int32, Prp n d fr dp x tx → ∃ i, i < n ∧ x = nI i ∧ tx = x ∧ fr i = 1 ∧ Tr F' T' d x ∧ ∀ j, Sb F' d x j → Sb F 12 (nI i) j := by
    rintro x tx ⟨i, hi, rfl, htx, hf, k, hk, hdk⟩
    obtain ⟨⟨d', d1, d2, d3, d4, d5⟩, -, -⟩ := h1 i hi
    have hdd : d' = k := (nI_eq (by omega) (by omega)).mp (d3.symm.trans hdk)
    subst hdd
    have ht : Tr F' T' d' (nI i) := Tr_cong d' _ ((hS i hi).wk fun j hj => Sb_m d2 hj) d5
    exact ⟨i, hi, rfl, htx, hf, Tr_m hk ht, fun j hj => (hc i hi j).mp (Sb_m (by omega) hj)⟩
  have lo : ∀ i, i < n → ∀ j, Sb F 12 (nI i) j → j ≠ n := fun i hi j hj q => by have := (h1 i hi).2.1 j hj; omega
  have dj : ∀ i i', i < n → i' < n → nI i ≠ nI i' → fr i = 1 → fr i' = 1 → ∀ j, Sb F 12 (nI i) j → ¬ Sb F 12 (nI i') j := fun i i' hi hi' hne => h2 i i' hi hi' (fun q => hne (by rw [q]))
  have hT : Tr F' T' (d + 1) (nI n) := by
    refine ⟨hv, by rw [hin]; exact hk, by rw [hin]; exact htk, by rw [hin]; exact hnm, fun a => ?_, fun a => ?_, fun a => ?_⟩
    · obtain ⟨i, hi, e, et, hf, t, s⟩ := pt _ _ (hx a)
      rw [hin, i0]
      exact ⟨t, et, fun q => lo i hi _ (s _ q) rfl⟩
    · obtain ⟨i, hi, e, et, hf, t, s⟩ := pt _ _ (hx (by omega))
      obtain ⟨i', hi', e', et', hf', t', s'⟩ := pt _ _ (hy a).1
      rw [hin, i1]
      refine ⟨t', et', fun q => lo i' hi' _ (s' _ q) rfl, fun j q q' => dj i i' hi hi' (by rw [← e, ← e']; exact (hy a).2) hf hf' j (s j q) (s' j q')⟩
    · obtain ⟨i, hi, e, et, hf, t, s⟩ := pt _ _ (hx (by omega))
      obtain ⟨i', hi', e', et', hf', t', s'⟩ := pt _ _ (hy (by omega)).1
      obtain ⟨i3, hi3, e3, et3, hf3, t3, s3⟩ := pt _ _ (hz a).1
      rw [hin, i2]
      refine ⟨t3, et3, fun q => lo i3 hi3 _ (s3 _ q) rfl, fun j q q' => dj i i3 hi hi3 (by rw [← e, ← e3]; exact (hz a).2.1) hf hf3 j (s j q) (s3 j q'), fun j q q' => dj i' i3 hi' hi3 (by rw [← e', ← e3]; exact (hz a).2.2) hf' hf3 j (s' j q) (s3 j q')⟩
  refine ⟨hT, fun q hq => ?_⟩
  have hq1 : Sb F' (d + 1) (nI n) q := by
    have : Sb F' (d + 1 + (11 - d)) (nI n) q := by rw [show d + 1 + (11 - d) = 12 by omega]; exact hq
    exact Sb_dn hT this
  rcases hq1 with hq1 | ⟨a, hq1⟩ | ⟨a, hq1⟩ | ⟨a, hq1⟩
  · exact Or.inl (hq1.trans hin)
  · obtain ⟨i, hi, e, et, hf, t, s⟩ := pt _ _ (hx a)
    rw [hin] at hq1
    exact Or.inr ⟨i, hi, hf, s _ hq1, Or.inl ⟨a, e.symm⟩⟩
  · obtain ⟨i, hi, e, et, hf, t, s⟩ := pt _ _ (hy a).1
    rw [hin] at hq1
    exact Or.inr ⟨i, hi, hf, s _ hq1, Or.inr (Or.inl ⟨a, e.symm⟩)⟩
  · obtain ⟨i, hi, e, et, hf, t, s⟩ := pt _ _ (hz a).1
    rw [hin] at hq1
    exact Or.inr ⟨i, hi, hf, s _ hq1, Or.inr (Or.inr ⟨a, e.symm⟩)⟩
/-- tables, depths and marks behind a node that was added -/
theorem fo_new {F F' : zF} {T T' : zT} {n d : Nat} {dp fr yd yu dp' fr' yd' yu' : Nat → Int32} (h : Fo F T n dp fr yd yu) (hA : AgF (fun j => j < n) F F' T T') (hn : n < 60) (hd : d ≤ 11) (hk : ∃ k : Nat, k < 20 ∧ f_k F' n = nI k) (htk : t_k T' n = t_kc (f_k F' n)) (hnm : f_k F' n = 1 ∨ f_k F' n = 2 → vp_in (f_n F' n) 8)
    (hx : 1 ≤ f_a F' (nI n) → Prp n d fr dp (f_x F' n) (t_p T' (3 * n))) (hy : 2 ≤ f_a F' (nI n) → Prp n d fr dp (f_y F' n) (t_p T' (3 * n + 1)) ∧ f_x F' n ≠ f_y F' n)
    (hz : 3 ≤ f_a F' (nI n) → Prp n d fr dp (f_z F' n) (t_p T' (3 * n + 2)) ∧ f_x F' n ≠ f_z F' n ∧ f_y F' n ≠ f_z F' n)
    (hdp : ∀ i, i < n → dp' i = dp i ∧ yd' i = yd i) (hdn : dp' n = nI (d + 1) ∧ yd' n = nI (d + 1)) (hfn : fr' n = 1 ∧ yu' n = 0)
    (hfr : ∀ i, i < n → (fr' i = fr i ∧ yu' i = yu i) ∨ (fr' i = 0 ∧ yu' i = 1)) (hpx : 1 ≤ f_a F' (nI n) → fr' (ix (f_x F' n)) = 0) (hpy : 2 ≤ f_a F' (nI n) → fr' (ix (f_y F' n)) = 0) (hpz : 3 ≤ f_a F' (nI n) → fr' (ix (f_z F' n)) = 0) : Fo F' T' (n + 1) dp' fr' yd' yu' := by
  obtain ⟨hT, hq⟩ := tr_new h hA hn hd hk htk hnm hx hy hz
  have h1 := h.1
  have h2 := h.2
  refine fo_add h hA hdp (fun i hi => ?_) (fun i hi hf => ?_) ⟨d + 1, by omega, by omega, hdn.1, hdn.2, hT⟩ (fun j hj => ?_) hfn (fun i hi hf q hq' hs => ?_)
  · rcases hfr i hi with ⟨a, b⟩ | ⟨a, b⟩
    · rw [a, b]; exact (h1 i hi).2.2
    · exact Or.inr ⟨a, b⟩
  · rcases hfr i hi with ⟨a, b⟩ | ⟨a, b⟩
    · rw [← a]; exact hf
    · rw [a] at hf; exact absurd hf (by decide)
  · rcases hq j hj with h | ⟨i, hi, -, hs, -⟩
    · omega
    · have := (h1 i hi).2.1 j hs; omega
  · rcases hq q hq' with h9 | ⟨i', hi', hf', hs', hp⟩
    · have := (h1 i hi).2.1 q hs; omega
    · have hne : i' ≠ i := by
        rintro rfl
        have hz0 : fr' i' = 0 := by
          have e9 : ix (nI i') = i' := ix_nI (by omega)
          rcases hp with ⟨a, e⟩ | ⟨a, e⟩ | ⟨a, e⟩
          · rw [← e9, e]; exact hpx a
          · rw [← e9, e]; exact hpy a
          · rw [← e9, e]; exact hpz a
        rw [hz0] at hf; exact absurd hf (by decide)
      have hfi : fr i = 1 := by
        rcases hfr i hi with ⟨a, b⟩ | ⟨a, b⟩
        · rw [← a]; exact hf
        · rw [a] at hf; exact absurd hf (by decide)
      exact h2 i' i hi' hi hne hf' hfi q hs' hs
end
section
/-! Both objects side by side. -/
def Kd (F : zF) (T : zT) : Prop := ∀ j, (∃ k : Nat, k < 20 ∧ f_k F j = nI k) ∧ t_k T j = t_kc (f_k F j)
def zRun (F : zF) (c : zC) (r : zR) (n q : Nat) (a b yb ye : Int32) : Prop :=
  (a = -1 ∧ yb = -1) ∨ ∃ i, i < n ∧ b = nI i ∧ yb = nI i ∧ ((a = 1 ∧ ye = 2 ∧ ∃ p, Idl F 12 (nI i) c r p ∧ p ≤ zK 12 q) ∨ (¬ a = 1 ∧ ye = a ∧ ¬ ye = 2))
def Jn (X : zX) (Y : zY) (n f q : Nat) : Prop := n ≤ 60 ∧ x_n X = nI n ∧ y_n Y = nI n ∧ Fo (x_F X) (y_T Y) n (x_d X) (x_f X) (y_d Y) (y_u Y) ∧ Kd (x_F X) (y_T Y) ∧ Nm (x_F X) (y_r Y) ∧ r_g (y_r Y) = c_g (x_c X) ∧ Ok (x_F X) (y_T Y) 1000000 f ∧ Gk f (c_g (x_c X)) q ∧ x_l X = y_l Y ∧ zRun (x_F X) (x_c X) (y_r Y) n q (x_a X) (x_b X) (y_b Y) (y_e Y)
def zJ (X : zX) (Y : zY) : Prop := ∃ n f q : Nat, Jn X Y n f q
theorem bel_iff {x y : Int32} {n : Nat} (hy : y = nI n) (hn : n < 2 ^ 31) : p_bel x y = true ↔ ∃ j : Nat, j < n ∧ x = nI j := by
  refine ⟨fun h => bel_of h hy hn, ?_⟩
  rintro ⟨j, hj, rfl⟩
  unfold p_bel
  rw [if_neg (nI_pos (by omega)), if_pos (by rw [hy]; exact nI_lt hj hn)]
theorem with_iff {x y : Int32} {n : Nat} (hy : y = nI n) (hn : n < 2 ^ 31) : p_with x 0 (y - 1) = true ↔ ∃ j : Nat, j < n ∧ x = nI j := by
  refine ⟨fun h => with_lt h hy hn, ?_⟩
  rintro ⟨j, hj, rfl⟩
  unfold p_with
  obtain ⟨k, rfl⟩ : ∃ k, n = k + 1 := ⟨n - 1, by omega⟩
  rw [if_neg (nI_pos (by omega)), hy, nI_pred, if_neg (nI_nlt (by omega) (by omega))]
theorem with_bel {x y : Int32} {n : Nat} (hy : y = nI n) (hn : n < 2 ^ 31) : p_with x 0 (y - 1) = p_bel x y := by
  have h1 := with_iff (x := x) hy hn
  have h2 := bel_iff (x := x) hy hn
  exact Bool.eq_iff_iff.mpr (h1.trans h2.symm)
theorem with_c1 (x : Int32) : p_with x 0 1 = p_bel x 2 := with_bel (x := x) (y := 2) (n := 2) rfl (by decide)
theorem with_c3 (x : Int32) : p_with x 0 3 = p_bel x 4 := with_bel (x := x) (y := 4) (n := 4) rfl (by decide)
theorem with_c7 (x : Int32) : p_with x 0 7 = p_bel x 8 := with_bel (x := x) (y := 8) (n := 8) rfl (by decide)
theorem with_c11 (x : Int32) : p_with x 0 11 = p_bel x 12 := with_bel (x := x) (y := 12) (n := 12) rfl (by decide)
theorem with_c2000 (x : Int32) : p_with x 0 2000 = p_bel x 2001 := with_bel (x := x) (y := 2001) (n := 2001) rfl (by decide)
/-- the index of a node that is there or is not -/
theorem full_iff {X : zX} {n : Nat} (hn : x_n X = nI n) (h : n ≤ 60) : p_full X = true ↔ n = 60 := by
  unfold p_full
  rw [hn]
  by_cases h6 : n = 60
  · subst h6
    rw [if_neg (show ¬ nI 60 < 60 from nI_nlt (a := 60) (b := 60) (by omega) (by omega))]
    simp
  · rw [if_pos (show nI n < 60 from nI_lt (b := 60) (by omega) (by omega))]
    simp [h6]
theorem y60_iff {y : Int32} {n : Nat} (hn : y = nI n) (h : n ≤ 60) : y = 60 ↔ n = 60 := by
  rw [hn]; exact nI_eq (b := 60) (by omega) (by decide)
theorem id_cong {F F' : zF} {T T' : zT} {e : Int32} {c c' : zC} {r r' : zR} {p : Nat} (h : Idl F 12 e c r p) (hA : AgF (Sb F 12 e) F F' T T') (hs : Sb F 12 e (ix e)) (hR : Ag (Sb F 12 e) c c' r r') : Idl F' 12 e c' r' p := by
  rcases h with ⟨h1, h2, h3⟩ | h
  · exact Or.inl ⟨((hR _ hs).1).trans h1, ((hR _ hs).2.2.2.1).trans h2, h3⟩
  · exact Or.inr (Lv_congF 12 e p hA (Lv_cong 12 e p hR h))
theorem id_congF {F F' : zF} {T T' : zT} {e : Int32} {c : zC} {r : zR} {p : Nat} (h : Idl F 12 e c r p) (hA : AgF (Sb F 12 e) F F' T T') : Idl F' 12 e c r p := by
  rcases h with h | h
  · exact Or.inl h
  · exact Or.inr (Lv_congF 12 e p hA h)
/-- a node is added on both sides -/
theorem j_add {X X' : zX} {Y Y' : zY} {n f q d : Nat} {kd v : Int32} (hJ : Jn X Y n f q) (h60 : n < 60) (hd : d ≤ 11)
    (a1 : f_k (x_F X') = upd (f_k (x_F X)) n kd) (a2 : f_n (x_F X') = upd (f_n (x_F X)) n v) (a3 : ∀ j, j ≠ n → f_x (x_F X') j = f_x (x_F X) j ∧ f_y (x_F X') j = f_y (x_F X) j ∧ f_z (x_F X') j = f_z (x_F X) j) (a4 : f_f (x_F X') = f_f (x_F X)) (a5 : x_c X' = x_c X) (a6 : x_n X' = nI (n + 1)) (a7 : x_l X' = x_l X) (a8 : x_b X' = x_b X) (a9 : x_a X' = x_a X)
    (b1 : t_k (y_T Y') = upd (t_k (y_T Y)) n (t_kc kd)) (b2 : y_r Y' = u_nm (y_r Y) (nI n) v) (b3 : ∀ j, j ≠ n → t_p (y_T Y') (3 * j) = t_p (y_T Y) (3 * j) ∧ t_p (y_T Y') (3 * j + 1) = t_p (y_T Y) (3 * j + 1) ∧ t_p (y_T Y') (3 * j + 2) = t_p (y_T Y) (3 * j + 2)) (b4 : t_f (y_T Y') = t_f (y_T Y)) (b6 : y_n Y' = nI (n + 1)) (b7 : y_l Y' = y_l Y) (b8 : y_b Y' = y_b Y) (b9 : y_e Y' = y_e Y)
    (hk : ∃ k : Nat, k < 20 ∧ kd = nI k) (hnm : kd = 1 ∨ kd = 2 → vp_in v 8)
    (hx : 1 ≤ f_a (x_F X') (nI n) → Prp n d (x_f X) (x_d X) (f_x (x_F X') n) (t_p (y_T Y') (3 * n))) (hy : 2 ≤ f_a (x_F X') (nI n) → Prp n d (x_f X) (x_d X) (f_y (x_F X') n) (t_p (y_T Y') (3 * n + 1)) ∧ f_x (x_F X') n ≠ f_y (x_F X') n)
    (hz : 3 ≤ f_a (x_F X') (nI n) → Prp n d (x_f X) (x_d X) (f_z (x_F X') n) (t_p (y_T Y') (3 * n + 2)) ∧ f_x (x_F X') n ≠ f_z (x_F X') n ∧ f_y (x_F X') n ≠ f_z (x_F X') n)
    (hdp : ∀ i, i < n → x_d X' i = x_d X i ∧ y_d Y' i = y_d Y i) (hdn : x_d X' n = nI (d + 1) ∧ y_d Y' n = nI (d + 1)) (hfn : x_f X' n = 1 ∧ y_u Y' n = 0)
    (hfr : ∀ i, i < n → (x_f X' i = x_f X i ∧ y_u Y' i = y_u Y i) ∨ (x_f X' i = 0 ∧ y_u Y' i = 1)) (hpx : 1 ≤ f_a (x_F X') (nI n) → x_f X' (ix (f_x (x_F X') n)) = 0) (hpy : 2 ≤ f_a (x_F X') (nI n) → x_f X' (ix (f_y (x_F X') n)) = 0) (hpz : 3 ≤ f_a (x_F X') (nI n) → x_f X' (ix (f_z (x_F X') n)) = 0) : zJ X' Y' := by
  obtain ⟨j1, j2, j3, jF, jK, jN, jg, jO, jG, jl, jR⟩ := hJ
  have ek : f_k (x_F X') n = kd := by rw [a1]; exact pk_us
  have ev : f_n (x_F X') n = v := by rw [a2]; exact pk_us
  have etk : t_k (y_T Y') n = t_kc kd := by rw [b1]; exact pk_us
  have hA : AgF (fun j => j ≠ n) (x_F X) (x_F X') (y_T Y) (y_T Y') := fun j hj => ⟨by rw [a1]; exact pk_un hj, by rw [a2]; exact pk_un hj, (a3 j hj).1, (a3 j hj).2.1, (a3 j hj).2.2, by rw [b1]; exact pk_un hj, (b3 j hj).1, (b3 j hj).2.1, (b3 j hj).2.2⟩
  have hA1 : AgF (fun j => j < n) (x_F X) (x_F X') (y_T Y) (y_T Y') := hA.wk fun j hj => by omega
  have hFo := fo_new jF hA1 h60 hd (by rw [ek]; exact hk) (by rw [etk, ek]) (by rw [ek, ev]; exact hnm) hx hy hz hdp hdn hfn hfr hpx hpy hpz
  have enm : r_nm (y_r Y') = upd (r_nm (y_r Y)) n v := by
    rw [b2]
    show upd _ (ix (nI n)) v = _
    rw [ix_nI (by omega)]
    rfl
  refine ⟨n + 1, f, q, by omega, a6, b6, hFo, fun j => ?_, fun j hj => ?_, ?_, ?_, ?_, by rw [a7, b7]; exact jl, ?_⟩
  · by_cases h : j = n
    · subst h; rw [ek, etk]; exact ⟨hk, rfl⟩
    · rw [(hA j h).1, (hA j h).2.2.2.2.2.1]; exact jK j
  · by_cases h : j = n
    · subst h; rw [enm, ev]; exact pk_us
    · rw [enm, pk_un h, (hA j h).2.1]
      rw [(hA j h).1] at hj
      exact jN j hj
  · rw [b2, a5]; exact jg
  · exact ⟨a4.trans jO.1, b4.trans jO.2.1, jO.2.2⟩
  · rw [a5]; exact jG
  · rw [a5, a8, a9, b8, b9]
    rcases jR with h | ⟨i, hi, hb, hyb, h⟩
    · exact Or.inl h
    · refine Or.inr ⟨i, by omega, hb, hyb, ?_⟩
      rcases h with ⟨h1, h2, p, hI, hp⟩ | h
      · refine Or.inl ⟨h1, h2, p, ?_, hp⟩
        obtain ⟨⟨d', d1, d2, -, -, d5⟩, hlow, -⟩ := jF.1 i hi
        have hself : Sb (x_F X) 12 (nI i) (ix (nI i)) := Sb_m d2 (Tr_self d5)
        have hlt : ∀ j, Sb (x_F X) 12 (nI i) j → j ≠ n := fun j hj => by have := hlow j hj; omega
        refine id_cong hI (hA.wk hlt) hself fun j hj => ⟨rfl, rfl, rfl, ?_, ?_, ?_, ?_, ?_⟩
        · rw [b2]; rfl
        · rw [enm]; exact pk_un (hlt j hj)
        · rw [b2]; rfl
        · rw [b2]; rfl
        · rw [b2]; rfl
      · exact Or.inr h
theorem kd_split {kd : Int32} {n m : Nat} (h : p_bel kd (nI n) = true) (hn : n < 2 ^ 31) : ∃ k : Nat, k < n ∧ kd = nI k ∧ nI m + kd = nI (m + k) := by
  obtain ⟨k, hk, rfl⟩ := bel_of h rfl hn
  exact ⟨k, hk, rfl, nI_add m k⟩
theorem mx_nI {a b : Nat} (ha : a < 2 ^ 31) (hb : b < 2 ^ 31) : mx (nI a) (nI b) = nI (max a b) := by
  unfold mx
  by_cases h : a < b
  · rw [if_pos (nI_lt h hb), Nat.max_eq_right (by omega)]
  · rw [if_neg (nI_nlt (by omega) ha), Nat.max_eq_left (by omega)]
theorem ifd_nI {a b : Nat} (ha : a < 2 ^ 31) (hb : b < 2 ^ 31) : (if nI a < nI b then nI b else nI a) = nI (max a b) := mx_nI ha hb
/-- what making leaves on the other side -/
theorem mk_rows (Y : zY) (kd v x y z dp : Int32) : (m_make Y kd v x y z dp).1 = y_n Y ∧ t_k (y_T (m_make Y kd v x y z dp).2) = upd (t_k (y_T Y)) (ix (y_n Y)) kd ∧ y_r (m_make Y kd v x y z dp).2 = u_nm (y_r Y) (y_n Y) v ∧
    t_p (y_T (m_make Y kd v x y z dp).2) = upd (upd (upd (t_p (y_T Y)) (ix (3 * y_n Y)) x) (ix (3 * y_n Y + 1)) y) (ix (3 * y_n Y + 2)) z ∧ t_f (y_T (m_make Y kd v x y z dp).2) = t_f (y_T Y) ∧ y_n (m_make Y kd v x y z dp).2 = y_n Y + 1 ∧ y_l (m_make Y kd v x y z dp).2 = y_l Y ∧ y_b (m_make Y kd v x y z dp).2 = y_b Y ∧ y_e (m_make Y kd v x y z dp).2 = y_e Y ∧
    y_d (m_make Y kd v x y z dp).2 = upd (y_d Y) (ix (y_n Y)) dp ∧
    y_u (m_make Y kd v x y z dp).2 = (let u0 := upd (y_u Y) (ix (y_n Y)) 0; let u1 := if x < 0 then u0 else upd u0 (ix x) 1; let u2 := if y < 0 then u1 else upd u1 (ix y) 1; if z < 0 then u2 else upd u2 (ix z) 1) := by
  unfold m_make
  by_cases hx : x < 0 <;> by_cases hy : y < 0 <;> by_cases hz : z < 0 <;> refine ⟨?_, ?_, ?_, ?_, ?_, ?_, ?_, ?_, ?_, ?_, ?_⟩ <;> first | rfl | (simp only [hx, hy, hz, if_true, if_false]; done) | (simp only [hx, hy, hz, if_true, if_false]; rfl)
theorem p3_out {n j : Nat} {f : Nat → Int32} {x y z : Int32} (hn : n < 60) (hj : j ≠ n) : (∀ b, b < 3 → upd (upd (upd f (ix (3 * nI n)) x) (ix (3 * nI n + 1)) y) (ix (3 * nI n + 2)) z (3 * j + b) = f (3 * j + b)) := fun b hb => by
  have hv : vp_in (nI n) 60 := vp_in_nI hn (by decide)
  rw [ix_30 hv, ix_31 hv, ix_32 hv, ix_nI (by omega), pk_un (by omega), pk_un (by omega), pk_un (by omega)]
theorem p3_in {n : Nat} {f : Nat → Int32} {x y z : Int32} (hn : n < 60) : upd (upd (upd f (ix (3 * nI n)) x) (ix (3 * nI n + 1)) y) (ix (3 * nI n + 2)) z (3 * n) = x ∧ upd (upd (upd f (ix (3 * nI n)) x) (ix (3 * nI n + 1)) y) (ix (3 * nI n + 2)) z (3 * n + 1) = y ∧ upd (upd (upd f (ix (3 * nI n)) x) (ix (3 * nI n + 1)) y) (ix (3 * nI n + 2)) z (3 * n + 2) = z := by
  have hv : vp_in (nI n) 60 := vp_in_nI hn (by decide)
  rw [ix_30 hv, ix_31 hv, ix_32 hv, ix_nI (by omega)]
  refine ⟨?_, ?_, ?_⟩
  · rw [pk_un (by omega), pk_un (by omega)]; exact pk_us
  · rw [pk_un (by omega)]; exact pk_us
  · exact pk_us
/-- a leaf -/
theorem j_leaf {X : zX} {Y : zY} (hJ : zJ X Y) (kd v : Int32) : ∃ w X' Y', p_gleaf X kd v = (w, X') ∧ m_leaf Y kd v = (w, Y') ∧ zJ X' Y' := by
  obtain ⟨n, f, q, hJn⟩ := hJ
  have hJ' : zJ X Y := ⟨n, f, q, hJn⟩
  obtain ⟨j1, j2, j3, jF, -⟩ := id hJn
  have h0 : (0 : Int32) + kd = kd := by simp
  unfold p_gleaf m_leaf
  rw [with_c1, with_c7, h0]
  by_cases hk : p_bel kd 2 = true
  rotate_left
  · rw [if_neg hk, if_neg hk]; exact ⟨_, _, _, rfl, rfl, hJ'⟩
  rw [if_pos hk, if_pos hk]
  have main : (kd = 1 → p_bel v 8 = true) → ∃ w X' Y', (if p_full X = true then ((-4 : Int32), X) else p_leafX X kd v) = (w, X') ∧ (if y_n Y = 60 then ((-4 : Int32), Y) else m_make Y kd v (-1) (-1) (-1) 1) = (w, Y') ∧ zJ X' Y' := by
    intro hv
    by_cases h6 : n = 60
    · rw [if_pos ((full_iff j2 j1).mpr h6), if_pos ((y60_iff j3 j1).mpr h6)]; exact ⟨_, _, _, rfl, rfl, hJ'⟩
    rw [if_neg (fun h => h6 ((full_iff j2 j1).mp h)), if_neg (fun h => h6 ((y60_iff j3 j1).mp h))]
    have h60 : n < 60 := by omega
    obtain ⟨k, hk2, rfl⟩ := bel_of (n := 2) hk rfl (by decide)
    have hin : ix (nI n) = n := ix_nI (by omega)
    have hkc : t_kc (nI k) = nI k := by
      have : k = 0 ∨ k = 1 := by omega
      rcases this with rfl | rfl <;> rfl
    obtain ⟨m1, m2, m3, m4, m5, m6, m7, m8, m9, m10, m11⟩ := mk_rows Y (nI k) v (-1) (-1) (-1) 1
    rw [j3] at m1 m2 m3 m4 m6 m10 m11
    rw [hin] at m2 m10 m11
    have e1 : p_leafX X (nI k) v = (nI n, (p_leafX X (nI k) v).2) := by rw [← j2]; rfl
    have e2 : m_make Y (nI k) v (-1) (-1) (-1) 1 = (nI n, (m_make Y (nI k) v (-1) (-1) (-1) 1).2) := by rw [← m1]
    refine ⟨_, _, _, e1, e2, ?_⟩
    have c1 : f_k (x_F (p_leafX X (nI k) v).2) = upd (f_k (x_F X)) n (nI k) := by show upd (f_k (x_F X)) (ix (x_n X)) _ = _; rw [j2, hin]
    have c2 : f_n (x_F (p_leafX X (nI k) v).2) = upd (f_n (x_F X)) n v := by show upd (f_n (x_F X)) (ix (x_n X)) _ = _; rw [j2, hin]
    have c3 : x_d (p_leafX X (nI k) v).2 = upd (x_d X) n 1 := by show upd (x_d X) (ix (x_n X)) _ = _; rw [j2, hin]
    have c4 : x_f (p_leafX X (nI k) v).2 = upd (x_f X) n 1 := by show upd (x_f X) (ix (x_n X)) _ = _; rw [j2, hin]
    have c5 : x_n (p_leafX X (nI k) v).2 = nI (n + 1) := by show x_n X + 1 = _; rw [j2, nI_succ]
    have fa : f_a (x_F (p_leafX X (nI k) v).2) (nI n) = 0 := by
      unfold f_a
      rw [hin, c1, pk_us, if_pos (show nI k < 2 from nI_lt (b := 2) hk2 (by decide))]
    refine j_add (n := n) (f := f) (q := q) (d := 0) (kd := nI k) (v := v) hJn h60 (by omega) c1 c2 (fun j _ => ⟨rfl, rfl, rfl⟩) rfl rfl c5 rfl rfl rfl (by rw [m2, hkc]) m3 (fun j hj => ?_) m5 (by rw [m6, nI_succ]) m7 m8 m9 ⟨k, by omega, rfl⟩ (fun h => ?_) (fun h => ?_) (fun h => ?_) (fun h => ?_) (fun i hi => ?_) ⟨by rw [c3]; exact pk_us, by rw [m10]; exact pk_us⟩ ⟨by rw [c4]; exact pk_us, ?_⟩ (fun i hi => ?_) (fun h => ?_) (fun h => ?_) (fun h => ?_)
    · rw [m4]; exact ⟨p3_out h60 hj 0 (by decide), p3_out h60 hj 1 (by decide), p3_out h60 hj 2 (by decide)⟩
    · rcases h with h | h
      · exact bel_8 (hv h)
      · have : k = 2 := (nI_eq (b := 2) (by omega) (by decide)).mp h
        omega
    · omega
    · omega
    · omega
    · rw [c3, m10]; exact ⟨pk_un (by omega), pk_un (by omega)⟩
    · rw [m11]; exact pk_us
    · rw [c4, m11]; exact Or.inl ⟨pk_un (by omega), pk_un (by omega)⟩
    · omega
    · omega
    · omega
  by_cases h1 : kd = 1
  · rw [if_pos h1, if_pos h1]
    by_cases hv : p_bel v 8 = true
    · rw [if_pos hv, if_pos hv]; exact main fun _ => hv
    · rw [if_neg hv, if_neg hv]; exact ⟨_, _, _, rfl, rfl, hJ'⟩
  · rw [if_neg h1, if_neg h1]; exact main fun h => absurd h h1
def ka (k : Int32) : Nat := if k < 2 then 0 else if k < 6 then 1 else if k < 18 then 2 else 3
/-- a node over parts -/
theorem j_over {X : zX} {Y Y' : zY} {n f q D i1 i2 i3 d1 d2 d3 : Nat} {kd v dp : Int32} (hJ : Jn X Y n f q) (h60 : n < 60) (hk : ∃ k : Nat, k < 20 ∧ kd = nI k) (hnm : kd = 1 ∨ kd = 2 → vp_in v 8) (h1 : i1 < n) (h2 : i2 < n) (h3 : i3 < n) (f1 : x_f X i1 = 1) (f2 : x_f X i2 = 1) (f3 : x_f X i3 = 1) (e1 : x_d X i1 = nI d1) (e2 : x_d X i2 = nI d2) (e3 : x_d X i3 = nI d3)
    (hD : D = max d1 (max d2 d3)) (hD1 : D ≤ 11) (hd : dp = nI (D + 1)) (b1 : t_k (y_T Y') = upd (t_k (y_T Y)) n (t_kc kd)) (b2 : y_r Y' = u_nm (y_r Y) (nI n) v) (b3 : ∀ j, j ≠ n → ∀ b, b < 3 → t_p (y_T Y') (3 * j + b) = t_p (y_T Y) (3 * j + b)) (b4 : t_f (y_T Y') = t_f (y_T Y)) (b6 : y_n Y' = nI (n + 1)) (b7 : y_l Y' = y_l Y) (b8 : y_b Y' = y_b Y) (b9 : y_e Y' = y_e Y) (b10 : y_d Y' = upd (y_d Y) n dp)
    (p1 : t_p (y_T Y') (3 * n) = nI i1) (p2 : 2 ≤ ka kd → t_p (y_T Y') (3 * n + 1) = nI i2 ∧ i1 ≠ i2) (p3 : 3 ≤ ka kd → t_p (y_T Y') (3 * n + 2) = nI i3 ∧ i1 ≠ i3 ∧ i2 ≠ i3)
    (hu : y_u Y' n = 0 ∧ ∀ i, i < n → ((i = i1 ∨ i = i2 ∨ i = i3) → y_u Y' i = 1) ∧ (¬ (i = i1 ∨ i = i2 ∨ i = i3) → y_u Y' i = y_u Y i)) : (p_overX X kd v (nI i1) (nI i2) (nI i3)).1 = nI n ∧ zJ (p_overX X kd v (nI i1) (nI i2) (nI i3)).2 Y' := by
  obtain ⟨j1, j2, j3, jF, -⟩ := id hJ
  have hin : ix (nI n) = n := ix_nI (by omega)
  have x1 : ix (nI i1) = i1 := ix_nI (by omega)
  have x2 : ix (nI i2) = i2 := ix_nI (by omega)
  have x3 : ix (nI i3) = i3 := ix_nI (by omega)
  have c0 : (p_overX X kd v (nI i1) (nI i2) (nI i3)).1 = nI n := j2
  refine ⟨c0, ?_⟩
  have c1 : f_k (x_F (p_overX X kd v (nI i1) (nI i2) (nI i3)).2) = upd (f_k (x_F X)) n kd := by show upd (f_k (x_F X)) (ix (x_n X)) _ = _; rw [j2, hin]
  have c2 : f_n (x_F (p_overX X kd v (nI i1) (nI i2) (nI i3)).2) = upd (f_n (x_F X)) n v := by show upd (f_n (x_F X)) (ix (x_n X)) _ = _; rw [j2, hin]
  have cx : f_x (x_F (p_overX X kd v (nI i1) (nI i2) (nI i3)).2) = upd (f_x (x_F X)) n (nI i1) := by show upd (f_x (x_F X)) (ix (x_n X)) _ = _; rw [j2, hin]
  have cy : f_y (x_F (p_overX X kd v (nI i1) (nI i2) (nI i3)).2) = upd (f_y (x_F X)) n (nI i2) := by show upd (f_y (x_F X)) (ix (x_n X)) _ = _; rw [j2, hin]
  have cz : f_z (x_F (p_overX X kd v (nI i1) (nI i2) (nI i3)).2) = upd (f_z (x_F X)) n (nI i3) := by show upd (f_z (x_F X)) (ix (x_n X)) _ = _; rw [j2, hin]
  have c5 : x_n (p_overX X kd v (nI i1) (nI i2) (nI i3)).2 = nI (n + 1) := by show x_n X + 1 = _; rw [j2, nI_succ]
  have c4 : x_f (p_overX X kd v (nI i1) (nI i2) (nI i3)).2 = upd (upd (upd (upd (x_f X) n 1) i1 0) i2 0) i3 0 := by
    show upd (upd (upd (upd (x_f X) (ix (x_n X)) 1) (ix (nI i1)) 0) (ix (nI i2)) 0) (ix (nI i3)) 0 = _
    rw [j2, hin, x1, x2, x3]
  have c3 : x_d (p_overX X kd v (nI i1) (nI i2) (nI i3)).2 = upd (upd (x_d X) n 1) n (nI (D + 1)) := by
    show upd (upd (x_d X) (ix (x_n X)) 1) (ix (x_n X)) (1 + mx (upd (x_d X) (ix (x_n X)) 1 (ix (nI i1))) (mx (upd (x_d X) (ix (x_n X)) 1 (ix (nI i2))) (upd (x_d X) (ix (x_n X)) 1 (ix (nI i3))))) = _
    rw [j2, hin, x1, x2, x3, pk_un (by omega), pk_un (by omega), pk_un (by omega), e1, e2, e3, mx_nI (by omega) (by omega), mx_nI (by omega) (by omega), ← hD]
    rw [show (1 : Int32) + nI D = nI (D + 1) by rw [Nat.add_comm D 1]; exact nI_add 1 D]
  have fa : f_a (x_F (p_overX X kd v (nI i1) (nI i2) (nI i3)).2) (nI n) = ka kd := by
    unfold f_a ka
    rw [hin, c1, pk_us]
  have pp : ∀ (i d : Nat), i < n → x_f X i = 1 → x_d X i = nI d → d ≤ D → ∀ tx : Int32, tx = nI i → Prp n D (x_f X) (x_d X) (nI i) tx := fun i d hi hf he hd tx ht => ⟨i, hi, rfl, ht, hf, d, hd, he⟩
  have vx : f_x (x_F (p_overX X kd v (nI i1) (nI i2) (nI i3)).2) n = nI i1 := by rw [cx]; exact pk_us
  have vy : f_y (x_F (p_overX X kd v (nI i1) (nI i2) (nI i3)).2) n = nI i2 := by rw [cy]; exact pk_us
  have vz : f_z (x_F (p_overX X kd v (nI i1) (nI i2) (nI i3)).2) n = nI i3 := by rw [cz]; exact pk_us
  have ne : ∀ a b : Nat, a < n → b < n → a ≠ b → nI a ≠ nI b := fun a b ha hb h q => h ((nI_eq (by omega) (by omega)).mp q)
  have z1 : x_f (p_overX X kd v (nI i1) (nI i2) (nI i3)).2 i1 = 0 := by
    rw [c4]
    unfold upd
    split
    · rfl
    split
    · rfl
    · exact if_pos rfl
  have z2 : x_f (p_overX X kd v (nI i1) (nI i2) (nI i3)).2 i2 = 0 := by
    rw [c4]
    unfold upd
    split
    · rfl
    · exact if_pos rfl
  have z3 : x_f (p_overX X kd v (nI i1) (nI i2) (nI i3)).2 i3 = 0 := by rw [c4]; exact pk_us
  refine j_add (n := n) (f := f) (q := q) (d := D) (kd := kd) (v := v) hJ h60 hD1 c1 c2 (fun j hj => ⟨by rw [cx]; exact pk_un hj, by rw [cy]; exact pk_un hj, by rw [cz]; exact pk_un hj⟩) rfl rfl c5 rfl rfl rfl b1 b2 (fun j hj => ⟨b3 j hj 0 (by decide), b3 j hj 1 (by decide), b3 j hj 2 (by decide)⟩) b4 b6 b7 b8 b9 hk hnm (fun h => ?_) (fun h => ?_) (fun h => ?_) (fun i hi => ?_) ⟨by rw [c3]; exact pk_us, by rw [b10, hd]; exact pk_us⟩ ⟨?_, hu.1⟩ (fun i hi => ?_) (fun _ => by rw [vx, x1]; exact z1) (fun _ => by rw [vy, x2]; exact z2) (fun _ => by rw [vz, x3]; exact z3)
  · rw [vx]; exact pp i1 d1 h1 f1 e1 (by omega) _ p1
  · rw [fa] at h
    rw [vy, vx]
    exact ⟨pp i2 d2 h2 f2 e2 (by omega) _ (p2 h).1, ne _ _ h1 h2 (p2 h).2⟩
  · rw [fa] at h
    rw [vz, vx, vy]
    exact ⟨pp i3 d3 h3 f3 e3 (by omega) _ (p3 h).1, ne _ _ h1 h3 (p3 h).2.1, ne _ _ h2 h3 (p3 h).2.2⟩
  · rw [c3, b10]
    exact ⟨(pk_un (by omega)).trans (pk_un (by omega)), pk_un (by omega)⟩
  · rw [c4, pk_un (by omega), pk_un (by omega), pk_un (by omega)]; exact pk_us
  · by_cases hp : i = i1 ∨ i = i2 ∨ i = i3
    · refine Or.inr ⟨?_, (hu.2 i hi).1 hp⟩
      rcases hp with rfl | rfl | rfl
      · exact z1
      · exact z2
      · exact z3
    · refine Or.inl ⟨?_, (hu.2 i hi).2 hp⟩
      rw [c4, pk_un (fun h => hp (Or.inr (Or.inr h))), pk_un (fun h => hp (Or.inr (Or.inl h))), pk_un (fun h => hp (Or.inl h)), pk_un (by omega)]
/-- a part, on both sides: it is there, and free or not -/
theorem j_part {X : zX} {Y : zY} {n f q : Nat} (hJ : Jn X Y n f q) {x : Int32} (h : p_bel x (x_n X) = true) : ∃ i d, i < n ∧ x = nI i ∧ ix x = i ∧ 1 ≤ d ∧ d ≤ 12 ∧ x_d X i = nI d ∧ y_d Y i = nI d ∧ (x_f X i = 1 ∧ y_u Y i = 0 ∨ x_f X i = 0 ∧ y_u Y i = 1) := by
  obtain ⟨j1, j2, j3, jF, -⟩ := hJ
  obtain ⟨i, hi, rfl⟩ := bel_of h j2 (by omega)
  obtain ⟨⟨d, d1, d2, d3, d4, d5⟩, -, h3⟩ := jF.1 i hi
  exact ⟨i, d, hi, rfl, ix_nI (by omega), d1, d2, d3, d4, h3⟩
theorem over_12 {a : Nat} (h : a ≤ 12) : (12 < (1 : Int32) + nI a) ↔ a = 12 := by
  rw [show (1 : Int32) + nI a = nI (1 + a) from nI_add 1 a]
  rw [show (12 : Int32) = nI 12 from rfl, nI_ltI (by decide) (by omega)]
  omega
theorem eq_12 {a : Nat} (h : a ≤ 12) : nI a = 12 ↔ a = 12 := nI_eq (b := 12) (by omega) (by decide)
theorem j_un {X : zX} {Y : zY} (hJ : zJ X Y) (kd v x : Int32) (hk : p_bel kd 4 = true) (hv : kd = 0 → p_bel v 8 = true) : ∃ w X' Y', p_join X (2 + kd) v x x x 0 = (w, X') ∧ m_un1 Y kd v x = (w, Y') ∧ zJ X' Y' := by
  obtain ⟨n, f, q, hJn⟩ := hJ
  have hJ' : zJ X Y := ⟨n, f, q, hJn⟩
  obtain ⟨j1, j2, j3, jF, -⟩ := id hJn
  unfold p_join m_un1
  rw [with_bel j3 (by omega), show p_bel x (y_n Y) = p_bel x (x_n X) by rw [j2, j3]]
  by_cases h : p_bel x (x_n X) = true
  rotate_left
  · rw [if_neg h, if_neg h]; exact ⟨_, _, _, rfl, rfl, hJ'⟩
  rw [if_pos h, if_pos h, if_pos h, if_pos h, if_pos rfl]
  obtain ⟨i, d, hi, rfl, hix, hd1, hd2, hxd, hyd, hfu⟩ := j_part hJn h
  rw [hix]
  rcases hfu with ⟨hf, hu⟩ | ⟨hf, hu⟩
  rotate_left
  · rw [if_pos hf, if_neg (by rw [hu]; decide)]; exact ⟨_, _, _, rfl, rfl, hJ'⟩
  have hf0 : ¬ x_f X i = 0 := by rw [hf]; decide
  rw [if_neg hf0, if_neg hf0, if_neg hf0, if_pos hu]
  by_cases h6 : n = 60
  · rw [if_pos ((full_iff j2 j1).mpr h6), if_pos ((y60_iff j3 j1).mpr h6)]; exact ⟨_, _, _, rfl, rfl, hJ'⟩
  rw [if_neg (fun h => h6 ((full_iff j2 j1).mp h)), if_neg (fun h => h6 ((y60_iff j3 j1).mp h))]
  have ho : p_over X (nI i) (nI i) (nI i) = 1 + nI d := by
    unfold p_over
    rw [hix, hxd, mx_nI (by omega) (by omega), mx_nI (by omega) (by omega), Nat.max_self, Nat.max_self]
  rw [ho, hyd]
  by_cases h12 : d = 12
  · rw [if_pos ((over_12 hd2).mpr h12), if_pos ((eq_12 hd2).mpr h12)]; exact ⟨_, _, _, rfl, rfl, hJ'⟩
  rw [if_neg (fun h => h12 ((over_12 hd2).mp h)), if_neg (fun h => h12 ((eq_12 hd2).mp h))]
  obtain ⟨k, hk4, rfl⟩ := bel_of (n := 4) hk rfl (by decide)
  have e2 : (2 : Int32) + nI k = nI (2 + k) := nI_add 2 k
  have e10 : (10 : Int32) + nI k = nI (10 + k) := nI_add 10 k
  have hk' : k = 0 ∨ k = 1 ∨ k = 2 ∨ k = 3 := by omega
  have hkc : t_kc (nI (2 + k)) = nI (10 + k) := by rcases hk' with rfl | rfl | rfl | rfl <;> rfl
  have hka : ka (nI (2 + k)) = 1 := by rcases hk' with rfl | rfl | rfl | rfl <;> rfl
  rw [e2, e10, show nI d + 1 = nI (d + 1) from (nI_succ d).symm]
  have h60 : n < 60 := by omega
  have hin : ix (nI n) = n := ix_nI (by omega)
  obtain ⟨m1, m2, m3, m4, m5, m6, m7, m8, m9, m10, m11⟩ := mk_rows Y (nI (10 + k)) v (nI i) (-1) (-1) (nI (d + 1))
  rw [j3] at m1 m2 m3 m4 m6 m10 m11
  rw [hin] at m2 m10 m11
  have hni : ¬ nI i < 0 := nI_pos (by omega)
  simp only [if_neg hni, hix] at m11
  have m11 : y_u (m_make Y (nI (10 + k)) v (nI i) (-1) (-1) (nI (d + 1))).2 = upd (upd (y_u Y) n 0) i 1 := m11
  have hnm9 : nI (2 + k) = 1 ∨ nI (2 + k) = 2 → vp_in v 8 := fun h => by
    rcases h with h | h
    · have : 2 + k = 1 := (nI_eq (b := 1) (by omega) (by decide)).mp h
      omega
    · have : 2 + k = 2 := (nI_eq (b := 2) (by omega) (by decide)).mp h
      exact bel_8 (hv (by rw [show k = 0 by omega]; rfl))
  have hu9 : y_u (m_make Y (nI (10 + k)) v (nI i) (-1) (-1) (nI (d + 1))).2 n = 0 ∧ ∀ a, a < n → ((a = i ∨ a = i ∨ a = i) → y_u (m_make Y (nI (10 + k)) v (nI i) (-1) (-1) (nI (d + 1))).2 a = 1) ∧ (¬ (a = i ∨ a = i ∨ a = i) → y_u (m_make Y (nI (10 + k)) v (nI i) (-1) (-1) (nI (d + 1))).2 a = y_u Y a) := by
    refine ⟨by rw [m11, pk_un (by omega)]; exact pk_us, fun a ha => ⟨fun h => ?_, fun h => ?_⟩⟩
    · have : a = i := by rcases h with h | h | h <;> exact h
      rw [m11, this]; exact pk_us
    · rw [m11, pk_un (fun q => h (Or.inl q)), pk_un (by omega)]
  obtain ⟨r1, r2⟩ := j_over (D := d) (Y' := (m_make Y (nI (10 + k)) v (nI i) (-1) (-1) (nI (d + 1))).2) (kd := nI (2 + k)) (v := v) hJn h60 ⟨2 + k, by omega, rfl⟩ hnm9 hi hi hi hf hf hf hxd hxd hxd (by rw [Nat.max_self, Nat.max_self]) (by omega) rfl (by rw [m2, hkc]) m3 (fun j hj b hb => by rw [m4]; exact p3_out h60 hj b hb) m5 (by rw [m6, nI_succ]) m7 m8 m9 m10 (by rw [m4]; exact (p3_in h60).1) (fun h => by rw [hka] at h; omega) (fun h => by rw [hka] at h; omega) hu9
  exact ⟨nI n, _, _, by rw [← r1], by rw [← m1], r2⟩
theorem j_unary {X : zX} {Y : zY} (hJ : zJ X Y) (kd v x : Int32) : ∃ w X' Y', p_gun X kd v x = (w, X') ∧ m_unary Y kd v x = (w, Y') ∧ zJ X' Y' := by
  unfold p_gun m_unary
  rw [with_c3, with_c7]
  by_cases hk : p_bel kd 4 = true
  rotate_left
  · rw [if_neg hk, if_neg hk]; exact ⟨_, _, _, rfl, rfl, hJ⟩
  rw [if_pos hk, if_pos hk]
  have h2 : (2 : Int32) + kd = 2 ↔ kd = 0 := by
    obtain ⟨k, hk4, rfl⟩ := bel_of (n := 4) hk rfl (by decide)
    rw [show (2 : Int32) + nI k = nI (2 + k) from nI_add 2 k, show (2 : Int32) = nI 2 from rfl, show (0 : Int32) = nI 0 from rfl, nI_eq (by omega) (by decide), nI_eq (by omega) (by decide)]
    omega
  by_cases h0 : kd = 0
  · rw [if_pos (h2.mpr h0), if_pos h0]
    by_cases hv : p_bel v 8 = true
    · rw [if_pos hv, if_pos hv]; exact j_un hJ kd v x hk fun _ => hv
    · rw [if_neg hv, if_neg hv]; exact ⟨_, _, _, rfl, rfl, hJ⟩
  · rw [if_neg (fun h => h0 (h2.mp h)), if_neg h0]; exact j_un hJ kd v x hk fun h => absurd h h0
theorem j_binary {X : zX} {Y : zY} (hJ : zJ X Y) (kd x y : Int32) : ∃ w X' Y', p_gbin X kd x y = (w, X') ∧ m_binary Y kd x y = (w, Y') ∧ zJ X' Y' := by
  obtain ⟨n, f, q, hJn⟩ := hJ
  have hJ' : zJ X Y := ⟨n, f, q, hJn⟩
  obtain ⟨j1, j2, j3, jF, -⟩ := id hJn
  unfold p_gbin m_binary
  rw [with_c11, with_bel j3 (by omega), with_bel j3 (by omega), show y_n Y = x_n X by rw [j2, j3]]
  by_cases hk : p_bel kd 12 = true
  rotate_left
  · rw [if_neg hk, if_neg hk]; exact ⟨_, _, _, rfl, rfl, hJ'⟩
  rw [if_pos hk, if_pos hk]
  unfold p_join
  by_cases hx : p_bel x (x_n X) = true
  rotate_left
  · simp only [if_neg hx, ite_self]; exact ⟨_, _, _, rfl, rfl, hJ'⟩
  by_cases hy : p_bel y (x_n X) = true
  rotate_left
  · simp only [if_pos hx, if_neg hy, ite_self]; exact ⟨_, _, _, rfl, rfl, hJ'⟩
  simp only [if_pos hx, if_pos hy, if_true]
  obtain ⟨i, d, hi, rfl, hix, hd1, hd2, hxd, hyd, hfu⟩ := j_part hJn hx
  obtain ⟨i', d', hi', rfl, hix', hd1', hd2', hxd', hyd', hfu'⟩ := j_part hJn hy
  simp only [hix, hix']
  by_cases hxy : nI i = nI i'
  · rw [if_pos hxy, if_neg (show ¬ (1 : Int32) = 0 by decide)]
    have : i = i' := (nI_eq (by omega) (by omega)).mp hxy
    subst this
    simp only [if_true, ite_self]
    exact ⟨_, _, _, rfl, rfl, hJ'⟩
  rw [if_neg hxy, if_neg hxy]
  have hne : i ≠ i' := fun q => hxy (by rw [q])
  rcases hfu with ⟨hf, hu⟩ | ⟨hf, hu⟩
  rotate_left
  · rw [if_pos hf, if_neg (by rw [hu]; decide)]; exact ⟨_, _, _, rfl, rfl, hJ'⟩
  have hf0 : ¬ x_f X i = 0 := by rw [hf]; decide
  rw [if_neg hf0, if_pos hu]
  rcases hfu' with ⟨hf', hu'⟩ | ⟨hf', hu'⟩
  rotate_left
  · rw [if_pos hf', if_neg (by rw [hu']; decide)]; exact ⟨_, _, _, rfl, rfl, hJ'⟩
  have hf0' : ¬ x_f X i' = 0 := by rw [hf']; decide
  rw [if_neg hf0', if_neg hf0', if_pos hu']
  by_cases h6 : n = 60
  · rw [if_pos ((full_iff j2 j1).mpr h6), if_pos ((y60_iff j2 j1).mpr h6)]; exact ⟨_, _, _, rfl, rfl, hJ'⟩
  rw [if_neg (fun h => h6 ((full_iff j2 j1).mp h)), if_neg (fun h => h6 ((y60_iff j2 j1).mp h))]
  have ho : p_over X (nI i) (nI i') (nI i') = 1 + nI (max d d') := by
    unfold p_over
    rw [hix, hix', hxd, hxd', mx_nI (by omega) (by omega), Nat.max_self, mx_nI (by omega) (by omega)]
  have hm : (if y_d Y i' < y_d Y i then if y_d Y i = 12 then ((-5 : Int32), Y) else m_make Y (20 + kd) 0 (nI i) (nI i') (-1) (y_d Y i + 1) else if y_d Y i' = 12 then (-5, Y) else m_make Y (20 + kd) 0 (nI i) (nI i') (-1) (y_d Y i' + 1)) = if max d d' = 12 then ((-5 : Int32), Y) else m_make Y (20 + kd) 0 (nI i) (nI i') (-1) (nI (max d d' + 1)) := by
    rw [hyd, hyd']
    by_cases hlt : d' < d
    · rw [if_pos (nI_lt hlt (by omega)), Nat.max_eq_left (by omega), ← nI_succ]
      simp only [eq_12 hd2]
    · rw [if_neg (nI_nlt (by omega) (by omega)), Nat.max_eq_right (by omega), ← nI_succ]
      simp only [eq_12 hd2']
  rw [ho, hm]
  have hmx : max d d' ≤ 12 := by omega
  by_cases h12 : max d d' = 12
  · rw [if_pos ((over_12 hmx).mpr h12), if_pos h12]; exact ⟨_, _, _, rfl, rfl, hJ'⟩
  rw [if_neg (fun h => h12 ((over_12 hmx).mp h)), if_neg h12]
  obtain ⟨k, hk12, rfl⟩ := bel_of (n := 12) hk rfl (by decide)
  have e6 : (6 : Int32) + nI k = nI (6 + k) := nI_add 6 k
  have e20 : (20 : Int32) + nI k = nI (20 + k) := nI_add 20 k
  have hk' : k = 0 ∨ k = 1 ∨ k = 2 ∨ k = 3 ∨ k = 4 ∨ k = 5 ∨ k = 6 ∨ k = 7 ∨ k = 8 ∨ k = 9 ∨ k = 10 ∨ k = 11 := by omega
  have hkc : t_kc (nI (6 + k)) = nI (20 + k) := by rcases hk' with rfl | rfl | rfl | rfl | rfl | rfl | rfl | rfl | rfl | rfl | rfl | rfl <;> rfl
  have hka : ka (nI (6 + k)) = 2 := by rcases hk' with rfl | rfl | rfl | rfl | rfl | rfl | rfl | rfl | rfl | rfl | rfl | rfl <;> rfl
  rw [e6, e20]
  have h60 : n < 60 := by omega
  have hin : ix (nI n) = n := ix_nI (by omega)
  obtain ⟨m1, m2, m3, m4, m5, m6, m7, m8, m9, m10, m11⟩ := mk_rows Y (nI (20 + k)) 0 (nI i) (nI i') (-1) (nI (max d d' + 1))
  rw [j3] at m1 m2 m3 m4 m6 m10 m11
  rw [hin] at m2 m10 m11
  simp only [if_neg (nI_pos (n := i) (by omega)), if_neg (nI_pos (n := i') (by omega)), hix, hix'] at m11
  have m11 : y_u (m_make Y (nI (20 + k)) 0 (nI i) (nI i') (-1) (nI (max d d' + 1))).2 = upd (upd (upd (y_u Y) n 0) i 1) i' 1 := m11
  have hnm9 : nI (6 + k) = 1 ∨ nI (6 + k) = 2 → vp_in 0 8 := fun h => by
    rcases h with h | h
    · have : 6 + k = 1 := (nI_eq (b := 1) (by omega) (by decide)).mp h
      omega
    · have : 6 + k = 2 := (nI_eq (b := 2) (by omega) (by decide)).mp h
      omega
  have hu9 : y_u (m_make Y (nI (20 + k)) 0 (nI i) (nI i') (-1) (nI (max d d' + 1))).2 n = 0 ∧ ∀ a, a < n → ((a = i ∨ a = i' ∨ a = i') → y_u (m_make Y (nI (20 + k)) 0 (nI i) (nI i') (-1) (nI (max d d' + 1))).2 a = 1) ∧ (¬ (a = i ∨ a = i' ∨ a = i') → y_u (m_make Y (nI (20 + k)) 0 (nI i) (nI i') (-1) (nI (max d d' + 1))).2 a = y_u Y a) := by
    refine ⟨by rw [m11, pk_un (by omega), pk_un (by omega)]; exact pk_us, fun a ha => ⟨fun h => ?_, fun h => ?_⟩⟩
    · rw [m11]
      by_cases ha' : a = i'
      · rw [ha']; exact pk_us
      · have : a = i := by rcases h with h | h | h <;> first | exact h | exact absurd h ha'
        rw [pk_un ha', this]; exact pk_us
    · rw [m11, pk_un (fun q => h (Or.inr (Or.inl q))), pk_un (fun q => h (Or.inl q)), pk_un (by omega)]
  obtain ⟨r1, r2⟩ := j_over (D := max d d') (Y' := (m_make Y (nI (20 + k)) 0 (nI i) (nI i') (-1) (nI (max d d' + 1))).2) (kd := nI (6 + k)) (v := 0) hJn h60 ⟨6 + k, by omega, rfl⟩ hnm9 hi hi' hi' hf hf' hf' hxd hxd' hxd' (by rw [Nat.max_self]) (by omega) rfl (by rw [m2, hkc]) m3 (fun j hj b hb => by rw [m4]; exact p3_out h60 hj b hb) m5 (by rw [m6, nI_succ]) m7 m8 m9 m10 (by rw [m4]; exact (p3_in h60).1) (fun _ => ⟨by rw [m4]; exact (p3_in h60).2.1, hne⟩) (fun h => by rw [hka] at h; omega) hu9
  exact ⟨nI n, _, _, by rw [← r1], by rw [← m1], r2⟩
theorem j_ternary {X : zX} {Y : zY} (hJ : zJ X Y) (kd x y z : Int32) : ∃ w X' Y', p_gter X kd x y z = (w, X') ∧ m_ternary Y kd x y z = (w, Y') ∧ zJ X' Y' := by
  obtain ⟨n, f, q, hJn⟩ := hJ
  have hJ' : zJ X Y := ⟨n, f, q, hJn⟩
  obtain ⟨j1, j2, j3, jF, -⟩ := id hJn
  unfold p_gter m_ternary
  rw [with_c1, with_bel j3 (by omega), with_bel j3 (by omega), with_bel j3 (by omega), show y_n Y = x_n X by rw [j2, j3]]
  by_cases hk : p_bel kd 2 = true
  rotate_left
  · rw [if_neg hk, if_neg hk]; exact ⟨_, _, _, rfl, rfl, hJ'⟩
  rw [if_pos hk, if_pos hk]
  unfold p_join
  by_cases hx : p_bel x (x_n X) = true
  rotate_left
  · simp only [if_neg hx, ite_self]; exact ⟨_, _, _, rfl, rfl, hJ'⟩
  by_cases hy : p_bel y (x_n X) = true
  rotate_left
  · simp only [if_pos hx, if_neg hy, ite_self]; exact ⟨_, _, _, rfl, rfl, hJ'⟩
  by_cases hz : p_bel z (x_n X) = true
  rotate_left
  · simp only [if_pos hx, if_pos hy, if_neg hz, ite_self]; exact ⟨_, _, _, rfl, rfl, hJ'⟩
  simp only [if_pos hx, if_pos hy, if_pos hz, if_neg (show ¬ (1 : Int32) = 0 by decide), if_true]
  obtain ⟨i, d, hi, rfl, hix, hd1, hd2, hxd, hyd, hfu⟩ := j_part hJn hx
  obtain ⟨i', d', hi', rfl, hix', hd1', hd2', hxd', hyd', hfu'⟩ := j_part hJn hy
  obtain ⟨i3, d3, hi3, rfl, hix3, hd13, hd23, hxd3, hyd3, hfu3⟩ := j_part hJn hz
  simp only [hix, hix', hix3]
  by_cases hxy : nI i = nI i'
  · simp only [if_pos hxy, ite_self]; exact ⟨_, _, _, rfl, rfl, hJ'⟩
  by_cases hyz : nI i' = nI i3
  · simp only [if_neg hxy, if_pos hyz, ite_self]; exact ⟨_, _, _, rfl, rfl, hJ'⟩
  by_cases hxz : nI i = nI i3
  · simp only [if_neg hxy, if_neg hyz, if_pos hxz, ite_self]; exact ⟨_, _, _, rfl, rfl, hJ'⟩
  simp only [if_neg hxy, if_neg hyz, if_neg hxz]
  have hne : i ≠ i' := fun q => hxy (by rw [q])
  have hne2 : i' ≠ i3 := fun q => hyz (by rw [q])
  have hne3 : i ≠ i3 := fun q => hxz (by rw [q])
  rcases hfu with ⟨hf, hu⟩ | ⟨hf, hu⟩
  rotate_left
  · rw [if_pos hf, if_neg (by rw [hu]; decide)]; exact ⟨_, _, _, rfl, rfl, hJ'⟩
  rw [if_neg (by rw [hf]; decide), if_pos hu]
  rcases hfu' with ⟨hf', hu'⟩ | ⟨hf', hu'⟩
  rotate_left
  · rw [if_pos hf', if_neg (by rw [hu']; decide)]; exact ⟨_, _, _, rfl, rfl, hJ'⟩
  rw [if_neg (by rw [hf']; decide), if_pos hu']
  rcases hfu3 with ⟨hf3, hu3⟩ | ⟨hf3, hu3⟩
  rotate_left
  · rw [if_pos hf3, if_neg (by rw [hu3]; decide)]; exact ⟨_, _, _, rfl, rfl, hJ'⟩
  rw [if_neg (by rw [hf3]; decide), if_pos hu3]
  by_cases h6 : n = 60
  · rw [if_pos ((full_iff j2 j1).mpr h6), if_pos ((y60_iff j2 j1).mpr h6)]; exact ⟨_, _, _, rfl, rfl, hJ'⟩
  rw [if_neg (fun h => h6 ((full_iff j2 j1).mp h)), if_neg (fun h => h6 ((y60_iff j2 j1).mp h))]
  have ho : p_over X (nI i) (nI i') (nI i3) = 1 + nI (max d (max d' d3)) := by
    unfold p_over
    rw [hix, hix', hix3, hxd, hxd', hxd3, mx_nI (by omega) (by omega), mx_nI (by omega) (by omega)]
  have ht1 : ∀ a : Nat, a ≤ 12 → m_ter1 Y kd (nI i) (nI i') (nI i3) (nI a) = if a = 12 then ((-5 : Int32), Y) else m_make Y (40 + kd) 0 (nI i) (nI i') (nI i3) (nI (a + 1)) := fun a ha => by
    unfold m_ter1
    rw [← nI_succ]
    simp only [eq_12 ha]
  have ht2 : ∀ a : Nat, a ≤ 12 → m_ter2 Y kd (nI i) (nI i') (nI i3) (nI a) = m_ter1 Y kd (nI i) (nI i') (nI i3) (nI (max a d3)) := fun a ha => by
    unfold m_ter2
    rw [hix3, hyd3]
    by_cases hlt : a < d3
    · rw [if_pos (nI_lt hlt (by omega)), Nat.max_eq_right (by omega)]
    · rw [if_neg (nI_nlt (by omega) (by omega)), Nat.max_eq_left (by omega)]
  have hm : (if y_d Y i' < y_d Y i then m_ter2 Y kd (nI i) (nI i') (nI i3) (y_d Y i) else m_ter2 Y kd (nI i) (nI i') (nI i3) (y_d Y i')) = if max d (max d' d3) = 12 then ((-5 : Int32), Y) else m_make Y (40 + kd) 0 (nI i) (nI i') (nI i3) (nI (max d (max d' d3) + 1)) := by
    rw [hyd, hyd']
    by_cases hlt : d' < d
    · rw [if_pos (nI_lt hlt (by omega)), ht2 d hd2, ht1 _ (by omega), show max d d3 = max d (max d' d3) by omega]
    · rw [if_neg (nI_nlt (by omega) (by omega)), ht2 d' hd2', ht1 _ (by omega), show max d (max d' d3) = max d' d3 by omega]
  rw [ho, hm]
  have hmx : max d (max d' d3) ≤ 12 := by omega
  by_cases h12 : max d (max d' d3) = 12
  · rw [if_pos ((over_12 hmx).mpr h12), if_pos h12]; exact ⟨_, _, _, rfl, rfl, hJ'⟩
  rw [if_neg (fun h => h12 ((over_12 hmx).mp h)), if_neg h12]
  obtain ⟨k, hk2, rfl⟩ := bel_of (n := 2) hk rfl (by decide)
  have e6 : (18 : Int32) + nI k = nI (18 + k) := nI_add 18 k
  have e20 : (40 : Int32) + nI k = nI (40 + k) := nI_add 40 k
  have hk' : k = 0 ∨ k = 1 := by omega
  have hkc : t_kc (nI (18 + k)) = nI (40 + k) := by rcases hk' with rfl | rfl <;> rfl
  have hka : ka (nI (18 + k)) = 3 := by rcases hk' with rfl | rfl <;> rfl
  rw [e6, e20]
  have h60 : n < 60 := by omega
  have hin : ix (nI n) = n := ix_nI (by omega)
  obtain ⟨m1, m2, m3, m4, m5, m6, m7, m8, m9, m10, m11⟩ := mk_rows Y (nI (40 + k)) 0 (nI i) (nI i') (nI i3) (nI (max d (max d' d3) + 1))
  rw [j3] at m1 m2 m3 m4 m6 m10 m11
  rw [hin] at m2 m10 m11
  simp only [if_neg (nI_pos (n := i) (by omega)), if_neg (nI_pos (n := i') (by omega)), if_neg (nI_pos (n := i3) (by omega)), hix, hix', hix3] at m11
  have hnm9 : nI (18 + k) = 1 ∨ nI (18 + k) = 2 → vp_in 0 8 := fun h => by
    rcases h with h | h
    · have : 18 + k = 1 := (nI_eq (b := 1) (by omega) (by decide)).mp h
      omega
    · have : 18 + k = 2 := (nI_eq (b := 2) (by omega) (by decide)).mp h
      omega
  have hu9 : y_u (m_make Y (nI (40 + k)) 0 (nI i) (nI i') (nI i3) (nI (max d (max d' d3) + 1))).2 n = 0 ∧ ∀ a, a < n → ((a = i ∨ a = i' ∨ a = i3) → y_u (m_make Y (nI (40 + k)) 0 (nI i) (nI i') (nI i3) (nI (max d (max d' d3) + 1))).2 a = 1) ∧ (¬ (a = i ∨ a = i' ∨ a = i3) → y_u (m_make Y (nI (40 + k)) 0 (nI i) (nI i') (nI i3) (nI (max d (max d' d3) + 1))).2 a = y_u Y a) := by
    refine ⟨by rw [m11, pk_un (by omega), pk_un (by omega), pk_un (by omega)]; exact pk_us, fun a ha => ⟨fun h => ?_, fun h => ?_⟩⟩
    · rw [m11]
      by_cases ha3 : a = i3
      · rw [ha3]; exact pk_us
      rw [pk_un ha3]
      by_cases ha' : a = i'
      · rw [ha']; exact pk_us
      · have : a = i := by rcases h with h | h | h <;> first | exact h | exact absurd h ha' | exact absurd h ha3
        rw [pk_un ha', this]; exact pk_us
    · rw [m11, pk_un (fun q => h (Or.inr (Or.inr q))), pk_un (fun q => h (Or.inr (Or.inl q))), pk_un (fun q => h (Or.inl q)), pk_un (by omega)]
  obtain ⟨r1, r2⟩ := j_over (D := max d (max d' d3)) (Y' := (m_make Y (nI (40 + k)) 0 (nI i) (nI i') (nI i3) (nI (max d (max d' d3) + 1))).2) (kd := nI (18 + k)) (v := 0) hJn h60 ⟨18 + k, by omega, rfl⟩ hnm9 hi hi' hi3 hf hf' hf3 hxd hxd' hxd3 rfl (by omega) rfl (by rw [m2, hkc]) m3 (fun j hj b hb => by rw [m4]; exact p3_out h60 hj b hb) m5 (by rw [m6, nI_succ]) m7 m8 m9 m10 (by rw [m4]; exact (p3_in h60).1) (fun _ => ⟨by rw [m4]; exact (p3_in h60).2.1, hne⟩) (fun _ => ⟨by rw [m4]; exact (p3_in h60).2.2, hne3, hne2⟩) hu9
  exact ⟨nI n, _, _, by rw [← r1], by rw [← m1], r2⟩
end
section
/-! One call of `next` on both sides; the reading calls; set and begin. -/
theorem nm_step (T : zT) (e w : Int32) (s : zR) (j : Nat) (hj : ¬ t_k T j = 40) : r_nm (q_step T e w s).2 j = r_nm s j := by
  have ask : ∀ (e i th : Int32) (s : zR), r_nm (q_ask T e i th s).2 = r_nm s := fun _ _ _ _ => rfl
  have first : ∀ (e i th : Int32) (s : zR), r_nm (q_first T e i th s).2 = r_nm s := fun _ _ _ _ => rfl
  have paid : ∀ (v : Int32) (s : zR), r_nm (q_paid T v s).2 = r_nm s := fun v s => by unfold q_paid; split <;> rfl
  have on : ∀ (e : Int32) (s : zR), r_nm (q_on T e s).2 = r_nm s := fun e s => by
    unfold q_on
    dsimp only
    by_cases hc : (if 0 < r_kp s (ix (3 * e + 2)) then decide (r_kp s (ix (3 * e + 1)) < r_kp s (ix (3 * e))) else decide (r_kp s (ix (3 * e)) < r_kp s (ix (3 * e + 1)))) = true
    · rw [if_pos hc]; exact ask _ _ _ _
    · rw [if_neg hc]; exact (paid _ _).trans rfl
  have leaf : ∀ (e : Int32) (s : zR), r_nm (q_leaf T e s).2 = r_nm s := fun e s => by
    unfold q_leaf
    split
    · rfl
    · exact (paid _ _).trans rfl
  have unary : ∀ (e w : Int32) (s : zR), r_nm (q_unary T e w s).2 = r_nm s := fun e w s => by
    unfold q_unary
    simp only []
    repeat' split
    all_goals rfl
  have pair : ∀ (e w : Int32) (s : zR), r_nm (q_pair T e w s).2 = r_nm s := fun e w s => by
    unfold q_pair
    simp only []
    repeat' split
    all_goals rfl
  have limit : ∀ (e w : Int32) (s : zR), r_nm (q_limit T e w s).2 = r_nm s := fun e w s => by
    unfold q_limit
    simp only []
    repeat' split
    all_goals rfl
  have binary : ∀ (e w : Int32) (s : zR), r_nm (q_binary T e w s).2 = r_nm s := fun e w s => by
    unfold q_binary
    simp only []
    repeat' split
    all_goals first | exact limit _ _ _ | rfl
  have iff : ∀ (e w : Int32) (s : zR), r_nm (q_if T e w s).2 = r_nm s := fun e w s => by
    unfold q_if
    simp only []
    repeat' split
    all_goals rfl
  unfold q_step
  simp only []
  split
  · rw [leaf]
  split
  · rw [unary]
  split
  · rw [pair]
  split
  · rw [binary]
  split
  · rename_i hk
    have hne : j ≠ ix e := fun q => hj (by rw [q]; exact hk)
    unfold q_to
    simp only []
    split
    · split
      · rfl
      · rw [on]
    split
    · split <;> rfl
    split
    · exact pk_un hne
    split
    · rfl
    split
    · rfl
    · rw [on]; rfl
  · rw [iff]
theorem nm_turn (T : zT) (a : zR × Int32) (j : Nat) (hj : ¬ t_k T j = 40) : r_nm (q_turn T a).1 j = r_nm a.1 j := by
  unfold q_turn
  simp only []
  split
  · exact nm_step T _ _ _ j hj
  · exact nm_step T _ _ _ j hj
theorem nm_go {T : zT} : ∀ (m : Nat) (a b : zR × Int32), Go T m a b → ∀ j, ¬ t_k T j = 40 → r_nm b.1 j = r_nm a.1 j
  | 0, a, b, h, j, _ => by have h : a = b := h; rw [h]
  | m + 1, a, b, h, j, hj => (nm_go m _ b h.2.2 j hj).trans (nm_turn T a j hj)
theorem kc_40 {k : Nat} (hk : k < 20) (h : t_kc (nI k) = 40) : nI k = 18 := by
  have : k = 0 ∨ k = 1 ∨ k = 2 ∨ k = 3 ∨ k = 4 ∨ k = 5 ∨ k = 6 ∨ k = 7 ∨ k = 8 ∨ k = 9 ∨ k = 10 ∨ k = 11 ∨ k = 12 ∨ k = 13 ∨ k = 14 ∨ k = 15 ∨ k = 16 ∨ k = 17 ∨ k = 18 ∨ k = 19 := by omega
  rcases this with rfl | rfl | rfl | rfl | rfl | rfl | rfl | rfl | rfl | rfl | rfl | rfl | rfl | rfl | rfl | rfl | rfl | rfl | rfl | rfl <;> first | rfl | exact absurd h (by decide)
theorem nm_keep {F : zF} {T : zT} {r r' : zR} (hK : Kd F T) (hN : Nm F r) (h : ∀ j, ¬ t_k T j = 40 → r_nm r' j = r_nm r j) : Nm F r' := fun j hj => by
  rw [h j, hN j hj]
  intro q
  obtain ⟨⟨k, hk, e⟩, e2⟩ := hK j
  rw [e2, e] at q
  exact hj (e.trans (kc_40 hk q))
theorem j_vx {X : zX} {Y : zY} (h : zJ X Y) : VX X := by
  obtain ⟨n, f, q, j1, j2, j3, jF, jK, jN, jg, jO, ⟨g1, g2, w, hw, g3⟩, -⟩ := h
  exact ⟨⟨n, j1, j2⟩, w, hw, g3⟩
theorem j_vt {X : zX} {Y : zY} (h : zJ X Y) : VT (y_T Y) X := by
  obtain ⟨n, f, q, j1, j2, j3, jF, jK, jN, jg, jO, ⟨g1, g2, w, hw, g3⟩, jl, jR⟩ := h
  refine ⟨⟨n, j1, j2⟩, ⟨w, hw, g3⟩, fun h1 => ?_⟩
  rcases jR with ⟨h, -⟩ | ⟨i, hi, hb, -, -⟩
  · rw [h] at h1; exact absurd h1 (by decide)
  · obtain ⟨⟨d, d1, d2, -, -, d5⟩, -, -⟩ := jF.1 i hi
    rw [hb]
    exact Tr_m d2 d5
theorem j_vy {X : zX} {Y : zY} (h : zJ X Y) : VY Y := by
  obtain ⟨n, f, q, j1, j2, j3, jF, jK, jN, jg, jO, ⟨g1, g2, w, hw, g3⟩, -⟩ := h
  exact ⟨⟨n, j1, j3⟩, w, hw, by rw [jg]; exact g3⟩
theorem zK_12 {n : Nat} (h : n ≤ 2000) : zK 12 n ≤ 480000 := by unfold zK; omega
theorem j_proc {X : zX} {Y : zY} (hJ : zJ X Y) : ∃ v X' Y', p_proc 1000000 X = (v, X') ∧ NxtY Y v Y' ∧ zJ X' Y' := by
  obtain ⟨n, f, q, hJn⟩ := hJ
  have hJ' : zJ X Y := ⟨n, f, q, hJn⟩
  obtain ⟨j1, j2, j3, jF, jK, jN, jg, jO, jG, jl, jR⟩ := hJn
  rcases jR with ⟨ha, hb⟩ | ⟨i, hi, hb, hyb, ⟨ha, he, p, hI, hp⟩ | ⟨ha, he, h2⟩⟩
  · refine ⟨-1, X, Y, ?_, Or.inl ⟨by rw [hb]; decide, rfl, rfl⟩, hJ'⟩
    unfold p_proc
    rw [if_neg (by rw [ha]; decide), ha]
  · have hn0 : ¬ y_b Y < 0 := by rw [hyb]; exact nI_pos (by omega)
    obtain ⟨⟨d, d1, d2, -, -, d5⟩, -, -⟩ := jF.1 i hi
    have hT : Tr (x_F X) (y_T Y) 12 (nI i) := Tr_m d2 d5
    have hU : zUp (x_F X) f 0 (nI i) (x_c X) (r_0 Y) q := ⟨jN, jg, jG, rfl, rfl, hyb⟩
    have hI0 : Idl (x_F X) 12 (nI i) (x_c X) (r_0 Y) p := by
      rcases hI with h | h
      · exact Or.inl h
      · exact Or.inr (Lv_cong (c := x_c X) (r := y_r Y) 12 (nI i) p (fun j _ => ⟨rfl, rfl, rfl, rfl, rfl, rfl, rfl, rfl⟩) h)
    obtain ⟨q', hq, hF, hout⟩ := sim_all jO 12 0 (nI i) (x_c X) (r_0 Y) p q hT (by decide) hU hI0
    have hpe : p_proc 1000000 X = (let z := p_all (x_F X) 1000000 12 (nI i) (x_c X); if z.1 = 1 then (z.1, X_l (X_a (X_c X z.2) z.1) (c_rs z.2 (ix (nI i)))) else (z.1, X_a (X_c X z.2) z.1)) := by
      unfold p_proc
      rw [if_pos ha, hb]
    generalize p_all (x_F X) 1000000 12 (nI i) (x_c X) = z at hF hout hpe
    obtain ⟨v, c'⟩ := z
    have hf := jO.2.2.1
    rcases hout with ⟨hv, hn, m, r', p', hGo, ⟨k1, k2, k3, k4, k5, k6⟩, hR, hgv, hL, hm⟩ | ⟨hv, -, m, r', hGo, ⟨k1, k2, k3, k4, k5, k6⟩, hR, hm⟩ | ⟨hv, hG', m, r', w, hGo, ⟨b1, b2, b3⟩, hm⟩
    · have hv : v = 1 := hv
      subst hv
      have hz := zK_12 (n := q') (by have := k3.2.1; omega)
      refine ⟨1, X_l (X_a (X_c X c') 1) (c_rs c' (ix (nI i))), Y_l (Y_r Y r') (r_gv r'), by rw [hpe]; rfl, Or.inr (Or.inr ⟨hn0, he, m, r', 1, by omega, hGo, Or.inl ⟨k5, Or.inr ⟨by decide, rfl, rfl⟩⟩⟩), n, f, q', j1, j2, j3, jF, jK, k1, k2, jO, k3, hgv.symm, Or.inr ⟨i, hi, hb, hyb, Or.inl ⟨rfl, he, p', Or.inr hL, by omega⟩⟩⟩
    · have hv : v = 0 := hv
      subst hv
      have hz := zK_12 (n := q') (by have := k3.2.1; omega)
      refine ⟨0, X_a (X_c X c') 0, Y_e (Y_r Y r') 0, by rw [hpe]; rfl, Or.inr (Or.inr ⟨hn0, he, m, r', 2, by omega, hGo, Or.inl ⟨k5, Or.inl ⟨rfl, rfl, rfl⟩⟩⟩), n, f, q', j1, j2, j3, jF, jK, k1, k2, jO, k3, jl, Or.inr ⟨i, hi, hb, hyb, Or.inr ⟨by show ¬ (0 : Int32) = 1; decide, rfl, by show ¬ (0 : Int32) = 2; decide⟩⟩⟩
    · have hv : v < 0 := hv
      have hz := zK_12 (n := q') (by have := hG'.2.1; omega)
      have hb2 : r_er (q_step (y_T Y) (r_sk r' (ix (r_tp r' - 1))) w r').2 = v := b2
      have hb3 : r_g (q_step (y_T Y) (r_sk r' (ix (r_tp r' - 1))) w r').2 = c_g c' := b3
      have hne : ¬ v = 2 := fun q => by rw [q] at hv; exact absurd hv (by decide)
      refine ⟨v, X_a (X_c X c') v, Y_e (Y_r Y (q_step (y_T Y) (r_sk r' (ix (r_tp r' - 1))) w r').2) v, by rw [hpe]; simp only [if_neg (neg1 hv)], Or.inr (Or.inr ⟨hn0, he, m, r', w, by omega, hGo, Or.inr ⟨b1, neg0 hv, hb2, rfl⟩⟩), n, f, q', j1, j2, j3, jF, jK, ?_, hb3, jO, hG', jl, Or.inr ⟨i, hi, hb, hyb, Or.inr ⟨neg1 hv, rfl, hne⟩⟩⟩
      exact nm_keep jK jN fun j hj => (nm_step _ _ _ _ j hj).trans (nm_go m _ _ hGo j hj)
  · refine ⟨x_a X, X, Y, ?_, Or.inr (Or.inl ⟨by rw [hyb]; exact nI_pos (by omega), h2, he.symm, rfl⟩), hJ'⟩
    unfold p_proc
    rw [if_neg ha]
theorem lv_same {F : zF} {e : Int32} {c c' : zC} {r r' : zR} {p : Nat} (h : Idl F 12 e c r p) (hA : ∀ D : Nat → Prop, Ag D c c' r r') : Idl F 12 e c' r' p := by
  rcases h with ⟨h1, h2, h3⟩ | h
  · obtain ⟨e1, -, -, e4, -⟩ := hA (fun _ => True) (ix e) trivial
    exact Or.inl ⟨e1.trans h1, e4.trans h2, h3⟩
  · exact Or.inr (Lv_cong 12 _ _ (hA _) h)
theorem j_set {X : zX} {Y : zY} (hJ : zJ X Y) (x v : Int32) : ∃ w X' Y', p_set X x v = (w, X') ∧ m_set Y x v = (w, Y') ∧ zJ X' Y' := by
  have hJ' := hJ
  obtain ⟨n, f, q, j1, j2, j3, jF, jK, jN, jg, jO, jG, jl, jR⟩ := hJ
  unfold p_set m_set
  rw [with_c7]
  by_cases h : p_bel x 8 = true
  · rw [if_pos h, if_pos h]
    refine ⟨_, _, Y_q Y (fun r => u_g r (h_va (r_g r) x v)), rfl, by rw [jg], n, f, q, j1, j2, j3, jF, jK, jN, ?_, jO, jG, jl, ?_⟩
    · show h_va (r_g (y_r Y)) x v = h_va (c_g (x_c X)) x v
      rw [jg]
    · rcases jR with h | ⟨i, hi, hb, hyb, ⟨ha, he, p, hI, hp⟩ | h⟩
      · exact Or.inl h
      · exact Or.inr ⟨i, hi, hb, hyb, Or.inl ⟨ha, he, p, lv_same hI fun D j _ => ⟨rfl, rfl, rfl, rfl, rfl, rfl, rfl, rfl⟩, hp⟩⟩
      · exact Or.inr ⟨i, hi, hb, hyb, Or.inr h⟩
  · rw [if_neg h, if_neg h]
    exact ⟨_, _, _, rfl, rfl, hJ'⟩
theorem fo_cong {F F' : zF} {T T' : zT} {n : Nat} {dp fr yd yu : Nat → Int32} (h : Fo F T n dp fr yd yu) (hA : ∀ D : Nat → Prop, AgF D F F' T T') : Fo F' T' n dp fr yd yu := by
  obtain ⟨h1, h2⟩ := h
  have hc : ∀ e j, Sb F' 12 e j ↔ Sb F 12 e j := fun e j => Sb_cong 12 e j (hA _)
  refine ⟨fun i hi => ?_, fun i i' hi hi' hne hf hf' j hj hj' => h2 i i' hi hi' hne hf hf' j ((hc _ _).mp hj) ((hc _ _).mp hj')⟩
  obtain ⟨⟨d, d1, d2, d3, d4, d5⟩, g2, g3⟩ := h1 i hi
  exact ⟨⟨d, d1, d2, d3, d4, Tr_cong d _ (hA _) d5⟩, fun j hj => g2 j ((hc _ _).mp hj), g3⟩
theorem j_begin {X : zX} {Y : zY} (hJ : zJ X Y) (x v : Int32) : ∃ w X' Y', p_begin X x v = (w, X') ∧ m_begin Y x v = (w, Y') ∧ zJ X' Y' := by
  have hJ' := hJ
  obtain ⟨n, f, q, j1, j2, j3, jF, jK, jN, jg, jO, jG, jl, jR⟩ := hJ
  unfold p_begin m_begin
  rw [with_bel j3 (by omega), with_c2000, show p_bel x (y_n Y) = p_bel x (x_n X) by rw [j2, j3]]
  by_cases h : p_bel x (x_n X) = true
  rotate_left
  · rw [if_neg h, if_neg h]; exact ⟨_, _, _, rfl, rfl, hJ'⟩
  rw [if_pos h, if_pos h]
  obtain ⟨i, hi, rfl⟩ := bel_of h j2 (by omega)
  have hix : ix (nI i) = i := ix_nI (by omega)
  rw [hix]
  rcases (jF.1 i hi).2.2 with ⟨hf, hu⟩ | ⟨hf, hu⟩
  rotate_left
  · rw [if_pos hf, if_neg (by rw [hu]; decide)]; exact ⟨_, _, _, rfl, rfl, hJ'⟩
  rw [if_neg (by rw [hf]; decide), if_pos hu]
  by_cases hv : p_bel v 2001 = true
  rotate_left
  · rw [if_neg hv, if_neg hv]; exact ⟨_, _, _, rfl, rfl, hJ'⟩
  rw [if_pos hv, if_pos hv]
  obtain ⟨k, hk, rfl⟩ := bel_of (n := 2001) hv rfl (by decide)
  refine ⟨_, _, _, rfl, rfl, n, k, 0, j1, j2, j3, ?_, jK, jN, ?_, ⟨rfl, rfl, by omega, jO.2.2.2⟩, ⟨rfl, Nat.zero_le _, 0, by omega, rfl⟩, rfl, Or.inr ⟨i, hi, rfl, rfl, Or.inl ⟨rfl, rfl, 0, Or.inl ⟨?_, ?_, rfl⟩, Nat.zero_le _⟩⟩⟩
  · exact fo_cong jF fun D j _ => ⟨rfl, rfl, rfl, rfl, rfl, rfl, rfl, rfl, rfl⟩
  · show h_wc (h_c (r_g (y_r Y)) 0) 0 = h_wc (h_c (c_g (x_c X)) 0) 0
    rw [jg]
  · exact pk_us
  · exact pk_us
theorem j_about {X : zX} {Y : zY} (hJ : zJ X Y) (x : Int32) : p_about X x = m_about Y x := by
  obtain ⟨n, f, q, j1, j2, j3, jF, -⟩ := hJ
  unfold p_about m_about
  rw [with_bel j3 (by omega), show p_bel x (y_n Y) = p_bel x (x_n X) by rw [j2, j3]]
  by_cases h : p_bel x (x_n X) = true
  rotate_left
  · rw [if_neg h, if_neg h]
  rw [if_pos h, if_pos h]
  obtain ⟨i, hi, rfl⟩ := bel_of h j2 (by omega)
  rw [ix_nI (by omega)]
  obtain ⟨⟨d, d1, d2, d3, d4, d5⟩, -, h3⟩ := jF.1 i hi
  rw [d3, d4]
  rcases h3 with ⟨hf, hu⟩ | ⟨hf, hu⟩
  · rw [if_neg (by rw [hf]; decide), if_pos hu]
  · rw [if_pos hf, if_neg (by rw [hu]; decide)]
theorem j_count {X : zX} {Y : zY} (hJ : zJ X Y) : x_n X = y_n Y := by
  obtain ⟨n, f, q, j1, j2, j3, -⟩ := hJ
  rw [j2, j3]
theorem j_g {X : zX} {Y : zY} (hJ : zJ X Y) : r_g (y_r Y) = c_g (x_c X) := by
  obtain ⟨n, f, q, j1, j2, j3, jF, jK, jN, jg, -⟩ := hJ
  exact jg
theorem j_l {X : zX} {Y : zY} (hJ : zJ X Y) : x_l X = y_l Y := by
  obtain ⟨n, f, q, j1, j2, j3, jF, jK, jN, jg, jO, jG, jl, -⟩ := hJ
  exact jl
theorem j_var {X : zX} {Y : zY} (hJ : zJ X Y) (x : Int32) : p_var X x = m_var Y x := by
  unfold p_var m_var
  rw [with_c7, j_g hJ]
theorem j_written {X : zX} {Y : zY} (hJ : zJ X Y) (x : Int32) : p_written X x = m_written Y x := by
  obtain ⟨n, f, q, j1, j2, j3, jF, jK, jN, jg, jO, ⟨g1, g2, w, hw, g3⟩, -⟩ := hJ
  unfold p_written m_written
  rw [jg, with_bel g3 (by omega)]
/-- two rows of calls that agree stop alike -/
theorem sk_same {S S' : Type} {sq : Nat → S} {sq' : Nat → S'} {an : Nat → Int32} {n r r' : Int32} {u : S} {u' : S'} (h : Sk sq an n r u) (h' : Sk sq' an n r' u') : r = r' ∧ ∃ j, u = sq j ∧ u' = sq' j := by
  obtain ⟨j, rfl, hl, he⟩ := h
  obtain ⟨j', rfl, hl', he'⟩ := h'
  have hjj : j = j' := by
    rcases Nat.lt_trichotomy j j' with h | h | h
    · obtain ⟨a, b⟩ := hl' j h
      rcases he with ⟨c, -⟩ | ⟨-, c, -⟩
      · exact absurd b c
      · exact absurd a c
    · exact h
    · obtain ⟨a, b⟩ := hl j' h
      rcases he' with ⟨c, -⟩ | ⟨-, c, -⟩
      · exact absurd b c
      · exact absurd a c
  subst hjj
  refine ⟨rfl, ?_⟩
  rcases he with ⟨c, hu⟩ | ⟨c, -, hu⟩ <;> rcases he' with ⟨c', hu'⟩ | ⟨c', -, hu'⟩
  · exact ⟨j, hu, hu'⟩
  · exact absurd c' c
  · exact absurd c c'
  · exact ⟨j + 1, hu, hu'⟩
end
