/-! ===== evaluation of the combinators, a step a row ===== -/
def kp {α : Type} (M : Me) (x : α) : Option (α × Me) := some (x, M)
theorem kp_ {α : Type} {M : Me} {x : α} : kp M x = some (x, M) := Eq.trans rfl rfl
theorem bsome {α β : Type} {a : α} {f : α → Option β} : (some a).bind f = f a := Eq.trans rfl rfl
theorem bnone {α β : Type} {f : α → Option β} : (none : Option α).bind f = none := Eq.trans rfl rfl
theorem gi_s {x : Int32} : gi (some (.int x)) = some x := Eq.trans rfl rfl
theorem gj_s {x : Int64} : gj (some (.long x)) = some x := Eq.trans rfl rfl
theorem gr_s {x : Nat} : gr (some (.ref x)) = some x := Eq.trans rfl rfl
theorem gv_s : gv (some .null) = some () := Eq.trans rfl rfl
theorem ik_ {x : Int32} {r : Lo} {M : Me} : ik x r M = some (x, M) := Eq.trans rfl rfl
theorem jk_ {x : Int64} {r : Lo} {M : Me} : jk x r M = some (x, M) := Eq.trans rfl rfl
theorem il_ {k : Nat} {r : Lo} {M : Me} : il k r M = (gi r[k]?).bind (kp M) := Eq.trans rfl rfl
theorem jl_ {k : Nat} {r : Lo} {M : Me} : jl k r M = (gj r[k]?).bind (kp M) := Eq.trans rfl rfl
theorem rl_ {k : Nat} {r : Lo} {M : Me} : rl k r M = (gr r[k]?).bind (kp M) := Eq.trans rfl rfl
def kb_i2 (op : Int32 → Int32 → Int32) (x : Int32) (y : Int32 × Me) : Option (Int32 × Me) := some (op x y.1, y.2)
def ka_i2 (op : Int32 → Int32 → Int32) (g : Ix) (r : Lo) (x : Int32 × Me) : Option (Int32 × Me) := (g r x.2).bind (kb_i2 op x.1)
theorem i2_ {op : Int32 → Int32 → Int32} {f g : Ix} {r : Lo} {M : Me} : i2 op f g r M = (f r M).bind (ka_i2 op g r) := Eq.trans rfl rfl
theorem i2_a {op : Int32 → Int32 → Int32} {g : Ix} {r : Lo} {M1 : Me} {x : Int32} : ka_i2 op g r (x, M1) = (g r M1).bind (kb_i2 op x) := Eq.trans rfl rfl
theorem i2_b {op : Int32 → Int32 → Int32} {M2 : Me} {x y : Int32} : kb_i2 op x (y, M2) = some (op x y, M2) := Eq.trans rfl rfl
def kb_j2 (op : Int64 → Int64 → Int64) (x : Int64) (y : Int64 × Me) : Option (Int64 × Me) := some (op x y.1, y.2)
def ka_j2 (op : Int64 → Int64 → Int64) (g : Jx) (r : Lo) (x : Int64 × Me) : Option (Int64 × Me) := (g r x.2).bind (kb_j2 op x.1)
theorem j2_ {op : Int64 → Int64 → Int64} {f g : Jx} {r : Lo} {M : Me} : j2 op f g r M = (f r M).bind (ka_j2 op g r) := Eq.trans rfl rfl
theorem j2_a {op : Int64 → Int64 → Int64} {g : Jx} {r : Lo} {M1 : Me} {x : Int64} : ka_j2 op g r (x, M1) = (g r M1).bind (kb_j2 op x) := Eq.trans rfl rfl
theorem j2_b {op : Int64 → Int64 → Int64} {M2 : Me} {x y : Int64} : kb_j2 op x (y, M2) = some (op x y, M2) := Eq.trans rfl rfl
def kb_i2d (op : Int32 → Int32 → Int32) (x : Int32) (y : Int32 × Me) : Option (Int32 × Me) := if y.1 = 0 then none else some (op x y.1, y.2)
def ka_i2d (op : Int32 → Int32 → Int32) (g : Ix) (r : Lo) (x : Int32 × Me) : Option (Int32 × Me) := (g r x.2).bind (kb_i2d op x.1)
theorem i2d_ {op : Int32 → Int32 → Int32} {f g : Ix} {r : Lo} {M : Me} : i2d op f g r M = (f r M).bind (ka_i2d op g r) := Eq.trans rfl rfl
theorem i2d_a {op : Int32 → Int32 → Int32} {g : Ix} {r : Lo} {M1 : Me} {x : Int32} : ka_i2d op g r (x, M1) = (g r M1).bind (kb_i2d op x) := Eq.trans rfl rfl
theorem i2d_b {op : Int32 → Int32 → Int32} {M2 : Me} {x y : Int32} : kb_i2d op x (y, M2) = if y = 0 then none else some (op x y, M2) := Eq.trans rfl rfl
def kb_j2d (op : Int64 → Int64 → Int64) (x : Int64) (y : Int64 × Me) : Option (Int64 × Me) := if y.1 = 0 then none else some (op x y.1, y.2)
def ka_j2d (op : Int64 → Int64 → Int64) (g : Jx) (r : Lo) (x : Int64 × Me) : Option (Int64 × Me) := (g r x.2).bind (kb_j2d op x.1)
theorem j2d_ {op : Int64 → Int64 → Int64} {f g : Jx} {r : Lo} {M : Me} : j2d op f g r M = (f r M).bind (ka_j2d op g r) := Eq.trans rfl rfl
theorem j2d_a {op : Int64 → Int64 → Int64} {g : Jx} {r : Lo} {M1 : Me} {x : Int64} : ka_j2d op g r (x, M1) = (g r M1).bind (kb_j2d op x) := Eq.trans rfl rfl
theorem j2d_b {op : Int64 → Int64 → Int64} {M2 : Me} {x y : Int64} : kb_j2d op x (y, M2) = if y = 0 then none else some (op x y, M2) := Eq.trans rfl rfl
def ka_i1 (op : Int32 → Int32) (x : Int32 × Me) : Option (Int32 × Me) := some (op x.1, x.2)
theorem i1_ {op : Int32 → Int32} {f : Ix} {r : Lo} {M : Me} : i1 op f r M = (f r M).bind (ka_i1 op) := Eq.trans rfl rfl
theorem i1_a {op : Int32 → Int32} {M1 : Me} {x : Int32} : ka_i1 op (x, M1) = some (op x, M1) := Eq.trans rfl rfl
def ka_j1 (op : Int64 → Int64) (x : Int64 × Me) : Option (Int64 × Me) := some (op x.1, x.2)
theorem j1_ {op : Int64 → Int64} {f : Jx} {r : Lo} {M : Me} : j1 op f r M = (f r M).bind (ka_j1 op) := Eq.trans rfl rfl
theorem j1_a {op : Int64 → Int64} {M1 : Me} {x : Int64} : ka_j1 op (x, M1) = some (op x, M1) := Eq.trans rfl rfl
def ka_i2l (x : Int32 × Me) : Option (Int64 × Me) := some (x.1.toInt64, x.2)
theorem i2l_ {f : Ix} {r : Lo} {M : Me} : i2l f r M = (f r M).bind ka_i2l := Eq.trans rfl rfl
theorem i2l_a {x : Int32} {M1 : Me} : ka_i2l (x, M1) = some (x.toInt64, M1) := Eq.trans rfl rfl
def ka_l2i (x : Int64 × Me) : Option (Int32 × Me) := some (x.1.toInt32, x.2)
theorem l2i_ {f : Jx} {r : Lo} {M : Me} : l2i f r M = (f r M).bind ka_l2i := Eq.trans rfl rfl
theorem l2i_a {x : Int64} {M1 : Me} : ka_l2i (x, M1) = some (x.toInt32, M1) := Eq.trans rfl rfl
def ka_fgi (ci k : Nat) (a : Nat × Me) : Option (Int32 × Me) := if kd a.1 = ci then some (a.2.1 a.1 k, a.2) else none
theorem fgi_ {ci k : Nat} {f : Rx} {r : Lo} {M : Me} : fgi ci k f r M = (f r M).bind (ka_fgi ci k) := Eq.trans rfl rfl
theorem fgi_a {ci k a : Nat} {M1 : Me} : ka_fgi ci k (a, M1) = if kd a = ci then some (M1.1 a k, M1) else none := Eq.trans rfl rfl
def ka_fgj (ci k : Nat) (a : Nat × Me) : Option (Int64 × Me) := if kd a.1 = ci then some (a.2.2 a.1 k, a.2) else none
theorem fgj_ {ci k : Nat} {f : Rx} {r : Lo} {M : Me} : fgj ci k f r M = (f r M).bind (ka_fgj ci k) := Eq.trans rfl rfl
theorem fgj_a {ci k a : Nat} {M1 : Me} : ka_fgj ci k (a, M1) = if kd a = ci then some (M1.2 a k, M1) else none := Eq.trans rfl rfl
def ka_fgr (ci k : Nat) (a : Nat × Me) : Option (Nat × Me) := if kd a.1 = ci then some (rf a.1 k, a.2) else none
theorem fgr_ {ci k : Nat} {f : Rx} {r : Lo} {M : Me} : fgr ci k f r M = (f r M).bind (ka_fgr ci k) := Eq.trans rfl rfl
theorem fgr_a {ci k a : Nat} {M1 : Me} : ka_fgr ci k (a, M1) = if kd a = ci then some (rf a k, M1) else none := Eq.trans rfl rfl
def kb_iald (a : Nat) (i : Int32 × Me) : Option (Int32 × Me) := if kd a = 8 ∧ inr i.1 (ln a) = true then some (i.2.1 a i.1.toNatClampNeg, i.2) else none
def ka_iald (g : Ix) (r : Lo) (a : Nat × Me) : Option (Int32 × Me) := (g r a.2).bind (kb_iald a.1)
theorem iald_ {f : Rx} {g : Ix} {r : Lo} {M : Me} : iald f g r M = (f r M).bind (ka_iald g r) := Eq.trans rfl rfl
theorem iald_a {g : Ix} {r : Lo} {a : Nat} {M1 : Me} : ka_iald g r (a, M1) = (g r M1).bind (kb_iald a) := Eq.trans rfl rfl
theorem iald_b {a : Nat} {i : Int32} {M2 : Me} : kb_iald a (i, M2) = if kd a = 8 ∧ inr i (ln a) = true then some (M2.1 a i.toNatClampNeg, M2) else none := Eq.trans rfl rfl
def kb_zald (a : Nat) (i : Int32 × Me) : Option (Int32 × Me) := if kd a = 10 ∧ inr i.1 (ln a) = true then some (i.2.1 a i.1.toNatClampNeg, i.2) else none
def ka_zald (g : Ix) (r : Lo) (a : Nat × Me) : Option (Int32 × Me) := (g r a.2).bind (kb_zald a.1)
theorem zald_ {f : Rx} {g : Ix} {r : Lo} {M : Me} : zald f g r M = (f r M).bind (ka_zald g r) := Eq.trans rfl rfl
theorem zald_a {g : Ix} {r : Lo} {a : Nat} {M1 : Me} : ka_zald g r (a, M1) = (g r M1).bind (kb_zald a) := Eq.trans rfl rfl
theorem zald_b {a : Nat} {i : Int32} {M2 : Me} : kb_zald a (i, M2) = if kd a = 10 ∧ inr i (ln a) = true then some (M2.1 a i.toNatClampNeg, M2) else none := Eq.trans rfl rfl
def kb_jald (a : Nat) (i : Int32 × Me) : Option (Int64 × Me) := if kd a = 9 ∧ inr i.1 (ln a) = true then some (i.2.2 a i.1.toNatClampNeg, i.2) else none
def ka_jald (g : Ix) (r : Lo) (a : Nat × Me) : Option (Int64 × Me) := (g r a.2).bind (kb_jald a.1)
theorem jald_ {f : Rx} {g : Ix} {r : Lo} {M : Me} : jald f g r M = (f r M).bind (ka_jald g r) := Eq.trans rfl rfl
theorem jald_a {g : Ix} {r : Lo} {a : Nat} {M1 : Me} : ka_jald g r (a, M1) = (g r M1).bind (kb_jald a) := Eq.trans rfl rfl
theorem jald_b {a : Nat} {i : Int32} {M2 : Me} : kb_jald a (i, M2) = if kd a = 9 ∧ inr i (ln a) = true then some (M2.2 a i.toNatClampNeg, M2) else none := Eq.trans rfl rfl
def kb_rald (q : Nat) (a : Nat) (i : Int32 × Me) : Option (Nat × Me) := if kd a = q ∧ inr i.1 (ln a) = true then some (rf a i.1.toNatClampNeg, i.2) else none
def ka_rald (q : Nat) (g : Ix) (r : Lo) (a : Nat × Me) : Option (Nat × Me) := (g r a.2).bind (kb_rald q a.1)
theorem rald_ {q : Nat} {f : Rx} {g : Ix} {r : Lo} {M : Me} : rald q f g r M = (f r M).bind (ka_rald q g r) := Eq.trans rfl rfl
theorem rald_a {q : Nat} {g : Ix} {r : Lo} {a : Nat} {M1 : Me} : ka_rald q g r (a, M1) = (g r M1).bind (kb_rald q a) := Eq.trans rfl rfl
theorem rald_b {q : Nat} {a : Nat} {i : Int32} {M2 : Me} : kb_rald q a (i, M2) = if kd a = q ∧ inr i (ln a) = true then some (rf a i.toNatClampNeg, M2) else none := Eq.trans rfl rfl
def ka_alen (q : Nat) (a : Nat × Me) : Option (Int32 × Me) := if kd a.1 = q then some (Int32.ofNat (ln a.1), a.2) else none
theorem alen_ {q : Nat} {f : Rx} {r : Lo} {M : Me} : alen q f r M = (f r M).bind (ka_alen q) := Eq.trans rfl rfl
theorem alen_a {q a : Nat} {M1 : Me} : ka_alen q (a, M1) = if kd a = q then some (Int32.ofNat (ln a), M1) else none := Eq.trans rfl rfl
def ka_sald (w : Nat) (i : Int32 × Me) : Option (Int32 × Me) := if inr i.1 3 = true then some (stab w i.1.toNatClampNeg, i.2) else none
theorem sald_ {w : Nat} {g : Ix} {r : Lo} {M : Me} : sald w g r M = (g r M).bind (ka_sald w) := Eq.trans rfl rfl
theorem sald_a {w : Nat} {i : Int32} {M1 : Me} : ka_sald w (i, M1) = if inr i 3 = true then some (stab w i.toNatClampNeg, M1) else none := Eq.trans rfl rfl
def ka_ic (f g : Ix) (r : Lo) (b : Bool × Me) : Option (Int32 × Me) := if b.1 = true then f r b.2 else g r b.2
theorem ic_ {c : Bx} {f g : Ix} {r : Lo} {M : Me} : ic c f g r M = (c r M).bind (ka_ic f g r) := Eq.trans rfl rfl
theorem ic_a {f g : Ix} {r : Lo} {b : Bool} {M1 : Me} : ka_ic f g r (b, M1) = if b = true then f r M1 else g r M1 := Eq.trans rfl rfl
def ka_jc (f g : Jx) (r : Lo) (b : Bool × Me) : Option (Int64 × Me) := if b.1 = true then f r b.2 else g r b.2
theorem jc_ {c : Bx} {f g : Jx} {r : Lo} {M : Me} : jc c f g r M = (c r M).bind (ka_jc f g r) := Eq.trans rfl rfl
theorem jc_a {f g : Jx} {r : Lo} {b : Bool} {M1 : Me} : ka_jc f g r (b, M1) = if b = true then f r M1 else g r M1 := Eq.trans rfl rfl
def kb_bc (op : Int32 → Int32 → Bool) (x : Int32) (y : Int32 × Me) : Option (Bool × Me) := some (op x y.1, y.2)
def ka_bc (op : Int32 → Int32 → Bool) (g : Ix) (r : Lo) (x : Int32 × Me) : Option (Bool × Me) := (g r x.2).bind (kb_bc op x.1)
theorem bc_ {op : Int32 → Int32 → Bool} {f g : Ix} {r : Lo} {M : Me} : bc op f g r M = (f r M).bind (ka_bc op g r) := Eq.trans rfl rfl
theorem bc_a {op : Int32 → Int32 → Bool} {g : Ix} {r : Lo} {M1 : Me} {x : Int32} : ka_bc op g r (x, M1) = (g r M1).bind (kb_bc op x) := Eq.trans rfl rfl
theorem bc_b {op : Int32 → Int32 → Bool} {M2 : Me} {x y : Int32} : kb_bc op x (y, M2) = some (op x y, M2) := Eq.trans rfl rfl
def kb_bj (op : Int64 → Int64 → Bool) (x : Int64) (y : Int64 × Me) : Option (Bool × Me) := some (op x y.1, y.2)
def ka_bj (op : Int64 → Int64 → Bool) (g : Jx) (r : Lo) (x : Int64 × Me) : Option (Bool × Me) := (g r x.2).bind (kb_bj op x.1)
theorem bj_ {op : Int64 → Int64 → Bool} {f g : Jx} {r : Lo} {M : Me} : bj op f g r M = (f r M).bind (ka_bj op g r) := Eq.trans rfl rfl
theorem bj_a {op : Int64 → Int64 → Bool} {g : Jx} {r : Lo} {M1 : Me} {x : Int64} : ka_bj op g r (x, M1) = (g r M1).bind (kb_bj op x) := Eq.trans rfl rfl
theorem bj_b {op : Int64 → Int64 → Bool} {M2 : Me} {x y : Int64} : kb_bj op x (y, M2) = some (op x y, M2) := Eq.trans rfl rfl
def ka_bz (op : Int32 → Int32 → Bool) (x : Int32 × Me) : Option (Bool × Me) := some (op x.1 0, x.2)
theorem bz_ {op : Int32 → Int32 → Bool} {f : Ix} {r : Lo} {M : Me} : bz op f r M = (f r M).bind (ka_bz op) := Eq.trans rfl rfl
theorem bz_a {op : Int32 → Int32 → Bool} {x : Int32} {M1 : Me} : ka_bz op (x, M1) = some (op x 0, M1) := Eq.trans rfl rfl
def ka_band (g : Bx) (r : Lo) (a : Bool × Me) : Option (Bool × Me) := if a.1 = true then g r a.2 else some (false, a.2)
theorem band_ {f g : Bx} {r : Lo} {M : Me} : band f g r M = (f r M).bind (ka_band g r) := Eq.trans rfl rfl
theorem band_a {g : Bx} {r : Lo} {b : Bool} {M1 : Me} : ka_band g r (b, M1) = if b = true then g r M1 else some (false, M1) := Eq.trans rfl rfl
def ka_bor (g : Bx) (r : Lo) (a : Bool × Me) : Option (Bool × Me) := if a.1 = true then some (true, a.2) else g r a.2
theorem bor_ {f g : Bx} {r : Lo} {M : Me} : bor f g r M = (f r M).bind (ka_bor g r) := Eq.trans rfl rfl
theorem bor_a {g : Bx} {r : Lo} {b : Bool} {M1 : Me} : ka_bor g r (b, M1) = if b = true then some (true, M1) else g r M1 := Eq.trans rfl rfl
def ka_bnot (a : Bool × Me) : Option (Bool × Me) := some (!a.1, a.2)
theorem bnot_ {f : Bx} {r : Lo} {M : Me} : bnot f r M = (f r M).bind ka_bnot := Eq.trans rfl rfl
theorem bnot_a {b : Bool} {M1 : Me} : ka_bnot (b, M1) = some (!b, M1) := Eq.trans rfl rfl
theorem anil_ {r : Lo} {M : Me} : anil r M = some ([], M) := Eq.trans rfl rfl
def kb_ai (x : Int32) (y : List Value × Me) : Option (List Value × Me) := some (.int x :: y.1, y.2)
def ka_ai (g : Ax) (r : Lo) (x : Int32 × Me) : Option (List Value × Me) := (g r x.2).bind (kb_ai x.1)
theorem ai_ {f : Ix} {g : Ax} {r : Lo} {M : Me} : ai f g r M = (f r M).bind (ka_ai g r) := Eq.trans rfl rfl
theorem ai_a {g : Ax} {r : Lo} {M1 : Me} {x : Int32} : ka_ai g r (x, M1) = (g r M1).bind (kb_ai x) := Eq.trans rfl rfl
theorem ai_b {M2 : Me} {x : Int32} {y : List Value} : kb_ai x (y, M2) = some (.int x :: y, M2) := Eq.trans rfl rfl
def kb_aj (x : Int64) (y : List Value × Me) : Option (List Value × Me) := some (.long x :: y.1, y.2)
def ka_aj (g : Ax) (r : Lo) (x : Int64 × Me) : Option (List Value × Me) := (g r x.2).bind (kb_aj x.1)
theorem aj_ {f : Jx} {g : Ax} {r : Lo} {M : Me} : aj f g r M = (f r M).bind (ka_aj g r) := Eq.trans rfl rfl
theorem aj_a {g : Ax} {r : Lo} {M1 : Me} {x : Int64} : ka_aj g r (x, M1) = (g r M1).bind (kb_aj x) := Eq.trans rfl rfl
theorem aj_b {M2 : Me} {x : Int64} {y : List Value} : kb_aj x (y, M2) = some (.long x :: y, M2) := Eq.trans rfl rfl
def kb_ar (x : Nat) (y : List Value × Me) : Option (List Value × Me) := some (.ref x :: y.1, y.2)
def ka_ar (g : Ax) (r : Lo) (x : Nat × Me) : Option (List Value × Me) := (g r x.2).bind (kb_ar x.1)
theorem ar_ {f : Rx} {g : Ax} {r : Lo} {M : Me} : ar f g r M = (f r M).bind (ka_ar g r) := Eq.trans rfl rfl
theorem ar_a {g : Ax} {r : Lo} {M1 : Me} {x : Nat} : ka_ar g r (x, M1) = (g r M1).bind (kb_ar x) := Eq.trans rfl rfl
theorem ar_b {M2 : Me} {x : Nat} {y : List Value} : kb_ar x (y, M2) = some (.ref x :: y, M2) := Eq.trans rfl rfl
def kb2i (x : Bool × Me) : Option (Int32 × Me) := some (b2i x.1, x.2)
theorem kb2i_ {x : Bool} {M1 : Me} : kb2i (x, M1) = some (b2i x, M1) := Eq.trans rfl rfl
def kb_cvi (ci : Nat) (F : Fi) (a : Nat) (b : List Value × Me) : Option (Int32 × Me) := if kd a = ci then (F (.ref a :: b.1) b.2) else none
def ka_cvi (ci : Nat) (F : Fi) (g : Ax) (r : Lo) (a : Nat × Me) : Option (Int32 × Me) := (g r a.2).bind (kb_cvi ci F a.1)
theorem cvi_ {ci : Nat} {F : Fi} {f : Rx} {g : Ax} {r : Lo} {M : Me} : cvi ci F f g r M = (f r M).bind (ka_cvi ci F g r) := Eq.trans rfl rfl
theorem cvi_a {ci : Nat} {F : Fi} {g : Ax} {r : Lo} {a : Nat} {M1 : Me} : ka_cvi ci F g r (a, M1) = (g r M1).bind (kb_cvi ci F a) := Eq.trans rfl rfl
theorem cvi_b {ci : Nat} {F : Fi} {a : Nat} {b : List Value} {M2 : Me} : kb_cvi ci F a (b, M2) = if kd a = ci then (F (.ref a :: b) M2) else none := Eq.trans rfl rfl
def kb_cvj (ci : Nat) (F : Fj) (a : Nat) (b : List Value × Me) : Option (Int64 × Me) := if kd a = ci then (F (.ref a :: b.1) b.2) else none
def ka_cvj (ci : Nat) (F : Fj) (g : Ax) (r : Lo) (a : Nat × Me) : Option (Int64 × Me) := (g r a.2).bind (kb_cvj ci F a.1)
theorem cvj_ {ci : Nat} {F : Fj} {f : Rx} {g : Ax} {r : Lo} {M : Me} : cvj ci F f g r M = (f r M).bind (ka_cvj ci F g r) := Eq.trans rfl rfl
theorem cvj_a {ci : Nat} {F : Fj} {g : Ax} {r : Lo} {a : Nat} {M1 : Me} : ka_cvj ci F g r (a, M1) = (g r M1).bind (kb_cvj ci F a) := Eq.trans rfl rfl
theorem cvj_b {ci : Nat} {F : Fj} {a : Nat} {b : List Value} {M2 : Me} : kb_cvj ci F a (b, M2) = if kd a = ci then (F (.ref a :: b) M2) else none := Eq.trans rfl rfl
def kb_cvz (ci : Nat) (F : Fz) (a : Nat) (b : List Value × Me) : Option (Int32 × Me) := if kd a = ci then (F (.ref a :: b.1) b.2).bind kb2i else none
def ka_cvz (ci : Nat) (F : Fz) (g : Ax) (r : Lo) (a : Nat × Me) : Option (Int32 × Me) := (g r a.2).bind (kb_cvz ci F a.1)
theorem cvz_ {ci : Nat} {F : Fz} {f : Rx} {g : Ax} {r : Lo} {M : Me} : cvz ci F f g r M = (f r M).bind (ka_cvz ci F g r) := Eq.trans rfl rfl
theorem cvz_a {ci : Nat} {F : Fz} {g : Ax} {r : Lo} {a : Nat} {M1 : Me} : ka_cvz ci F g r (a, M1) = (g r M1).bind (kb_cvz ci F a) := Eq.trans rfl rfl
theorem cvz_b {ci : Nat} {F : Fz} {a : Nat} {b : List Value} {M2 : Me} : kb_cvz ci F a (b, M2) = if kd a = ci then (F (.ref a :: b) M2).bind kb2i else none := Eq.trans rfl rfl
def ka_csi (F : Fi) (b : List Value × Me) : Option (Int32 × Me) := (F b.1 b.2)
theorem csi_ {F : Fi} {g : Ax} {r : Lo} {M : Me} : csi F g r M = (g r M).bind (ka_csi F) := Eq.trans rfl rfl
theorem csi_a {F : Fi} {b : List Value} {M1 : Me} : ka_csi F (b, M1) = (F b M1) := Eq.trans rfl rfl
def ka_csj (F : Fj) (b : List Value × Me) : Option (Int64 × Me) := (F b.1 b.2)
theorem csj_ {F : Fj} {g : Ax} {r : Lo} {M : Me} : csj F g r M = (g r M).bind (ka_csj F) := Eq.trans rfl rfl
theorem csj_a {F : Fj} {b : List Value} {M1 : Me} : ka_csj F (b, M1) = (F b M1) := Eq.trans rfl rfl
def ka_csz (F : Fz) (b : List Value × Me) : Option (Int32 × Me) := (F b.1 b.2).bind kb2i
theorem csz_ {F : Fz} {g : Ax} {r : Lo} {M : Me} : csz F g r M = (g r M).bind (ka_csz F) := Eq.trans rfl rfl
theorem csz_a {F : Fz} {b : List Value} {M1 : Me} : ka_csz F (b, M1) = (F b M1).bind kb2i := Eq.trans rfl rfl
theorem snop_ {r : Lo} {M : Me} : snop r M = some (none, r, M) := Eq.trans rfl rfl
def ka_sseq (g : Sx) (a : Option Value × Lo × Me) : Option (Option Value × Lo × Me) := match a.1 with
  | none => g a.2.1 a.2.2
  | some v => some (some v, a.2.1, a.2.2)
theorem sseq_ {f g : Sx} {r : Lo} {M : Me} : sseq f g r M = (f r M).bind (ka_sseq g) := Eq.trans rfl rfl
theorem sseq_n {g : Sx} {r1 : Lo} {M1 : Me} : ka_sseq g (none, r1, M1) = g r1 M1 := Eq.trans rfl rfl
theorem sseq_s {g : Sx} {v : Value} {r1 : Lo} {M1 : Me} : ka_sseq g (some v, r1, M1) = some (some v, r1, M1) := Eq.trans rfl rfl
def ka_sif (f g : Sx) (r : Lo) (b : Bool × Me) : Option (Option Value × Lo × Me) := if b.1 = true then f r b.2 else g r b.2
theorem sif_ {c : Bx} {f g : Sx} {r : Lo} {M : Me} : sif c f g r M = (c r M).bind (ka_sif f g r) := Eq.trans rfl rfl
theorem sif_a {f g : Sx} {r : Lo} {b : Bool} {M1 : Me} : ka_sif f g r (b, M1) = if b = true then f r M1 else g r M1 := Eq.trans rfl rfl
def ka_scut (n : Nat) (a : Option Value × Lo × Me) : Option (Option Value × Lo × Me) := some (a.1, cut n a.2.1, a.2.2)
theorem scut_ {n : Nat} {f : Sx} {r : Lo} {M : Me} : scut n f r M = (f r M).bind (ka_scut n) := Eq.trans rfl rfl
theorem scut_a {n : Nat} {o : Option Value} {r1 : Lo} {M1 : Me} : ka_scut n (o, r1, M1) = some (o, cut n r1, M1) := Eq.trans rfl rfl
def ka_ssi (k : Nat) (r : Lo) (a : Int32 × Me) : Option (Option Value × Lo × Me) := some (none, lset r k (.int a.1), a.2)
theorem ssi_ {k : Nat} {f : Ix} {r : Lo} {M : Me} : ssi k f r M = (f r M).bind (ka_ssi k r) := Eq.trans rfl rfl
theorem ssi_a {k : Nat} {r : Lo} {a : Int32} {M1 : Me} : ka_ssi k r (a, M1) = some (none, lset r k (.int a), M1) := Eq.trans rfl rfl
def ka_ssj (k : Nat) (r : Lo) (a : Int64 × Me) : Option (Option Value × Lo × Me) := some (none, lset2 r k (.long a.1), a.2)
theorem ssj_ {k : Nat} {f : Jx} {r : Lo} {M : Me} : ssj k f r M = (f r M).bind (ka_ssj k r) := Eq.trans rfl rfl
theorem ssj_a {k : Nat} {r : Lo} {a : Int64} {M1 : Me} : ka_ssj k r (a, M1) = some (none, lset2 r k (.long a), M1) := Eq.trans rfl rfl
def ka_ssr (k : Nat) (r : Lo) (a : Nat × Me) : Option (Option Value × Lo × Me) := some (none, lset r k (.ref a.1), a.2)
theorem ssr_ {k : Nat} {f : Rx} {r : Lo} {M : Me} : ssr k f r M = (f r M).bind (ka_ssr k r) := Eq.trans rfl rfl
theorem ssr_a {k : Nat} {r : Lo} {a : Nat} {M1 : Me} : ka_ssr k r (a, M1) = some (none, lset r k (.ref a), M1) := Eq.trans rfl rfl
def ka_sinc (k : Nat) (n : Int32) (r : Lo) (M : Me) (x : Int32) : Option (Option Value × Lo × Me) := some (none, lset r k (.int (x + n)), M)
theorem sinc_ {k : Nat} {n : Int32} {r : Lo} {M : Me} : sinc k n r M = (gi r[k]?).bind (ka_sinc k n r M) := Eq.trans rfl rfl
theorem sinc_a {k : Nat} {n x : Int32} {r : Lo} {M : Me} : ka_sinc k n r M x = some (none, lset r k (.int (x + n)), M) := Eq.trans rfl rfl
def ka_sret (r : Lo) (a : Int32 × Me) : Option (Option Value × Lo × Me) := some (some (.int a.1), r, a.2)
theorem sret_ {f : Ix} {r : Lo} {M : Me} : sret f r M = (f r M).bind (ka_sret r) := Eq.trans rfl rfl
theorem sret_a {r : Lo} {a : Int32} {M1 : Me} : ka_sret r (a, M1) = some (some (.int a), r, M1) := Eq.trans rfl rfl
def ka_sretj (r : Lo) (a : Int64 × Me) : Option (Option Value × Lo × Me) := some (some (.long a.1), r, a.2)
theorem sretj_ {f : Jx} {r : Lo} {M : Me} : sretj f r M = (f r M).bind (ka_sretj r) := Eq.trans rfl rfl
theorem sretj_a {r : Lo} {a : Int64} {M1 : Me} : ka_sretj r (a, M1) = some (some (.long a), r, M1) := Eq.trans rfl rfl
theorem sretv_ {r : Lo} {M : Me} : sretv r M = some (some .null, r, M) := Eq.trans rfl rfl
def ka_spop (r : Lo) (a : Int32 × Me) : Option (Option Value × Lo × Me) := some (none, r, a.2)
theorem spop_ {f : Ix} {r : Lo} {M : Me} : spop f r M = (f r M).bind (ka_spop r) := Eq.trans rfl rfl
theorem spop_a {r : Lo} {a : Int32} {M1 : Me} : ka_spop r (a, M1) = some (none, r, M1) := Eq.trans rfl rfl
def kc_scv (r : Lo) (x : Me) : Option (Option Value × Lo × Me) := some (none, r, x)
theorem kc_scv_ {r : Lo} {x : Me} : kc_scv r x = some (none, r, x) := Eq.trans rfl rfl
def kb_scv (ci : Nat) (F : Fu) (r : Lo) (a : Nat) (b : List Value × Me) : Option (Option Value × Lo × Me) := if kd a = ci then (F (.ref a :: b.1) b.2).bind (kc_scv r) else none
def ka_scv (ci : Nat) (F : Fu) (g : Ax) (r : Lo) (a : Nat × Me) : Option (Option Value × Lo × Me) := (g r a.2).bind (kb_scv ci F r a.1)
theorem scv_ {ci : Nat} {F : Fu} {f : Rx} {g : Ax} {r : Lo} {M : Me} : scv ci F f g r M = (f r M).bind (ka_scv ci F g r) := Eq.trans rfl rfl
theorem scv_a {ci : Nat} {F : Fu} {g : Ax} {r : Lo} {a : Nat} {M1 : Me} : ka_scv ci F g r (a, M1) = (g r M1).bind (kb_scv ci F r a) := Eq.trans rfl rfl
theorem scv_b {ci : Nat} {F : Fu} {r : Lo} {a : Nat} {b : List Value} {M2 : Me} : kb_scv ci F r a (b, M2) = if kd a = ci then (F (.ref a :: b) M2).bind (kc_scv r) else none := Eq.trans rfl rfl
def ka_scs (F : Fu) (r : Lo) (b : List Value × Me) : Option (Option Value × Lo × Me) := (F b.1 b.2).bind (kc_scv r)
theorem scs_ {F : Fu} {g : Ax} {r : Lo} {M : Me} : scs F g r M = (g r M).bind (ka_scs F r) := Eq.trans rfl rfl
theorem scs_a {F : Fu} {r : Lo} {b : List Value} {M1 : Me} : ka_scs F r (b, M1) = (F b M1).bind (kc_scv r) := Eq.trans rfl rfl
def kb_fpi (ci k : Nat) (r : Lo) (a : Nat) (b : Int32 × Me) : Option (Option Value × Lo × Me) := if kd a = ci then some (none, r, wi b.2 a k b.1) else none
def ka_fpi (ci k : Nat) (g : Ix) (r : Lo) (a : Nat × Me) : Option (Option Value × Lo × Me) := (g r a.2).bind (kb_fpi ci k r a.1)
theorem fpi_ {ci k : Nat} {f : Rx} {g : Ix} {r : Lo} {M : Me} : fpi ci k f g r M = (f r M).bind (ka_fpi ci k g r) := Eq.trans rfl rfl
theorem fpi_a {ci k : Nat} {g : Ix} {r : Lo} {a : Nat} {M1 : Me} : ka_fpi ci k g r (a, M1) = (g r M1).bind (kb_fpi ci k r a) := Eq.trans rfl rfl
theorem fpi_b {ci k : Nat} {r : Lo} {a : Nat} {b : Int32} {M2 : Me} : kb_fpi ci k r a (b, M2) = if kd a = ci then some (none, r, wi M2 a k b) else none := Eq.trans rfl rfl
def kb_fpj (ci k : Nat) (r : Lo) (a : Nat) (b : Int64 × Me) : Option (Option Value × Lo × Me) := if kd a = ci then some (none, r, wj b.2 a k b.1) else none
def ka_fpj (ci k : Nat) (g : Jx) (r : Lo) (a : Nat × Me) : Option (Option Value × Lo × Me) := (g r a.2).bind (kb_fpj ci k r a.1)
theorem fpj_ {ci k : Nat} {f : Rx} {g : Jx} {r : Lo} {M : Me} : fpj ci k f g r M = (f r M).bind (ka_fpj ci k g r) := Eq.trans rfl rfl
theorem fpj_a {ci k : Nat} {g : Jx} {r : Lo} {a : Nat} {M1 : Me} : ka_fpj ci k g r (a, M1) = (g r M1).bind (kb_fpj ci k r a) := Eq.trans rfl rfl
theorem fpj_b {ci k : Nat} {r : Lo} {a : Nat} {b : Int64} {M2 : Me} : kb_fpj ci k r a (b, M2) = if kd a = ci then some (none, r, wj M2 a k b) else none := Eq.trans rfl rfl
def kb_foi (op : Int32 → Int32 → Int32) (k : Nat) (r : Lo) (a : Nat) (v : Int32) (b : Int32 × Me) : Option (Option Value × Lo × Me) := some (none, r, wi b.2 a k (op v b.1))
def ka_foi (op : Int32 → Int32 → Int32) (ci k : Nat) (g : Ix) (r : Lo) (a : Nat × Me) : Option (Option Value × Lo × Me) := if kd a.1 = ci then (g r a.2).bind (kb_foi op k r a.1 (a.2.1 a.1 k)) else none
theorem foi_ {op : Int32 → Int32 → Int32} {ci k : Nat} {f : Rx} {g : Ix} {r : Lo} {M : Me} : foi op ci k f g r M = (f r M).bind (ka_foi op ci k g r) := Eq.trans rfl rfl
theorem foi_a {op : Int32 → Int32 → Int32} {ci k : Nat} {g : Ix} {r : Lo} {a : Nat} {M1 : Me} : ka_foi op ci k g r (a, M1) = if kd a = ci then (g r M1).bind (kb_foi op k r a (M1.1 a k)) else none := Eq.trans rfl rfl
theorem foi_b {op : Int32 → Int32 → Int32} {k : Nat} {r : Lo} {a : Nat} {v b : Int32} {M2 : Me} : kb_foi op k r a v (b, M2) = some (none, r, wi M2 a k (op v b)) := Eq.trans rfl rfl
def kb_foj (op : Int64 → Int64 → Int64) (k : Nat) (r : Lo) (a : Nat) (v : Int64) (b : Int64 × Me) : Option (Option Value × Lo × Me) := some (none, r, wj b.2 a k (op v b.1))
def ka_foj (op : Int64 → Int64 → Int64) (ci k : Nat) (g : Jx) (r : Lo) (a : Nat × Me) : Option (Option Value × Lo × Me) := if kd a.1 = ci then (g r a.2).bind (kb_foj op k r a.1 (a.2.2 a.1 k)) else none
theorem foj_ {op : Int64 → Int64 → Int64} {ci k : Nat} {f : Rx} {g : Jx} {r : Lo} {M : Me} : foj op ci k f g r M = (f r M).bind (ka_foj op ci k g r) := Eq.trans rfl rfl
theorem foj_a {op : Int64 → Int64 → Int64} {ci k : Nat} {g : Jx} {r : Lo} {a : Nat} {M1 : Me} : ka_foj op ci k g r (a, M1) = if kd a = ci then (g r M1).bind (kb_foj op k r a (M1.2 a k)) else none := Eq.trans rfl rfl
theorem foj_b {op : Int64 → Int64 → Int64} {k : Nat} {r : Lo} {a : Nat} {v b : Int64} {M2 : Me} : kb_foj op k r a v (b, M2) = some (none, r, wj M2 a k (op v b)) := Eq.trans rfl rfl
def kc_aii (r : Lo) (a : Nat) (i : Int32) (x : Int32 × Me) : Option (Option Value × Lo × Me) := if kd a = 8 ∧ inr i (ln a) = true then some (none, r, wi x.2 a i.toNatClampNeg x.1) else none
def kb_aii (h : Ix) (r : Lo) (a : Nat) (i : Int32 × Me) : Option (Option Value × Lo × Me) := (h r i.2).bind (kc_aii r a i.1)
def ka_aii (g : Ix) (h : Ix) (r : Lo) (a : Nat × Me) : Option (Option Value × Lo × Me) := (g r a.2).bind (kb_aii h r a.1)
theorem aii_ {f : Rx} {g : Ix} {h : Ix} {r : Lo} {M : Me} : aii f g h r M = (f r M).bind (ka_aii g h r) := Eq.trans rfl rfl
theorem aii_a {g : Ix} {h : Ix} {r : Lo} {a : Nat} {M1 : Me} : ka_aii g h r (a, M1) = (g r M1).bind (kb_aii h r a) := Eq.trans rfl rfl
theorem aii_b {h : Ix} {r : Lo} {a : Nat} {i : Int32} {M2 : Me} : kb_aii h r a (i, M2) = (h r M2).bind (kc_aii r a i) := Eq.trans rfl rfl
theorem aii_c {r : Lo} {a : Nat} {i : Int32} {x : Int32} {M3 : Me} : kc_aii r a i (x, M3) = if kd a = 8 ∧ inr i (ln a) = true then some (none, r, wi M3 a i.toNatClampNeg x) else none := Eq.trans rfl rfl
def kc_aiz (r : Lo) (a : Nat) (i : Int32) (x : Int32 × Me) : Option (Option Value × Lo × Me) := if kd a = 10 ∧ inr i (ln a) = true then some (none, r, wi x.2 a i.toNatClampNeg (vp_nar .boolean x.1)) else none
def kb_aiz (h : Ix) (r : Lo) (a : Nat) (i : Int32 × Me) : Option (Option Value × Lo × Me) := (h r i.2).bind (kc_aiz r a i.1)
def ka_aiz (g : Ix) (h : Ix) (r : Lo) (a : Nat × Me) : Option (Option Value × Lo × Me) := (g r a.2).bind (kb_aiz h r a.1)
theorem aiz_ {f : Rx} {g : Ix} {h : Ix} {r : Lo} {M : Me} : aiz f g h r M = (f r M).bind (ka_aiz g h r) := Eq.trans rfl rfl
theorem aiz_a {g : Ix} {h : Ix} {r : Lo} {a : Nat} {M1 : Me} : ka_aiz g h r (a, M1) = (g r M1).bind (kb_aiz h r a) := Eq.trans rfl rfl
theorem aiz_b {h : Ix} {r : Lo} {a : Nat} {i : Int32} {M2 : Me} : kb_aiz h r a (i, M2) = (h r M2).bind (kc_aiz r a i) := Eq.trans rfl rfl
theorem aiz_c {r : Lo} {a : Nat} {i : Int32} {x : Int32} {M3 : Me} : kc_aiz r a i (x, M3) = if kd a = 10 ∧ inr i (ln a) = true then some (none, r, wi M3 a i.toNatClampNeg (vp_nar .boolean x)) else none := Eq.trans rfl rfl
def kc_aij (r : Lo) (a : Nat) (i : Int32) (x : Int64 × Me) : Option (Option Value × Lo × Me) := if kd a = 9 ∧ inr i (ln a) = true then some (none, r, wj x.2 a i.toNatClampNeg x.1) else none
def kb_aij (h : Jx) (r : Lo) (a : Nat) (i : Int32 × Me) : Option (Option Value × Lo × Me) := (h r i.2).bind (kc_aij r a i.1)
def ka_aij (g : Ix) (h : Jx) (r : Lo) (a : Nat × Me) : Option (Option Value × Lo × Me) := (g r a.2).bind (kb_aij h r a.1)
theorem aij_ {f : Rx} {g : Ix} {h : Jx} {r : Lo} {M : Me} : aij f g h r M = (f r M).bind (ka_aij g h r) := Eq.trans rfl rfl
theorem aij_a {g : Ix} {h : Jx} {r : Lo} {a : Nat} {M1 : Me} : ka_aij g h r (a, M1) = (g r M1).bind (kb_aij h r a) := Eq.trans rfl rfl
theorem aij_b {h : Jx} {r : Lo} {a : Nat} {i : Int32} {M2 : Me} : kb_aij h r a (i, M2) = (h r M2).bind (kc_aij r a i) := Eq.trans rfl rfl
theorem aij_c {r : Lo} {a : Nat} {i : Int32} {x : Int64} {M3 : Me} : kc_aij r a i (x, M3) = if kd a = 9 ∧ inr i (ln a) = true then some (none, r, wj M3 a i.toNatClampNeg x) else none := Eq.trans rfl rfl
def kc_aoi (op : Int32 → Int32 → Int32) (r : Lo) (a j : Nat) (v : Int32) (x : Int32 × Me) : Option (Option Value × Lo × Me) := some (none, r, wi x.2 a j (op v x.1))
def kb_aoi (op : Int32 → Int32 → Int32) (h : Ix) (r : Lo) (a : Nat) (i : Int32 × Me) : Option (Option Value × Lo × Me) := if kd a = 8 ∧ inr i.1 (ln a) = true then (h r i.2).bind (kc_aoi op r a i.1.toNatClampNeg (i.2.1 a i.1.toNatClampNeg)) else none
def ka_aoi (op : Int32 → Int32 → Int32) (g : Ix) (h : Ix) (r : Lo) (a : Nat × Me) : Option (Option Value × Lo × Me) := (g r a.2).bind (kb_aoi op h r a.1)
theorem aoi_ {op : Int32 → Int32 → Int32} {f : Rx} {g : Ix} {h : Ix} {r : Lo} {M : Me} : aoi op f g h r M = (f r M).bind (ka_aoi op g h r) := Eq.trans rfl rfl
theorem aoi_a {op : Int32 → Int32 → Int32} {g : Ix} {h : Ix} {r : Lo} {a : Nat} {M1 : Me} : ka_aoi op g h r (a, M1) = (g r M1).bind (kb_aoi op h r a) := Eq.trans rfl rfl
theorem aoi_b {op : Int32 → Int32 → Int32} {h : Ix} {r : Lo} {a : Nat} {i : Int32} {M2 : Me} : kb_aoi op h r a (i, M2) = if kd a = 8 ∧ inr i (ln a) = true then (h r M2).bind (kc_aoi op r a i.toNatClampNeg (M2.1 a i.toNatClampNeg)) else none := Eq.trans rfl rfl
theorem aoi_c {op : Int32 → Int32 → Int32} {r : Lo} {a j : Nat} {v x : Int32} {M3 : Me} : kc_aoi op r a j v (x, M3) = some (none, r, wi M3 a j (op v x)) := Eq.trans rfl rfl
def kc_aoj (op : Int64 → Int64 → Int64) (r : Lo) (a j : Nat) (v : Int64) (x : Int64 × Me) : Option (Option Value × Lo × Me) := some (none, r, wj x.2 a j (op v x.1))
def kb_aoj (op : Int64 → Int64 → Int64) (h : Jx) (r : Lo) (a : Nat) (i : Int32 × Me) : Option (Option Value × Lo × Me) := if kd a = 9 ∧ inr i.1 (ln a) = true then (h r i.2).bind (kc_aoj op r a i.1.toNatClampNeg (i.2.2 a i.1.toNatClampNeg)) else none
def ka_aoj (op : Int64 → Int64 → Int64) (g : Ix) (h : Jx) (r : Lo) (a : Nat × Me) : Option (Option Value × Lo × Me) := (g r a.2).bind (kb_aoj op h r a.1)
theorem aoj_ {op : Int64 → Int64 → Int64} {f : Rx} {g : Ix} {h : Jx} {r : Lo} {M : Me} : aoj op f g h r M = (f r M).bind (ka_aoj op g h r) := Eq.trans rfl rfl
theorem aoj_a {op : Int64 → Int64 → Int64} {g : Ix} {h : Jx} {r : Lo} {a : Nat} {M1 : Me} : ka_aoj op g h r (a, M1) = (g r M1).bind (kb_aoj op h r a) := Eq.trans rfl rfl
theorem aoj_b {op : Int64 → Int64 → Int64} {h : Jx} {r : Lo} {a : Nat} {i : Int32} {M2 : Me} : kb_aoj op h r a (i, M2) = if kd a = 9 ∧ inr i (ln a) = true then (h r M2).bind (kc_aoj op r a i.toNatClampNeg (M2.2 a i.toNatClampNeg)) else none := Eq.trans rfl rfl
theorem aoj_c {op : Int64 → Int64 → Int64} {r : Lo} {a j : Nat} {v x : Int64} {M3 : Me} : kc_aoj op r a j v (x, M3) = some (none, r, wj M3 a j (op v x)) := Eq.trans rfl rfl
def ke_scopy (r : Lo) (a : Nat) (x : Int32) (b : Nat) (y : Int32) (z : Int32 × Me) : Option (Option Value × Lo × Me) := if kd a = 8 ∧ kd b = 8 ∧ ¬ x < 0 ∧ ¬ y < 0 ∧ ¬ z.1 < 0 ∧ x.toNatClampNeg + z.1.toNatClampNeg ≤ ln a ∧ y.toNatClampNeg + z.1.toNatClampNeg ≤ ln b then some (none, r, cpi z.2 a x.toNatClampNeg b y.toNatClampNeg z.1.toNatClampNeg) else none
def kd_scopy (n : Ix) (r : Lo) (a : Nat) (x : Int32) (b : Nat) (y : Int32 × Me) : Option (Option Value × Lo × Me) := (n r y.2).bind (ke_scopy r a x b y.1)
def kc_scopy (dp n : Ix) (r : Lo) (a : Nat) (x : Int32) (b : Nat × Me) : Option (Option Value × Lo × Me) := (dp r b.2).bind (kd_scopy n r a x b.1)
def kb_scopy (g : Rx) (dp n : Ix) (r : Lo) (a : Nat) (x : Int32 × Me) : Option (Option Value × Lo × Me) := (g r x.2).bind (kc_scopy dp n r a x.1)
def ka_scopy (sp : Ix) (g : Rx) (dp n : Ix) (r : Lo) (a : Nat × Me) : Option (Option Value × Lo × Me) := (sp r a.2).bind (kb_scopy g dp n r a.1)
theorem scopy_ {f : Rx} {sp : Ix} {g : Rx} {dp n : Ix} {r : Lo} {M : Me} : scopy f sp g dp n r M = (f r M).bind (ka_scopy sp g dp n r) := Eq.trans rfl rfl
theorem scopy_a {sp : Ix} {g : Rx} {dp n : Ix} {r : Lo} {a : Nat} {M1 : Me} : ka_scopy sp g dp n r (a, M1) = (sp r M1).bind (kb_scopy g dp n r a) := Eq.trans rfl rfl
theorem scopy_b {g : Rx} {dp n : Ix} {r : Lo} {a : Nat} {x : Int32} {M1 : Me} : kb_scopy g dp n r a (x, M1) = (g r M1).bind (kc_scopy dp n r a x) := Eq.trans rfl rfl
theorem scopy_c {dp n : Ix} {r : Lo} {a : Nat} {x : Int32} {b : Nat} {M1 : Me} : kc_scopy dp n r a x (b, M1) = (dp r M1).bind (kd_scopy n r a x b) := Eq.trans rfl rfl
theorem scopy_d {n : Ix} {r : Lo} {a : Nat} {x : Int32} {b : Nat} {y : Int32} {M1 : Me} : kd_scopy n r a x b (y, M1) = (n r M1).bind (ke_scopy r a x b y) := Eq.trans rfl rfl
theorem scopy_e {r : Lo} {a : Nat} {x : Int32} {b : Nat} {y z : Int32} {M1 : Me} : ke_scopy r a x b y (z, M1) = if kd a = 8 ∧ kd b = 8 ∧ ¬ x < 0 ∧ ¬ y < 0 ∧ ¬ z < 0 ∧ x.toNatClampNeg + z.toNatClampNeg ≤ ln a ∧ y.toNatClampNeg + z.toNatClampNeg ≤ ln b then some (none, r, cpi M1 a x.toNatClampNeg b y.toNatClampNeg z.toNatClampNeg) else none := Eq.trans rfl rfl
def ka_ssw (cs : List (Int × Sx)) (d : Sx) (r : Lo) (a : Int32 × Me) : Option (Option Value × Lo × Me) := sel cs d a.1.toInt r a.2
theorem ssw_ {f : Ix} {cs : List (Int × Sx)} {d : Sx} {r : Lo} {M : Me} : ssw f cs d r M = (f r M).bind (ka_ssw cs d r) := Eq.trans rfl rfl
theorem ssw_a {cs : List (Int × Sx)} {d : Sx} {r : Lo} {a : Int32} {M1 : Me} : ka_ssw cs d r (a, M1) = sel cs d a.toInt r M1 := Eq.trans rfl rfl
theorem sel_n {d : Sx} {x : Int} {r : Lo} {M1 : Me} : sel [] d x r M1 = d r M1 := Eq.trans rfl rfl
set_option maxRecDepth 20000 in
theorem sel_c {q : Int} {s : Sx} {t : List (Int × Sx)} {d : Sx} {x : Int} {r : Lo} {M1 : Me} : sel ((q, s) :: t) d x r M1 = if x = q then s r M1 else sel t d x r M1 := by
  simp only [sel]
  split <;> rfl
def ka_mfi (a : Option Value × Lo × Me) : Option (Int32 × Me) := (gi a.1).bind (kp a.2.2)
theorem mfi_ {n : Nat} {b : Sx} {vs : List Value} {M : Me} : mfi n b vs M = if (ent vs).length ≤ n then (b (entn n vs) M).bind ka_mfi else none := Eq.trans rfl rfl
theorem mfi_a {v : Option Value} {r : Lo} {M1 : Me} : ka_mfi (v, r, M1) = (gi v).bind (kp M1) := Eq.trans rfl rfl
def ka_mfj (a : Option Value × Lo × Me) : Option (Int64 × Me) := (gj a.1).bind (kp a.2.2)
theorem mfj_ {n : Nat} {b : Sx} {vs : List Value} {M : Me} : mfj n b vs M = if (ent vs).length ≤ n then (b (entn n vs) M).bind ka_mfj else none := Eq.trans rfl rfl
theorem mfj_a {v : Option Value} {r : Lo} {M1 : Me} : ka_mfj (v, r, M1) = (gj v).bind (kp M1) := Eq.trans rfl rfl
def ka_mfz (a : Option Value × Lo × Me) : Option (Bool × Me) := (gz a.1).bind (kp a.2.2)
theorem mfz_ {n : Nat} {b : Sx} {vs : List Value} {M : Me} : mfz n b vs M = if (ent vs).length ≤ n then (b (entn n vs) M).bind ka_mfz else none := Eq.trans rfl rfl
theorem mfz_a {v : Option Value} {r : Lo} {M1 : Me} : ka_mfz (v, r, M1) = (gz v).bind (kp M1) := Eq.trans rfl rfl
def kb_mfv (M : Me) (_ : Unit) : Option Me := some M
theorem kb_mfv_ {M : Me} {x : Unit} : kb_mfv M x = some M := Eq.trans rfl rfl
def ka_mfv (a : Option Value × Lo × Me) : Option Me := (gv a.1).bind (kb_mfv a.2.2)
theorem mfv_ {n : Nat} {b : Sx} {vs : List Value} {M : Me} : mfv n b vs M = if (ent vs).length ≤ n then (b (entn n vs) M).bind ka_mfv else none := Eq.trans rfl rfl
theorem mfv_a {v : Option Value} {r : Lo} {M1 : Me} : ka_mfv (v, r, M1) = (gv v).bind (kb_mfv M1) := Eq.trans rfl rfl
