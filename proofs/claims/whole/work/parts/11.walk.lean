def lw_g : List Cond := lw_tbl.filter goodWord
theorem lw_gm {w : Cond} (h : w ∈ lw_tbl) (hg : goodWord w = true) : w ∈ lw_g := List.mem_filter.mpr ⟨h, hg⟩
/-! ===== combinators: what a piece of code computes ===== -/
abbrev Ix : Type := Lo → Me → Option (Int32 × Me)
abbrev Jx : Type := Lo → Me → Option (Int64 × Me)
abbrev Rx : Type := Lo → Me → Option (Nat × Me)
abbrev Bx : Type := Lo → Me → Option (Bool × Me)
abbrev Ax : Type := Lo → Me → Option (List Value × Me)
abbrev Sx : Type := Lo → Me → Option (Option Value × Lo × Me)
abbrev Fi : Type := List Value → Me → Option (Int32 × Me)
abbrev Fj : Type := List Value → Me → Option (Int64 × Me)
abbrev Fz : Type := List Value → Me → Option (Bool × Me)
abbrev Fu : Type := List Value → Me → Option Me
def inr (i : Int32) (n : Nat) : Bool := decide (¬ i < 0) && decide (i.toNatClampNeg < n)
def b2i (b : Bool) : Int32 := if b then 1 else 0
def ik (x : Int32) : Ix := fun _ M => some (x, M)
def jk (x : Int64) : Jx := fun _ M => some (x, M)
def gi (v : Option Value) : Option Int32 := match v with
  | some (.int x) => some x
  | _ => none
def gj (v : Option Value) : Option Int64 := match v with
  | some (.long x) => some x
  | _ => none
def gr (v : Option Value) : Option Nat := match v with
  | some (.ref x) => some x
  | _ => none
def il (k : Nat) : Ix := fun r M => (gi r[k]?).bind fun x => some (x, M)
def jl (k : Nat) : Jx := fun r M => (gj r[k]?).bind fun x => some (x, M)
def rl (k : Nat) : Rx := fun r M => (gr r[k]?).bind fun x => some (x, M)
def i2 (op : Int32 → Int32 → Int32) (f g : Ix) : Ix := fun r M => (f r M).bind fun a => (g r a.2).bind fun b => some (op a.1 b.1, b.2)
def j2 (op : Int64 → Int64 → Int64) (f g : Jx) : Jx := fun r M => (f r M).bind fun a => (g r a.2).bind fun b => some (op a.1 b.1, b.2)
def i2d (op : Int32 → Int32 → Int32) (f g : Ix) : Ix := fun r M => (f r M).bind fun a => (g r a.2).bind fun b => if b.1 = 0 then none else some (op a.1 b.1, b.2)
def j2d (op : Int64 → Int64 → Int64) (f g : Jx) : Jx := fun r M => (f r M).bind fun a => (g r a.2).bind fun b => if b.1 = 0 then none else some (op a.1 b.1, b.2)
def oshl (x y : Int32) : Int32 := x <<< (y &&& 31)
def oshr (x y : Int32) : Int32 := x >>> (y &&& 31)
def oushr (x y : Int32) : Int32 := (x.toUInt32 >>> (y.toUInt32 &&& Int32.toUInt32 31)).toInt32
def orem (x y : Int32) : Int32 := x - x / y * y
def mxi (x y : Int32) : Int32 := if x < y then y else x
def mni (x y : Int32) : Int32 := if y < x then y else x
def mxj (x y : Int64) : Int64 := if y < x then x else y
def mnj (x y : Int64) : Int64 := if y < x then y else x
def abj (x : Int64) : Int64 := if 0 < x then x else -x
def ojrem (x y : Int64) : Int64 := x - x / y * y
def i1 (op : Int32 → Int32) (f : Ix) : Ix := fun r M => (f r M).bind fun a => some (op a.1, a.2)
def j1 (op : Int64 → Int64) (f : Jx) : Jx := fun r M => (f r M).bind fun a => some (op a.1, a.2)
def i2l (f : Ix) : Jx := fun r M => (f r M).bind fun a => some (a.1.toInt64, a.2)
def l2i (f : Jx) : Ix := fun r M => (f r M).bind fun a => some (a.1.toInt32, a.2)
def fgi (ci k : Nat) (f : Rx) : Ix := fun r M => (f r M).bind fun a => if kd a.1 = ci then some (a.2.1 a.1 k, a.2) else none
def fgj (ci k : Nat) (f : Rx) : Jx := fun r M => (f r M).bind fun a => if kd a.1 = ci then some (a.2.2 a.1 k, a.2) else none
def fgr (ci k : Nat) (f : Rx) : Rx := fun r M => (f r M).bind fun a => if kd a.1 = ci then some (rf a.1 k, a.2) else none
def iald (f : Rx) (g : Ix) : Ix := fun r M => (f r M).bind fun a => (g r a.2).bind fun i => if kd a.1 = 8 ∧ inr i.1 (ln a.1) = true then some (i.2.1 a.1 i.1.toNatClampNeg, i.2) else none
def zald (f : Rx) (g : Ix) : Ix := fun r M => (f r M).bind fun a => (g r a.2).bind fun i => if kd a.1 = 10 ∧ inr i.1 (ln a.1) = true then some (i.2.1 a.1 i.1.toNatClampNeg, i.2) else none
def jald (f : Rx) (g : Ix) : Jx := fun r M => (f r M).bind fun a => (g r a.2).bind fun i => if kd a.1 = 9 ∧ inr i.1 (ln a.1) = true then some (i.2.2 a.1 i.1.toNatClampNeg, i.2) else none
def rald (q : Nat) (f : Rx) (g : Ix) : Rx := fun r M => (f r M).bind fun a => (g r a.2).bind fun i => if kd a.1 = q ∧ inr i.1 (ln a.1) = true then some (rf a.1 i.1.toNatClampNeg, i.2) else none
def alen (q : Nat) (f : Rx) : Ix := fun r M => (f r M).bind fun a => if kd a.1 = q then some (Int32.ofNat (ln a.1), a.2) else none
def stab (w i : Nat) : Int32 := if w = 0 then (if i = 0 then 99 else if i = 1 then 4999 else 9) else 0
def sald (w : Nat) (g : Ix) : Ix := fun r M => (g r M).bind fun i => if inr i.1 3 = true then some (stab w i.1.toNatClampNeg, i.2) else none
def ic (c : Bx) (f g : Ix) : Ix := fun r M => (c r M).bind fun b => if b.1 = true then f r b.2 else g r b.2
def jc (c : Bx) (f g : Jx) : Jx := fun r M => (c r M).bind fun b => if b.1 = true then f r b.2 else g r b.2
def ceq (x y : Int32) : Bool := decide (x = y)
def cne (x y : Int32) : Bool := decide (¬ x = y)
def clt (x y : Int32) : Bool := decide (x < y)
def cge (x y : Int32) : Bool := decide (y ≤ x)
def cgt (x y : Int32) : Bool := decide (y < x)
def cle (x y : Int32) : Bool := decide (x ≤ y)
def qeq (x y : Int64) : Bool := decide (x = y)
def qne (x y : Int64) : Bool := decide (¬ x = y)
def qlt (x y : Int64) : Bool := decide (x < y)
def qge (x y : Int64) : Bool := decide (y ≤ x)
def qgt (x y : Int64) : Bool := decide (y < x)
def qle (x y : Int64) : Bool := decide (x ≤ y)
def bc (op : Int32 → Int32 → Bool) (f g : Ix) : Bx := fun r M => (f r M).bind fun a => (g r a.2).bind fun b => some (op a.1 b.1, b.2)
def bz (op : Int32 → Int32 → Bool) (f : Ix) : Bx := fun r M => (f r M).bind fun a => some (op a.1 0, a.2)
def bj (op : Int64 → Int64 → Bool) (f g : Jx) : Bx := fun r M => (f r M).bind fun a => (g r a.2).bind fun b => some (op a.1 b.1, b.2)
def band (f g : Bx) : Bx := fun r M => (f r M).bind fun a => if a.1 = true then g r a.2 else some (false, a.2)
def bor (f g : Bx) : Bx := fun r M => (f r M).bind fun a => if a.1 = true then some (true, a.2) else g r a.2
def bnot (f : Bx) : Bx := fun r M => (f r M).bind fun a => some (!a.1, a.2)
def anil : Ax := fun _ M => some ([], M)
def ai (f : Ix) (g : Ax) : Ax := fun r M => (f r M).bind fun a => (g r a.2).bind fun b => some (.int a.1 :: b.1, b.2)
def aj (f : Jx) (g : Ax) : Ax := fun r M => (f r M).bind fun a => (g r a.2).bind fun b => some (.long a.1 :: b.1, b.2)
def ar (f : Rx) (g : Ax) : Ax := fun r M => (f r M).bind fun a => (g r a.2).bind fun b => some (.ref a.1 :: b.1, b.2)
def cvi (ci : Nat) (F : Fi) (f : Rx) (g : Ax) : Ix := fun r M => (f r M).bind fun a => (g r a.2).bind fun b => if kd a.1 = ci then F (.ref a.1 :: b.1) b.2 else none
def cvj (ci : Nat) (F : Fj) (f : Rx) (g : Ax) : Jx := fun r M => (f r M).bind fun a => (g r a.2).bind fun b => if kd a.1 = ci then F (.ref a.1 :: b.1) b.2 else none
def cvz (ci : Nat) (F : Fz) (f : Rx) (g : Ax) : Ix := fun r M => (f r M).bind fun a => (g r a.2).bind fun b => if kd a.1 = ci then (F (.ref a.1 :: b.1) b.2).bind fun x => some (b2i x.1, x.2) else none
def csi (F : Fi) (g : Ax) : Ix := fun r M => (g r M).bind fun b => F b.1 b.2
def csj (F : Fj) (g : Ax) : Jx := fun r M => (g r M).bind fun b => F b.1 b.2
def csz (F : Fz) (g : Ax) : Ix := fun r M => (g r M).bind fun b => (F b.1 b.2).bind fun x => some (b2i x.1, x.2)
def snop : Sx := fun r M => some (none, r, M)
def sseq (f g : Sx) : Sx := fun r M => (f r M).bind fun a => match a.1 with
  | none => g a.2.1 a.2.2
  | some v => some (some v, a.2.1, a.2.2)
def sif (c : Bx) (f g : Sx) : Sx := fun r M => (c r M).bind fun b => if b.1 = true then f r b.2 else g r b.2
def cut (n : Nat) (r : Lo) : Lo := r.take n ++ List.replicate (r.length - n) .null
def scut (n : Nat) (f : Sx) : Sx := fun r M => (f r M).bind fun a => some (a.1, cut n a.2.1, a.2.2)
def ssi (k : Nat) (f : Ix) : Sx := fun r M => (f r M).bind fun a => some (none, lset r k (.int a.1), a.2)
def ssj (k : Nat) (f : Jx) : Sx := fun r M => (f r M).bind fun a => some (none, lset2 r k (.long a.1), a.2)
def ssr (k : Nat) (f : Rx) : Sx := fun r M => (f r M).bind fun a => some (none, lset r k (.ref a.1), a.2)
def sinc (k : Nat) (n : Int32) : Sx := fun r M => (gi r[k]?).bind fun x => some (none, lset r k (.int (x + n)), M)
def sret (f : Ix) : Sx := fun r M => (f r M).bind fun a => some (some (.int a.1), r, a.2)
def sretj (f : Jx) : Sx := fun r M => (f r M).bind fun a => some (some (.long a.1), r, a.2)
def sretv : Sx := fun r M => some (some .null, r, M)
def spop (f : Ix) : Sx := fun r M => (f r M).bind fun a => some (none, r, a.2)
def scv (ci : Nat) (F : Fu) (f : Rx) (g : Ax) : Sx := fun r M => (f r M).bind fun a => (g r a.2).bind fun b => if kd a.1 = ci then (F (.ref a.1 :: b.1) b.2).bind fun x => some (none, r, x) else none
def scs (F : Fu) (g : Ax) : Sx := fun r M => (g r M).bind fun b => (F b.1 b.2).bind fun x => some (none, r, x)
def fpi (ci k : Nat) (f : Rx) (g : Ix) : Sx := fun r M => (f r M).bind fun a => (g r a.2).bind fun b => if kd a.1 = ci then some (none, r, wi b.2 a.1 k b.1) else none
def fpj (ci k : Nat) (f : Rx) (g : Jx) : Sx := fun r M => (f r M).bind fun a => (g r a.2).bind fun b => if kd a.1 = ci then some (none, r, wj b.2 a.1 k b.1) else none
def foi (op : Int32 → Int32 → Int32) (ci k : Nat) (f : Rx) (g : Ix) : Sx := fun r M => (f r M).bind fun a => if kd a.1 = ci then (g r a.2).bind fun b => some (none, r, wi b.2 a.1 k (op (a.2.1 a.1 k) b.1)) else none
def foj (op : Int64 → Int64 → Int64) (ci k : Nat) (f : Rx) (g : Jx) : Sx := fun r M => (f r M).bind fun a => if kd a.1 = ci then (g r a.2).bind fun b => some (none, r, wj b.2 a.1 k (op (a.2.2 a.1 k) b.1)) else none
def aii (f : Rx) (g : Ix) (h : Ix) : Sx := fun r M => (f r M).bind fun a => (g r a.2).bind fun i => (h r i.2).bind fun x => if kd a.1 = 8 ∧ inr i.1 (ln a.1) = true then some (none, r, wi x.2 a.1 i.1.toNatClampNeg x.1) else none
def aiz (f : Rx) (g : Ix) (h : Ix) : Sx := fun r M => (f r M).bind fun a => (g r a.2).bind fun i => (h r i.2).bind fun x => if kd a.1 = 10 ∧ inr i.1 (ln a.1) = true then some (none, r, wi x.2 a.1 i.1.toNatClampNeg (vp_nar .boolean x.1)) else none
def aij (f : Rx) (g : Ix) (h : Jx) : Sx := fun r M => (f r M).bind fun a => (g r a.2).bind fun i => (h r i.2).bind fun x => if kd a.1 = 9 ∧ inr i.1 (ln a.1) = true then some (none, r, wj x.2 a.1 i.1.toNatClampNeg x.1) else none
def aoi (op : Int32 → Int32 → Int32) (f : Rx) (g : Ix) (h : Ix) : Sx := fun r M => (f r M).bind fun a => (g r a.2).bind fun i => if kd a.1 = 8 ∧ inr i.1 (ln a.1) = true then (h r i.2).bind fun x => some (none, r, wi x.2 a.1 i.1.toNatClampNeg (op (i.2.1 a.1 i.1.toNatClampNeg) x.1)) else none
def aoj (op : Int64 → Int64 → Int64) (f : Rx) (g : Ix) (h : Jx) : Sx := fun r M => (f r M).bind fun a => (g r a.2).bind fun i => if kd a.1 = 9 ∧ inr i.1 (ln a.1) = true then (h r i.2).bind fun x => some (none, r, wj x.2 a.1 i.1.toNatClampNeg (op (i.2.2 a.1 i.1.toNatClampNeg) x.1)) else none
def cpi (M : Me) (a sp b dp n : Nat) : Me := (fun x j => if x = b then va_cpy (M.1 a) (M.1 b) sp dp n j else M.1 x j, M.2)
def scopy (f : Rx) (sp : Ix) (g : Rx) (dp n : Ix) : Sx := fun r M => (f r M).bind fun a => (sp r a.2).bind fun x => (g r x.2).bind fun b => (dp r b.2).bind fun y => (n r y.2).bind fun z =>
  if kd a.1 = 8 ∧ kd b.1 = 8 ∧ ¬ x.1 < 0 ∧ ¬ y.1 < 0 ∧ ¬ z.1 < 0 ∧ x.1.toNatClampNeg + z.1.toNatClampNeg ≤ ln a.1 ∧ y.1.toNatClampNeg + z.1.toNatClampNeg ≤ ln b.1 then some (none, r, cpi z.2 a.1 x.1.toNatClampNeg b.1 y.1.toNatClampNeg z.1.toNatClampNeg) else none
def sel (cs : List (Int × Sx)) (d : Sx) (x : Int) : Sx := match cs with
  | [] => d
  | q :: t => if x = q.1 then q.2 else sel t d x
def ssw (f : Ix) (cs : List (Int × Sx)) (d : Sx) : Sx := fun r M => (f r M).bind fun a => sel cs d a.1.toInt r a.2
def whN (c : Bx) (b : Sx) : Nat → Sx
  | 0 => fun _ _ => none
  | n + 1 => fun r M => (c r M).bind fun x => if x.1 = true then (b r x.2).bind fun a => match a.1 with
      | none => whN c b n a.2.1 a.2.2
      | some v => some (some v, a.2.1, a.2.2)
    else some (none, r, x.2)
noncomputable def swh (c : Bx) (b : Sx) : Sx := fun r M => @dite _ (∃ n : Nat, (whN c b n r M).isSome = true) (Classical.propDecidable _) (fun h => whN c b (Classical.choose h) r M) (fun _ => none)
theorem whN_mono {c : Bx} {b : Sx} : ∀ {n k : Nat} {r : Lo} {M : Me} {x : Option Value × Lo × Me}, n ≤ k → whN c b n r M = some x → whN c b k r M = some x
  | 0, _, _, _, _, _, h => by simp [whN] at h
  | n + 1, 0, _, _, _, hk, _ => by omega
  | n + 1, k + 1, r, M, x, hk, h => by
    simp only [whN] at h ⊢
    cases hc : c r M with
    | none => rw [hc] at h; exact h
    | some q =>
      rw [hc] at h
      simp only [Option.bind_some] at h ⊢
      by_cases hq : q.1 = true
      · rw [if_pos hq] at h ⊢
        cases hb : b r q.2 with
        | none => rw [hb] at h; exact h
        | some a =>
          rw [hb] at h
          simp only [Option.bind_some] at h ⊢
          obtain ⟨o, r', M'⟩ := a
          cases o with
          | none => exact whN_mono (by omega) h
          | some v => exact h
      · rw [if_neg hq] at h ⊢; exact h
theorem swh_some {c : Bx} {b : Sx} {r : Lo} {M : Me} {x : Option Value × Lo × Me} (h : swh c b r M = some x) : ∃ n, whN c b n r M = some x := by
  unfold swh at h
  split at h
  · exact ⟨_, h⟩
  · cases h
theorem swh_of {c : Bx} {b : Sx} {r : Lo} {M : Me} {n : Nat} {x : Option Value × Lo × Me} (h : whN c b n r M = some x) : swh c b r M = some x := by
  have he : ∃ n : Nat, (whN c b n r M).isSome = true := ⟨n, by rw [h]; rfl⟩
  unfold swh
  rw [dif_pos he]
  obtain ⟨y, hy⟩ := Option.isSome_iff_exists.mp (Classical.choose_spec he)
  rw [hy]
  rcases Nat.le_total (Classical.choose he) n with q | q
  · exact (whN_mono q hy).symm.trans h
  · exact hy.symm.trans (whN_mono q h)
theorem swh_f {c : Bx} {b : Sx} {r : Lo} {M M1 : Me} (hc : c r M = some (false, M1)) : swh c b r M = some (none, r, M1) := swh_of (n := 1) (by simp [whN, hc])
theorem swh_r {c : Bx} {b : Sx} {r r' : Lo} {M M1 M2 : Me} {v : Value} (hc : c r M = some (true, M1)) (hb : b r M1 = some (some v, r', M2)) : swh c b r M = some (some v, r', M2) := swh_of (n := 1) (by simp [whN, hc, hb])
theorem swh_t {c : Bx} {b : Sx} {r r' : Lo} {M M1 M2 : Me} (hc : c r M = some (true, M1)) (hb : b r M1 = some (none, r', M2)) : swh c b r M = swh c b r' M2 := by
  cases h : swh c b r' M2 with
  | some x =>
    obtain ⟨n, hn⟩ := swh_some h
    exact swh_of (n := n + 1) (by simp [whN, hc, hb, hn])
  | none =>
    cases h2 : swh c b r M with
    | none => rfl
    | some x =>
      obtain ⟨n, hn⟩ := swh_some h2
      cases n with
      | zero => simp [whN] at hn
      | succ n =>
        simp [whN, hc, hb] at hn
        rw [swh_of hn] at h
        cases h
/-- a loop whose states are told by a count -/
theorem swh_count {c : Bx} {b : Sx} (rs : Nat → Lo) (Ms : Nat → Me) (n : Nat) (ht : ∀ i, i < n → c (rs i) (Ms i) = some (true, Ms i)) (hb : ∀ i, i < n → b (rs i) (Ms i) = some (none, rs (i + 1), Ms (i + 1))) (hf : c (rs n) (Ms n) = some (false, Ms n)) : swh c b (rs 0) (Ms 0) = some (none, rs n, Ms n) := by
  have : ∀ k, k ≤ n → swh c b (rs (n - k)) (Ms (n - k)) = some (none, rs n, Ms n) := by
    intro k
    induction k with
    | zero => intro _; exact swh_f hf
    | succ k ih =>
      intro hk
      rw [swh_t (ht (n - (k + 1)) (by omega)) (hb (n - (k + 1)) (by omega)), show n - (k + 1) + 1 = n - k by omega]
      exact ih (by omega)
  have h := this n (Nat.le_refl n)
  rwa [Nat.sub_self] at h
/-! a method out of its body -/
def mfi (n : Nat) (b : Sx) : Fi := fun vs M => if (ent vs).length ≤ n then (b (entn n vs) M).bind fun a => (gi a.1).bind fun x => some (x, a.2.2) else none
def mfj (n : Nat) (b : Sx) : Fj := fun vs M => if (ent vs).length ≤ n then (b (entn n vs) M).bind fun a => (gj a.1).bind fun x => some (x, a.2.2) else none
def gz (v : Option Value) : Option Bool := (gi v).bind fun x => if x = 1 then some true else if x = 0 then some false else none
def mfz (n : Nat) (b : Sx) : Fz := fun vs M => if (ent vs).length ≤ n then (b (entn n vs) M).bind fun a => (gz a.1).bind fun x => some (x, a.2.2) else none
def gv (v : Option Value) : Option Unit := match v with
  | some .null => some ()
  | _ => none
def mfv (n : Nat) (b : Sx) : Fu := fun vs M => if (ent vs).length ≤ n then (b (entn n vs) M).bind fun a => (gv a.1).bind fun _ => some a.2.2 else none

theorem q_cmp (x y : Int64) : (lg_cmp x y = 1 ∧ y < x) ∨ (lg_cmp x y = 0 ∧ x = y) ∨ (lg_cmp x y = -1 ∧ x < y) := by
  unfold lg_cmp
  by_cases h1 : x > y
  · rw [if_pos h1]; exact Or.inl ⟨rfl, h1⟩
  · rw [if_neg h1]
    by_cases h2 : x = y
    · rw [if_pos h2]; exact Or.inr (Or.inl ⟨rfl, h2⟩)
    · rw [if_neg h2]
      refine Or.inr (Or.inr ⟨rfl, ?_⟩)
      simp only [gt_iff_lt, Int64.lt_iff_toInt_lt, ← Int64.toInt_inj] at h1 h2 ⊢
      omega
theorem q_eq (x y : Int64) : lg_cmp x y = 0 ↔ x = y := by
  rcases q_cmp x y with ⟨a, b⟩ | ⟨a, b⟩ | ⟨a, b⟩ <;> simp only [a, Int64.lt_iff_toInt_lt, ← Int64.toInt_inj] at b ⊢
  · exact ⟨fun h => absurd h (by decide), fun h => by omega⟩
  · exact ⟨fun _ => b, fun _ => trivial⟩
  · exact ⟨fun h => absurd h (by decide), fun h => by omega⟩
theorem q_lt (x y : Int64) : lg_cmp x y < 0 ↔ x < y := by
  rcases q_cmp x y with ⟨a, b⟩ | ⟨a, b⟩ | ⟨a, b⟩ <;> simp only [a, Int64.lt_iff_toInt_lt, Int64.le_iff_toInt_le, ← Int64.toInt_inj] at b ⊢
  · exact ⟨fun h => absurd h (by decide), fun h => by omega⟩
  · exact ⟨fun h => absurd h (by decide), fun h => by omega⟩
  · exact ⟨fun _ => by omega, fun _ => by decide⟩
theorem q_ge (x y : Int64) : 0 ≤ lg_cmp x y ↔ y ≤ x := by
  rcases q_cmp x y with ⟨a, b⟩ | ⟨a, b⟩ | ⟨a, b⟩ <;> simp only [a, Int64.lt_iff_toInt_lt, Int64.le_iff_toInt_le, ← Int64.toInt_inj] at b ⊢
  · exact ⟨fun _ => by omega, fun _ => by decide⟩
  · exact ⟨fun _ => by omega, fun _ => by decide⟩
  · exact ⟨fun h => absurd h (by decide), fun h => by omega⟩
theorem q_gt (x y : Int64) : 0 < lg_cmp x y ↔ y < x := by
  rcases q_cmp x y with ⟨a, b⟩ | ⟨a, b⟩ | ⟨a, b⟩ <;> simp only [a, Int64.lt_iff_toInt_lt, Int64.le_iff_toInt_le, ← Int64.toInt_inj] at b ⊢
  · exact ⟨fun _ => by omega, fun _ => by decide⟩
  · exact ⟨fun h => absurd h (by decide), fun h => by omega⟩
  · exact ⟨fun h => absurd h (by decide), fun h => by omega⟩
theorem q_le (x y : Int64) : lg_cmp x y ≤ 0 ↔ x ≤ y := by
  rcases q_cmp x y with ⟨a, b⟩ | ⟨a, b⟩ | ⟨a, b⟩ <;> simp only [a, Int64.lt_iff_toInt_lt, Int64.le_iff_toInt_le, ← Int64.toInt_inj] at b ⊢
  · exact ⟨fun h => absurd h (by decide), fun h => by omega⟩
  · exact ⟨fun _ => by omega, fun _ => by decide⟩
  · exact ⟨fun _ => by omega, fun _ => by decide⟩
theorem qeq_1 {x y : Int64} (h : lg_cmp x y = 0) : qeq x y = true := decide_eq_true ((q_eq x y).mp h)
theorem qeq_2 {x y : Int64} (h : ¬ lg_cmp x y = 0) : qeq x y = false := decide_eq_false (fun q => h ((q_eq x y).mpr q))
theorem qeq_0 {x y : Int64} (h : ¬ lg_cmp x y = 0) : qeq x y = false := qeq_2 h
theorem qeq_3 {x y : Int64} (h : lg_cmp x y = 0) : qeq x y = true := qeq_1 h
theorem qne_1 {x y : Int64} (h : ¬ lg_cmp x y = 0) : qne x y = true := decide_eq_true (fun q => h ((q_eq x y).mpr q))
theorem qne_2 {x y : Int64} (h : lg_cmp x y = 0) : qne x y = false := decide_eq_false (fun q => q ((q_eq x y).mp h))
theorem qne_0 {x y : Int64} (h : lg_cmp x y = 0) : qne x y = false := qne_2 h
theorem qne_3 {x y : Int64} (h : ¬ lg_cmp x y = 0) : qne x y = true := qne_1 h
theorem qlt_1 {x y : Int64} (h : lg_cmp x y < 0) : qlt x y = true := decide_eq_true ((q_lt x y).mp h)
theorem qlt_2 {x y : Int64} (h : ¬ lg_cmp x y < 0) : qlt x y = false := decide_eq_false (fun q => h ((q_lt x y).mpr q))
theorem qlt_0 {x y : Int64} (h : 0 ≤ lg_cmp x y) : qlt x y = false := decide_eq_false (fun q => by have := (q_ge x y).mp h; simp only [Int64.lt_iff_toInt_lt, Int64.le_iff_toInt_le] at this q; omega)
theorem qlt_3 {x y : Int64} (h : ¬ 0 ≤ lg_cmp x y) : qlt x y = true := decide_eq_true (Decidable.byContradiction fun hc => h ((q_ge x y).mpr (by simp only [Int64.lt_iff_toInt_lt, Int64.le_iff_toInt_le] at hc ⊢; omega)))
theorem qge_1 {x y : Int64} (h : 0 ≤ lg_cmp x y) : qge x y = true := decide_eq_true ((q_ge x y).mp h)
theorem qge_2 {x y : Int64} (h : ¬ 0 ≤ lg_cmp x y) : qge x y = false := decide_eq_false (fun q => h ((q_ge x y).mpr q))
theorem qge_0 {x y : Int64} (h : lg_cmp x y < 0) : qge x y = false := decide_eq_false (fun q => by have := (q_lt x y).mp h; simp only [Int64.lt_iff_toInt_lt, Int64.le_iff_toInt_le] at this q; omega)
theorem qge_3 {x y : Int64} (h : ¬ lg_cmp x y < 0) : qge x y = true := decide_eq_true (Decidable.byContradiction fun hc => h ((q_lt x y).mpr (by simp only [Int64.lt_iff_toInt_lt, Int64.le_iff_toInt_le] at hc ⊢; omega)))
theorem qgt_1 {x y : Int64} (h : 0 < lg_cmp x y) : qgt x y = true := decide_eq_true ((q_gt x y).mp h)
theorem qgt_2 {x y : Int64} (h : ¬ 0 < lg_cmp x y) : qgt x y = false := decide_eq_false (fun q => h ((q_gt x y).mpr q))
theorem qgt_0 {x y : Int64} (h : lg_cmp x y ≤ 0) : qgt x y = false := decide_eq_false (fun q => by have := (q_le x y).mp h; simp only [Int64.lt_iff_toInt_lt, Int64.le_iff_toInt_le] at this q; omega)
theorem qgt_3 {x y : Int64} (h : ¬ lg_cmp x y ≤ 0) : qgt x y = true := decide_eq_true (Decidable.byContradiction fun hc => h ((q_le x y).mpr (by simp only [Int64.lt_iff_toInt_lt, Int64.le_iff_toInt_le] at hc ⊢; omega)))
theorem qle_1 {x y : Int64} (h : lg_cmp x y ≤ 0) : qle x y = true := decide_eq_true ((q_le x y).mp h)
theorem qle_2 {x y : Int64} (h : ¬ lg_cmp x y ≤ 0) : qle x y = false := decide_eq_false (fun q => h ((q_le x y).mpr q))
theorem qle_0 {x y : Int64} (h : 0 < lg_cmp x y) : qle x y = false := decide_eq_false (fun q => by have := (q_gt x y).mp h; simp only [Int64.lt_iff_toInt_lt, Int64.le_iff_toInt_le] at this q; omega)
theorem qle_3 {x y : Int64} (h : ¬ 0 < lg_cmp x y) : qle x y = true := decide_eq_true (Decidable.byContradiction fun hc => h ((q_gt x y).mpr (by simp only [Int64.lt_iff_toInt_lt, Int64.le_iff_toInt_le] at hc ⊢; omega)))
/-! ===== judgements ===== -/
def Sta (h0 : Nat) (tt : Nat → Nat) (U : State) (H : Heap) : Prop := va_Z "VacuumDesk" "TOP_OF_CHAMBER" "[I" (.ref (tt 0)) (aw h0) U H ∧ va_T .int (tt 0) 3 (fun i => .int (stab 0 i)) (aw h0) U H
def Okk (own : String) (cc : ByteArray) (nL : Nat) (R : Room) (p : Program) (m : MethodId) (c : Code) (s : State) (args : Array Value) (h0 : Nat) (D : va_G) (cy : Nat → ClassId) (tt : Nat → Nat) (cells slots : Nat) : Prop := CallFix p m c cc nL s args lw_g own ∧ va_K D vwCl (tys cy) s ∧ Sta h0 tt s s.heap ∧ cells ≤ R.cells ∧ slots ≤ R.slots
def Kc (R : Room) (p : Program) (l : Launch) (e : Env) (s : State) (m : MethodId) (args : Array Value) (below : List Frame) (meth : Method) (c : Code) (h0 : Nat) (D : va_G) (cy : Nat → ClassId) (cells slots : Nat) (Q : State → Prop) (pc : Nat) (ls : Array Slot) (st : List Value) (M : Me) : Prop := ∀ (H : Heap) (locs : List Loc), va_P D vwCl (wl h0 cy M) H → va_S (aw h0) s.heap H locs → W p l e R s m args below meth c H locs cells slots Q (F0 m pc ls st)
def wds (st : List Value) : Nat := (st.map fun v => v.category).sum
def Vi (own : String) (cc : ByteArray) (nL : Nat) (R : Room) (b pc pc' : Nat) (f : Ix) : Prop := ∀ (p : Program) (l : Launch) (e : Env) (s : State) (m : MethodId) (args : Array Value) (below : List Frame) (meth : Method) (c : Code) (h0 : Nat) (D : va_G) (cy : Nat → ClassId) (tt : Nat → Nat) (cells slots : Nat) (Q : State → Prop), Okk own cc nL R p m c s args h0 D cy tt cells slots → ∀ (ls : Array Slot) (st : List Value) (r : Lo) (M M' : Me) (x : Int32), lr h0 nL ls r → wds st ≤ b → f r M = some (x, M') → Kc R p l e s m args below meth c h0 D cy cells slots Q pc' ls (.int x :: st) M' → Kc R p l e s m args below meth c h0 D cy cells slots Q pc ls st M
def Vj (own : String) (cc : ByteArray) (nL : Nat) (R : Room) (b pc pc' : Nat) (f : Jx) : Prop := ∀ (p : Program) (l : Launch) (e : Env) (s : State) (m : MethodId) (args : Array Value) (below : List Frame) (meth : Method) (c : Code) (h0 : Nat) (D : va_G) (cy : Nat → ClassId) (tt : Nat → Nat) (cells slots : Nat) (Q : State → Prop), Okk own cc nL R p m c s args h0 D cy tt cells slots → ∀ (ls : Array Slot) (st : List Value) (r : Lo) (M M' : Me) (x : Int64), lr h0 nL ls r → wds st ≤ b → f r M = some (x, M') → Kc R p l e s m args below meth c h0 D cy cells slots Q pc' ls (.long x :: st) M' → Kc R p l e s m args below meth c h0 D cy cells slots Q pc ls st M
def Vr (own : String) (cc : ByteArray) (nL : Nat) (R : Room) (b pc pc' : Nat) (f : Rx) : Prop := ∀ (p : Program) (l : Launch) (e : Env) (s : State) (m : MethodId) (args : Array Value) (below : List Frame) (meth : Method) (c : Code) (h0 : Nat) (D : va_G) (cy : Nat → ClassId) (tt : Nat → Nat) (cells slots : Nat) (Q : State → Prop), Okk own cc nL R p m c s args h0 D cy tt cells slots → ∀ (ls : Array Slot) (st : List Value) (r : Lo) (M M' : Me) (x : Nat), lr h0 nL ls r → wds st ≤ b → f r M = some (x, M') → Kc R p l e s m args below meth c h0 D cy cells slots Q pc' ls (.ref (h0 + x) :: st) M' → Kc R p l e s m args below meth c h0 D cy cells slots Q pc ls st M
def Va (own : String) (cc : ByteArray) (nL : Nat) (R : Room) (n b pc pc' : Nat) (f : Ax) : Prop := (∀ r M x, f r M = some x → x.1.length = n) ∧ ∀ (p : Program) (l : Launch) (e : Env) (s : State) (m : MethodId) (args : Array Value) (below : List Frame) (meth : Method) (c : Code) (h0 : Nat) (D : va_G) (cy : Nat → ClassId) (tt : Nat → Nat) (cells slots : Nat) (Q : State → Prop), Okk own cc nL R p m c s args h0 D cy tt cells slots → ∀ (ls : Array Slot) (st : List Value) (r : Lo) (M M' : Me) (x : List Value), lr h0 nL ls r → wds st ≤ b → f r M = some (x, M') → Kc R p l e s m args below meth c h0 D cy cells slots Q pc' ls ((x.map (tv h0)).reverse ++ st) M' → Kc R p l e s m args below meth c h0 D cy cells slots Q pc ls st M
def Vb (own : String) (cc : ByteArray) (nL : Nat) (R : Room) (b pc pT pF : Nat) (f : Bx) : Prop := ∀ (p : Program) (l : Launch) (e : Env) (s : State) (m : MethodId) (args : Array Value) (below : List Frame) (meth : Method) (c : Code) (h0 : Nat) (D : va_G) (cy : Nat → ClassId) (tt : Nat → Nat) (cells slots : Nat) (Q : State → Prop), Okk own cc nL R p m c s args h0 D cy tt cells slots → ∀ (ls : Array Slot) (st : List Value) (r : Lo) (M M' : Me) (x : Bool), lr h0 nL ls r → wds st ≤ b → f r M = some (x, M') → (x = true → Kc R p l e s m args below meth c h0 D cy cells slots Q pT ls st M') → (x = false → Kc R p l e s m args below meth c h0 D cy cells slots Q pF ls st M') → Kc R p l e s m args below meth c h0 D cy cells slots Q pc ls st M
def Rk (cc : ByteArray) (R : Room) (p : Program) (l : Launch) (e : Env) (s : State) (m : MethodId) (args : Array Value) (below : List Frame) (meth : Method) (c : Code) (h0 : Nat) (D : va_G) (cy : Nat → ClassId) (cells slots : Nat) (Q : State → Prop) (v : Value) (M : Me) : Prop := match v with
  | .int x => ∀ (pc : Nat) (ls : Array Slot), decode cc pc = .ok (.ireturn, 1) → Kc R p l e s m args below meth c h0 D cy cells slots Q pc ls [.int x] M
  | .long x => ∀ (pc : Nat) (ls : Array Slot), decode cc pc = .ok (.lreturn, 1) → Kc R p l e s m args below meth c h0 D cy cells slots Q pc ls [.long x] M
  | _ => ∀ (pc : Nat) (ls : Array Slot), decode cc pc = .ok (.return_, 1) → Kc R p l e s m args below meth c h0 D cy cells slots Q pc ls [] M
def Vs (own : String) (cc : ByteArray) (nL : Nat) (R : Room) (pc pc' : Nat) (f : Sx) : Prop := ∀ (p : Program) (l : Launch) (e : Env) (s : State) (m : MethodId) (args : Array Value) (below : List Frame) (meth : Method) (c : Code) (h0 : Nat) (D : va_G) (cy : Nat → ClassId) (tt : Nat → Nat) (cells slots : Nat) (Q : State → Prop), Okk own cc nL R p m c s args h0 D cy tt cells slots → ∀ (ls : Array Slot) (r r' : Lo) (M M' : Me) (x : Option Value), lr h0 nL ls r → f r M = some (x, r', M') → (x = none → ∀ ls', lr h0 nL ls' r' → Kc R p l e s m args below meth c h0 D cy cells slots Q pc' ls' [] M') → (∀ v, x = some v → Rk cc R p l e s m args below meth c h0 D cy cells slots Q v M') → Kc R p l e s m args below meth c h0 D cy cells slots Q pc ls [] M
section
variable {own : String} {cc : ByteArray} {nL : Nat} {R : Room} {b pc p1 p2 p3 pT pF : Nat}
theorem bind2 {α β : Type} {a : Option α} {f : α → Option β} {y : β} (h : a.bind f = some y) : ∃ x, a = some x ∧ f x = some y := by
  cases a with
  | none => cases h
  | some x => exact ⟨x, rfl, h⟩
theorem gi_some {v : Option Value} {x : Int32} (h : gi v = some x) : v = some (.int x) := by
  match v, h with
  | some (.int y), h => simp [gi] at h; rw [h]
theorem gj_some {v : Option Value} {x : Int64} (h : gj v = some x) : v = some (.long x) := by
  match v, h with
  | some (.long y), h => simp [gj] at h; rw [h]
theorem gr_some {v : Option Value} {x : Nat} (h : gr v = some x) : v = some (.ref x) := by
  match v, h with
  | some (.ref y), h => simp [gr] at h; rw [h]
theorem lr_i {h0 : Nat} {ls : Array Slot} {r : Lo} {k : Nat} {x : Int32} (h : lr h0 nL ls r) (hx : gi r[k]? = some x) : ls[k]? = some (.val (.int x)) := h.2.2.2 k _ (gi_some hx) (fun q => by cases q)
theorem lr_j {h0 : Nat} {ls : Array Slot} {r : Lo} {k : Nat} {x : Int64} (h : lr h0 nL ls r) (hx : gj r[k]? = some x) : ls[k]? = some (.val (.long x)) := h.2.2.2 k _ (gj_some hx) (fun q => by cases q)
theorem lr_r {h0 : Nat} {ls : Array Slot} {r : Lo} {k : Nat} {x : Nat} (h : lr h0 nL ls r) (hx : gr r[k]? = some x) : ls[k]? = some (.val (.ref (h0 + x))) := h.2.2.2 k _ (gr_some hx) (fun q => by cases q)
theorem wds_c {v : Value} {st : List Value} : wds (v :: st) = v.category + wds st := rfl
theorem v_iconst {n : Int} {v : Int32} (hd : decode cc pc = .ok (.iconst n, 1)) (hv : Int32.ofInt n = v) (hp : pc + 1 = p1) : Vi own cc nL R b pc p1 (ik v) := by
  intro p l e s m args below meth c h0 D cy tt cells slots Q ok ls st r M M' x hl hb hf kk H locs hP hS
  cases hf
  subst hp
  exact lv_iconst ok.1.1 ok.1.2.1 hd hv (kk H locs hP hS)
theorem v_bipush {n : Int} {v : Int32} (hd : decode cc pc = .ok (.bipush n, 2)) (hv : (Int8.ofInt n).toInt32 = v) (hp : pc + 2 = p1) : Vi own cc nL R b pc p1 (ik v) := by
  intro p l e s m args below meth c h0 D cy tt cells slots Q ok ls st r M M' x hl hb hf kk H locs hP hS
  cases hf
  subst hp
  exact lv_bipush ok.1.1 ok.1.2.1 hd hv (kk H locs hP hS)
theorem v_sipush {n : Int} {v : Int32} (hd : decode cc pc = .ok (.sipush n, 3)) (hv : (Int16.ofInt n).toInt32 = v) (hp : pc + 3 = p1) : Vi own cc nL R b pc p1 (ik v) := by
  intro p l e s m args below meth c h0 D cy tt cells slots Q ok ls st r M M' x hl hb hf kk H locs hP hS
  cases hf
  subst hp
  exact lv_sipush ok.1.1 ok.1.2.1 hd hv (kk H locs hP hS)
theorem v_ldc {n : Nat} {v : Int32} (hw : Cond.constant own n v ∈ lw_g) (hd : decode cc pc = .ok (.ldc n, 2)) (hp : pc + 2 = p1) : Vi own cc nL R b pc p1 (ik v) := by
  intro p l e s m args below meth c h0 D cy tt cells slots Q ok ls st r M M' x hl hb hf kk H locs hP hS
  cases hf
  subst hp
  exact lv_ldc ok.1.1 ok.1.2.1 ok.1.2.2.2.1 (ok.1.2.2.2.2 _ hw) hd (kk H locs hP hS)
theorem v_ldc_w {n : Nat} {v : Int32} (hw : Cond.constant own n v ∈ lw_g) (hd : decode cc pc = .ok (.ldc_w n, 3)) (hp : pc + 3 = p1) : Vi own cc nL R b pc p1 (ik v) := by
  intro p l e s m args below meth c h0 D cy tt cells slots Q ok ls st r M M' x hl hb hf kk H locs hP hS
  cases hf
  subst hp
  exact lv_ldcw ok.1.1 ok.1.2.1 ok.1.2.2.2.1 (ok.1.2.2.2.2 _ hw) hd (kk H locs hP hS)
theorem v_lconst {n : Fin 2} {v : Int64} (hd : decode cc pc = .ok (.lconst n, 1)) (hv : Int64.ofNat (n : Nat) = v) (hp : pc + 1 = p1) : Vj own cc nL R b pc p1 (jk v) := by
  intro p l e s m args below meth c h0 D cy tt cells slots Q ok ls st r M M' x hl hb hf kk H locs hP hS
  cases hf
  subst hp
  exact lv_lconst ok.1.1 ok.1.2.1 hd hv (kk H locs hP hS)
theorem v_ldc2 {n : Nat} {v : Int64} (hw : Cond.constantLong own n v ∈ lw_g) (hd : decode cc pc = .ok (.ldc2_w n, 3)) (hp : pc + 3 = p1) : Vj own cc nL R b pc p1 (jk v) := by
  intro p l e s m args below meth c h0 D cy tt cells slots Q ok ls st r M M' x hl hb hf kk H locs hP hS
  cases hf
  subst hp
  exact lv_ldc2 ok.1.1 ok.1.2.1 ok.1.2.2.2.1 (ok.1.2.2.2.2 _ hw) hd (kk H locs hP hS)
theorem v_iload_n {k : Fin 4} {i : Nat} (hd : decode cc pc = .ok (.iload_n k, 1)) (hi : (k : Nat) = i) (hp : pc + 1 = p1) : Vi own cc nL R b pc p1 (il i) := by
  intro p l e s m args below meth c h0 D cy tt cells slots Q ok ls st r M M' x hl hb hf kk H locs hP hS
  obtain ⟨y, h1, h2⟩ := bind2 hf
  cases h2
  subst hp
  exact lv_iload_n ok.1.1 ok.1.2.1 hd hi (lr_i hl h1) (kk H locs hP hS)
theorem v_iload {i : Nat} (hd : decode cc pc = .ok (.iload i, 2)) (hp : pc + 2 = p1) : Vi own cc nL R b pc p1 (il i) := by
  intro p l e s m args below meth c h0 D cy tt cells slots Q ok ls st r M M' x hl hb hf kk H locs hP hS
  obtain ⟨y, h1, h2⟩ := bind2 hf
  cases h2
  subst hp
  exact lv_iload ok.1.1 ok.1.2.1 hd (lr_i hl h1) (kk H locs hP hS)
theorem v_lload_n {k : Fin 4} {i : Nat} (hd : decode cc pc = .ok (.lload_n k, 1)) (hi : (k : Nat) = i) (hp : pc + 1 = p1) : Vj own cc nL R b pc p1 (jl i) := by
  intro p l e s m args below meth c h0 D cy tt cells slots Q ok ls st r M M' x hl hb hf kk H locs hP hS
  obtain ⟨y, h1, h2⟩ := bind2 hf
  cases h2
  subst hp
  exact lv_lload_n ok.1.1 ok.1.2.1 hd hi (lr_j hl h1) (kk H locs hP hS)
theorem v_lload {i : Nat} (hd : decode cc pc = .ok (.lload i, 2)) (hp : pc + 2 = p1) : Vj own cc nL R b pc p1 (jl i) := by
  intro p l e s m args below meth c h0 D cy tt cells slots Q ok ls st r M M' x hl hb hf kk H locs hP hS
  obtain ⟨y, h1, h2⟩ := bind2 hf
  cases h2
  subst hp
  exact lv_lload ok.1.1 ok.1.2.1 hd (lr_j hl h1) (kk H locs hP hS)
theorem v_aload_n {k : Fin 4} {i : Nat} (hd : decode cc pc = .ok (.aload_n k, 1)) (hi : (k : Nat) = i) (hp : pc + 1 = p1) : Vr own cc nL R b pc p1 (rl i) := by
  intro p l e s m args below meth c h0 D cy tt cells slots Q ok ls st r M M' x hl hb hf kk H locs hP hS
  obtain ⟨y, h1, h2⟩ := bind2 hf
  cases h2
  subst hp
  exact lv_aload_n ok.1.1 ok.1.2.1 hd hi (lr_r hl h1) (kk H locs hP hS)
theorem v_aload {i : Nat} (hd : decode cc pc = .ok (.aload i, 2)) (hp : pc + 2 = p1) : Vr own cc nL R b pc p1 (rl i) := by
  intro p l e s m args below meth c h0 D cy tt cells slots Q ok ls st r M M' x hl hb hf kk H locs hP hS
  obtain ⟨y, h1, h2⟩ := bind2 hf
  cases h2
  subst hp
  exact lv_aload ok.1.1 ok.1.2.1 hd (lr_r hl h1) (kk H locs hP hS)
theorem v_iadd {f g : Ix} (h1 : Vi own cc nL R b pc p1 f) (h2 : Vi own cc nL R (b + 1) p1 p2 g) (hd : decode cc p2 = .ok (.iadd, 1)) (hp : p2 + 1 = p3) : Vi own cc nL R b pc p3 (i2 (· + ·) f g) := by
  intro p l e s m args below meth c h0 D cy tt cells slots Q ok ls st r M M' x hl hb hf kk
  obtain ⟨⟨y, M1⟩, e1, hf⟩ := bind2 hf
  obtain ⟨⟨z, M2⟩, e2, hf⟩ := bind2 hf
  subst hp
  cases hf
  refine h1 p l e s m args below meth c h0 D cy tt cells slots Q ok ls st r M M1 y hl hb e1 (h2 p l e s m args below meth c h0 D cy tt cells slots Q ok ls _ r M1 M2 z hl (by rw [wds_c]; simp only [Value.category]; omega) e2 ?_)
  intro H locs hP hS
  exact lv_iadd ok.1.1 ok.1.2.1 hd (kk H locs hP hS)
theorem v_isub {f g : Ix} (h1 : Vi own cc nL R b pc p1 f) (h2 : Vi own cc nL R (b + 1) p1 p2 g) (hd : decode cc p2 = .ok (.isub, 1)) (hp : p2 + 1 = p3) : Vi own cc nL R b pc p3 (i2 (· - ·) f g) := by
  intro p l e s m args below meth c h0 D cy tt cells slots Q ok ls st r M M' x hl hb hf kk
  obtain ⟨⟨y, M1⟩, e1, hf⟩ := bind2 hf
  obtain ⟨⟨z, M2⟩, e2, hf⟩ := bind2 hf
  subst hp
  cases hf
  refine h1 p l e s m args below meth c h0 D cy tt cells slots Q ok ls st r M M1 y hl hb e1 (h2 p l e s m args below meth c h0 D cy tt cells slots Q ok ls _ r M1 M2 z hl (by rw [wds_c]; simp only [Value.category]; omega) e2 ?_)
  intro H locs hP hS
  exact lv_isub ok.1.1 ok.1.2.1 hd (kk H locs hP hS)
theorem v_imul {f g : Ix} (h1 : Vi own cc nL R b pc p1 f) (h2 : Vi own cc nL R (b + 1) p1 p2 g) (hd : decode cc p2 = .ok (.imul, 1)) (hp : p2 + 1 = p3) : Vi own cc nL R b pc p3 (i2 (· * ·) f g) := by
  intro p l e s m args below meth c h0 D cy tt cells slots Q ok ls st r M M' x hl hb hf kk
  obtain ⟨⟨y, M1⟩, e1, hf⟩ := bind2 hf
  obtain ⟨⟨z, M2⟩, e2, hf⟩ := bind2 hf
  subst hp
  cases hf
  refine h1 p l e s m args below meth c h0 D cy tt cells slots Q ok ls st r M M1 y hl hb e1 (h2 p l e s m args below meth c h0 D cy tt cells slots Q ok ls _ r M1 M2 z hl (by rw [wds_c]; simp only [Value.category]; omega) e2 ?_)
  intro H locs hP hS
  exact lv_imul ok.1.1 ok.1.2.1 hd (kk H locs hP hS)
theorem v_iand {f g : Ix} (h1 : Vi own cc nL R b pc p1 f) (h2 : Vi own cc nL R (b + 1) p1 p2 g) (hd : decode cc p2 = .ok (.iand, 1)) (hp : p2 + 1 = p3) : Vi own cc nL R b pc p3 (i2 (· &&& ·) f g) := by
  intro p l e s m args below meth c h0 D cy tt cells slots Q ok ls st r M M' x hl hb hf kk
  obtain ⟨⟨y, M1⟩, e1, hf⟩ := bind2 hf
  obtain ⟨⟨z, M2⟩, e2, hf⟩ := bind2 hf
  subst hp
  cases hf
  refine h1 p l e s m args below meth c h0 D cy tt cells slots Q ok ls st r M M1 y hl hb e1 (h2 p l e s m args below meth c h0 D cy tt cells slots Q ok ls _ r M1 M2 z hl (by rw [wds_c]; simp only [Value.category]; omega) e2 ?_)
  intro H locs hP hS
  exact lv_iand ok.1.1 ok.1.2.1 hd (kk H locs hP hS)
theorem v_ior {f g : Ix} (h1 : Vi own cc nL R b pc p1 f) (h2 : Vi own cc nL R (b + 1) p1 p2 g) (hd : decode cc p2 = .ok (.ior, 1)) (hp : p2 + 1 = p3) : Vi own cc nL R b pc p3 (i2 (· ||| ·) f g) := by
  intro p l e s m args below meth c h0 D cy tt cells slots Q ok ls st r M M' x hl hb hf kk
  obtain ⟨⟨y, M1⟩, e1, hf⟩ := bind2 hf
  obtain ⟨⟨z, M2⟩, e2, hf⟩ := bind2 hf
  subst hp
  cases hf
  refine h1 p l e s m args below meth c h0 D cy tt cells slots Q ok ls st r M M1 y hl hb e1 (h2 p l e s m args below meth c h0 D cy tt cells slots Q ok ls _ r M1 M2 z hl (by rw [wds_c]; simp only [Value.category]; omega) e2 ?_)
  intro H locs hP hS
  exact lv_ior ok.1.1 ok.1.2.1 hd (kk H locs hP hS)
theorem v_ixor {f g : Ix} (h1 : Vi own cc nL R b pc p1 f) (h2 : Vi own cc nL R (b + 1) p1 p2 g) (hd : decode cc p2 = .ok (.ixor, 1)) (hp : p2 + 1 = p3) : Vi own cc nL R b pc p3 (i2 (· ^^^ ·) f g) := by
  intro p l e s m args below meth c h0 D cy tt cells slots Q ok ls st r M M' x hl hb hf kk
  obtain ⟨⟨y, M1⟩, e1, hf⟩ := bind2 hf
  obtain ⟨⟨z, M2⟩, e2, hf⟩ := bind2 hf
  subst hp
  cases hf
  refine h1 p l e s m args below meth c h0 D cy tt cells slots Q ok ls st r M M1 y hl hb e1 (h2 p l e s m args below meth c h0 D cy tt cells slots Q ok ls _ r M1 M2 z hl (by rw [wds_c]; simp only [Value.category]; omega) e2 ?_)
  intro H locs hP hS
  exact lv_ixor ok.1.1 ok.1.2.1 hd (kk H locs hP hS)
theorem v_ishl {f g : Ix} (h1 : Vi own cc nL R b pc p1 f) (h2 : Vi own cc nL R (b + 1) p1 p2 g) (hd : decode cc p2 = .ok (.ishl, 1)) (hp : p2 + 1 = p3) : Vi own cc nL R b pc p3 (i2 oshl f g) := by
  intro p l e s m args below meth c h0 D cy tt cells slots Q ok ls st r M M' x hl hb hf kk
  obtain ⟨⟨y, M1⟩, e1, hf⟩ := bind2 hf
  obtain ⟨⟨z, M2⟩, e2, hf⟩ := bind2 hf
  subst hp
  cases hf
  refine h1 p l e s m args below meth c h0 D cy tt cells slots Q ok ls st r M M1 y hl hb e1 (h2 p l e s m args below meth c h0 D cy tt cells slots Q ok ls _ r M1 M2 z hl (by rw [wds_c]; simp only [Value.category]; omega) e2 ?_)
  intro H locs hP hS
  exact lv_ishl ok.1.1 ok.1.2.1 hd (kk H locs hP hS)
theorem v_ishr {f g : Ix} (h1 : Vi own cc nL R b pc p1 f) (h2 : Vi own cc nL R (b + 1) p1 p2 g) (hd : decode cc p2 = .ok (.ishr, 1)) (hp : p2 + 1 = p3) : Vi own cc nL R b pc p3 (i2 oshr f g) := by
  intro p l e s m args below meth c h0 D cy tt cells slots Q ok ls st r M M' x hl hb hf kk
  obtain ⟨⟨y, M1⟩, e1, hf⟩ := bind2 hf
  obtain ⟨⟨z, M2⟩, e2, hf⟩ := bind2 hf
  subst hp
  cases hf
  refine h1 p l e s m args below meth c h0 D cy tt cells slots Q ok ls st r M M1 y hl hb e1 (h2 p l e s m args below meth c h0 D cy tt cells slots Q ok ls _ r M1 M2 z hl (by rw [wds_c]; simp only [Value.category]; omega) e2 ?_)
  intro H locs hP hS
  exact lv_ishr ok.1.1 ok.1.2.1 hd (kk H locs hP hS)
theorem v_iushr {f g : Ix} (h1 : Vi own cc nL R b pc p1 f) (h2 : Vi own cc nL R (b + 1) p1 p2 g) (hd : decode cc p2 = .ok (.iushr, 1)) (hp : p2 + 1 = p3) : Vi own cc nL R b pc p3 (i2 oushr f g) := by
  intro p l e s m args below meth c h0 D cy tt cells slots Q ok ls st r M M' x hl hb hf kk
  obtain ⟨⟨y, M1⟩, e1, hf⟩ := bind2 hf
  obtain ⟨⟨z, M2⟩, e2, hf⟩ := bind2 hf
  subst hp
  cases hf
  refine h1 p l e s m args below meth c h0 D cy tt cells slots Q ok ls st r M M1 y hl hb e1 (h2 p l e s m args below meth c h0 D cy tt cells slots Q ok ls _ r M1 M2 z hl (by rw [wds_c]; simp only [Value.category]; omega) e2 ?_)
  intro H locs hP hS
  exact lv_iushr ok.1.1 ok.1.2.1 hd rfl (kk H locs hP hS)
theorem v_idiv {f g : Ix} (h1 : Vi own cc nL R b pc p1 f) (h2 : Vi own cc nL R (b + 1) p1 p2 g) (hd : decode cc p2 = .ok (.idiv, 1)) (hp : p2 + 1 = p3) : Vi own cc nL R b pc p3 (i2d (· / ·) f g) := by
  intro p l e s m args below meth c h0 D cy tt cells slots Q ok ls st r M M' x hl hb hf kk
  obtain ⟨⟨y, M1⟩, e1, hf⟩ := bind2 hf
  obtain ⟨⟨z, M2⟩, e2, hf⟩ := bind2 hf
  subst hp
  by_cases hz : z = 0
  · simp [hz] at hf
  · rw [if_neg hz] at hf
    cases hf
    refine h1 p l e s m args below meth c h0 D cy tt cells slots Q ok ls st r M M1 y hl hb e1 (h2 p l e s m args below meth c h0 D cy tt cells slots Q ok ls _ r M1 M2 z hl (by rw [wds_c]; simp only [Value.category]; omega) e2 ?_)
    intro H locs hP hS
    exact lv_idiv ok.1.1 ok.1.2.1 hd hz (kk H locs hP hS)
theorem v_irem {f g : Ix} (h1 : Vi own cc nL R b pc p1 f) (h2 : Vi own cc nL R (b + 1) p1 p2 g) (hd : decode cc p2 = .ok (.irem, 1)) (hp : p2 + 1 = p3) : Vi own cc nL R b pc p3 (i2d orem f g) := by
  intro p l e s m args below meth c h0 D cy tt cells slots Q ok ls st r M M' x hl hb hf kk
  obtain ⟨⟨y, M1⟩, e1, hf⟩ := bind2 hf
  obtain ⟨⟨z, M2⟩, e2, hf⟩ := bind2 hf
  subst hp
  by_cases hz : z = 0
  · simp [hz] at hf
  · rw [if_neg hz] at hf
    cases hf
    refine h1 p l e s m args below meth c h0 D cy tt cells slots Q ok ls st r M M1 y hl hb e1 (h2 p l e s m args below meth c h0 D cy tt cells slots Q ok ls _ r M1 M2 z hl (by rw [wds_c]; simp only [Value.category]; omega) e2 ?_)
    intro H locs hP hS
    exact lv_irem ok.1.1 ok.1.2.1 hd hz (kk H locs hP hS)
theorem v_ladd {f g : Jx} (h1 : Vj own cc nL R b pc p1 f) (h2 : Vj own cc nL R (b + 2) p1 p2 g) (hd : decode cc p2 = .ok (.ladd, 1)) (hp : p2 + 1 = p3) : Vj own cc nL R b pc p3 (j2 (· + ·) f g) := by
  intro p l e s m args below meth c h0 D cy tt cells slots Q ok ls st r M M' x hl hb hf kk
  obtain ⟨⟨y, M1⟩, e1, hf⟩ := bind2 hf
  obtain ⟨⟨z, M2⟩, e2, hf⟩ := bind2 hf
  subst hp
  cases hf
  refine h1 p l e s m args below meth c h0 D cy tt cells slots Q ok ls st r M M1 y hl hb e1 (h2 p l e s m args below meth c h0 D cy tt cells slots Q ok ls _ r M1 M2 z hl (by rw [wds_c]; simp only [Value.category]; omega) e2 ?_)
  intro H locs hP hS
  exact lv_ladd ok.1.1 ok.1.2.1 hd (kk H locs hP hS)
theorem v_lsub {f g : Jx} (h1 : Vj own cc nL R b pc p1 f) (h2 : Vj own cc nL R (b + 2) p1 p2 g) (hd : decode cc p2 = .ok (.lsub, 1)) (hp : p2 + 1 = p3) : Vj own cc nL R b pc p3 (j2 (· - ·) f g) := by
  intro p l e s m args below meth c h0 D cy tt cells slots Q ok ls st r M M' x hl hb hf kk
  obtain ⟨⟨y, M1⟩, e1, hf⟩ := bind2 hf
  obtain ⟨⟨z, M2⟩, e2, hf⟩ := bind2 hf
  subst hp
  cases hf
  refine h1 p l e s m args below meth c h0 D cy tt cells slots Q ok ls st r M M1 y hl hb e1 (h2 p l e s m args below meth c h0 D cy tt cells slots Q ok ls _ r M1 M2 z hl (by rw [wds_c]; simp only [Value.category]; omega) e2 ?_)
  intro H locs hP hS
  exact lv_lsub ok.1.1 ok.1.2.1 hd (kk H locs hP hS)
theorem v_lmul {f g : Jx} (h1 : Vj own cc nL R b pc p1 f) (h2 : Vj own cc nL R (b + 2) p1 p2 g) (hd : decode cc p2 = .ok (.lmul, 1)) (hp : p2 + 1 = p3) : Vj own cc nL R b pc p3 (j2 (· * ·) f g) := by
  intro p l e s m args below meth c h0 D cy tt cells slots Q ok ls st r M M' x hl hb hf kk
  obtain ⟨⟨y, M1⟩, e1, hf⟩ := bind2 hf
  obtain ⟨⟨z, M2⟩, e2, hf⟩ := bind2 hf
  subst hp
  cases hf
  refine h1 p l e s m args below meth c h0 D cy tt cells slots Q ok ls st r M M1 y hl hb e1 (h2 p l e s m args below meth c h0 D cy tt cells slots Q ok ls _ r M1 M2 z hl (by rw [wds_c]; simp only [Value.category]; omega) e2 ?_)
  intro H locs hP hS
  exact lv_lmul ok.1.1 ok.1.2.1 hd (kk H locs hP hS)
theorem v_ldiv {f g : Jx} (h1 : Vj own cc nL R b pc p1 f) (h2 : Vj own cc nL R (b + 2) p1 p2 g) (hd : decode cc p2 = .ok (.ldiv, 1)) (hp : p2 + 1 = p3) : Vj own cc nL R b pc p3 (j2d (· / ·) f g) := by
  intro p l e s m args below meth c h0 D cy tt cells slots Q ok ls st r M M' x hl hb hf kk
  obtain ⟨⟨y, M1⟩, e1, hf⟩ := bind2 hf
  obtain ⟨⟨z, M2⟩, e2, hf⟩ := bind2 hf
  subst hp
  by_cases hz : z = 0
  · simp [hz] at hf
  · rw [if_neg hz] at hf
    cases hf
    refine h1 p l e s m args below meth c h0 D cy tt cells slots Q ok ls st r M M1 y hl hb e1 (h2 p l e s m args below meth c h0 D cy tt cells slots Q ok ls _ r M1 M2 z hl (by rw [wds_c]; simp only [Value.category]; omega) e2 ?_)
    intro H locs hP hS
    exact lv_ldiv ok.1.1 ok.1.2.1 hd hz (kk H locs hP hS)
theorem v_lrem {f g : Jx} (h1 : Vj own cc nL R b pc p1 f) (h2 : Vj own cc nL R (b + 2) p1 p2 g) (hd : decode cc p2 = .ok (.lrem, 1)) (hp : p2 + 1 = p3) : Vj own cc nL R b pc p3 (j2d ojrem f g) := by
  intro p l e s m args below meth c h0 D cy tt cells slots Q ok ls st r M M' x hl hb hf kk
  obtain ⟨⟨y, M1⟩, e1, hf⟩ := bind2 hf
  obtain ⟨⟨z, M2⟩, e2, hf⟩ := bind2 hf
  subst hp
  by_cases hz : z = 0
  · simp [hz] at hf
  · rw [if_neg hz] at hf
    cases hf
    refine h1 p l e s m args below meth c h0 D cy tt cells slots Q ok ls st r M M1 y hl hb e1 (h2 p l e s m args below meth c h0 D cy tt cells slots Q ok ls _ r M1 M2 z hl (by rw [wds_c]; simp only [Value.category]; omega) e2 ?_)
    intro H locs hP hS
    exact lv_lrem ok.1.1 ok.1.2.1 hd hz (kk H locs hP hS)
theorem v_ineg {f : Ix} (h1 : Vi own cc nL R b pc p1 f) (hd : decode cc p1 = .ok (.ineg, 1)) (hp : p1 + 1 = p2) : Vi own cc nL R b pc p2 (i1 (fun x => -x) f) := by
  intro p l e s m args below meth c h0 D cy tt cells slots Q ok ls st r M M' x hl hb hf kk
  obtain ⟨⟨y, M1⟩, e1, hf⟩ := bind2 hf
  subst hp
  cases hf
  refine h1 p l e s m args below meth c h0 D cy tt cells slots Q ok ls st r M M1 y hl hb e1 ?_
  intro H locs hP hS
  exact lv_ineg ok.1.1 ok.1.2.1 hd (kk H locs hP hS)
theorem v_lneg {f : Jx} (h1 : Vj own cc nL R b pc p1 f) (hd : decode cc p1 = .ok (.lneg, 1)) (hp : p1 + 1 = p2) : Vj own cc nL R b pc p2 (j1 (fun x => -x) f) := by
  intro p l e s m args below meth c h0 D cy tt cells slots Q ok ls st r M M' x hl hb hf kk
  obtain ⟨⟨y, M1⟩, e1, hf⟩ := bind2 hf
  subst hp
  cases hf
  refine h1 p l e s m args below meth c h0 D cy tt cells slots Q ok ls st r M M1 y hl hb e1 ?_
  intro H locs hP hS
  exact lv_lneg ok.1.1 ok.1.2.1 hd (kk H locs hP hS)
theorem v_i2l {f : Ix} (h1 : Vi own cc nL R b pc p1 f) (hd : decode cc p1 = .ok (.i2l, 1)) (hp : p1 + 1 = p2) : Vj own cc nL R b pc p2 (i2l f) := by
  intro p l e s m args below meth c h0 D cy tt cells slots Q ok ls st r M M' x hl hb hf kk
  obtain ⟨⟨y, M1⟩, e1, hf⟩ := bind2 hf
  subst hp
  cases hf
  refine h1 p l e s m args below meth c h0 D cy tt cells slots Q ok ls st r M M1 y hl hb e1 ?_
  intro H locs hP hS
  exact lv_i2l ok.1.1 ok.1.2.1 hd rfl (kk H locs hP hS)
theorem v_l2i {f : Jx} (h1 : Vj own cc nL R b pc p1 f) (hd : decode cc p1 = .ok (.l2i, 1)) (hp : p1 + 1 = p2) : Vi own cc nL R b pc p2 (l2i f) := by
  intro p l e s m args below meth c h0 D cy tt cells slots Q ok ls st r M M' x hl hb hf kk
  obtain ⟨⟨y, M1⟩, e1, hf⟩ := bind2 hf
  subst hp
  cases hf
  refine h1 p l e s m args below meth c h0 D cy tt cells slots Q ok ls st r M M1 y hl hb e1 ?_
  intro H locs hP hS
  exact lv_l2i ok.1.1 ok.1.2.1 hd rfl (kk H locs hP hS)
theorem vi_goto {f : Ix} {off : Int} (h1 : Vi own cc nL R b pc p1 f) (hd : decode cc p1 = .ok (.goto off, 3)) (ht : (p1 : Int) + off = (p2 : Int)) : Vi own cc nL R b pc p2 f := by
  intro p l e s m args below meth c h0 D cy tt cells slots Q ok ls st r M M' x hl hb hf kk
  refine h1 p l e s m args below meth c h0 D cy tt cells slots Q ok ls st r M M' x hl hb hf ?_
  intro H locs hP hS
  exact lv_goto ok.1.1 ok.1.2.1 hd ht (kk H locs hP hS)
theorem v_ic {c0 : Bx} {f g : Ix} (h1 : Vb own cc nL R b pc pT pF c0) (h2 : Vi own cc nL R b pT p1 f) (h3 : Vi own cc nL R b pF p1 g) : Vi own cc nL R b pc p1 (ic c0 f g) := by
  intro p l e s m args below meth c h0 D cy tt cells slots Q ok ls st r M M' x hl hb hf kk
  obtain ⟨⟨y, M1⟩, e1, hf⟩ := bind2 hf
  refine h1 p l e s m args below meth c h0 D cy tt cells slots Q ok ls st r M M1 y hl hb e1 (fun hy => ?_) (fun hy => ?_)
  · subst hy
    exact h2 p l e s m args below meth c h0 D cy tt cells slots Q ok ls st r M1 M' x hl hb hf kk
  · subst hy
    exact h3 p l e s m args below meth c h0 D cy tt cells slots Q ok ls st r M1 M' x hl hb hf kk
theorem vj_goto {f : Jx} {off : Int} (h1 : Vj own cc nL R b pc p1 f) (hd : decode cc p1 = .ok (.goto off, 3)) (ht : (p1 : Int) + off = (p2 : Int)) : Vj own cc nL R b pc p2 f := by
  intro p l e s m args below meth c h0 D cy tt cells slots Q ok ls st r M M' x hl hb hf kk
  refine h1 p l e s m args below meth c h0 D cy tt cells slots Q ok ls st r M M' x hl hb hf ?_
  intro H locs hP hS
  exact lv_goto ok.1.1 ok.1.2.1 hd ht (kk H locs hP hS)
theorem v_jc {c0 : Bx} {f g : Jx} (h1 : Vb own cc nL R b pc pT pF c0) (h2 : Vj own cc nL R b pT p1 f) (h3 : Vj own cc nL R b pF p1 g) : Vj own cc nL R b pc p1 (jc c0 f g) := by
  intro p l e s m args below meth c h0 D cy tt cells slots Q ok ls st r M M' x hl hb hf kk
  obtain ⟨⟨y, M1⟩, e1, hf⟩ := bind2 hf
  refine h1 p l e s m args below meth c h0 D cy tt cells slots Q ok ls st r M M1 y hl hb e1 (fun hy => ?_) (fun hy => ?_)
  · subst hy
    exact h2 p l e s m args below meth c h0 D cy tt cells slots Q ok ls st r M1 M' x hl hb hf kk
  · subst hy
    exact h3 p l e s m args below meth c h0 D cy tt cells slots Q ok ls st r M1 M' x hl hb hf kk
theorem vs_goto {f : Sx} {off : Int} (h1 : Vs own cc nL R pc p1 f) (hd : decode cc p1 = .ok (.goto off, 3)) (ht : (p1 : Int) + off = (p2 : Int)) : Vs own cc nL R pc p2 f := by
  intro p l e s m args below meth c h0 D cy tt cells slots Q ok ls r r' M M' x hl hf kk kr
  refine h1 p l e s m args below meth c h0 D cy tt cells slots Q ok ls r r' M M' x hl hf (fun hx ls' hl' => ?_) kr
  intro H locs hP hS
  exact lv_goto ok.1.1 ok.1.2.1 hd ht (kk hx ls' hl' H locs hP hS)
theorem v_ieq_t {f g : Ix} {off : Int} (h1 : Vi own cc nL R b pc p1 f) (h2 : Vi own cc nL R (b + 1) p1 p2 g) (hd : decode cc p2 = .ok (.if_icmp .eq off, 3)) (ht : (p2 : Int) + off = (p3 : Int)) {pN : Nat} (hp : p2 + 3 = pN) : Vb own cc nL R b pc p3 pN (bc ceq f g) := by
  intro p l e s m args below meth c h0 D cy tt cells slots Q ok ls st r M M' x hl hb hf kT kF
  obtain ⟨⟨y, M1⟩, e1, hf⟩ := bind2 hf
  obtain ⟨⟨z, M2⟩, e2, hf⟩ := bind2 hf
  subst hp
  cases hf
  refine h1 p l e s m args below meth c h0 D cy tt cells slots Q ok ls st r M M1 y hl hb e1 (h2 p l e s m args below meth c h0 D cy tt cells slots Q ok ls _ r M1 M2 z hl (by rw [wds_c]; simp only [Value.category]; omega) e2 ?_)
  intro H locs hP hS
  exact lv_icmp_eq ok.1.1 ok.1.2.1 hd ht (fun hq => kT (by simp only [ceq]; first | exact decide_eq_true hq | exact decide_eq_false hq | exact decide_eq_false (Int32.not_lt.mpr hq) | exact decide_eq_false (Int32.not_le.mpr hq) | exact decide_eq_true (Int32.not_lt.mp hq) | exact decide_eq_true (Int32.not_le.mp hq) | exact decide_eq_false (fun q => hq q) | exact decide_eq_false (fun q => q hq)) H locs hP hS) (fun hq => kF (by simp only [ceq]; first | exact decide_eq_true hq | exact decide_eq_false hq | exact decide_eq_false (Int32.not_lt.mpr hq) | exact decide_eq_false (Int32.not_le.mpr hq) | exact decide_eq_true (Int32.not_lt.mp hq) | exact decide_eq_true (Int32.not_le.mp hq) | exact decide_eq_false (fun q => hq q) | exact decide_eq_false (fun q => q hq)) H locs hP hS)
theorem v_zeq_t {f : Ix} {off : Int} (h1 : Vi own cc nL R b pc p2 f) (hd : decode cc p2 = .ok (.ifCond .eq off, 3)) (ht : (p2 : Int) + off = (p3 : Int)) {pN : Nat} (hp : p2 + 3 = pN) : Vb own cc nL R b pc p3 pN (bz ceq f) := by
  intro p l e s m args below meth c h0 D cy tt cells slots Q ok ls st r M M' x hl hb hf kT kF
  obtain ⟨⟨y, M1⟩, e1, hf⟩ := bind2 hf
  subst hp
  cases hf
  refine h1 p l e s m args below meth c h0 D cy tt cells slots Q ok ls st r M M1 y hl hb e1 ?_
  intro H locs hP hS
  exact lv_if_eq ok.1.1 ok.1.2.1 hd ht (fun hq => kT (by simp only [ceq]; first | exact decide_eq_true hq | exact decide_eq_false hq | exact decide_eq_false (Int32.not_lt.mpr hq) | exact decide_eq_false (Int32.not_le.mpr hq) | exact decide_eq_true (Int32.not_lt.mp hq) | exact decide_eq_true (Int32.not_le.mp hq) | exact decide_eq_false (fun q => hq q) | exact decide_eq_false (fun q => q hq)) H locs hP hS) (fun hq => kF (by simp only [ceq]; first | exact decide_eq_true hq | exact decide_eq_false hq | exact decide_eq_false (Int32.not_lt.mpr hq) | exact decide_eq_false (Int32.not_le.mpr hq) | exact decide_eq_true (Int32.not_lt.mp hq) | exact decide_eq_true (Int32.not_le.mp hq) | exact decide_eq_false (fun q => hq q) | exact decide_eq_false (fun q => q hq)) H locs hP hS)
theorem v_jeq_t {f g : Jx} {off : Int} (h1 : Vj own cc nL R b pc p1 f) (h2 : Vj own cc nL R (b + 2) p1 p2 g) (hc : decode cc p2 = .ok (.lcmp, 1)) (hd : decode cc (p2 + 1) = .ok (.ifCond .eq off, 3)) (ht : ((p2 + 1 : Nat) : Int) + off = (p3 : Int)) {pN : Nat} (hp : p2 + 1 + 3 = pN) : Vb own cc nL R b pc p3 pN (bj qeq f g) := by
  intro p l e s m args below meth c h0 D cy tt cells slots Q ok ls st r M M' x hl hb hf kT kF
  obtain ⟨⟨y, M1⟩, e1, hf⟩ := bind2 hf
  obtain ⟨⟨z, M2⟩, e2, hf⟩ := bind2 hf
  subst hp
  cases hf
  refine h1 p l e s m args below meth c h0 D cy tt cells slots Q ok ls st r M M1 y hl hb e1 (h2 p l e s m args below meth c h0 D cy tt cells slots Q ok ls _ r M1 M2 z hl (by rw [wds_c]; simp only [Value.category]; omega) e2 ?_)
  intro H locs hP hS
  refine W.lcmp ok.1.1 ok.1.2.1 hc ?_
  exact lv_if_eq ok.1.1 ok.1.2.1 hd ht (fun hq => kT (qeq_1 hq) H locs hP hS) (fun hq => kF (qeq_2 hq) H locs hP hS)
theorem v_ieq_f {f g : Ix} {off : Int} (h1 : Vi own cc nL R b pc p1 f) (h2 : Vi own cc nL R (b + 1) p1 p2 g) (hd : decode cc p2 = .ok (.if_icmp .ne off, 3)) (ht : (p2 : Int) + off = (p3 : Int)) {pN : Nat} (hp : p2 + 3 = pN) : Vb own cc nL R b pc pN p3 (bc ceq f g) := by
  intro p l e s m args below meth c h0 D cy tt cells slots Q ok ls st r M M' x hl hb hf kT kF
  obtain ⟨⟨y, M1⟩, e1, hf⟩ := bind2 hf
  obtain ⟨⟨z, M2⟩, e2, hf⟩ := bind2 hf
  subst hp
  cases hf
  refine h1 p l e s m args below meth c h0 D cy tt cells slots Q ok ls st r M M1 y hl hb e1 (h2 p l e s m args below meth c h0 D cy tt cells slots Q ok ls _ r M1 M2 z hl (by rw [wds_c]; simp only [Value.category]; omega) e2 ?_)
  intro H locs hP hS
  exact lv_icmp_ne ok.1.1 ok.1.2.1 hd ht (fun hq => kF (by simp only [ceq]; first | exact decide_eq_true hq | exact decide_eq_false hq | exact decide_eq_false (Int32.not_lt.mpr hq) | exact decide_eq_false (Int32.not_le.mpr hq) | exact decide_eq_true (Int32.not_lt.mp hq) | exact decide_eq_true (Int32.not_le.mp hq) | exact decide_eq_false (fun q => hq q) | exact decide_eq_false (fun q => q hq)) H locs hP hS) (fun hq => kT (by simp only [ceq]; first | exact decide_eq_true hq | exact decide_eq_false hq | exact decide_eq_false (Int32.not_lt.mpr hq) | exact decide_eq_false (Int32.not_le.mpr hq) | exact decide_eq_true (Int32.not_lt.mp hq) | exact decide_eq_true (Int32.not_le.mp hq) | exact decide_eq_false (fun q => hq q) | exact decide_eq_false (fun q => q hq)) H locs hP hS)
theorem v_zeq_f {f : Ix} {off : Int} (h1 : Vi own cc nL R b pc p2 f) (hd : decode cc p2 = .ok (.ifCond .ne off, 3)) (ht : (p2 : Int) + off = (p3 : Int)) {pN : Nat} (hp : p2 + 3 = pN) : Vb own cc nL R b pc pN p3 (bz ceq f) := by
  intro p l e s m args below meth c h0 D cy tt cells slots Q ok ls st r M M' x hl hb hf kT kF
  obtain ⟨⟨y, M1⟩, e1, hf⟩ := bind2 hf
  subst hp
  cases hf
  refine h1 p l e s m args below meth c h0 D cy tt cells slots Q ok ls st r M M1 y hl hb e1 ?_
  intro H locs hP hS
  exact lv_if_ne ok.1.1 ok.1.2.1 hd ht (fun hq => kF (by simp only [ceq]; first | exact decide_eq_true hq | exact decide_eq_false hq | exact decide_eq_false (Int32.not_lt.mpr hq) | exact decide_eq_false (Int32.not_le.mpr hq) | exact decide_eq_true (Int32.not_lt.mp hq) | exact decide_eq_true (Int32.not_le.mp hq) | exact decide_eq_false (fun q => hq q) | exact decide_eq_false (fun q => q hq)) H locs hP hS) (fun hq => kT (by simp only [ceq]; first | exact decide_eq_true hq | exact decide_eq_false hq | exact decide_eq_false (Int32.not_lt.mpr hq) | exact decide_eq_false (Int32.not_le.mpr hq) | exact decide_eq_true (Int32.not_lt.mp hq) | exact decide_eq_true (Int32.not_le.mp hq) | exact decide_eq_false (fun q => hq q) | exact decide_eq_false (fun q => q hq)) H locs hP hS)
theorem v_jeq_f {f g : Jx} {off : Int} (h1 : Vj own cc nL R b pc p1 f) (h2 : Vj own cc nL R (b + 2) p1 p2 g) (hc : decode cc p2 = .ok (.lcmp, 1)) (hd : decode cc (p2 + 1) = .ok (.ifCond .ne off, 3)) (ht : ((p2 + 1 : Nat) : Int) + off = (p3 : Int)) {pN : Nat} (hp : p2 + 1 + 3 = pN) : Vb own cc nL R b pc pN p3 (bj qeq f g) := by
  intro p l e s m args below meth c h0 D cy tt cells slots Q ok ls st r M M' x hl hb hf kT kF
  obtain ⟨⟨y, M1⟩, e1, hf⟩ := bind2 hf
  obtain ⟨⟨z, M2⟩, e2, hf⟩ := bind2 hf
  subst hp
  cases hf
  refine h1 p l e s m args below meth c h0 D cy tt cells slots Q ok ls st r M M1 y hl hb e1 (h2 p l e s m args below meth c h0 D cy tt cells slots Q ok ls _ r M1 M2 z hl (by rw [wds_c]; simp only [Value.category]; omega) e2 ?_)
  intro H locs hP hS
  refine W.lcmp ok.1.1 ok.1.2.1 hc ?_
  exact lv_if_ne ok.1.1 ok.1.2.1 hd ht (fun hq => kF (qeq_0 hq) H locs hP hS) (fun hq => kT (qeq_3 hq) H locs hP hS)
theorem v_ine_t {f g : Ix} {off : Int} (h1 : Vi own cc nL R b pc p1 f) (h2 : Vi own cc nL R (b + 1) p1 p2 g) (hd : decode cc p2 = .ok (.if_icmp .ne off, 3)) (ht : (p2 : Int) + off = (p3 : Int)) {pN : Nat} (hp : p2 + 3 = pN) : Vb own cc nL R b pc p3 pN (bc cne f g) := by
  intro p l e s m args below meth c h0 D cy tt cells slots Q ok ls st r M M' x hl hb hf kT kF
  obtain ⟨⟨y, M1⟩, e1, hf⟩ := bind2 hf
  obtain ⟨⟨z, M2⟩, e2, hf⟩ := bind2 hf
  subst hp
  cases hf
  refine h1 p l e s m args below meth c h0 D cy tt cells slots Q ok ls st r M M1 y hl hb e1 (h2 p l e s m args below meth c h0 D cy tt cells slots Q ok ls _ r M1 M2 z hl (by rw [wds_c]; simp only [Value.category]; omega) e2 ?_)
  intro H locs hP hS
  exact lv_icmp_ne ok.1.1 ok.1.2.1 hd ht (fun hq => kT (by simp only [cne]; first | exact decide_eq_true hq | exact decide_eq_false hq | exact decide_eq_false (Int32.not_lt.mpr hq) | exact decide_eq_false (Int32.not_le.mpr hq) | exact decide_eq_true (Int32.not_lt.mp hq) | exact decide_eq_true (Int32.not_le.mp hq) | exact decide_eq_false (fun q => hq q) | exact decide_eq_false (fun q => q hq)) H locs hP hS) (fun hq => kF (by simp only [cne]; first | exact decide_eq_true hq | exact decide_eq_false hq | exact decide_eq_false (Int32.not_lt.mpr hq) | exact decide_eq_false (Int32.not_le.mpr hq) | exact decide_eq_true (Int32.not_lt.mp hq) | exact decide_eq_true (Int32.not_le.mp hq) | exact decide_eq_false (fun q => hq q) | exact decide_eq_false (fun q => q hq)) H locs hP hS)
theorem v_zne_t {f : Ix} {off : Int} (h1 : Vi own cc nL R b pc p2 f) (hd : decode cc p2 = .ok (.ifCond .ne off, 3)) (ht : (p2 : Int) + off = (p3 : Int)) {pN : Nat} (hp : p2 + 3 = pN) : Vb own cc nL R b pc p3 pN (bz cne f) := by
  intro p l e s m args below meth c h0 D cy tt cells slots Q ok ls st r M M' x hl hb hf kT kF
  obtain ⟨⟨y, M1⟩, e1, hf⟩ := bind2 hf
  subst hp
  cases hf
  refine h1 p l e s m args below meth c h0 D cy tt cells slots Q ok ls st r M M1 y hl hb e1 ?_
  intro H locs hP hS
  exact lv_if_ne ok.1.1 ok.1.2.1 hd ht (fun hq => kT (by simp only [cne]; first | exact decide_eq_true hq | exact decide_eq_false hq | exact decide_eq_false (Int32.not_lt.mpr hq) | exact decide_eq_false (Int32.not_le.mpr hq) | exact decide_eq_true (Int32.not_lt.mp hq) | exact decide_eq_true (Int32.not_le.mp hq) | exact decide_eq_false (fun q => hq q) | exact decide_eq_false (fun q => q hq)) H locs hP hS) (fun hq => kF (by simp only [cne]; first | exact decide_eq_true hq | exact decide_eq_false hq | exact decide_eq_false (Int32.not_lt.mpr hq) | exact decide_eq_false (Int32.not_le.mpr hq) | exact decide_eq_true (Int32.not_lt.mp hq) | exact decide_eq_true (Int32.not_le.mp hq) | exact decide_eq_false (fun q => hq q) | exact decide_eq_false (fun q => q hq)) H locs hP hS)
theorem v_jne_t {f g : Jx} {off : Int} (h1 : Vj own cc nL R b pc p1 f) (h2 : Vj own cc nL R (b + 2) p1 p2 g) (hc : decode cc p2 = .ok (.lcmp, 1)) (hd : decode cc (p2 + 1) = .ok (.ifCond .ne off, 3)) (ht : ((p2 + 1 : Nat) : Int) + off = (p3 : Int)) {pN : Nat} (hp : p2 + 1 + 3 = pN) : Vb own cc nL R b pc p3 pN (bj qne f g) := by
  intro p l e s m args below meth c h0 D cy tt cells slots Q ok ls st r M M' x hl hb hf kT kF
  obtain ⟨⟨y, M1⟩, e1, hf⟩ := bind2 hf
  obtain ⟨⟨z, M2⟩, e2, hf⟩ := bind2 hf
  subst hp
  cases hf
  refine h1 p l e s m args below meth c h0 D cy tt cells slots Q ok ls st r M M1 y hl hb e1 (h2 p l e s m args below meth c h0 D cy tt cells slots Q ok ls _ r M1 M2 z hl (by rw [wds_c]; simp only [Value.category]; omega) e2 ?_)
  intro H locs hP hS
  refine W.lcmp ok.1.1 ok.1.2.1 hc ?_
  exact lv_if_ne ok.1.1 ok.1.2.1 hd ht (fun hq => kT (qne_1 hq) H locs hP hS) (fun hq => kF (qne_2 hq) H locs hP hS)
theorem v_ine_f {f g : Ix} {off : Int} (h1 : Vi own cc nL R b pc p1 f) (h2 : Vi own cc nL R (b + 1) p1 p2 g) (hd : decode cc p2 = .ok (.if_icmp .eq off, 3)) (ht : (p2 : Int) + off = (p3 : Int)) {pN : Nat} (hp : p2 + 3 = pN) : Vb own cc nL R b pc pN p3 (bc cne f g) := by
  intro p l e s m args below meth c h0 D cy tt cells slots Q ok ls st r M M' x hl hb hf kT kF
  obtain ⟨⟨y, M1⟩, e1, hf⟩ := bind2 hf
  obtain ⟨⟨z, M2⟩, e2, hf⟩ := bind2 hf
  subst hp
  cases hf
  refine h1 p l e s m args below meth c h0 D cy tt cells slots Q ok ls st r M M1 y hl hb e1 (h2 p l e s m args below meth c h0 D cy tt cells slots Q ok ls _ r M1 M2 z hl (by rw [wds_c]; simp only [Value.category]; omega) e2 ?_)
  intro H locs hP hS
  exact lv_icmp_eq ok.1.1 ok.1.2.1 hd ht (fun hq => kF (by simp only [cne]; first | exact decide_eq_true hq | exact decide_eq_false hq | exact decide_eq_false (Int32.not_lt.mpr hq) | exact decide_eq_false (Int32.not_le.mpr hq) | exact decide_eq_true (Int32.not_lt.mp hq) | exact decide_eq_true (Int32.not_le.mp hq) | exact decide_eq_false (fun q => hq q) | exact decide_eq_false (fun q => q hq)) H locs hP hS) (fun hq => kT (by simp only [cne]; first | exact decide_eq_true hq | exact decide_eq_false hq | exact decide_eq_false (Int32.not_lt.mpr hq) | exact decide_eq_false (Int32.not_le.mpr hq) | exact decide_eq_true (Int32.not_lt.mp hq) | exact decide_eq_true (Int32.not_le.mp hq) | exact decide_eq_false (fun q => hq q) | exact decide_eq_false (fun q => q hq)) H locs hP hS)
theorem v_zne_f {f : Ix} {off : Int} (h1 : Vi own cc nL R b pc p2 f) (hd : decode cc p2 = .ok (.ifCond .eq off, 3)) (ht : (p2 : Int) + off = (p3 : Int)) {pN : Nat} (hp : p2 + 3 = pN) : Vb own cc nL R b pc pN p3 (bz cne f) := by
  intro p l e s m args below meth c h0 D cy tt cells slots Q ok ls st r M M' x hl hb hf kT kF
  obtain ⟨⟨y, M1⟩, e1, hf⟩ := bind2 hf
  subst hp
  cases hf
  refine h1 p l e s m args below meth c h0 D cy tt cells slots Q ok ls st r M M1 y hl hb e1 ?_
  intro H locs hP hS
  exact lv_if_eq ok.1.1 ok.1.2.1 hd ht (fun hq => kF (by simp only [cne]; first | exact decide_eq_true hq | exact decide_eq_false hq | exact decide_eq_false (Int32.not_lt.mpr hq) | exact decide_eq_false (Int32.not_le.mpr hq) | exact decide_eq_true (Int32.not_lt.mp hq) | exact decide_eq_true (Int32.not_le.mp hq) | exact decide_eq_false (fun q => hq q) | exact decide_eq_false (fun q => q hq)) H locs hP hS) (fun hq => kT (by simp only [cne]; first | exact decide_eq_true hq | exact decide_eq_false hq | exact decide_eq_false (Int32.not_lt.mpr hq) | exact decide_eq_false (Int32.not_le.mpr hq) | exact decide_eq_true (Int32.not_lt.mp hq) | exact decide_eq_true (Int32.not_le.mp hq) | exact decide_eq_false (fun q => hq q) | exact decide_eq_false (fun q => q hq)) H locs hP hS)
theorem v_jne_f {f g : Jx} {off : Int} (h1 : Vj own cc nL R b pc p1 f) (h2 : Vj own cc nL R (b + 2) p1 p2 g) (hc : decode cc p2 = .ok (.lcmp, 1)) (hd : decode cc (p2 + 1) = .ok (.ifCond .eq off, 3)) (ht : ((p2 + 1 : Nat) : Int) + off = (p3 : Int)) {pN : Nat} (hp : p2 + 1 + 3 = pN) : Vb own cc nL R b pc pN p3 (bj qne f g) := by
  intro p l e s m args below meth c h0 D cy tt cells slots Q ok ls st r M M' x hl hb hf kT kF
  obtain ⟨⟨y, M1⟩, e1, hf⟩ := bind2 hf
  obtain ⟨⟨z, M2⟩, e2, hf⟩ := bind2 hf
  subst hp
  cases hf
  refine h1 p l e s m args below meth c h0 D cy tt cells slots Q ok ls st r M M1 y hl hb e1 (h2 p l e s m args below meth c h0 D cy tt cells slots Q ok ls _ r M1 M2 z hl (by rw [wds_c]; simp only [Value.category]; omega) e2 ?_)
  intro H locs hP hS
  refine W.lcmp ok.1.1 ok.1.2.1 hc ?_
  exact lv_if_eq ok.1.1 ok.1.2.1 hd ht (fun hq => kF (qne_0 hq) H locs hP hS) (fun hq => kT (qne_3 hq) H locs hP hS)
theorem v_ilt_t {f g : Ix} {off : Int} (h1 : Vi own cc nL R b pc p1 f) (h2 : Vi own cc nL R (b + 1) p1 p2 g) (hd : decode cc p2 = .ok (.if_icmp .lt off, 3)) (ht : (p2 : Int) + off = (p3 : Int)) {pN : Nat} (hp : p2 + 3 = pN) : Vb own cc nL R b pc p3 pN (bc clt f g) := by
  intro p l e s m args below meth c h0 D cy tt cells slots Q ok ls st r M M' x hl hb hf kT kF
  obtain ⟨⟨y, M1⟩, e1, hf⟩ := bind2 hf
  obtain ⟨⟨z, M2⟩, e2, hf⟩ := bind2 hf
  subst hp
  cases hf
  refine h1 p l e s m args below meth c h0 D cy tt cells slots Q ok ls st r M M1 y hl hb e1 (h2 p l e s m args below meth c h0 D cy tt cells slots Q ok ls _ r M1 M2 z hl (by rw [wds_c]; simp only [Value.category]; omega) e2 ?_)
  intro H locs hP hS
  exact lv_icmp_lt ok.1.1 ok.1.2.1 hd ht (fun hq => kT (by simp only [clt]; first | exact decide_eq_true hq | exact decide_eq_false hq | exact decide_eq_false (Int32.not_lt.mpr hq) | exact decide_eq_false (Int32.not_le.mpr hq) | exact decide_eq_true (Int32.not_lt.mp hq) | exact decide_eq_true (Int32.not_le.mp hq) | exact decide_eq_false (fun q => hq q) | exact decide_eq_false (fun q => q hq)) H locs hP hS) (fun hq => kF (by simp only [clt]; first | exact decide_eq_true hq | exact decide_eq_false hq | exact decide_eq_false (Int32.not_lt.mpr hq) | exact decide_eq_false (Int32.not_le.mpr hq) | exact decide_eq_true (Int32.not_lt.mp hq) | exact decide_eq_true (Int32.not_le.mp hq) | exact decide_eq_false (fun q => hq q) | exact decide_eq_false (fun q => q hq)) H locs hP hS)
theorem v_zlt_t {f : Ix} {off : Int} (h1 : Vi own cc nL R b pc p2 f) (hd : decode cc p2 = .ok (.ifCond .lt off, 3)) (ht : (p2 : Int) + off = (p3 : Int)) {pN : Nat} (hp : p2 + 3 = pN) : Vb own cc nL R b pc p3 pN (bz clt f) := by
  intro p l e s m args below meth c h0 D cy tt cells slots Q ok ls st r M M' x hl hb hf kT kF
  obtain ⟨⟨y, M1⟩, e1, hf⟩ := bind2 hf
  subst hp
  cases hf
  refine h1 p l e s m args below meth c h0 D cy tt cells slots Q ok ls st r M M1 y hl hb e1 ?_
  intro H locs hP hS
  exact lv_if_lt ok.1.1 ok.1.2.1 hd ht (fun hq => kT (by simp only [clt]; first | exact decide_eq_true hq | exact decide_eq_false hq | exact decide_eq_false (Int32.not_lt.mpr hq) | exact decide_eq_false (Int32.not_le.mpr hq) | exact decide_eq_true (Int32.not_lt.mp hq) | exact decide_eq_true (Int32.not_le.mp hq) | exact decide_eq_false (fun q => hq q) | exact decide_eq_false (fun q => q hq)) H locs hP hS) (fun hq => kF (by simp only [clt]; first | exact decide_eq_true hq | exact decide_eq_false hq | exact decide_eq_false (Int32.not_lt.mpr hq) | exact decide_eq_false (Int32.not_le.mpr hq) | exact decide_eq_true (Int32.not_lt.mp hq) | exact decide_eq_true (Int32.not_le.mp hq) | exact decide_eq_false (fun q => hq q) | exact decide_eq_false (fun q => q hq)) H locs hP hS)
theorem v_jlt_t {f g : Jx} {off : Int} (h1 : Vj own cc nL R b pc p1 f) (h2 : Vj own cc nL R (b + 2) p1 p2 g) (hc : decode cc p2 = .ok (.lcmp, 1)) (hd : decode cc (p2 + 1) = .ok (.ifCond .lt off, 3)) (ht : ((p2 + 1 : Nat) : Int) + off = (p3 : Int)) {pN : Nat} (hp : p2 + 1 + 3 = pN) : Vb own cc nL R b pc p3 pN (bj qlt f g) := by
  intro p l e s m args below meth c h0 D cy tt cells slots Q ok ls st r M M' x hl hb hf kT kF
  obtain ⟨⟨y, M1⟩, e1, hf⟩ := bind2 hf
  obtain ⟨⟨z, M2⟩, e2, hf⟩ := bind2 hf
  subst hp
  cases hf
  refine h1 p l e s m args below meth c h0 D cy tt cells slots Q ok ls st r M M1 y hl hb e1 (h2 p l e s m args below meth c h0 D cy tt cells slots Q ok ls _ r M1 M2 z hl (by rw [wds_c]; simp only [Value.category]; omega) e2 ?_)
  intro H locs hP hS
  refine W.lcmp ok.1.1 ok.1.2.1 hc ?_
  exact lv_if_lt ok.1.1 ok.1.2.1 hd ht (fun hq => kT (qlt_1 hq) H locs hP hS) (fun hq => kF (qlt_2 hq) H locs hP hS)
theorem v_ilt_f {f g : Ix} {off : Int} (h1 : Vi own cc nL R b pc p1 f) (h2 : Vi own cc nL R (b + 1) p1 p2 g) (hd : decode cc p2 = .ok (.if_icmp .ge off, 3)) (ht : (p2 : Int) + off = (p3 : Int)) {pN : Nat} (hp : p2 + 3 = pN) : Vb own cc nL R b pc pN p3 (bc clt f g) := by
  intro p l e s m args below meth c h0 D cy tt cells slots Q ok ls st r M M' x hl hb hf kT kF
  obtain ⟨⟨y, M1⟩, e1, hf⟩ := bind2 hf
  obtain ⟨⟨z, M2⟩, e2, hf⟩ := bind2 hf
  subst hp
  cases hf
  refine h1 p l e s m args below meth c h0 D cy tt cells slots Q ok ls st r M M1 y hl hb e1 (h2 p l e s m args below meth c h0 D cy tt cells slots Q ok ls _ r M1 M2 z hl (by rw [wds_c]; simp only [Value.category]; omega) e2 ?_)
  intro H locs hP hS
  exact lv_icmp_ge ok.1.1 ok.1.2.1 hd ht (fun hq => kF (by simp only [clt]; first | exact decide_eq_true hq | exact decide_eq_false hq | exact decide_eq_false (Int32.not_lt.mpr hq) | exact decide_eq_false (Int32.not_le.mpr hq) | exact decide_eq_true (Int32.not_lt.mp hq) | exact decide_eq_true (Int32.not_le.mp hq) | exact decide_eq_false (fun q => hq q) | exact decide_eq_false (fun q => q hq)) H locs hP hS) (fun hq => kT (by simp only [clt]; first | exact decide_eq_true hq | exact decide_eq_false hq | exact decide_eq_false (Int32.not_lt.mpr hq) | exact decide_eq_false (Int32.not_le.mpr hq) | exact decide_eq_true (Int32.not_lt.mp hq) | exact decide_eq_true (Int32.not_le.mp hq) | exact decide_eq_false (fun q => hq q) | exact decide_eq_false (fun q => q hq)) H locs hP hS)
theorem v_zlt_f {f : Ix} {off : Int} (h1 : Vi own cc nL R b pc p2 f) (hd : decode cc p2 = .ok (.ifCond .ge off, 3)) (ht : (p2 : Int) + off = (p3 : Int)) {pN : Nat} (hp : p2 + 3 = pN) : Vb own cc nL R b pc pN p3 (bz clt f) := by
  intro p l e s m args below meth c h0 D cy tt cells slots Q ok ls st r M M' x hl hb hf kT kF
  obtain ⟨⟨y, M1⟩, e1, hf⟩ := bind2 hf
  subst hp
  cases hf
  refine h1 p l e s m args below meth c h0 D cy tt cells slots Q ok ls st r M M1 y hl hb e1 ?_
  intro H locs hP hS
  exact lv_if_ge ok.1.1 ok.1.2.1 hd ht (fun hq => kF (by simp only [clt]; first | exact decide_eq_true hq | exact decide_eq_false hq | exact decide_eq_false (Int32.not_lt.mpr hq) | exact decide_eq_false (Int32.not_le.mpr hq) | exact decide_eq_true (Int32.not_lt.mp hq) | exact decide_eq_true (Int32.not_le.mp hq) | exact decide_eq_false (fun q => hq q) | exact decide_eq_false (fun q => q hq)) H locs hP hS) (fun hq => kT (by simp only [clt]; first | exact decide_eq_true hq | exact decide_eq_false hq | exact decide_eq_false (Int32.not_lt.mpr hq) | exact decide_eq_false (Int32.not_le.mpr hq) | exact decide_eq_true (Int32.not_lt.mp hq) | exact decide_eq_true (Int32.not_le.mp hq) | exact decide_eq_false (fun q => hq q) | exact decide_eq_false (fun q => q hq)) H locs hP hS)
theorem v_jlt_f {f g : Jx} {off : Int} (h1 : Vj own cc nL R b pc p1 f) (h2 : Vj own cc nL R (b + 2) p1 p2 g) (hc : decode cc p2 = .ok (.lcmp, 1)) (hd : decode cc (p2 + 1) = .ok (.ifCond .ge off, 3)) (ht : ((p2 + 1 : Nat) : Int) + off = (p3 : Int)) {pN : Nat} (hp : p2 + 1 + 3 = pN) : Vb own cc nL R b pc pN p3 (bj qlt f g) := by
  intro p l e s m args below meth c h0 D cy tt cells slots Q ok ls st r M M' x hl hb hf kT kF
  obtain ⟨⟨y, M1⟩, e1, hf⟩ := bind2 hf
  obtain ⟨⟨z, M2⟩, e2, hf⟩ := bind2 hf
  subst hp
  cases hf
  refine h1 p l e s m args below meth c h0 D cy tt cells slots Q ok ls st r M M1 y hl hb e1 (h2 p l e s m args below meth c h0 D cy tt cells slots Q ok ls _ r M1 M2 z hl (by rw [wds_c]; simp only [Value.category]; omega) e2 ?_)
  intro H locs hP hS
  refine W.lcmp ok.1.1 ok.1.2.1 hc ?_
  exact lv_if_ge ok.1.1 ok.1.2.1 hd ht (fun hq => kF (qlt_0 hq) H locs hP hS) (fun hq => kT (qlt_3 hq) H locs hP hS)
theorem v_ige_t {f g : Ix} {off : Int} (h1 : Vi own cc nL R b pc p1 f) (h2 : Vi own cc nL R (b + 1) p1 p2 g) (hd : decode cc p2 = .ok (.if_icmp .ge off, 3)) (ht : (p2 : Int) + off = (p3 : Int)) {pN : Nat} (hp : p2 + 3 = pN) : Vb own cc nL R b pc p3 pN (bc cge f g) := by
  intro p l e s m args below meth c h0 D cy tt cells slots Q ok ls st r M M' x hl hb hf kT kF
  obtain ⟨⟨y, M1⟩, e1, hf⟩ := bind2 hf
  obtain ⟨⟨z, M2⟩, e2, hf⟩ := bind2 hf
  subst hp
  cases hf
  refine h1 p l e s m args below meth c h0 D cy tt cells slots Q ok ls st r M M1 y hl hb e1 (h2 p l e s m args below meth c h0 D cy tt cells slots Q ok ls _ r M1 M2 z hl (by rw [wds_c]; simp only [Value.category]; omega) e2 ?_)
  intro H locs hP hS
  exact lv_icmp_ge ok.1.1 ok.1.2.1 hd ht (fun hq => kT (by simp only [cge]; first | exact decide_eq_true hq | exact decide_eq_false hq | exact decide_eq_false (Int32.not_lt.mpr hq) | exact decide_eq_false (Int32.not_le.mpr hq) | exact decide_eq_true (Int32.not_lt.mp hq) | exact decide_eq_true (Int32.not_le.mp hq) | exact decide_eq_false (fun q => hq q) | exact decide_eq_false (fun q => q hq)) H locs hP hS) (fun hq => kF (by simp only [cge]; first | exact decide_eq_true hq | exact decide_eq_false hq | exact decide_eq_false (Int32.not_lt.mpr hq) | exact decide_eq_false (Int32.not_le.mpr hq) | exact decide_eq_true (Int32.not_lt.mp hq) | exact decide_eq_true (Int32.not_le.mp hq) | exact decide_eq_false (fun q => hq q) | exact decide_eq_false (fun q => q hq)) H locs hP hS)
theorem v_zge_t {f : Ix} {off : Int} (h1 : Vi own cc nL R b pc p2 f) (hd : decode cc p2 = .ok (.ifCond .ge off, 3)) (ht : (p2 : Int) + off = (p3 : Int)) {pN : Nat} (hp : p2 + 3 = pN) : Vb own cc nL R b pc p3 pN (bz cge f) := by
  intro p l e s m args below meth c h0 D cy tt cells slots Q ok ls st r M M' x hl hb hf kT kF
  obtain ⟨⟨y, M1⟩, e1, hf⟩ := bind2 hf
  subst hp
  cases hf
  refine h1 p l e s m args below meth c h0 D cy tt cells slots Q ok ls st r M M1 y hl hb e1 ?_
  intro H locs hP hS
  exact lv_if_ge ok.1.1 ok.1.2.1 hd ht (fun hq => kT (by simp only [cge]; first | exact decide_eq_true hq | exact decide_eq_false hq | exact decide_eq_false (Int32.not_lt.mpr hq) | exact decide_eq_false (Int32.not_le.mpr hq) | exact decide_eq_true (Int32.not_lt.mp hq) | exact decide_eq_true (Int32.not_le.mp hq) | exact decide_eq_false (fun q => hq q) | exact decide_eq_false (fun q => q hq)) H locs hP hS) (fun hq => kF (by simp only [cge]; first | exact decide_eq_true hq | exact decide_eq_false hq | exact decide_eq_false (Int32.not_lt.mpr hq) | exact decide_eq_false (Int32.not_le.mpr hq) | exact decide_eq_true (Int32.not_lt.mp hq) | exact decide_eq_true (Int32.not_le.mp hq) | exact decide_eq_false (fun q => hq q) | exact decide_eq_false (fun q => q hq)) H locs hP hS)
theorem v_jge_t {f g : Jx} {off : Int} (h1 : Vj own cc nL R b pc p1 f) (h2 : Vj own cc nL R (b + 2) p1 p2 g) (hc : decode cc p2 = .ok (.lcmp, 1)) (hd : decode cc (p2 + 1) = .ok (.ifCond .ge off, 3)) (ht : ((p2 + 1 : Nat) : Int) + off = (p3 : Int)) {pN : Nat} (hp : p2 + 1 + 3 = pN) : Vb own cc nL R b pc p3 pN (bj qge f g) := by
  intro p l e s m args below meth c h0 D cy tt cells slots Q ok ls st r M M' x hl hb hf kT kF
  obtain ⟨⟨y, M1⟩, e1, hf⟩ := bind2 hf
  obtain ⟨⟨z, M2⟩, e2, hf⟩ := bind2 hf
  subst hp
  cases hf
  refine h1 p l e s m args below meth c h0 D cy tt cells slots Q ok ls st r M M1 y hl hb e1 (h2 p l e s m args below meth c h0 D cy tt cells slots Q ok ls _ r M1 M2 z hl (by rw [wds_c]; simp only [Value.category]; omega) e2 ?_)
  intro H locs hP hS
  refine W.lcmp ok.1.1 ok.1.2.1 hc ?_
  exact lv_if_ge ok.1.1 ok.1.2.1 hd ht (fun hq => kT (qge_1 hq) H locs hP hS) (fun hq => kF (qge_2 hq) H locs hP hS)
theorem v_ige_f {f g : Ix} {off : Int} (h1 : Vi own cc nL R b pc p1 f) (h2 : Vi own cc nL R (b + 1) p1 p2 g) (hd : decode cc p2 = .ok (.if_icmp .lt off, 3)) (ht : (p2 : Int) + off = (p3 : Int)) {pN : Nat} (hp : p2 + 3 = pN) : Vb own cc nL R b pc pN p3 (bc cge f g) := by
  intro p l e s m args below meth c h0 D cy tt cells slots Q ok ls st r M M' x hl hb hf kT kF
  obtain ⟨⟨y, M1⟩, e1, hf⟩ := bind2 hf
  obtain ⟨⟨z, M2⟩, e2, hf⟩ := bind2 hf
  subst hp
  cases hf
  refine h1 p l e s m args below meth c h0 D cy tt cells slots Q ok ls st r M M1 y hl hb e1 (h2 p l e s m args below meth c h0 D cy tt cells slots Q ok ls _ r M1 M2 z hl (by rw [wds_c]; simp only [Value.category]; omega) e2 ?_)
  intro H locs hP hS
  exact lv_icmp_lt ok.1.1 ok.1.2.1 hd ht (fun hq => kF (by simp only [cge]; first | exact decide_eq_true hq | exact decide_eq_false hq | exact decide_eq_false (Int32.not_lt.mpr hq) | exact decide_eq_false (Int32.not_le.mpr hq) | exact decide_eq_true (Int32.not_lt.mp hq) | exact decide_eq_true (Int32.not_le.mp hq) | exact decide_eq_false (fun q => hq q) | exact decide_eq_false (fun q => q hq)) H locs hP hS) (fun hq => kT (by simp only [cge]; first | exact decide_eq_true hq | exact decide_eq_false hq | exact decide_eq_false (Int32.not_lt.mpr hq) | exact decide_eq_false (Int32.not_le.mpr hq) | exact decide_eq_true (Int32.not_lt.mp hq) | exact decide_eq_true (Int32.not_le.mp hq) | exact decide_eq_false (fun q => hq q) | exact decide_eq_false (fun q => q hq)) H locs hP hS)
theorem v_zge_f {f : Ix} {off : Int} (h1 : Vi own cc nL R b pc p2 f) (hd : decode cc p2 = .ok (.ifCond .lt off, 3)) (ht : (p2 : Int) + off = (p3 : Int)) {pN : Nat} (hp : p2 + 3 = pN) : Vb own cc nL R b pc pN p3 (bz cge f) := by
  intro p l e s m args below meth c h0 D cy tt cells slots Q ok ls st r M M' x hl hb hf kT kF
  obtain ⟨⟨y, M1⟩, e1, hf⟩ := bind2 hf
  subst hp
  cases hf
  refine h1 p l e s m args below meth c h0 D cy tt cells slots Q ok ls st r M M1 y hl hb e1 ?_
  intro H locs hP hS
  exact lv_if_lt ok.1.1 ok.1.2.1 hd ht (fun hq => kF (by simp only [cge]; first | exact decide_eq_true hq | exact decide_eq_false hq | exact decide_eq_false (Int32.not_lt.mpr hq) | exact decide_eq_false (Int32.not_le.mpr hq) | exact decide_eq_true (Int32.not_lt.mp hq) | exact decide_eq_true (Int32.not_le.mp hq) | exact decide_eq_false (fun q => hq q) | exact decide_eq_false (fun q => q hq)) H locs hP hS) (fun hq => kT (by simp only [cge]; first | exact decide_eq_true hq | exact decide_eq_false hq | exact decide_eq_false (Int32.not_lt.mpr hq) | exact decide_eq_false (Int32.not_le.mpr hq) | exact decide_eq_true (Int32.not_lt.mp hq) | exact decide_eq_true (Int32.not_le.mp hq) | exact decide_eq_false (fun q => hq q) | exact decide_eq_false (fun q => q hq)) H locs hP hS)
theorem v_jge_f {f g : Jx} {off : Int} (h1 : Vj own cc nL R b pc p1 f) (h2 : Vj own cc nL R (b + 2) p1 p2 g) (hc : decode cc p2 = .ok (.lcmp, 1)) (hd : decode cc (p2 + 1) = .ok (.ifCond .lt off, 3)) (ht : ((p2 + 1 : Nat) : Int) + off = (p3 : Int)) {pN : Nat} (hp : p2 + 1 + 3 = pN) : Vb own cc nL R b pc pN p3 (bj qge f g) := by
  intro p l e s m args below meth c h0 D cy tt cells slots Q ok ls st r M M' x hl hb hf kT kF
  obtain ⟨⟨y, M1⟩, e1, hf⟩ := bind2 hf
  obtain ⟨⟨z, M2⟩, e2, hf⟩ := bind2 hf
  subst hp
  cases hf
  refine h1 p l e s m args below meth c h0 D cy tt cells slots Q ok ls st r M M1 y hl hb e1 (h2 p l e s m args below meth c h0 D cy tt cells slots Q ok ls _ r M1 M2 z hl (by rw [wds_c]; simp only [Value.category]; omega) e2 ?_)
  intro H locs hP hS
  refine W.lcmp ok.1.1 ok.1.2.1 hc ?_
  exact lv_if_lt ok.1.1 ok.1.2.1 hd ht (fun hq => kF (qge_0 hq) H locs hP hS) (fun hq => kT (qge_3 hq) H locs hP hS)
theorem v_igt_t {f g : Ix} {off : Int} (h1 : Vi own cc nL R b pc p1 f) (h2 : Vi own cc nL R (b + 1) p1 p2 g) (hd : decode cc p2 = .ok (.if_icmp .gt off, 3)) (ht : (p2 : Int) + off = (p3 : Int)) {pN : Nat} (hp : p2 + 3 = pN) : Vb own cc nL R b pc p3 pN (bc cgt f g) := by
  intro p l e s m args below meth c h0 D cy tt cells slots Q ok ls st r M M' x hl hb hf kT kF
  obtain ⟨⟨y, M1⟩, e1, hf⟩ := bind2 hf
  obtain ⟨⟨z, M2⟩, e2, hf⟩ := bind2 hf
  subst hp
  cases hf
  refine h1 p l e s m args below meth c h0 D cy tt cells slots Q ok ls st r M M1 y hl hb e1 (h2 p l e s m args below meth c h0 D cy tt cells slots Q ok ls _ r M1 M2 z hl (by rw [wds_c]; simp only [Value.category]; omega) e2 ?_)
  intro H locs hP hS
  exact lv_icmp_gt ok.1.1 ok.1.2.1 hd ht (fun hq => kT (by simp only [cgt]; first | exact decide_eq_true hq | exact decide_eq_false hq | exact decide_eq_false (Int32.not_lt.mpr hq) | exact decide_eq_false (Int32.not_le.mpr hq) | exact decide_eq_true (Int32.not_lt.mp hq) | exact decide_eq_true (Int32.not_le.mp hq) | exact decide_eq_false (fun q => hq q) | exact decide_eq_false (fun q => q hq)) H locs hP hS) (fun hq => kF (by simp only [cgt]; first | exact decide_eq_true hq | exact decide_eq_false hq | exact decide_eq_false (Int32.not_lt.mpr hq) | exact decide_eq_false (Int32.not_le.mpr hq) | exact decide_eq_true (Int32.not_lt.mp hq) | exact decide_eq_true (Int32.not_le.mp hq) | exact decide_eq_false (fun q => hq q) | exact decide_eq_false (fun q => q hq)) H locs hP hS)
theorem v_zgt_t {f : Ix} {off : Int} (h1 : Vi own cc nL R b pc p2 f) (hd : decode cc p2 = .ok (.ifCond .gt off, 3)) (ht : (p2 : Int) + off = (p3 : Int)) {pN : Nat} (hp : p2 + 3 = pN) : Vb own cc nL R b pc p3 pN (bz cgt f) := by
  intro p l e s m args below meth c h0 D cy tt cells slots Q ok ls st r M M' x hl hb hf kT kF
  obtain ⟨⟨y, M1⟩, e1, hf⟩ := bind2 hf
  subst hp
  cases hf
  refine h1 p l e s m args below meth c h0 D cy tt cells slots Q ok ls st r M M1 y hl hb e1 ?_
  intro H locs hP hS
  exact lv_if_gt ok.1.1 ok.1.2.1 hd ht (fun hq => kT (by simp only [cgt]; first | exact decide_eq_true hq | exact decide_eq_false hq | exact decide_eq_false (Int32.not_lt.mpr hq) | exact decide_eq_false (Int32.not_le.mpr hq) | exact decide_eq_true (Int32.not_lt.mp hq) | exact decide_eq_true (Int32.not_le.mp hq) | exact decide_eq_false (fun q => hq q) | exact decide_eq_false (fun q => q hq)) H locs hP hS) (fun hq => kF (by simp only [cgt]; first | exact decide_eq_true hq | exact decide_eq_false hq | exact decide_eq_false (Int32.not_lt.mpr hq) | exact decide_eq_false (Int32.not_le.mpr hq) | exact decide_eq_true (Int32.not_lt.mp hq) | exact decide_eq_true (Int32.not_le.mp hq) | exact decide_eq_false (fun q => hq q) | exact decide_eq_false (fun q => q hq)) H locs hP hS)
theorem v_jgt_t {f g : Jx} {off : Int} (h1 : Vj own cc nL R b pc p1 f) (h2 : Vj own cc nL R (b + 2) p1 p2 g) (hc : decode cc p2 = .ok (.lcmp, 1)) (hd : decode cc (p2 + 1) = .ok (.ifCond .gt off, 3)) (ht : ((p2 + 1 : Nat) : Int) + off = (p3 : Int)) {pN : Nat} (hp : p2 + 1 + 3 = pN) : Vb own cc nL R b pc p3 pN (bj qgt f g) := by
  intro p l e s m args below meth c h0 D cy tt cells slots Q ok ls st r M M' x hl hb hf kT kF
  obtain ⟨⟨y, M1⟩, e1, hf⟩ := bind2 hf
  obtain ⟨⟨z, M2⟩, e2, hf⟩ := bind2 hf
  subst hp
  cases hf
  refine h1 p l e s m args below meth c h0 D cy tt cells slots Q ok ls st r M M1 y hl hb e1 (h2 p l e s m args below meth c h0 D cy tt cells slots Q ok ls _ r M1 M2 z hl (by rw [wds_c]; simp only [Value.category]; omega) e2 ?_)
  intro H locs hP hS
  refine W.lcmp ok.1.1 ok.1.2.1 hc ?_
  exact lv_if_gt ok.1.1 ok.1.2.1 hd ht (fun hq => kT (qgt_1 hq) H locs hP hS) (fun hq => kF (qgt_2 hq) H locs hP hS)
theorem v_igt_f {f g : Ix} {off : Int} (h1 : Vi own cc nL R b pc p1 f) (h2 : Vi own cc nL R (b + 1) p1 p2 g) (hd : decode cc p2 = .ok (.if_icmp .le off, 3)) (ht : (p2 : Int) + off = (p3 : Int)) {pN : Nat} (hp : p2 + 3 = pN) : Vb own cc nL R b pc pN p3 (bc cgt f g) := by
  intro p l e s m args below meth c h0 D cy tt cells slots Q ok ls st r M M' x hl hb hf kT kF
  obtain ⟨⟨y, M1⟩, e1, hf⟩ := bind2 hf
  obtain ⟨⟨z, M2⟩, e2, hf⟩ := bind2 hf
  subst hp
  cases hf
  refine h1 p l e s m args below meth c h0 D cy tt cells slots Q ok ls st r M M1 y hl hb e1 (h2 p l e s m args below meth c h0 D cy tt cells slots Q ok ls _ r M1 M2 z hl (by rw [wds_c]; simp only [Value.category]; omega) e2 ?_)
  intro H locs hP hS
  exact lv_icmp_le ok.1.1 ok.1.2.1 hd ht (fun hq => kF (by simp only [cgt]; first | exact decide_eq_true hq | exact decide_eq_false hq | exact decide_eq_false (Int32.not_lt.mpr hq) | exact decide_eq_false (Int32.not_le.mpr hq) | exact decide_eq_true (Int32.not_lt.mp hq) | exact decide_eq_true (Int32.not_le.mp hq) | exact decide_eq_false (fun q => hq q) | exact decide_eq_false (fun q => q hq)) H locs hP hS) (fun hq => kT (by simp only [cgt]; first | exact decide_eq_true hq | exact decide_eq_false hq | exact decide_eq_false (Int32.not_lt.mpr hq) | exact decide_eq_false (Int32.not_le.mpr hq) | exact decide_eq_true (Int32.not_lt.mp hq) | exact decide_eq_true (Int32.not_le.mp hq) | exact decide_eq_false (fun q => hq q) | exact decide_eq_false (fun q => q hq)) H locs hP hS)
theorem v_zgt_f {f : Ix} {off : Int} (h1 : Vi own cc nL R b pc p2 f) (hd : decode cc p2 = .ok (.ifCond .le off, 3)) (ht : (p2 : Int) + off = (p3 : Int)) {pN : Nat} (hp : p2 + 3 = pN) : Vb own cc nL R b pc pN p3 (bz cgt f) := by
  intro p l e s m args below meth c h0 D cy tt cells slots Q ok ls st r M M' x hl hb hf kT kF
  obtain ⟨⟨y, M1⟩, e1, hf⟩ := bind2 hf
  subst hp
  cases hf
  refine h1 p l e s m args below meth c h0 D cy tt cells slots Q ok ls st r M M1 y hl hb e1 ?_
  intro H locs hP hS
  exact lv_if_le ok.1.1 ok.1.2.1 hd ht (fun hq => kF (by simp only [cgt]; first | exact decide_eq_true hq | exact decide_eq_false hq | exact decide_eq_false (Int32.not_lt.mpr hq) | exact decide_eq_false (Int32.not_le.mpr hq) | exact decide_eq_true (Int32.not_lt.mp hq) | exact decide_eq_true (Int32.not_le.mp hq) | exact decide_eq_false (fun q => hq q) | exact decide_eq_false (fun q => q hq)) H locs hP hS) (fun hq => kT (by simp only [cgt]; first | exact decide_eq_true hq | exact decide_eq_false hq | exact decide_eq_false (Int32.not_lt.mpr hq) | exact decide_eq_false (Int32.not_le.mpr hq) | exact decide_eq_true (Int32.not_lt.mp hq) | exact decide_eq_true (Int32.not_le.mp hq) | exact decide_eq_false (fun q => hq q) | exact decide_eq_false (fun q => q hq)) H locs hP hS)
theorem v_jgt_f {f g : Jx} {off : Int} (h1 : Vj own cc nL R b pc p1 f) (h2 : Vj own cc nL R (b + 2) p1 p2 g) (hc : decode cc p2 = .ok (.lcmp, 1)) (hd : decode cc (p2 + 1) = .ok (.ifCond .le off, 3)) (ht : ((p2 + 1 : Nat) : Int) + off = (p3 : Int)) {pN : Nat} (hp : p2 + 1 + 3 = pN) : Vb own cc nL R b pc pN p3 (bj qgt f g) := by
  intro p l e s m args below meth c h0 D cy tt cells slots Q ok ls st r M M' x hl hb hf kT kF
  obtain ⟨⟨y, M1⟩, e1, hf⟩ := bind2 hf
  obtain ⟨⟨z, M2⟩, e2, hf⟩ := bind2 hf
  subst hp
  cases hf
  refine h1 p l e s m args below meth c h0 D cy tt cells slots Q ok ls st r M M1 y hl hb e1 (h2 p l e s m args below meth c h0 D cy tt cells slots Q ok ls _ r M1 M2 z hl (by rw [wds_c]; simp only [Value.category]; omega) e2 ?_)
  intro H locs hP hS
  refine W.lcmp ok.1.1 ok.1.2.1 hc ?_
  exact lv_if_le ok.1.1 ok.1.2.1 hd ht (fun hq => kF (qgt_0 hq) H locs hP hS) (fun hq => kT (qgt_3 hq) H locs hP hS)
theorem v_ile_t {f g : Ix} {off : Int} (h1 : Vi own cc nL R b pc p1 f) (h2 : Vi own cc nL R (b + 1) p1 p2 g) (hd : decode cc p2 = .ok (.if_icmp .le off, 3)) (ht : (p2 : Int) + off = (p3 : Int)) {pN : Nat} (hp : p2 + 3 = pN) : Vb own cc nL R b pc p3 pN (bc cle f g) := by
  intro p l e s m args below meth c h0 D cy tt cells slots Q ok ls st r M M' x hl hb hf kT kF
  obtain ⟨⟨y, M1⟩, e1, hf⟩ := bind2 hf
  obtain ⟨⟨z, M2⟩, e2, hf⟩ := bind2 hf
  subst hp
  cases hf
  refine h1 p l e s m args below meth c h0 D cy tt cells slots Q ok ls st r M M1 y hl hb e1 (h2 p l e s m args below meth c h0 D cy tt cells slots Q ok ls _ r M1 M2 z hl (by rw [wds_c]; simp only [Value.category]; omega) e2 ?_)
  intro H locs hP hS
  exact lv_icmp_le ok.1.1 ok.1.2.1 hd ht (fun hq => kT (by simp only [cle]; first | exact decide_eq_true hq | exact decide_eq_false hq | exact decide_eq_false (Int32.not_lt.mpr hq) | exact decide_eq_false (Int32.not_le.mpr hq) | exact decide_eq_true (Int32.not_lt.mp hq) | exact decide_eq_true (Int32.not_le.mp hq) | exact decide_eq_false (fun q => hq q) | exact decide_eq_false (fun q => q hq)) H locs hP hS) (fun hq => kF (by simp only [cle]; first | exact decide_eq_true hq | exact decide_eq_false hq | exact decide_eq_false (Int32.not_lt.mpr hq) | exact decide_eq_false (Int32.not_le.mpr hq) | exact decide_eq_true (Int32.not_lt.mp hq) | exact decide_eq_true (Int32.not_le.mp hq) | exact decide_eq_false (fun q => hq q) | exact decide_eq_false (fun q => q hq)) H locs hP hS)
theorem v_zle_t {f : Ix} {off : Int} (h1 : Vi own cc nL R b pc p2 f) (hd : decode cc p2 = .ok (.ifCond .le off, 3)) (ht : (p2 : Int) + off = (p3 : Int)) {pN : Nat} (hp : p2 + 3 = pN) : Vb own cc nL R b pc p3 pN (bz cle f) := by
  intro p l e s m args below meth c h0 D cy tt cells slots Q ok ls st r M M' x hl hb hf kT kF
  obtain ⟨⟨y, M1⟩, e1, hf⟩ := bind2 hf
  subst hp
  cases hf
  refine h1 p l e s m args below meth c h0 D cy tt cells slots Q ok ls st r M M1 y hl hb e1 ?_
  intro H locs hP hS
  exact lv_if_le ok.1.1 ok.1.2.1 hd ht (fun hq => kT (by simp only [cle]; first | exact decide_eq_true hq | exact decide_eq_false hq | exact decide_eq_false (Int32.not_lt.mpr hq) | exact decide_eq_false (Int32.not_le.mpr hq) | exact decide_eq_true (Int32.not_lt.mp hq) | exact decide_eq_true (Int32.not_le.mp hq) | exact decide_eq_false (fun q => hq q) | exact decide_eq_false (fun q => q hq)) H locs hP hS) (fun hq => kF (by simp only [cle]; first | exact decide_eq_true hq | exact decide_eq_false hq | exact decide_eq_false (Int32.not_lt.mpr hq) | exact decide_eq_false (Int32.not_le.mpr hq) | exact decide_eq_true (Int32.not_lt.mp hq) | exact decide_eq_true (Int32.not_le.mp hq) | exact decide_eq_false (fun q => hq q) | exact decide_eq_false (fun q => q hq)) H locs hP hS)
theorem v_jle_t {f g : Jx} {off : Int} (h1 : Vj own cc nL R b pc p1 f) (h2 : Vj own cc nL R (b + 2) p1 p2 g) (hc : decode cc p2 = .ok (.lcmp, 1)) (hd : decode cc (p2 + 1) = .ok (.ifCond .le off, 3)) (ht : ((p2 + 1 : Nat) : Int) + off = (p3 : Int)) {pN : Nat} (hp : p2 + 1 + 3 = pN) : Vb own cc nL R b pc p3 pN (bj qle f g) := by
  intro p l e s m args below meth c h0 D cy tt cells slots Q ok ls st r M M' x hl hb hf kT kF
  obtain ⟨⟨y, M1⟩, e1, hf⟩ := bind2 hf
  obtain ⟨⟨z, M2⟩, e2, hf⟩ := bind2 hf
  subst hp
  cases hf
  refine h1 p l e s m args below meth c h0 D cy tt cells slots Q ok ls st r M M1 y hl hb e1 (h2 p l e s m args below meth c h0 D cy tt cells slots Q ok ls _ r M1 M2 z hl (by rw [wds_c]; simp only [Value.category]; omega) e2 ?_)
  intro H locs hP hS
  refine W.lcmp ok.1.1 ok.1.2.1 hc ?_
  exact lv_if_le ok.1.1 ok.1.2.1 hd ht (fun hq => kT (qle_1 hq) H locs hP hS) (fun hq => kF (qle_2 hq) H locs hP hS)
theorem v_ile_f {f g : Ix} {off : Int} (h1 : Vi own cc nL R b pc p1 f) (h2 : Vi own cc nL R (b + 1) p1 p2 g) (hd : decode cc p2 = .ok (.if_icmp .gt off, 3)) (ht : (p2 : Int) + off = (p3 : Int)) {pN : Nat} (hp : p2 + 3 = pN) : Vb own cc nL R b pc pN p3 (bc cle f g) := by
  intro p l e s m args below meth c h0 D cy tt cells slots Q ok ls st r M M' x hl hb hf kT kF
  obtain ⟨⟨y, M1⟩, e1, hf⟩ := bind2 hf
  obtain ⟨⟨z, M2⟩, e2, hf⟩ := bind2 hf
  subst hp
  cases hf
  refine h1 p l e s m args below meth c h0 D cy tt cells slots Q ok ls st r M M1 y hl hb e1 (h2 p l e s m args below meth c h0 D cy tt cells slots Q ok ls _ r M1 M2 z hl (by rw [wds_c]; simp only [Value.category]; omega) e2 ?_)
  intro H locs hP hS
  exact lv_icmp_gt ok.1.1 ok.1.2.1 hd ht (fun hq => kF (by simp only [cle]; first | exact decide_eq_true hq | exact decide_eq_false hq | exact decide_eq_false (Int32.not_lt.mpr hq) | exact decide_eq_false (Int32.not_le.mpr hq) | exact decide_eq_true (Int32.not_lt.mp hq) | exact decide_eq_true (Int32.not_le.mp hq) | exact decide_eq_false (fun q => hq q) | exact decide_eq_false (fun q => q hq)) H locs hP hS) (fun hq => kT (by simp only [cle]; first | exact decide_eq_true hq | exact decide_eq_false hq | exact decide_eq_false (Int32.not_lt.mpr hq) | exact decide_eq_false (Int32.not_le.mpr hq) | exact decide_eq_true (Int32.not_lt.mp hq) | exact decide_eq_true (Int32.not_le.mp hq) | exact decide_eq_false (fun q => hq q) | exact decide_eq_false (fun q => q hq)) H locs hP hS)
theorem v_zle_f {f : Ix} {off : Int} (h1 : Vi own cc nL R b pc p2 f) (hd : decode cc p2 = .ok (.ifCond .gt off, 3)) (ht : (p2 : Int) + off = (p3 : Int)) {pN : Nat} (hp : p2 + 3 = pN) : Vb own cc nL R b pc pN p3 (bz cle f) := by
  intro p l e s m args below meth c h0 D cy tt cells slots Q ok ls st r M M' x hl hb hf kT kF
  obtain ⟨⟨y, M1⟩, e1, hf⟩ := bind2 hf
  subst hp
  cases hf
  refine h1 p l e s m args below meth c h0 D cy tt cells slots Q ok ls st r M M1 y hl hb e1 ?_
  intro H locs hP hS
  exact lv_if_gt ok.1.1 ok.1.2.1 hd ht (fun hq => kF (by simp only [cle]; first | exact decide_eq_true hq | exact decide_eq_false hq | exact decide_eq_false (Int32.not_lt.mpr hq) | exact decide_eq_false (Int32.not_le.mpr hq) | exact decide_eq_true (Int32.not_lt.mp hq) | exact decide_eq_true (Int32.not_le.mp hq) | exact decide_eq_false (fun q => hq q) | exact decide_eq_false (fun q => q hq)) H locs hP hS) (fun hq => kT (by simp only [cle]; first | exact decide_eq_true hq | exact decide_eq_false hq | exact decide_eq_false (Int32.not_lt.mpr hq) | exact decide_eq_false (Int32.not_le.mpr hq) | exact decide_eq_true (Int32.not_lt.mp hq) | exact decide_eq_true (Int32.not_le.mp hq) | exact decide_eq_false (fun q => hq q) | exact decide_eq_false (fun q => q hq)) H locs hP hS)
theorem v_jle_f {f g : Jx} {off : Int} (h1 : Vj own cc nL R b pc p1 f) (h2 : Vj own cc nL R (b + 2) p1 p2 g) (hc : decode cc p2 = .ok (.lcmp, 1)) (hd : decode cc (p2 + 1) = .ok (.ifCond .gt off, 3)) (ht : ((p2 + 1 : Nat) : Int) + off = (p3 : Int)) {pN : Nat} (hp : p2 + 1 + 3 = pN) : Vb own cc nL R b pc pN p3 (bj qle f g) := by
  intro p l e s m args below meth c h0 D cy tt cells slots Q ok ls st r M M' x hl hb hf kT kF
  obtain ⟨⟨y, M1⟩, e1, hf⟩ := bind2 hf
  obtain ⟨⟨z, M2⟩, e2, hf⟩ := bind2 hf
  subst hp
  cases hf
  refine h1 p l e s m args below meth c h0 D cy tt cells slots Q ok ls st r M M1 y hl hb e1 (h2 p l e s m args below meth c h0 D cy tt cells slots Q ok ls _ r M1 M2 z hl (by rw [wds_c]; simp only [Value.category]; omega) e2 ?_)
  intro H locs hP hS
  refine W.lcmp ok.1.1 ok.1.2.1 hc ?_
  exact lv_if_gt ok.1.1 ok.1.2.1 hd ht (fun hq => kF (qle_0 hq) H locs hP hS) (fun hq => kT (qle_3 hq) H locs hP hS)
theorem v_and {f g : Bx} (h1 : Vb own cc nL R b pc p1 pF f) (h2 : Vb own cc nL R b p1 pT pF g) : Vb own cc nL R b pc pT pF (band f g) := by
  intro p l e s m args below meth c h0 D cy tt cells slots Q ok ls st r M M' x hl hb hf kT kF
  obtain ⟨⟨y, M1⟩, e1, hf⟩ := bind2 hf
  refine h1 p l e s m args below meth c h0 D cy tt cells slots Q ok ls st r M M1 y hl hb e1 (fun hy => ?_) (fun hy => ?_)
  · subst hy
    exact h2 p l e s m args below meth c h0 D cy tt cells slots Q ok ls st r M1 M' x hl hb hf kT kF
  · subst hy
    cases hf
    exact kF rfl
theorem v_or {f g : Bx} (h1 : Vb own cc nL R b pc pT p1 f) (h2 : Vb own cc nL R b p1 pT pF g) : Vb own cc nL R b pc pT pF (bor f g) := by
  intro p l e s m args below meth c h0 D cy tt cells slots Q ok ls st r M M' x hl hb hf kT kF
  obtain ⟨⟨y, M1⟩, e1, hf⟩ := bind2 hf
  refine h1 p l e s m args below meth c h0 D cy tt cells slots Q ok ls st r M M1 y hl hb e1 (fun hy => ?_) (fun hy => ?_)
  · subst hy
    cases hf
    exact kT rfl
  · subst hy
    exact h2 p l e s m args below meth c h0 D cy tt cells slots Q ok ls st r M1 M' x hl hb hf kT kF
theorem v_not {f : Bx} (h1 : Vb own cc nL R b pc pF pT f) : Vb own cc nL R b pc pT pF (bnot f) := by
  intro p l e s m args below meth c h0 D cy tt cells slots Q ok ls st r M M' x hl hb hf kT kF
  obtain ⟨⟨y, M1⟩, e1, hf⟩ := bind2 hf
  cases hf
  exact h1 p l e s m args below meth c h0 D cy tt cells slots Q ok ls st r M M1 y hl hb e1 (fun hy => kF (by rw [hy]; rfl)) (fun hy => kT (by rw [hy]; rfl))
end
