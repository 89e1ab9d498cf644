/-! The disk as a mathematical value, and what each writing call answers and leaves. -/
/-- the number of the head in place p, when L is the number of the latest -/
def tl_num (L p : Nat) : Nat := if L % 2 = p then L else L - 1
def tl_right (e : Nat → Int64) (n t i : Nat) : Int64 := if t < 8 then (if t * 8 + i < n then tl_leaf (e (t * 8 + i)) else 0) else (if i * 8 + 8 ≤ n then tl_root e (i * 8) 8 else 0)
def tl_dec (cr : Int32) : Int32 := if 0 < cr then cr - 1 else cr
/-- tiles, the crash that is ordered, whether it is down, the writes made -/
abbrev tl_K : Type := (Nat → Nat → Int64) × Int32 × Bool × Int32
def tl_setT (T : Nat → Nat → Int64) (t : Nat) (r : Nat → Int64) : Nat → Nat → Int64 := fun a => if a = t then r else T a
def tl_put (e : Nat → Int64) (n : Nat) : Nat → Nat → tl_K → Bool × tl_K
  | 0, _, k => (true, k)
  | c + 1, t, (T, cr, dn, w) => if (∀ i, i < 8 → T t i = tl_right e n t i) then tl_put e n c (t + 1) (T, cr, dn, w)
    else if cr = 0 then (false, (T, -1, true, w)) else tl_put e n c (t + 1) (tl_setT T t (tl_right e n t), tl_dec cr, dn, w + 1)
/-- entries and how many; tiles; number of the latest head, sizes, roots; down; writes; crash; proof; offer's length, offer -/
abbrev tl_S : Type := (Nat → Int64) × Nat × (Nat → Nat → Int64) × Nat × (Nat → Nat) × (Nat → Int64) × Bool × Int32 × Int32 × List Int64 × Nat × (Nat → Int64)
def tl_new : tl_S := (fun _ => 0, 0, fun _ _ => 0, 0, fun _ => 0, fun _ => 0, false, 0, -1, [], 0, fun _ => 0)
def tl_pub (L : Nat) (sz : Nat → Nat) : Nat := sz (L % 2)
def tl_upN (f : Nat → Nat) (k x : Nat) : Nat → Nat := fun j => if j = k then x else f j
def tl_append (x : Int64) : tl_S → Int32 × tl_S
  | (E, nf, T, L, sz, rt, dn, wm, cr, Lp, ol, O) => if dn then (-2, (E, nf, T, L, sz, rt, dn, wm, cr, Lp, ol, O)) else if nf < 64 then
      (if cr = 0 then (-3, (E, nf, T, L, sz, rt, true, wm, -1, Lp, ol, O)) else (nI nf, (vp_updL E nf x, nf + 1, T, L, sz, rt, dn, wm + 1, tl_dec cr, Lp, ol, O)))
    else (-1, (E, nf, T, L, sz, rt, dn, wm, cr, Lp, ol, O))
def tl_pubR (R : Bool × tl_K) : tl_S → Int32 × tl_S
  | (E, nf, _, L, sz, rt, _, _, _, Lp, ol, O) => if R.1 then
      (if R.2.2.1 = 0 then (-3, (E, nf, R.2.1, L, sz, rt, true, R.2.2.2.2, -1, Lp, ol, O))
      else (nI (L + 1), (E, nf, R.2.1, L + 1, tl_upN sz ((L + 1) % 2) nf, vp_updL rt ((L + 1) % 2) (tl_root E 0 nf), R.2.2.2.1, R.2.2.2.2 + 1, tl_dec R.2.2.1, Lp, ol, O)))
    else (-3, (E, nf, R.2.1, L, sz, rt, R.2.2.2.1, R.2.2.2.2, R.2.2.1, Lp, ol, O))
def tl_publish : tl_S → Int32 × tl_S
  | (E, nf, T, L, sz, rt, dn, wm, cr, Lp, ol, O) => if dn then (-2, (E, nf, T, L, sz, rt, dn, wm, cr, Lp, ol, O)) else if nf = tl_pub L sz then (nI L, (E, nf, T, L, sz, rt, dn, wm, cr, Lp, ol, O))
    else tl_pubR (tl_put E nf 9 0 (T, cr, dn, wm)) (E, nf, T, L, sz, rt, dn, wm, cr, Lp, ol, O)
def tl_order (x : Int32) : tl_S → Int32 × tl_S
  | (E, nf, T, L, sz, rt, dn, wm, cr, Lp, ol, O) => if x < 0 then (tl_bi false, (E, nf, T, L, sz, rt, dn, wm, cr, Lp, ol, O)) else if x ≤ nI 20 then (tl_bi true, (E, nf, T, L, sz, rt, dn, wm, x, Lp, ol, O)) else (tl_bi false, (E, nf, T, L, sz, rt, dn, wm, cr, Lp, ol, O))
def tl_recR (R : Bool × tl_K) : tl_S → Int32 × tl_S
  | (E, nf, _, L, sz, rt, _, _, _, Lp, ol, O) => if R.1 then (nI nf, (E, nf, R.2.1, L, sz, rt, false, R.2.2.2.2, R.2.2.1, Lp, ol, O)) else (-3, (E, nf, R.2.1, L, sz, rt, R.2.2.2.1, R.2.2.2.2, R.2.2.1, Lp, ol, O))
def tl_recover : tl_S → Int32 × tl_S
  | (E, nf, T, L, sz, rt, dn, wm, cr, Lp, ol, O) => if dn then tl_recR (tl_put E (tl_pub L sz) 9 0 (T, cr, dn, wm)) (E, nf, T, L, sz, rt, dn, wm, cr, Lp, ol, O) else (-1, (E, nf, T, L, sz, rt, dn, wm, cr, Lp, ol, O))
/-- the first place from i on, of c places, whose leaf is h -/
def tl_seek (e : Nat → Int64) (h : Int64) : Nat → Nat → Int32
  | 0, _ => -1
  | c + 1, i => if tl_leaf (e i) = h then nI i else tl_seek e h c (i + 1)
def tl_include (m k : Int32) : tl_S → Int32 × tl_S
  | (E, nf, T, L, sz, rt, dn, wm, cr, Lp, ol, O) => if dn then (-2, (E, nf, T, L, sz, rt, dn, wm, cr, Lp, ol, O)) else if k < nI 1 then (-1, (E, nf, T, L, sz, rt, dn, wm, cr, Lp, ol, O)) else if nI (tl_pub L sz) < k then (-1, (E, nf, T, L, sz, rt, dn, wm, cr, Lp, ol, O))
    else if m < 0 then (-1, (E, nf, T, L, sz, rt, dn, wm, cr, Lp, ol, O)) else if m < k then (nI (tl_path E m.toNatClampNeg 0 k.toNatClampNeg).length, (E, nf, T, L, sz, rt, dn, wm, cr, tl_path E m.toNatClampNeg 0 k.toNatClampNeg, ol, O))
    else (-1, (E, nf, T, L, sz, rt, dn, wm, cr, Lp, ol, O))
def tl_extend (m k : Int32) : tl_S → Int32 × tl_S
  | (E, nf, T, L, sz, rt, dn, wm, cr, Lp, ol, O) => if dn then (-2, (E, nf, T, L, sz, rt, dn, wm, cr, Lp, ol, O)) else if k < nI 1 then (-1, (E, nf, T, L, sz, rt, dn, wm, cr, Lp, ol, O)) else if nI (tl_pub L sz) < k then (-1, (E, nf, T, L, sz, rt, dn, wm, cr, Lp, ol, O))
    else if m < nI 1 then (-1, (E, nf, T, L, sz, rt, dn, wm, cr, Lp, ol, O)) else if m ≤ k then (nI (tl_bridge E m.toNatClampNeg 0 k.toNatClampNeg true).length, (E, nf, T, L, sz, rt, dn, wm, cr, tl_bridge E m.toNatClampNeg 0 k.toNatClampNeg true, ol, O))
    else (-1, (E, nf, T, L, sz, rt, dn, wm, cr, Lp, ol, O))
def tl_offer (x : Int32) (h : Int64) : tl_S → Int32 × tl_S
  | (E, nf, T, L, sz, rt, dn, wm, cr, Lp, ol, O) => if x < 0 then (tl_bi false, (E, nf, T, L, sz, rt, dn, wm, cr, Lp, ol, O)) else if x < nI 8 then (tl_bi true, (E, nf, T, L, sz, rt, dn, wm, cr, Lp, ol, vp_updL O x.toNatClampNeg h)) else (tl_bi false, (E, nf, T, L, sz, rt, dn, wm, cr, Lp, ol, O))
def tl_offers (x : Int32) : tl_S → Int32 × tl_S
  | (E, nf, T, L, sz, rt, dn, wm, cr, Lp, ol, O) => if x < 0 then (tl_bi false, (E, nf, T, L, sz, rt, dn, wm, cr, Lp, ol, O)) else if x ≤ nI 8 then (tl_bi true, (E, nf, T, L, sz, rt, dn, wm, cr, Lp, x.toNatClampNeg, O)) else (tl_bi false, (E, nf, T, L, sz, rt, dn, wm, cr, Lp, ol, O))
