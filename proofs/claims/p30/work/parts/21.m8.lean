def cCount (v : Nat → Int32) (i w : Nat) : Bool :=
  if w < 6 then (if w = 0 then sStand v i else decide (sWhy v i = nI (w - 1))) else if w = 6 then decide (¬ v (176 + 56 * i + 13) ≤ 0) else decide (v (176 + 56 * i + 10) = 0)
def cntF (v : Nat → Int32) (w : Nat) : Nat → Int32
  | 0 => nI 0
  | i + 1 => cntF v w i + (if cCount v i w = true then nI 1 else nI 0)

def fCount (v : Nat → Int32) (k : Nat) (x : Int32) : Int32 := if decide (nI 0 ≤ x ∧ x ≤ nI 7) = true then cntF v x.toNatClampNeg k else -20001

set_option maxRecDepth 100000 in
set_option maxHeartbeats 4000000 in
theorem ct_post_i {E : jx_E} {l : Launch} {cd : ByteArray} {nL : Nat} {ret : Option FieldType} {own : String} {Rm : Room} {n : Nat} {kd : jx_K} {R : jx_R} {I : jx_I} {pc : Nat} {lv : List (Option Value)} {st : List Value} {P P' : Int32 → jx_I → Prop} (h : ∀ r I', P r I' → P' r I') (k : jx_J E l cd nL ret own false Rm 0 0 (jx_Q0 n kd R (jx_Pi P)) 0 0 n kd R I pc lv st) : jx_J E l cd nL ret own false Rm 0 0 (jx_Q0 n kd R (jx_Pi P')) 0 0 n kd R I pc lv st := by
  intro p e s m args below meth c Z X hZ
  exact k p e s m args below meth c Z X (fun v n' kd' R' I' H' locs' pc' ls' hq => hZ v n' kd' R' I' H' locs' pc' ls' (by
    obtain ⟨h1, h2, h3, x, h4, h5⟩ := hq
    exact ⟨h1, h2, h3, x, h4, h x I' h5⟩))
