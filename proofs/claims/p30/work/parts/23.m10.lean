def lkG (v : Nat → Int32) (i : Nat) : Bool := if v (176 + 56 * i + 9) = 0 then sOv (v (176 + 56 * i + 0)) (v (176 + 56 * i + 1)) (v (176 + 56 * i + 7)) else sCl (v (176 + 56 * i + 0)) (v (176 + 56 * i + 1)) (v (176 + 56 * i + 2)) (v (176 + 56 * i + 7))
def lkC (v : Nat → Int32) (i : Nat) : Int32 := if lkG v i = true then v (176 + 56 * i + 11) + nI 1 else nI 0
/-- what a tick does with a point's alarm -/
def sLook (v : Nat → Int32) (T i : Nat) : Nat → Int32 :=
  if v (176 + 56 * i + 9) = 0 then
    if lkC v i ≤ v (176 + 56 * i + 3) then upd v (176 + 56 * i + 11) (lkC v i)
    else sHap (upd (upd (upd (upd (upd (upd (upd (upd v (176 + 56 * i + 11) (lkC v i)) (176 + 56 * i + 11) (nI 0)) (176 + 56 * i + 9) (nI 1)) (176 + 56 * i + 10) (nI 0)) (176 + 56 * i + 12) (nI T)) (176 + 56 * i + 14) (v (176 + 56 * i + 14) + nI 1)) 8 (v 8 + nI 1)) (16 + T % 64) (v (16 + T % 64) + nI 1)) (nI 1) (nI i)
  else if lkC v i ≤ v (176 + 56 * i + 4) then upd v (176 + 56 * i + 11) (lkC v i)
    else sHap (upd (upd (upd v (176 + 56 * i + 11) (lkC v i)) (176 + 56 * i + 11) (nI 0)) (176 + 56 * i + 9) (nI 0)) (nI 2) (nI i)
theorem sLook_o {v : Nat → Int32} {T i j : Nat} (h1 : j ≠ 8 ∧ j ≠ 9) (h2 : j < 16 ∨ 170 ≤ j) (h3 : j ≠ 176 + 56 * i + 9 ∧ j ≠ 176 + 56 * i + 10 ∧ j ≠ 176 + 56 * i + 11 ∧ j ≠ 176 + 56 * i + 12 ∧ j ≠ 176 + 56 * i + 14) : sLook v T i j = v j := by
  have hT : T % 64 < 64 := Nat.mod_lt _ (by decide)
  unfold sLook
  split
  · split
    · rw [pk_un (by omega)]
    · rw [sHap_o (by omega), pk_un (by omega), pk_un (by omega), pk_un (by omega), pk_un (by omega), pk_un (by omega), pk_un (by omega), pk_un (by omega), pk_un (by omega)]
  · split
    · rw [pk_un (by omega)]
    · rw [sHap_o (by omega), pk_un (by omega), pk_un (by omega), pk_un (by omega)]
theorem sLook_9 {v : Nat → Int32} {T i N : Nat} (hN : v 9 = nI N) (hb : N < 2147483000) : ∃ N', N ≤ N' ∧ N' ≤ N + 1 ∧ sLook v T i 9 = nI N' := by
  have hT : T % 64 < 64 := Nat.mod_lt _ (by decide)
  unfold sLook
  split
  · split
    · exact ⟨N, Nat.le_refl _, by omega, by rw [pk_un (by omega), hN]⟩
    · exact ⟨N + 1, by omega, by omega, sHap_9 (by rw [pk_un (by omega), pk_un (by omega), pk_un (by omega), pk_un (by omega), pk_un (by omega), pk_un (by omega), pk_un (by omega), pk_un (by omega), hN]) hb⟩
  · split
    · exact ⟨N, Nat.le_refl _, by omega, by rw [pk_un (by omega), hN]⟩
    · exact ⟨N + 1, by omega, by omega, sHap_9 (by rw [pk_un (by omega), pk_un (by omega), pk_un (by omega), hN]) hb⟩
