section
section
variable {g : RO} {Q : Ot → Hw → Prop} {w0 w : Hw}
variable {y nM : Nat} {kd : Int32}
theorem m10 : ((1 : Int32) = 0) = False := eq_false (by decide)
/-- .. and thrown is 0 -/
def MMz (g : RO) (w0 : Hw) (y nM : Nat) (kd : Int32) (w : Hw) : Prop := MM g w0 y nM kd w ∧ ∃ (cL pL : Nat) (rf md : Int32), w y = some (.inr (7, [.int 0, .ref nM, .ref cL, .ref pL, .int rf, .int kd, .int md]))
end
end
